theorem dX0_init_0 : decode cX0_init 0 = .ok (.aload_n 0, 1) := by decide +kernel
theorem dX0_init_1 : decode cX0_init 1 = .ok (.invokespecial 1, 3) := by decide +kernel
theorem dX0_init_4 : decode cX0_init 4 = .ok (.aload_n 0, 1) := by decide +kernel
theorem dX0_init_5 : decode cX0_init 5 = .ok (.sipush 128, 3) := by decide +kernel
theorem dX0_init_8 : decode cX0_init 8 = .ok (.newarray .long, 2) := by decide +kernel
theorem dX0_init_10 : decode cX0_init 10 = .ok (.putfield 9, 3) := by decide +kernel
theorem dX0_init_13 : decode cX0_init 13 = .ok (.aload_n 0, 1) := by decide +kernel
theorem dX0_init_14 : decode cX0_init 14 = .ok (.aconst_null, 1) := by decide +kernel
theorem dX0_init_15 : decode cX0_init 15 = .ok (.putfield 13, 3) := by decide +kernel
theorem dX0_init_18 : decode cX0_init 18 = .ok (.return_, 1) := by decide +kernel
theorem dX1_init_0 : decode cX1_init 0 = .ok (.aload_n 0, 1) := by decide +kernel
theorem dX1_init_1 : decode cX1_init 1 = .ok (.invokespecial 3, 3) := by decide +kernel
theorem dX1_init_4 : decode cX1_init 4 = .ok (.aload_n 0, 1) := by decide +kernel
theorem dX1_init_5 : decode cX1_init 5 = .ok (.iconst 0, 1) := by decide +kernel
theorem dX1_init_6 : decode cX1_init 6 = .ok (.putfield 9, 3) := by decide +kernel
theorem dX1_init_9 : decode cX1_init 9 = .ok (.aload_n 0, 1) := by decide +kernel
theorem dX1_init_10 : decode cX1_init 10 = .ok (.iconst 0, 1) := by decide +kernel
theorem dX1_init_11 : decode cX1_init 11 = .ok (.putfield 15, 3) := by decide +kernel
theorem dX1_init_14 : decode cX1_init 14 = .ok (.aload_n 0, 1) := by decide +kernel
theorem dX1_init_15 : decode cX1_init 15 = .ok (.iconst 0, 1) := by decide +kernel
theorem dX1_init_16 : decode cX1_init 16 = .ok (.putfield 18, 3) := by decide +kernel
theorem dX1_init_19 : decode cX1_init 19 = .ok (.aload_n 0, 1) := by decide +kernel
theorem dX1_init_20 : decode cX1_init 20 = .ok (.aconst_null, 1) := by decide +kernel
theorem dX1_init_21 : decode cX1_init 21 = .ok (.putfield 21, 3) := by decide +kernel
theorem dX1_init_24 : decode cX1_init 24 = .ok (.return_, 1) := by decide +kernel
theorem dX1_write_0 : decode cX1_write 0 = .ok (.aload_n 0, 1) := by decide +kernel
theorem dX1_write_1 : decode cX1_write 1 = .ok (.iload_n 1, 1) := by decide +kernel
theorem dX1_write_2 : decode cX1_write 2 = .ok (.putfield 9, 3) := by decide +kernel
theorem dX1_write_5 : decode cX1_write 5 = .ok (.aload_n 0, 1) := by decide +kernel
theorem dX1_write_6 : decode cX1_write 6 = .ok (.iload_n 2, 1) := by decide +kernel
theorem dX1_write_7 : decode cX1_write 7 = .ok (.putfield 15, 3) := by decide +kernel
theorem dX1_write_10 : decode cX1_write 10 = .ok (.aload_n 0, 1) := by decide +kernel
theorem dX1_write_11 : decode cX1_write 11 = .ok (.iload_n 3, 1) := by decide +kernel
theorem dX1_write_12 : decode cX1_write 12 = .ok (.putfield 18, 3) := by decide +kernel
theorem dX1_write_15 : decode cX1_write 15 = .ok (.aload_n 0, 1) := by decide +kernel
theorem dX1_write_16 : decode cX1_write 16 = .ok (.aload 4, 2) := by decide +kernel
theorem dX1_write_18 : decode cX1_write 18 = .ok (.putfield 21, 3) := by decide +kernel
theorem dX1_write_21 : decode cX1_write 21 = .ok (.return_, 1) := by decide +kernel
theorem dX1_takeOver_0 : decode cX1_takeOver 0 = .ok (.aload_n 0, 1) := by decide +kernel
theorem dX1_takeOver_1 : decode cX1_takeOver 1 = .ok (.aload_n 1, 1) := by decide +kernel
theorem dX1_takeOver_2 : decode cX1_takeOver 2 = .ok (.getfield 9, 3) := by decide +kernel
theorem dX1_takeOver_5 : decode cX1_takeOver 5 = .ok (.aload_n 1, 1) := by decide +kernel
theorem dX1_takeOver_6 : decode cX1_takeOver 6 = .ok (.getfield 15, 3) := by decide +kernel
theorem dX1_takeOver_9 : decode cX1_takeOver 9 = .ok (.aload_n 1, 1) := by decide +kernel
theorem dX1_takeOver_10 : decode cX1_takeOver 10 = .ok (.getfield 18, 3) := by decide +kernel
theorem dX1_takeOver_13 : decode cX1_takeOver 13 = .ok (.aload_n 1, 1) := by decide +kernel
theorem dX1_takeOver_14 : decode cX1_takeOver 14 = .ok (.getfield 21, 3) := by decide +kernel
theorem dX1_takeOver_17 : decode cX1_takeOver 17 = .ok (.invokevirtual 25, 3) := by decide +kernel
theorem dX1_takeOver_20 : decode cX1_takeOver 20 = .ok (.return_, 1) := by decide +kernel
theorem dX1_isOf_0 : decode cX1_isOf 0 = .ok (.aload_n 0, 1) := by decide +kernel
theorem dX1_isOf_1 : decode cX1_isOf 1 = .ok (.getfield 9, 3) := by decide +kernel
theorem dX1_isOf_4 : decode cX1_isOf 4 = .ok (.bipush 16, 2) := by decide +kernel
theorem dX1_isOf_6 : decode cX1_isOf 6 = .ok (.iushr, 1) := by decide +kernel
theorem dX1_isOf_7 : decode cX1_isOf 7 = .ok (.sipush 1023, 3) := by decide +kernel
theorem dX1_isOf_10 : decode cX1_isOf 10 = .ok (.iand, 1) := by decide +kernel
theorem dX1_isOf_11 : decode cX1_isOf 11 = .ok (.iload_n 1, 1) := by decide +kernel
theorem dX1_isOf_12 : decode cX1_isOf 12 = .ok (.if_icmp .ne 7, 3) := by decide +kernel
theorem dX1_isOf_15 : decode cX1_isOf 15 = .ok (.iconst 1, 1) := by decide +kernel
theorem dX1_isOf_16 : decode cX1_isOf 16 = .ok (.goto 4, 3) := by decide +kernel
theorem dX1_isOf_19 : decode cX1_isOf 19 = .ok (.iconst 0, 1) := by decide +kernel
theorem dX1_isOf_20 : decode cX1_isOf 20 = .ok (.ireturn, 1) := by decide +kernel
theorem dX1_isFor_0 : decode cX1_isFor 0 = .ok (.aload_n 0, 1) := by decide +kernel
theorem dX1_isFor_1 : decode cX1_isFor 1 = .ok (.getfield 9, 3) := by decide +kernel
theorem dX1_isFor_4 : decode cX1_isFor 4 = .ok (.bipush 8, 2) := by decide +kernel
theorem dX1_isFor_6 : decode cX1_isFor 6 = .ok (.iushr, 1) := by decide +kernel
theorem dX1_isFor_7 : decode cX1_isFor 7 = .ok (.sipush 255, 3) := by decide +kernel
theorem dX1_isFor_10 : decode cX1_isFor 10 = .ok (.iand, 1) := by decide +kernel
theorem dX1_isFor_11 : decode cX1_isFor 11 = .ok (.istore_n 2, 1) := by decide +kernel
theorem dX1_isFor_12 : decode cX1_isFor 12 = .ok (.aload_n 0, 1) := by decide +kernel
theorem dX1_isFor_13 : decode cX1_isFor 13 = .ok (.getfield 9, 3) := by decide +kernel
theorem dX1_isFor_16 : decode cX1_isFor 16 = .ok (.bipush 16, 2) := by decide +kernel
theorem dX1_isFor_18 : decode cX1_isFor 18 = .ok (.iushr, 1) := by decide +kernel
theorem dX1_isFor_19 : decode cX1_isFor 19 = .ok (.sipush 255, 3) := by decide +kernel
theorem dX1_isFor_22 : decode cX1_isFor 22 = .ok (.iand, 1) := by decide +kernel
theorem dX1_isFor_23 : decode cX1_isFor 23 = .ok (.sipush 240, 3) := by decide +kernel
theorem dX1_isFor_26 : decode cX1_isFor 26 = .ok (.if_icmp .ge 7, 3) := by decide +kernel
theorem dX1_isFor_29 : decode cX1_isFor 29 = .ok (.iconst 1, 1) := by decide +kernel
theorem dX1_isFor_30 : decode cX1_isFor 30 = .ok (.goto 4, 3) := by decide +kernel
theorem dX1_isFor_33 : decode cX1_isFor 33 = .ok (.iconst 0, 1) := by decide +kernel
theorem dX1_isFor_34 : decode cX1_isFor 34 = .ok (.istore_n 3, 1) := by decide +kernel
theorem dX1_isFor_35 : decode cX1_isFor 35 = .ok (.iload_n 3, 1) := by decide +kernel
theorem dX1_isFor_36 : decode cX1_isFor 36 = .ok (.ifCond .eq 15, 3) := by decide +kernel
theorem dX1_isFor_39 : decode cX1_isFor 39 = .ok (.iload_n 2, 1) := by decide +kernel
theorem dX1_isFor_40 : decode cX1_isFor 40 = .ok (.sipush 255, 3) := by decide +kernel
theorem dX1_isFor_43 : decode cX1_isFor 43 = .ok (.if_icmp .eq 8, 3) := by decide +kernel
theorem dX1_isFor_46 : decode cX1_isFor 46 = .ok (.iload_n 2, 1) := by decide +kernel
theorem dX1_isFor_47 : decode cX1_isFor 47 = .ok (.iload_n 1, 1) := by decide +kernel
theorem dX1_isFor_48 : decode cX1_isFor 48 = .ok (.if_icmp .ne 7, 3) := by decide +kernel
theorem dX1_isFor_51 : decode cX1_isFor 51 = .ok (.iconst 1, 1) := by decide +kernel
theorem dX1_isFor_52 : decode cX1_isFor 52 = .ok (.goto 4, 3) := by decide +kernel
theorem dX1_isFor_55 : decode cX1_isFor 55 = .ok (.iconst 0, 1) := by decide +kernel
theorem dX1_isFor_56 : decode cX1_isFor 56 = .ok (.ireturn, 1) := by decide +kernel
theorem dX1_isForAll_0 : decode cX1_isForAll 0 = .ok (.aload_n 0, 1) := by decide +kernel
theorem dX1_isForAll_1 : decode cX1_isForAll 1 = .ok (.getfield 9, 3) := by decide +kernel
theorem dX1_isForAll_4 : decode cX1_isForAll 4 = .ok (.bipush 8, 2) := by decide +kernel
theorem dX1_isForAll_6 : decode cX1_isForAll 6 = .ok (.iushr, 1) := by decide +kernel
theorem dX1_isForAll_7 : decode cX1_isForAll 7 = .ok (.sipush 255, 3) := by decide +kernel
theorem dX1_isForAll_10 : decode cX1_isForAll 10 = .ok (.iand, 1) := by decide +kernel
theorem dX1_isForAll_11 : decode cX1_isForAll 11 = .ok (.sipush 255, 3) := by decide +kernel
theorem dX1_isForAll_14 : decode cX1_isForAll 14 = .ok (.if_icmp .ne 7, 3) := by decide +kernel
theorem dX1_isForAll_17 : decode cX1_isForAll 17 = .ok (.iconst 1, 1) := by decide +kernel
theorem dX1_isForAll_18 : decode cX1_isForAll 18 = .ok (.goto 4, 3) := by decide +kernel
theorem dX1_isForAll_21 : decode cX1_isForAll 21 = .ok (.iconst 0, 1) := by decide +kernel
theorem dX1_isForAll_22 : decode cX1_isForAll 22 = .ok (.ireturn, 1) := by decide +kernel
theorem dX1_source_0 : decode cX1_source 0 = .ok (.aload_n 0, 1) := by decide +kernel
theorem dX1_source_1 : decode cX1_source 1 = .ok (.getfield 9, 3) := by decide +kernel
theorem dX1_source_4 : decode cX1_source 4 = .ok (.sipush 255, 3) := by decide +kernel
theorem dX1_source_7 : decode cX1_source 7 = .ok (.iand, 1) := by decide +kernel
theorem dX1_source_8 : decode cX1_source 8 = .ok (.ireturn, 1) := by decide +kernel
theorem dX1_controlGroup_0 : decode cX1_controlGroup 0 = .ok (.aload_n 0, 1) := by decide +kernel
theorem dX1_controlGroup_1 : decode cX1_controlGroup 1 = .ok (.getfield 18, 3) := by decide +kernel
theorem dX1_controlGroup_4 : decode cX1_controlGroup 4 = .ok (.bipush 8, 2) := by decide +kernel
theorem dX1_controlGroup_6 : decode cX1_controlGroup 6 = .ok (.iushr, 1) := by decide +kernel
theorem dX1_controlGroup_7 : decode cX1_controlGroup 7 = .ok (.ireturn, 1) := by decide +kernel
theorem dX1_byteAt_0 : decode cX1_byteAt 0 = .ok (.iload_n 1, 1) := by decide +kernel
theorem dX1_byteAt_1 : decode cX1_byteAt 1 = .ok (.iconst 4, 1) := by decide +kernel
theorem dX1_byteAt_2 : decode cX1_byteAt 2 = .ok (.if_icmp .ge 19, 3) := by decide +kernel
theorem dX1_byteAt_5 : decode cX1_byteAt 5 = .ok (.aload_n 0, 1) := by decide +kernel
theorem dX1_byteAt_6 : decode cX1_byteAt 6 = .ok (.getfield 15, 3) := by decide +kernel
theorem dX1_byteAt_9 : decode cX1_byteAt 9 = .ok (.bipush 8, 2) := by decide +kernel
theorem dX1_byteAt_11 : decode cX1_byteAt 11 = .ok (.iload_n 1, 1) := by decide +kernel
theorem dX1_byteAt_12 : decode cX1_byteAt 12 = .ok (.imul, 1) := by decide +kernel
theorem dX1_byteAt_13 : decode cX1_byteAt 13 = .ok (.iushr, 1) := by decide +kernel
theorem dX1_byteAt_14 : decode cX1_byteAt 14 = .ok (.sipush 255, 3) := by decide +kernel
theorem dX1_byteAt_17 : decode cX1_byteAt 17 = .ok (.iand, 1) := by decide +kernel
theorem dX1_byteAt_18 : decode cX1_byteAt 18 = .ok (.goto 18, 3) := by decide +kernel
theorem dX1_byteAt_21 : decode cX1_byteAt 21 = .ok (.aload_n 0, 1) := by decide +kernel
theorem dX1_byteAt_22 : decode cX1_byteAt 22 = .ok (.getfield 18, 3) := by decide +kernel
theorem dX1_byteAt_25 : decode cX1_byteAt 25 = .ok (.bipush 8, 2) := by decide +kernel
theorem dX1_byteAt_27 : decode cX1_byteAt 27 = .ok (.iload_n 1, 1) := by decide +kernel
theorem dX1_byteAt_28 : decode cX1_byteAt 28 = .ok (.iconst 4, 1) := by decide +kernel
theorem dX1_byteAt_29 : decode cX1_byteAt 29 = .ok (.isub, 1) := by decide +kernel
theorem dX1_byteAt_30 : decode cX1_byteAt 30 = .ok (.imul, 1) := by decide +kernel
theorem dX1_byteAt_31 : decode cX1_byteAt 31 = .ok (.iushr, 1) := by decide +kernel
theorem dX1_byteAt_32 : decode cX1_byteAt 32 = .ok (.sipush 255, 3) := by decide +kernel
theorem dX1_byteAt_35 : decode cX1_byteAt 35 = .ok (.iand, 1) := by decide +kernel
theorem dX1_byteAt_36 : decode cX1_byteAt 36 = .ok (.ireturn, 1) := by decide +kernel
theorem dX1_goesBefore_0 : decode cX1_goesBefore 0 = .ok (.aload_n 0, 1) := by decide +kernel
theorem dX1_goesBefore_1 : decode cX1_goesBefore 1 = .ok (.getfield 9, 3) := by decide +kernel
theorem dX1_goesBefore_4 : decode cX1_goesBefore 4 = .ok (.aload_n 1, 1) := by decide +kernel
theorem dX1_goesBefore_5 : decode cX1_goesBefore 5 = .ok (.getfield 9, 3) := by decide +kernel
theorem dX1_goesBefore_8 : decode cX1_goesBefore 8 = .ok (.if_icmp .eq 20, 3) := by decide +kernel
theorem dX1_goesBefore_11 : decode cX1_goesBefore 11 = .ok (.aload_n 0, 1) := by decide +kernel
theorem dX1_goesBefore_12 : decode cX1_goesBefore 12 = .ok (.getfield 9, 3) := by decide +kernel
theorem dX1_goesBefore_15 : decode cX1_goesBefore 15 = .ok (.aload_n 1, 1) := by decide +kernel
theorem dX1_goesBefore_16 : decode cX1_goesBefore 16 = .ok (.getfield 9, 3) := by decide +kernel
theorem dX1_goesBefore_19 : decode cX1_goesBefore 19 = .ok (.if_icmp .ge 7, 3) := by decide +kernel
theorem dX1_goesBefore_22 : decode cX1_goesBefore 22 = .ok (.iconst 1, 1) := by decide +kernel
theorem dX1_goesBefore_23 : decode cX1_goesBefore 23 = .ok (.goto 4, 3) := by decide +kernel
theorem dX1_goesBefore_26 : decode cX1_goesBefore 26 = .ok (.iconst 0, 1) := by decide +kernel
theorem dX1_goesBefore_27 : decode cX1_goesBefore 27 = .ok (.ireturn, 1) := by decide +kernel
theorem dX1_goesBefore_28 : decode cX1_goesBefore 28 = .ok (.iconst 0, 1) := by decide +kernel
theorem dX1_goesBefore_29 : decode cX1_goesBefore 29 = .ok (.istore_n 2, 1) := by decide +kernel
theorem dX1_goesBefore_30 : decode cX1_goesBefore 30 = .ok (.iload_n 2, 1) := by decide +kernel
theorem dX1_goesBefore_31 : decode cX1_goesBefore 31 = .ok (.bipush 8, 2) := by decide +kernel
theorem dX1_goesBefore_33 : decode cX1_goesBefore 33 = .ok (.if_icmp .ge 41, 3) := by decide +kernel
theorem dX1_goesBefore_36 : decode cX1_goesBefore 36 = .ok (.aload_n 0, 1) := by decide +kernel
theorem dX1_goesBefore_37 : decode cX1_goesBefore 37 = .ok (.iload_n 2, 1) := by decide +kernel
theorem dX1_goesBefore_38 : decode cX1_goesBefore 38 = .ok (.invokevirtual 30, 3) := by decide +kernel
theorem dX1_goesBefore_41 : decode cX1_goesBefore 41 = .ok (.aload_n 1, 1) := by decide +kernel
theorem dX1_goesBefore_42 : decode cX1_goesBefore 42 = .ok (.iload_n 2, 1) := by decide +kernel
theorem dX1_goesBefore_43 : decode cX1_goesBefore 43 = .ok (.invokevirtual 30, 3) := by decide +kernel
theorem dX1_goesBefore_46 : decode cX1_goesBefore 46 = .ok (.if_icmp .eq 22, 3) := by decide +kernel
theorem dX1_goesBefore_49 : decode cX1_goesBefore 49 = .ok (.aload_n 0, 1) := by decide +kernel
theorem dX1_goesBefore_50 : decode cX1_goesBefore 50 = .ok (.iload_n 2, 1) := by decide +kernel
theorem dX1_goesBefore_51 : decode cX1_goesBefore 51 = .ok (.invokevirtual 30, 3) := by decide +kernel
theorem dX1_goesBefore_54 : decode cX1_goesBefore 54 = .ok (.aload_n 1, 1) := by decide +kernel
theorem dX1_goesBefore_55 : decode cX1_goesBefore 55 = .ok (.iload_n 2, 1) := by decide +kernel
theorem dX1_goesBefore_56 : decode cX1_goesBefore 56 = .ok (.invokevirtual 30, 3) := by decide +kernel
theorem dX1_goesBefore_59 : decode cX1_goesBefore 59 = .ok (.if_icmp .ge 7, 3) := by decide +kernel
theorem dX1_goesBefore_62 : decode cX1_goesBefore 62 = .ok (.iconst 1, 1) := by decide +kernel
theorem dX1_goesBefore_63 : decode cX1_goesBefore 63 = .ok (.goto 4, 3) := by decide +kernel
theorem dX1_goesBefore_66 : decode cX1_goesBefore 66 = .ok (.iconst 0, 1) := by decide +kernel
theorem dX1_goesBefore_67 : decode cX1_goesBefore 67 = .ok (.ireturn, 1) := by decide +kernel
theorem dX1_goesBefore_68 : decode cX1_goesBefore 68 = .ok (.iinc 2 1, 3) := by decide +kernel
theorem dX1_goesBefore_71 : decode cX1_goesBefore 71 = .ok (.goto (-41), 3) := by decide +kernel
theorem dX1_goesBefore_74 : decode cX1_goesBefore 74 = .ok (.iconst 0, 1) := by decide +kernel
theorem dX1_goesBefore_75 : decode cX1_goesBefore 75 = .ok (.ireturn, 1) := by decide +kernel
theorem dX2_init_0 : decode cX2_init 0 = .ok (.aload_n 0, 1) := by decide +kernel
theorem dX2_init_1 : decode cX2_init 1 = .ok (.invokespecial 3, 3) := by decide +kernel
theorem dX2_init_4 : decode cX2_init 4 = .ok (.aload_n 0, 1) := by decide +kernel
theorem dX2_init_5 : decode cX2_init 5 = .ok (.iconst 0, 1) := by decide +kernel
theorem dX2_init_6 : decode cX2_init 6 = .ok (.putfield 9, 3) := by decide +kernel
theorem dX2_init_9 : decode cX2_init 9 = .ok (.aload_n 0, 1) := by decide +kernel
theorem dX2_init_10 : decode cX2_init 10 = .ok (.iconst 0, 1) := by decide +kernel
theorem dX2_init_11 : decode cX2_init 11 = .ok (.putfield 15, 3) := by decide +kernel
theorem dX2_init_14 : decode cX2_init 14 = .ok (.aload_n 0, 1) := by decide +kernel
theorem dX2_init_15 : decode cX2_init 15 = .ok (.bipush 80, 2) := by decide +kernel
theorem dX2_init_17 : decode cX2_init 17 = .ok (.newarray .int, 2) := by decide +kernel
theorem dX2_init_19 : decode cX2_init 19 = .ok (.putfield 19, 3) := by decide +kernel
theorem dX2_init_22 : decode cX2_init 22 = .ok (.aload_n 0, 1) := by decide +kernel
theorem dX2_init_23 : decode cX2_init 23 = .ok (.sipush 254, 3) := by decide +kernel
theorem dX2_init_26 : decode cX2_init 26 = .ok (.anewarray 23, 3) := by decide +kernel
theorem dX2_init_29 : decode cX2_init 29 = .ok (.putfield 24, 3) := by decide +kernel
theorem dX2_init_32 : decode cX2_init 32 = .ok (.return_, 1) := by decide +kernel
theorem dX2_takeMessage_0 : decode cX2_takeMessage 0 = .ok (.aload_n 0, 1) := by decide +kernel
theorem dX2_takeMessage_1 : decode cX2_takeMessage 1 = .ok (.aload_n 1, 1) := by decide +kernel
theorem dX2_takeMessage_2 : decode cX2_takeMessage 2 = .ok (.getfield 54, 3) := by decide +kernel
theorem dX2_takeMessage_5 : decode cX2_takeMessage 5 = .ok (.aload_n 1, 1) := by decide +kernel
theorem dX2_takeMessage_6 : decode cX2_takeMessage 6 = .ok (.getfield 58, 3) := by decide +kernel
theorem dX2_takeMessage_9 : decode cX2_takeMessage 9 = .ok (.aload_n 1, 1) := by decide +kernel
theorem dX2_takeMessage_10 : decode cX2_takeMessage 10 = .ok (.getfield 60, 3) := by decide +kernel
theorem dX2_takeMessage_13 : decode cX2_takeMessage 13 = .ok (.aload_n 1, 1) := by decide +kernel
theorem dX2_takeMessage_14 : decode cX2_takeMessage 14 = .ok (.getfield 63, 3) := by decide +kernel
theorem dX2_takeMessage_17 : decode cX2_takeMessage 17 = .ok (.invokevirtual 41, 3) := by decide +kernel
theorem dX2_takeMessage_20 : decode cX2_takeMessage 20 = .ok (.aload_n 1, 1) := by decide +kernel
theorem dX2_takeMessage_21 : decode cX2_takeMessage 21 = .ok (.getfield 66, 3) := by decide +kernel
theorem dX2_takeMessage_24 : decode cX2_takeMessage 24 = .ok (.ifCond .ne 8, 3) := by decide +kernel
theorem dX2_takeMessage_27 : decode cX2_takeMessage 27 = .ok (.aload_n 0, 1) := by decide +kernel
theorem dX2_takeMessage_28 : decode cX2_takeMessage 28 = .ok (.iconst 1, 1) := by decide +kernel
theorem dX2_takeMessage_29 : decode cX2_takeMessage 29 = .ok (.putfield 15, 3) := by decide +kernel
theorem dX2_takeMessage_32 : decode cX2_takeMessage 32 = .ok (.aload_n 1, 1) := by decide +kernel
theorem dX2_takeMessage_33 : decode cX2_takeMessage 33 = .ok (.getfield 58, 3) := by decide +kernel
theorem dX2_takeMessage_36 : decode cX2_takeMessage 36 = .ok (.ldc 45, 2) := by decide +kernel
theorem dX2_takeMessage_38 : decode cX2_takeMessage 38 = .ok (.if_icmp .ne 14, 3) := by decide +kernel
theorem dX2_takeMessage_41 : decode cX2_takeMessage 41 = .ok (.aload_n 0, 1) := by decide +kernel
theorem dX2_takeMessage_42 : decode cX2_takeMessage 42 = .ok (.aload_n 1, 1) := by decide +kernel
theorem dX2_takeMessage_43 : decode cX2_takeMessage 43 = .ok (.getfield 54, 3) := by decide +kernel
theorem dX2_takeMessage_46 : decode cX2_takeMessage 46 = .ok (.invokevirtual 46, 3) := by decide +kernel
theorem dX2_takeMessage_49 : decode cX2_takeMessage 49 = .ok (.goto 4, 3) := by decide +kernel
theorem dX2_takeMessage_52 : decode cX2_takeMessage 52 = .ok (.aconst_null, 1) := by decide +kernel
theorem dX2_takeMessage_53 : decode cX2_takeMessage 53 = .ok (.astore_n 2, 1) := by decide +kernel
theorem dX2_takeMessage_54 : decode cX2_takeMessage 54 = .ok (.aload_n 2, 1) := by decide +kernel
theorem dX2_takeMessage_55 : decode cX2_takeMessage 55 = .ok (.ifnull 9, 3) := by decide +kernel
theorem dX2_takeMessage_58 : decode cX2_takeMessage 58 = .ok (.aload_n 0, 1) := by decide +kernel
theorem dX2_takeMessage_59 : decode cX2_takeMessage 59 = .ok (.aload_n 2, 1) := by decide +kernel
theorem dX2_takeMessage_60 : decode cX2_takeMessage 60 = .ok (.aload_n 1, 1) := by decide +kernel
theorem dX2_takeMessage_61 : decode cX2_takeMessage 61 = .ok (.invokevirtual 69, 3) := by decide +kernel
theorem dX2_takeMessage_64 : decode cX2_takeMessage 64 = .ok (.return_, 1) := by decide +kernel
theorem dX2_enter_0 : decode cX2_enter 0 = .ok (.aload_n 0, 1) := by decide +kernel
theorem dX2_enter_1 : decode cX2_enter 1 = .ok (.getfield 9, 3) := by decide +kernel
theorem dX2_enter_4 : decode cX2_enter 4 = .ok (.iconst 4, 1) := by decide +kernel
theorem dX2_enter_5 : decode cX2_enter 5 = .ok (.imul, 1) := by decide +kernel
theorem dX2_enter_6 : decode cX2_enter 6 = .ok (.istore 5, 2) := by decide +kernel
theorem dX2_enter_8 : decode cX2_enter 8 = .ok (.aload_n 0, 1) := by decide +kernel
theorem dX2_enter_9 : decode cX2_enter 9 = .ok (.getfield 9, 3) := by decide +kernel
theorem dX2_enter_12 : decode cX2_enter 12 = .ok (.bipush 20, 2) := by decide +kernel
theorem dX2_enter_14 : decode cX2_enter 14 = .ok (.if_icmp .ge 59, 3) := by decide +kernel
theorem dX2_enter_17 : decode cX2_enter 17 = .ok (.iload 5, 2) := by decide +kernel
theorem dX2_enter_19 : decode cX2_enter 19 = .ok (.ifCond .lt 54, 3) := by decide +kernel
theorem dX2_enter_22 : decode cX2_enter 22 = .ok (.iload 5, 2) := by decide +kernel
theorem dX2_enter_24 : decode cX2_enter 24 = .ok (.iconst 3, 1) := by decide +kernel
theorem dX2_enter_25 : decode cX2_enter 25 = .ok (.iadd, 1) := by decide +kernel
theorem dX2_enter_26 : decode cX2_enter 26 = .ok (.aload_n 0, 1) := by decide +kernel
theorem dX2_enter_27 : decode cX2_enter 27 = .ok (.getfield 19, 3) := by decide +kernel
theorem dX2_enter_30 : decode cX2_enter 30 = .ok (.arraylength, 1) := by decide +kernel
theorem dX2_enter_31 : decode cX2_enter 31 = .ok (.if_icmp .ge 42, 3) := by decide +kernel
theorem dX2_enter_34 : decode cX2_enter 34 = .ok (.aload_n 0, 1) := by decide +kernel
theorem dX2_enter_35 : decode cX2_enter 35 = .ok (.getfield 19, 3) := by decide +kernel
theorem dX2_enter_38 : decode cX2_enter 38 = .ok (.iload 5, 2) := by decide +kernel
theorem dX2_enter_40 : decode cX2_enter 40 = .ok (.iload_n 1, 1) := by decide +kernel
theorem dX2_enter_41 : decode cX2_enter 41 = .ok (.iastore, 1) := by decide +kernel
theorem dX2_enter_42 : decode cX2_enter 42 = .ok (.aload_n 0, 1) := by decide +kernel
theorem dX2_enter_43 : decode cX2_enter 43 = .ok (.getfield 19, 3) := by decide +kernel
theorem dX2_enter_46 : decode cX2_enter 46 = .ok (.iload 5, 2) := by decide +kernel
theorem dX2_enter_48 : decode cX2_enter 48 = .ok (.iconst 1, 1) := by decide +kernel
theorem dX2_enter_49 : decode cX2_enter 49 = .ok (.iadd, 1) := by decide +kernel
theorem dX2_enter_50 : decode cX2_enter 50 = .ok (.iload_n 2, 1) := by decide +kernel
theorem dX2_enter_51 : decode cX2_enter 51 = .ok (.iastore, 1) := by decide +kernel
theorem dX2_enter_52 : decode cX2_enter 52 = .ok (.aload_n 0, 1) := by decide +kernel
theorem dX2_enter_53 : decode cX2_enter 53 = .ok (.getfield 19, 3) := by decide +kernel
theorem dX2_enter_56 : decode cX2_enter 56 = .ok (.iload 5, 2) := by decide +kernel
theorem dX2_enter_58 : decode cX2_enter 58 = .ok (.iconst 2, 1) := by decide +kernel
theorem dX2_enter_59 : decode cX2_enter 59 = .ok (.iadd, 1) := by decide +kernel
theorem dX2_enter_60 : decode cX2_enter 60 = .ok (.iload_n 3, 1) := by decide +kernel
theorem dX2_enter_61 : decode cX2_enter 61 = .ok (.iastore, 1) := by decide +kernel
theorem dX2_enter_62 : decode cX2_enter 62 = .ok (.aload_n 0, 1) := by decide +kernel
theorem dX2_enter_63 : decode cX2_enter 63 = .ok (.getfield 19, 3) := by decide +kernel
theorem dX2_enter_66 : decode cX2_enter 66 = .ok (.iload 5, 2) := by decide +kernel
theorem dX2_enter_68 : decode cX2_enter 68 = .ok (.iconst 3, 1) := by decide +kernel
theorem dX2_enter_69 : decode cX2_enter 69 = .ok (.iadd, 1) := by decide +kernel
theorem dX2_enter_70 : decode cX2_enter 70 = .ok (.iload 4, 2) := by decide +kernel
theorem dX2_enter_72 : decode cX2_enter 72 = .ok (.iastore, 1) := by decide +kernel
theorem dX2_enter_73 : decode cX2_enter 73 = .ok (.aload_n 0, 1) := by decide +kernel
theorem dX2_enter_74 : decode cX2_enter 74 = .ok (.dup, 1) := by decide +kernel
theorem dX2_enter_75 : decode cX2_enter 75 = .ok (.getfield 9, 3) := by decide +kernel
theorem dX2_enter_78 : decode cX2_enter 78 = .ok (.iconst 1, 1) := by decide +kernel
theorem dX2_enter_79 : decode cX2_enter 79 = .ok (.iadd, 1) := by decide +kernel
theorem dX2_enter_80 : decode cX2_enter 80 = .ok (.putfield 9, 3) := by decide +kernel
theorem dX2_enter_83 : decode cX2_enter 83 = .ok (.return_, 1) := by decide +kernel
theorem dX2_logged_0 : decode cX2_logged 0 = .ok (.iload_n 1, 1) := by decide +kernel
theorem dX2_logged_1 : decode cX2_logged 1 = .ok (.ifCond .lt 26, 3) := by decide +kernel
theorem dX2_logged_4 : decode cX2_logged 4 = .ok (.iload_n 1, 1) := by decide +kernel
theorem dX2_logged_5 : decode cX2_logged 5 = .ok (.bipush 20, 2) := by decide +kernel
theorem dX2_logged_7 : decode cX2_logged 7 = .ok (.if_icmp .ge 20, 3) := by decide +kernel
theorem dX2_logged_10 : decode cX2_logged 10 = .ok (.iload_n 1, 1) := by decide +kernel
theorem dX2_logged_11 : decode cX2_logged 11 = .ok (.aload_n 0, 1) := by decide +kernel
theorem dX2_logged_12 : decode cX2_logged 12 = .ok (.getfield 9, 3) := by decide +kernel
theorem dX2_logged_15 : decode cX2_logged 15 = .ok (.if_icmp .ge 12, 3) := by decide +kernel
theorem dX2_logged_18 : decode cX2_logged 18 = .ok (.iload_n 2, 1) := by decide +kernel
theorem dX2_logged_19 : decode cX2_logged 19 = .ok (.ifCond .lt 8, 3) := by decide +kernel
theorem dX2_logged_22 : decode cX2_logged 22 = .ok (.iload_n 2, 1) := by decide +kernel
theorem dX2_logged_23 : decode cX2_logged 23 = .ok (.iconst 4, 1) := by decide +kernel
theorem dX2_logged_24 : decode cX2_logged 24 = .ok (.if_icmp .lt 5, 3) := by decide +kernel
theorem dX2_logged_27 : decode cX2_logged 27 = .ok (.iconst (-1), 1) := by decide +kernel
theorem dX2_logged_28 : decode cX2_logged 28 = .ok (.ireturn, 1) := by decide +kernel
theorem dX2_logged_29 : decode cX2_logged 29 = .ok (.aload_n 0, 1) := by decide +kernel
theorem dX2_logged_30 : decode cX2_logged 30 = .ok (.getfield 19, 3) := by decide +kernel
theorem dX2_logged_33 : decode cX2_logged 33 = .ok (.iload_n 1, 1) := by decide +kernel
theorem dX2_logged_34 : decode cX2_logged 34 = .ok (.iconst 4, 1) := by decide +kernel
theorem dX2_logged_35 : decode cX2_logged 35 = .ok (.imul, 1) := by decide +kernel
theorem dX2_logged_36 : decode cX2_logged 36 = .ok (.iload_n 2, 1) := by decide +kernel
theorem dX2_logged_37 : decode cX2_logged 37 = .ok (.iadd, 1) := by decide +kernel
theorem dX2_logged_38 : decode cX2_logged 38 = .ok (.iaload, 1) := by decide +kernel
theorem dX2_logged_39 : decode cX2_logged 39 = .ok (.ireturn, 1) := by decide +kernel
theorem dX3_init_0 : decode cX3_init 0 = .ok (.aload_n 0, 1) := by decide +kernel
theorem dX3_init_1 : decode cX3_init 1 = .ok (.invokespecial 3, 3) := by decide +kernel
theorem dX3_init_4 : decode cX3_init 4 = .ok (.aload_n 0, 1) := by decide +kernel
theorem dX3_init_5 : decode cX3_init 5 = .ok (.aconst_null, 1) := by decide +kernel
theorem dX3_init_6 : decode cX3_init 6 = .ok (.putfield 9, 3) := by decide +kernel
theorem dX3_init_9 : decode cX3_init 9 = .ok (.aload_n 0, 1) := by decide +kernel
theorem dX3_init_10 : decode cX3_init 10 = .ok (.iload_n 1, 1) := by decide +kernel
theorem dX3_init_11 : decode cX3_init 11 = .ok (.putfield 15, 3) := by decide +kernel
theorem dX3_init_14 : decode cX3_init 14 = .ok (.aload_n 0, 1) := by decide +kernel
theorem dX3_init_15 : decode cX3_init 15 = .ok (.iload_n 2, 1) := by decide +kernel
theorem dX3_init_16 : decode cX3_init 16 = .ok (.putfield 19, 3) := by decide +kernel
theorem dX3_init_19 : decode cX3_init 19 = .ok (.aload_n 0, 1) := by decide +kernel
theorem dX3_init_20 : decode cX3_init 20 = .ok (.iload_n 3, 1) := by decide +kernel
theorem dX3_init_21 : decode cX3_init 21 = .ok (.putfield 22, 3) := by decide +kernel
theorem dX3_init_24 : decode cX3_init 24 = .ok (.aload_n 0, 1) := by decide +kernel
theorem dX3_init_25 : decode cX3_init 25 = .ok (.iload 4, 2) := by decide +kernel
theorem dX3_init_27 : decode cX3_init 27 = .ok (.putfield 25, 3) := by decide +kernel
theorem dX3_init_30 : decode cX3_init 30 = .ok (.aload_n 0, 1) := by decide +kernel
theorem dX3_init_31 : decode cX3_init 31 = .ok (.iload 5, 2) := by decide +kernel
theorem dX3_init_33 : decode cX3_init 33 = .ok (.putfield 28, 3) := by decide +kernel
theorem dX3_init_36 : decode cX3_init 36 = .ok (.return_, 1) := by decide +kernel
theorem dX3_writePacket_0 : decode cX3_writePacket 0 = .ok (.iload_n 3, 1) := by decide +kernel
theorem dX3_writePacket_1 : decode cX3_writePacket 1 = .ok (.iconst 1, 1) := by decide +kernel
theorem dX3_writePacket_2 : decode cX3_writePacket 2 = .ok (.isub, 1) := by decide +kernel
theorem dX3_writePacket_3 : decode cX3_writePacket 3 = .ok (.bipush 7, 2) := by decide +kernel
theorem dX3_writePacket_5 : decode cX3_writePacket 5 = .ok (.imul, 1) := by decide +kernel
theorem dX3_writePacket_6 : decode cX3_writePacket 6 = .ok (.istore 4, 2) := by decide +kernel
theorem dX3_writePacket_8 : decode cX3_writePacket 8 = .ok (.iload_n 3, 1) := by decide +kernel
theorem dX3_writePacket_9 : decode cX3_writePacket 9 = .ok (.sipush 255, 3) := by decide +kernel
theorem dX3_writePacket_12 : decode cX3_writePacket 12 = .ok (.iand, 1) := by decide +kernel
theorem dX3_writePacket_13 : decode cX3_writePacket 13 = .ok (.aload_n 0, 1) := by decide +kernel
theorem dX3_writePacket_14 : decode cX3_writePacket 14 = .ok (.iload 4, 2) := by decide +kernel
theorem dX3_writePacket_16 : decode cX3_writePacket 16 = .ok (.invokevirtual 32, 3) := by decide +kernel
theorem dX3_writePacket_19 : decode cX3_writePacket 19 = .ok (.bipush 8, 2) := by decide +kernel
theorem dX3_writePacket_21 : decode cX3_writePacket 21 = .ok (.ishl, 1) := by decide +kernel
theorem dX3_writePacket_22 : decode cX3_writePacket 22 = .ok (.ior, 1) := by decide +kernel
theorem dX3_writePacket_23 : decode cX3_writePacket 23 = .ok (.istore 5, 2) := by decide +kernel
theorem dX3_writePacket_25 : decode cX3_writePacket 25 = .ok (.aload_n 1, 1) := by decide +kernel
theorem dX3_writePacket_26 : decode cX3_writePacket 26 = .ok (.sipush 235, 3) := by decide +kernel
theorem dX3_writePacket_29 : decode cX3_writePacket 29 = .ok (.aload_n 0, 1) := by decide +kernel
theorem dX3_writePacket_30 : decode cX3_writePacket 30 = .ok (.getfield 19, 3) := by decide +kernel
theorem dX3_writePacket_33 : decode cX3_writePacket 33 = .ok (.iload_n 2, 1) := by decide +kernel
theorem dX3_writePacket_34 : decode cX3_writePacket 34 = .ok (.invokestatic 42, 3) := by decide +kernel
theorem dX3_writePacket_37 : decode cX3_writePacket 37 = .ok (.iload 5, 2) := by decide +kernel
theorem dX3_writePacket_39 : decode cX3_writePacket 39 = .ok (.aload_n 0, 1) := by decide +kernel
theorem dX3_writePacket_40 : decode cX3_writePacket 40 = .ok (.iload 4, 2) := by decide +kernel
theorem dX3_writePacket_42 : decode cX3_writePacket 42 = .ok (.iconst 3, 1) := by decide +kernel
theorem dX3_writePacket_43 : decode cX3_writePacket 43 = .ok (.iadd, 1) := by decide +kernel
theorem dX3_writePacket_44 : decode cX3_writePacket 44 = .ok (.invokevirtual 32, 3) := by decide +kernel
theorem dX3_writePacket_47 : decode cX3_writePacket 47 = .ok (.aload_n 0, 1) := by decide +kernel
theorem dX3_writePacket_48 : decode cX3_writePacket 48 = .ok (.invokevirtual 36, 3) := by decide +kernel
theorem dX3_writePacket_51 : decode cX3_writePacket 51 = .ok (.return_, 1) := by decide +kernel
theorem dX3_writeControl_0 : decode cX3_writeControl 0 = .ok (.iload_n 3, 1) := by decide +kernel
theorem dX3_writeControl_1 : decode cX3_writeControl 1 = .ok (.bipush 17, 2) := by decide +kernel
theorem dX3_writeControl_3 : decode cX3_writeControl 3 = .ok (.if_icmp .eq 14, 3) := by decide +kernel
theorem dX3_writeControl_6 : decode cX3_writeControl 6 = .ok (.iload_n 3, 1) := by decide +kernel
theorem dX3_writeControl_7 : decode cX3_writeControl 7 = .ok (.sipush 255, 3) := by decide +kernel
theorem dX3_writeControl_10 : decode cX3_writeControl 10 = .ok (.if_icmp .eq 7, 3) := by decide +kernel
theorem dX3_writeControl_13 : decode cX3_writeControl 13 = .ok (.iconst 1, 1) := by decide +kernel
theorem dX3_writeControl_14 : decode cX3_writeControl 14 = .ok (.goto 4, 3) := by decide +kernel
theorem dX3_writeControl_17 : decode cX3_writeControl 17 = .ok (.iconst 0, 1) := by decide +kernel
theorem dX3_writeControl_18 : decode cX3_writeControl 18 = .ok (.istore 6, 2) := by decide +kernel
theorem dX3_writeControl_20 : decode cX3_writeControl 20 = .ok (.iload 6, 2) := by decide +kernel
theorem dX3_writeControl_22 : decode cX3_writeControl 22 = .ok (.ifCond .eq 25, 3) := by decide +kernel
theorem dX3_writeControl_25 : decode cX3_writeControl 25 = .ok (.iload_n 3, 1) := by decide +kernel
theorem dX3_writeControl_26 : decode cX3_writeControl 26 = .ok (.aload_n 0, 1) := by decide +kernel
theorem dX3_writeControl_27 : decode cX3_writeControl 27 = .ok (.getfield 25, 3) := by decide +kernel
theorem dX3_writeControl_30 : decode cX3_writeControl 30 = .ok (.aload_n 0, 1) := by decide +kernel
theorem dX3_writeControl_31 : decode cX3_writeControl 31 = .ok (.getfield 25, 3) := by decide +kernel
theorem dX3_writeControl_34 : decode cX3_writeControl 34 = .ok (.bipush 8, 2) := by decide +kernel
theorem dX3_writeControl_36 : decode cX3_writeControl 36 = .ok (.ishr, 1) := by decide +kernel
theorem dX3_writeControl_37 : decode cX3_writeControl 37 = .ok (.aload_n 0, 1) := by decide +kernel
theorem dX3_writeControl_38 : decode cX3_writeControl 38 = .ok (.invokevirtual 46, 3) := by decide +kernel
theorem dX3_writeControl_41 : decode cX3_writeControl 41 = .ok (.invokestatic 50, 3) := by decide +kernel
theorem dX3_writeControl_44 : decode cX3_writeControl 44 = .ok (.goto 14, 3) := by decide +kernel
theorem dX3_writeControl_47 : decode cX3_writeControl 47 = .ok (.iload_n 3, 1) := by decide +kernel
theorem dX3_writeControl_48 : decode cX3_writeControl 48 = .ok (.iload 4, 2) := by decide +kernel
theorem dX3_writeControl_50 : decode cX3_writeControl 50 = .ok (.iload 5, 2) := by decide +kernel
theorem dX3_writeControl_52 : decode cX3_writeControl 52 = .ok (.sipush 255, 3) := by decide +kernel
theorem dX3_writeControl_55 : decode cX3_writeControl 55 = .ok (.invokestatic 50, 3) := by decide +kernel
theorem dX3_writeControl_58 : decode cX3_writeControl 58 = .ok (.istore 7, 2) := by decide +kernel
theorem dX3_writeControl_60 : decode cX3_writeControl 60 = .ok (.iload 6, 2) := by decide +kernel
theorem dX3_writeControl_62 : decode cX3_writeControl 62 = .ok (.ifCond .eq 8, 3) := by decide +kernel
theorem dX3_writeControl_65 : decode cX3_writeControl 65 = .ok (.iload 4, 2) := by decide +kernel
theorem dX3_writeControl_67 : decode cX3_writeControl 67 = .ok (.goto 6, 3) := by decide +kernel
theorem dX3_writeControl_70 : decode cX3_writeControl 70 = .ok (.sipush 255, 3) := by decide +kernel
theorem dX3_writeControl_73 : decode cX3_writeControl 73 = .ok (.istore 8, 2) := by decide +kernel
theorem dX3_writeControl_75 : decode cX3_writeControl 75 = .ok (.aload_n 1, 1) := by decide +kernel
theorem dX3_writeControl_76 : decode cX3_writeControl 76 = .ok (.iload_n 2, 1) := by decide +kernel
theorem dX3_writeControl_77 : decode cX3_writeControl 77 = .ok (.iload 7, 2) := by decide +kernel
theorem dX3_writeControl_79 : decode cX3_writeControl 79 = .ok (.iload 8, 2) := by decide +kernel
theorem dX3_writeControl_81 : decode cX3_writeControl 81 = .ok (.aload_n 0, 1) := by decide +kernel
theorem dX3_writeControl_82 : decode cX3_writeControl 82 = .ok (.getfield 22, 3) := by decide +kernel
theorem dX3_writeControl_85 : decode cX3_writeControl 85 = .ok (.bipush 8, 2) := by decide +kernel
theorem dX3_writeControl_87 : decode cX3_writeControl 87 = .ok (.ishl, 1) := by decide +kernel
theorem dX3_writeControl_88 : decode cX3_writeControl 88 = .ok (.ior, 1) := by decide +kernel
theorem dX3_writeControl_89 : decode cX3_writeControl 89 = .ok (.aload_n 0, 1) := by decide +kernel
theorem dX3_writeControl_90 : decode cX3_writeControl 90 = .ok (.invokevirtual 36, 3) := by decide +kernel
theorem dX3_writeControl_93 : decode cX3_writeControl 93 = .ok (.return_, 1) := by decide +kernel
theorem dX3_packets_0 : decode cX3_packets 0 = .ok (.aload_n 0, 1) := by decide +kernel
theorem dX3_packets_1 : decode cX3_packets 1 = .ok (.getfield 25, 3) := by decide +kernel
theorem dX3_packets_4 : decode cX3_packets 4 = .ok (.bipush 7, 2) := by decide +kernel
theorem dX3_packets_6 : decode cX3_packets 6 = .ok (.iadd, 1) := by decide +kernel
theorem dX3_packets_7 : decode cX3_packets 7 = .ok (.iconst 1, 1) := by decide +kernel
theorem dX3_packets_8 : decode cX3_packets 8 = .ok (.isub, 1) := by decide +kernel
theorem dX3_packets_9 : decode cX3_packets 9 = .ok (.bipush 7, 2) := by decide +kernel
theorem dX3_packets_11 : decode cX3_packets 11 = .ok (.idiv, 1) := by decide +kernel
theorem dX3_packets_12 : decode cX3_packets 12 = .ok (.ireturn, 1) := by decide +kernel
theorem dX3_fourFrom_0 : decode cX3_fourFrom 0 = .ok (.aload_n 0, 1) := by decide +kernel
theorem dX3_fourFrom_1 : decode cX3_fourFrom 1 = .ok (.iload_n 1, 1) := by decide +kernel
theorem dX3_fourFrom_2 : decode cX3_fourFrom 2 = .ok (.invokevirtual 54, 3) := by decide +kernel
theorem dX3_fourFrom_5 : decode cX3_fourFrom 5 = .ok (.aload_n 0, 1) := by decide +kernel
theorem dX3_fourFrom_6 : decode cX3_fourFrom 6 = .ok (.iload_n 1, 1) := by decide +kernel
theorem dX3_fourFrom_7 : decode cX3_fourFrom 7 = .ok (.iconst 1, 1) := by decide +kernel
theorem dX3_fourFrom_8 : decode cX3_fourFrom 8 = .ok (.iadd, 1) := by decide +kernel
theorem dX3_fourFrom_9 : decode cX3_fourFrom 9 = .ok (.invokevirtual 54, 3) := by decide +kernel
theorem dX3_fourFrom_12 : decode cX3_fourFrom 12 = .ok (.aload_n 0, 1) := by decide +kernel
theorem dX3_fourFrom_13 : decode cX3_fourFrom 13 = .ok (.iload_n 1, 1) := by decide +kernel
theorem dX3_fourFrom_14 : decode cX3_fourFrom 14 = .ok (.iconst 2, 1) := by decide +kernel
theorem dX3_fourFrom_15 : decode cX3_fourFrom 15 = .ok (.iadd, 1) := by decide +kernel
theorem dX3_fourFrom_16 : decode cX3_fourFrom 16 = .ok (.invokevirtual 54, 3) := by decide +kernel
theorem dX3_fourFrom_19 : decode cX3_fourFrom 19 = .ok (.aload_n 0, 1) := by decide +kernel
theorem dX3_fourFrom_20 : decode cX3_fourFrom 20 = .ok (.iload_n 1, 1) := by decide +kernel
theorem dX3_fourFrom_21 : decode cX3_fourFrom 21 = .ok (.iconst 3, 1) := by decide +kernel
theorem dX3_fourFrom_22 : decode cX3_fourFrom 22 = .ok (.iadd, 1) := by decide +kernel
theorem dX3_fourFrom_23 : decode cX3_fourFrom 23 = .ok (.invokevirtual 54, 3) := by decide +kernel
theorem dX3_fourFrom_26 : decode cX3_fourFrom 26 = .ok (.invokestatic 50, 3) := by decide +kernel
theorem dX3_fourFrom_29 : decode cX3_fourFrom 29 = .ok (.ireturn, 1) := by decide +kernel
theorem dX3_byteAt_0 : decode cX3_byteAt 0 = .ok (.iload_n 1, 1) := by decide +kernel
theorem dX3_byteAt_1 : decode cX3_byteAt 1 = .ok (.ifCond .lt 11, 3) := by decide +kernel
theorem dX3_byteAt_4 : decode cX3_byteAt 4 = .ok (.iload_n 1, 1) := by decide +kernel
theorem dX3_byteAt_5 : decode cX3_byteAt 5 = .ok (.aload_n 0, 1) := by decide +kernel
theorem dX3_byteAt_6 : decode cX3_byteAt 6 = .ok (.getfield 25, 3) := by decide +kernel
theorem dX3_byteAt_9 : decode cX3_byteAt 9 = .ok (.if_icmp .lt 7, 3) := by decide +kernel
theorem dX3_byteAt_12 : decode cX3_byteAt 12 = .ok (.sipush 255, 3) := by decide +kernel
theorem dX3_byteAt_15 : decode cX3_byteAt 15 = .ok (.ireturn, 1) := by decide +kernel
theorem dX3_byteAt_16 : decode cX3_byteAt 16 = .ok (.aload_n 0, 1) := by decide +kernel
theorem dX3_byteAt_17 : decode cX3_byteAt 17 = .ok (.getfield 9, 3) := by decide +kernel
theorem dX3_byteAt_20 : decode cX3_byteAt 20 = .ok (.ifnonnull 22, 3) := by decide +kernel
theorem dX3_byteAt_23 : decode cX3_byteAt 23 = .ok (.aload_n 0, 1) := by decide +kernel
theorem dX3_byteAt_24 : decode cX3_byteAt 24 = .ok (.getfield 28, 3) := by decide +kernel
theorem dX3_byteAt_27 : decode cX3_byteAt 27 = .ok (.iload_n 1, 1) := by decide +kernel
theorem dX3_byteAt_28 : decode cX3_byteAt 28 = .ok (.iload_n 1, 1) := by decide +kernel
theorem dX3_byteAt_29 : decode cX3_byteAt 29 = .ok (.imul, 1) := by decide +kernel
theorem dX3_byteAt_30 : decode cX3_byteAt 30 = .ok (.iadd, 1) := by decide +kernel
theorem dX3_byteAt_31 : decode cX3_byteAt 31 = .ok (.iload_n 1, 1) := by decide +kernel
theorem dX3_byteAt_32 : decode cX3_byteAt 32 = .ok (.sipush 256, 3) := by decide +kernel
theorem dX3_byteAt_35 : decode cX3_byteAt 35 = .ok (.idiv, 1) := by decide +kernel
theorem dX3_byteAt_36 : decode cX3_byteAt 36 = .ok (.iadd, 1) := by decide +kernel
theorem dX3_byteAt_37 : decode cX3_byteAt 37 = .ok (.sipush 255, 3) := by decide +kernel
theorem dX3_byteAt_40 : decode cX3_byteAt 40 = .ok (.iand, 1) := by decide +kernel
theorem dX3_byteAt_41 : decode cX3_byteAt 41 = .ok (.ireturn, 1) := by decide +kernel
theorem dX3_byteAt_42 : decode cX3_byteAt 42 = .ok (.iload_n 1, 1) := by decide +kernel
theorem dX3_byteAt_43 : decode cX3_byteAt 43 = .ok (.ifCond .ne 18, 3) := by decide +kernel
theorem dX3_byteAt_46 : decode cX3_byteAt 46 = .ok (.aload_n 0, 1) := by decide +kernel
theorem dX3_byteAt_47 : decode cX3_byteAt 47 = .ok (.getfield 9, 3) := by decide +kernel
theorem dX3_byteAt_50 : decode cX3_byteAt 50 = .ok (.arraylength, 1) := by decide +kernel
theorem dX3_byteAt_51 : decode cX3_byteAt 51 = .ok (.ifCond .ne 7, 3) := by decide +kernel
theorem dX3_byteAt_54 : decode cX3_byteAt 54 = .ok (.iconst 0, 1) := by decide +kernel
theorem dX3_byteAt_55 : decode cX3_byteAt 55 = .ok (.goto 5, 3) := by decide +kernel
theorem dX3_byteAt_58 : decode cX3_byteAt 58 = .ok (.bipush 64, 2) := by decide +kernel
theorem dX3_byteAt_60 : decode cX3_byteAt 60 = .ok (.ireturn, 1) := by decide +kernel
theorem dX3_byteAt_61 : decode cX3_byteAt 61 = .ok (.iload_n 1, 1) := by decide +kernel
theorem dX3_byteAt_62 : decode cX3_byteAt 62 = .ok (.iconst 2, 1) := by decide +kernel
theorem dX3_byteAt_63 : decode cX3_byteAt 63 = .ok (.isub, 1) := by decide +kernel
theorem dX3_byteAt_64 : decode cX3_byteAt 64 = .ok (.iconst 4, 1) := by decide +kernel
theorem dX3_byteAt_65 : decode cX3_byteAt 65 = .ok (.idiv, 1) := by decide +kernel
theorem dX3_byteAt_66 : decode cX3_byteAt 66 = .ok (.istore_n 2, 1) := by decide +kernel
theorem dX3_byteAt_67 : decode cX3_byteAt 67 = .ok (.iload_n 1, 1) := by decide +kernel
theorem dX3_byteAt_68 : decode cX3_byteAt 68 = .ok (.iconst 1, 1) := by decide +kernel
theorem dX3_byteAt_69 : decode cX3_byteAt 69 = .ok (.if_icmp .eq 12, 3) := by decide +kernel
theorem dX3_byteAt_72 : decode cX3_byteAt 72 = .ok (.iload_n 2, 1) := by decide +kernel
theorem dX3_byteAt_73 : decode cX3_byteAt 73 = .ok (.aload_n 0, 1) := by decide +kernel
theorem dX3_byteAt_74 : decode cX3_byteAt 74 = .ok (.getfield 9, 3) := by decide +kernel
theorem dX3_byteAt_77 : decode cX3_byteAt 77 = .ok (.arraylength, 1) := by decide +kernel
theorem dX3_byteAt_78 : decode cX3_byteAt 78 = .ok (.if_icmp .lt 7, 3) := by decide +kernel
theorem dX3_byteAt_81 : decode cX3_byteAt 81 = .ok (.sipush 255, 3) := by decide +kernel
theorem dX3_byteAt_84 : decode cX3_byteAt 84 = .ok (.ireturn, 1) := by decide +kernel
theorem dX3_byteAt_85 : decode cX3_byteAt 85 = .ok (.aload_n 0, 1) := by decide +kernel
theorem dX3_byteAt_86 : decode cX3_byteAt 86 = .ok (.getfield 9, 3) := by decide +kernel
theorem dX3_byteAt_89 : decode cX3_byteAt 89 = .ok (.iload_n 2, 1) := by decide +kernel
theorem dX3_byteAt_90 : decode cX3_byteAt 90 = .ok (.iaload, 1) := by decide +kernel
theorem dX3_byteAt_91 : decode cX3_byteAt 91 = .ok (.bipush 8, 2) := by decide +kernel
theorem dX3_byteAt_93 : decode cX3_byteAt 93 = .ok (.iload_n 1, 1) := by decide +kernel
theorem dX3_byteAt_94 : decode cX3_byteAt 94 = .ok (.iconst 2, 1) := by decide +kernel
theorem dX3_byteAt_95 : decode cX3_byteAt 95 = .ok (.isub, 1) := by decide +kernel
theorem dX3_byteAt_96 : decode cX3_byteAt 96 = .ok (.iconst 4, 1) := by decide +kernel
theorem dX3_byteAt_97 : decode cX3_byteAt 97 = .ok (.irem, 1) := by decide +kernel
theorem dX3_byteAt_98 : decode cX3_byteAt 98 = .ok (.imul, 1) := by decide +kernel
theorem dX3_byteAt_99 : decode cX3_byteAt 99 = .ok (.iushr, 1) := by decide +kernel
theorem dX3_byteAt_100 : decode cX3_byteAt 100 = .ok (.sipush 255, 3) := by decide +kernel
theorem dX3_byteAt_103 : decode cX3_byteAt 103 = .ok (.iand, 1) := by decide +kernel
theorem dX3_byteAt_104 : decode cX3_byteAt 104 = .ok (.ireturn, 1) := by decide +kernel
theorem dX4_init_0 : decode cX4_init 0 = .ok (.aload_n 0, 1) := by decide +kernel
theorem dX4_init_1 : decode cX4_init 1 = .ok (.invokespecial 3, 3) := by decide +kernel
theorem dX4_init_4 : decode cX4_init 4 = .ok (.aload_n 0, 1) := by decide +kernel
theorem dX4_init_5 : decode cX4_init 5 = .ok (.new 9, 3) := by decide +kernel
theorem dX4_init_8 : decode cX4_init 8 = .ok (.dup, 1) := by decide +kernel
theorem dX4_init_9 : decode cX4_init 9 = .ok (.invokespecial 11, 3) := by decide +kernel
theorem dX4_init_12 : decode cX4_init 12 = .ok (.putfield 12, 3) := by decide +kernel
theorem dX4_init_15 : decode cX4_init 15 = .ok (.aload_n 0, 1) := by decide +kernel
theorem dX4_init_16 : decode cX4_init 16 = .ok (.new 18, 3) := by decide +kernel
theorem dX4_init_19 : decode cX4_init 19 = .ok (.dup, 1) := by decide +kernel
theorem dX4_init_20 : decode cX4_init 20 = .ok (.invokespecial 20, 3) := by decide +kernel
theorem dX4_init_23 : decode cX4_init 23 = .ok (.putfield 21, 3) := by decide +kernel
theorem dX4_init_26 : decode cX4_init 26 = .ok (.aload_n 0, 1) := by decide +kernel
theorem dX4_init_27 : decode cX4_init 27 = .ok (.new 25, 3) := by decide +kernel
theorem dX4_init_30 : decode cX4_init 30 = .ok (.dup, 1) := by decide +kernel
theorem dX4_init_31 : decode cX4_init 31 = .ok (.invokespecial 27, 3) := by decide +kernel
theorem dX4_init_34 : decode cX4_init 34 = .ok (.putfield 28, 3) := by decide +kernel
theorem dX4_init_37 : decode cX4_init 37 = .ok (.aload_n 0, 1) := by decide +kernel
theorem dX4_init_38 : decode cX4_init 38 = .ok (.iconst 3, 1) := by decide +kernel
theorem dX4_init_39 : decode cX4_init 39 = .ok (.anewarray 32, 3) := by decide +kernel
theorem dX4_init_42 : decode cX4_init 42 = .ok (.putfield 34, 3) := by decide +kernel
theorem dX4_init_45 : decode cX4_init 45 = .ok (.aload_n 0, 1) := by decide +kernel
theorem dX4_init_46 : decode cX4_init 46 = .ok (.new 38, 3) := by decide +kernel
theorem dX4_init_49 : decode cX4_init 49 = .ok (.dup, 1) := by decide +kernel
theorem dX4_init_50 : decode cX4_init 50 = .ok (.invokespecial 40, 3) := by decide +kernel
theorem dX4_init_53 : decode cX4_init 53 = .ok (.putfield 41, 3) := by decide +kernel
theorem dX4_init_56 : decode cX4_init 56 = .ok (.aload_n 0, 1) := by decide +kernel
theorem dX4_init_57 : decode cX4_init 57 = .ok (.bipush 10, 2) := by decide +kernel
theorem dX4_init_59 : decode cX4_init 59 = .ok (.newarray .int, 2) := by decide +kernel
theorem dX4_init_61 : decode cX4_init 61 = .ok (.putfield 45, 3) := by decide +kernel
theorem dX4_init_64 : decode cX4_init 64 = .ok (.aload_n 0, 1) := by decide +kernel
theorem dX4_init_65 : decode cX4_init 65 = .ok (.iconst 0, 1) := by decide +kernel
theorem dX4_init_66 : decode cX4_init 66 = .ok (.putfield 49, 3) := by decide +kernel
theorem dX4_init_69 : decode cX4_init 69 = .ok (.aload_n 0, 1) := by decide +kernel
theorem dX4_init_70 : decode cX4_init 70 = .ok (.iconst 0, 1) := by decide +kernel
theorem dX4_init_71 : decode cX4_init 71 = .ok (.putfield 53, 3) := by decide +kernel
theorem dX4_init_74 : decode cX4_init 74 = .ok (.aload_n 0, 1) := by decide +kernel
theorem dX4_init_75 : decode cX4_init 75 = .ok (.iconst (-1), 1) := by decide +kernel
theorem dX4_init_76 : decode cX4_init 76 = .ok (.putfield 56, 3) := by decide +kernel
theorem dX4_init_79 : decode cX4_init 79 = .ok (.aload_n 0, 1) := by decide +kernel
theorem dX4_init_80 : decode cX4_init 80 = .ok (.iconst 0, 1) := by decide +kernel
theorem dX4_init_81 : decode cX4_init 81 = .ok (.putfield 59, 3) := by decide +kernel
theorem dX4_init_84 : decode cX4_init 84 = .ok (.aload_n 0, 1) := by decide +kernel
theorem dX4_init_85 : decode cX4_init 85 = .ok (.iconst 0, 1) := by decide +kernel
theorem dX4_init_86 : decode cX4_init 86 = .ok (.putfield 62, 3) := by decide +kernel
theorem dX4_init_89 : decode cX4_init 89 = .ok (.aload_n 0, 1) := by decide +kernel
theorem dX4_init_90 : decode cX4_init 90 = .ok (.iload_n 1, 1) := by decide +kernel
theorem dX4_init_91 : decode cX4_init 91 = .ok (.putfield 65, 3) := by decide +kernel
theorem dX4_init_94 : decode cX4_init 94 = .ok (.aload_n 0, 1) := by decide +kernel
theorem dX4_init_95 : decode cX4_init 95 = .ok (.iload_n 2, 1) := by decide +kernel
theorem dX4_init_96 : decode cX4_init 96 = .ok (.putfield 68, 3) := by decide +kernel
theorem dX4_init_99 : decode cX4_init 99 = .ok (.aload_n 0, 1) := by decide +kernel
theorem dX4_init_100 : decode cX4_init 100 = .ok (.iload_n 3, 1) := by decide +kernel
theorem dX4_init_101 : decode cX4_init 101 = .ok (.putfield 71, 3) := by decide +kernel
theorem dX4_init_104 : decode cX4_init 104 = .ok (.aload_n 0, 1) := by decide +kernel
theorem dX4_init_105 : decode cX4_init 105 = .ok (.iload 4, 2) := by decide +kernel
theorem dX4_init_107 : decode cX4_init 107 = .ok (.putfield 74, 3) := by decide +kernel
theorem dX4_init_110 : decode cX4_init 110 = .ok (.aload_n 0, 1) := by decide +kernel
theorem dX4_init_111 : decode cX4_init 111 = .ok (.iload 5, 2) := by decide +kernel
theorem dX4_init_113 : decode cX4_init 113 = .ok (.putfield 78, 3) := by decide +kernel
theorem dX4_init_116 : decode cX4_init 116 = .ok (.aload_n 0, 1) := by decide +kernel
theorem dX4_init_117 : decode cX4_init 117 = .ok (.iload_n 3, 1) := by decide +kernel
theorem dX4_init_118 : decode cX4_init 118 = .ok (.putfield 81, 3) := by decide +kernel
theorem dX4_init_121 : decode cX4_init 121 = .ok (.aload_n 0, 1) := by decide +kernel
theorem dX4_init_122 : decode cX4_init 122 = .ok (.new 84, 3) := by decide +kernel
theorem dX4_init_125 : decode cX4_init 125 = .ok (.dup, 1) := by decide +kernel
theorem dX4_init_126 : decode cX4_init 126 = .ok (.iload_n 1, 1) := by decide +kernel
theorem dX4_init_127 : decode cX4_init 127 = .ok (.iload_n 2, 1) := by decide +kernel
theorem dX4_init_128 : decode cX4_init 128 = .ok (.aload 6, 2) := by decide +kernel
theorem dX4_init_130 : decode cX4_init 130 = .ok (.invokespecial 86, 3) := by decide +kernel
theorem dX4_init_133 : decode cX4_init 133 = .ok (.putfield 89, 3) := by decide +kernel
theorem dX4_init_136 : decode cX4_init 136 = .ok (.return_, 1) := by decide +kernel
theorem dX4_sharesAddressWith_0 : decode cX4_sharesAddressWith 0 = .ok (.aload_n 0, 1) := by decide +kernel
theorem dX4_sharesAddressWith_1 : decode cX4_sharesAddressWith 1 = .ok (.getfield 53, 3) := by decide +kernel
theorem dX4_sharesAddressWith_4 : decode cX4_sharesAddressWith 4 = .ok (.iconst 2, 1) := by decide +kernel
theorem dX4_sharesAddressWith_5 : decode cX4_sharesAddressWith 5 = .ok (.if_icmp .ne 26, 3) := by decide +kernel
theorem dX4_sharesAddressWith_8 : decode cX4_sharesAddressWith 8 = .ok (.aload_n 1, 1) := by decide +kernel
theorem dX4_sharesAddressWith_9 : decode cX4_sharesAddressWith 9 = .ok (.getfield 53, 3) := by decide +kernel
theorem dX4_sharesAddressWith_12 : decode cX4_sharesAddressWith 12 = .ok (.iconst 2, 1) := by decide +kernel
theorem dX4_sharesAddressWith_13 : decode cX4_sharesAddressWith 13 = .ok (.if_icmp .ne 18, 3) := by decide +kernel
theorem dX4_sharesAddressWith_16 : decode cX4_sharesAddressWith 16 = .ok (.aload_n 0, 1) := by decide +kernel
theorem dX4_sharesAddressWith_17 : decode cX4_sharesAddressWith 17 = .ok (.getfield 81, 3) := by decide +kernel
theorem dX4_sharesAddressWith_20 : decode cX4_sharesAddressWith 20 = .ok (.aload_n 1, 1) := by decide +kernel
theorem dX4_sharesAddressWith_21 : decode cX4_sharesAddressWith 21 = .ok (.getfield 81, 3) := by decide +kernel
theorem dX4_sharesAddressWith_24 : decode cX4_sharesAddressWith 24 = .ok (.if_icmp .ne 7, 3) := by decide +kernel
theorem dX4_sharesAddressWith_27 : decode cX4_sharesAddressWith 27 = .ok (.iconst 1, 1) := by decide +kernel
theorem dX4_sharesAddressWith_28 : decode cX4_sharesAddressWith 28 = .ok (.goto 4, 3) := by decide +kernel
theorem dX4_sharesAddressWith_31 : decode cX4_sharesAddressWith 31 = .ok (.iconst 0, 1) := by decide +kernel
theorem dX4_sharesAddressWith_32 : decode cX4_sharesAddressWith 32 = .ok (.ireturn, 1) := by decide +kernel
theorem dX4_openTransports_0 : decode cX4_openTransports 0 = .ok (.iconst 0, 1) := by decide +kernel
theorem dX4_openTransports_1 : decode cX4_openTransports 1 = .ok (.istore_n 1, 1) := by decide +kernel
theorem dX4_openTransports_2 : decode cX4_openTransports 2 = .ok (.aload_n 0, 1) := by decide +kernel
theorem dX4_openTransports_3 : decode cX4_openTransports 3 = .ok (.getfield 34, 3) := by decide +kernel
theorem dX4_openTransports_6 : decode cX4_openTransports 6 = .ok (.astore_n 2, 1) := by decide +kernel
theorem dX4_openTransports_7 : decode cX4_openTransports 7 = .ok (.aload_n 2, 1) := by decide +kernel
theorem dX4_openTransports_8 : decode cX4_openTransports 8 = .ok (.arraylength, 1) := by decide +kernel
theorem dX4_openTransports_9 : decode cX4_openTransports 9 = .ok (.istore_n 3, 1) := by decide +kernel
theorem dX4_openTransports_10 : decode cX4_openTransports 10 = .ok (.iconst 0, 1) := by decide +kernel
theorem dX4_openTransports_11 : decode cX4_openTransports 11 = .ok (.istore 4, 2) := by decide +kernel
theorem dX4_openTransports_13 : decode cX4_openTransports 13 = .ok (.iload 4, 2) := by decide +kernel
theorem dX4_openTransports_15 : decode cX4_openTransports 15 = .ok (.iload_n 3, 1) := by decide +kernel
theorem dX4_openTransports_16 : decode cX4_openTransports 16 = .ok (.if_icmp .ge 31, 3) := by decide +kernel
theorem dX4_openTransports_19 : decode cX4_openTransports 19 = .ok (.aload_n 2, 1) := by decide +kernel
theorem dX4_openTransports_20 : decode cX4_openTransports 20 = .ok (.iload 4, 2) := by decide +kernel
theorem dX4_openTransports_22 : decode cX4_openTransports 22 = .ok (.aaload, 1) := by decide +kernel
theorem dX4_openTransports_23 : decode cX4_openTransports 23 = .ok (.astore 5, 2) := by decide +kernel
theorem dX4_openTransports_25 : decode cX4_openTransports 25 = .ok (.aload 5, 2) := by decide +kernel
theorem dX4_openTransports_27 : decode cX4_openTransports 27 = .ok (.ifnull 14, 3) := by decide +kernel
theorem dX4_openTransports_30 : decode cX4_openTransports 30 = .ok (.aload 5, 2) := by decide +kernel
theorem dX4_openTransports_32 : decode cX4_openTransports 32 = .ok (.getfield 93, 3) := by decide +kernel
theorem dX4_openTransports_35 : decode cX4_openTransports 35 = .ok (.ifCond .eq 6, 3) := by decide +kernel
theorem dX4_openTransports_38 : decode cX4_openTransports 38 = .ok (.iinc 1 1, 3) := by decide +kernel
theorem dX4_openTransports_41 : decode cX4_openTransports 41 = .ok (.iinc 4 1, 3) := by decide +kernel
theorem dX4_openTransports_44 : decode cX4_openTransports 44 = .ok (.goto (-31), 3) := by decide +kernel
theorem dX4_openTransports_47 : decode cX4_openTransports 47 = .ok (.iconst 0, 1) := by decide +kernel
theorem dX4_openTransports_48 : decode cX4_openTransports 48 = .ok (.istore_n 2, 1) := by decide +kernel
theorem dX4_openTransports_49 : decode cX4_openTransports 49 = .ok (.iload_n 2, 1) := by decide +kernel
theorem dX4_openTransports_50 : decode cX4_openTransports 50 = .ok (.aload_n 0, 1) := by decide +kernel
theorem dX4_openTransports_51 : decode cX4_openTransports 51 = .ok (.getfield 41, 3) := by decide +kernel
theorem dX4_openTransports_54 : decode cX4_openTransports 54 = .ok (.invokevirtual 96, 3) := by decide +kernel
theorem dX4_openTransports_57 : decode cX4_openTransports 57 = .ok (.if_icmp .ge 29, 3) := by decide +kernel
theorem dX4_openTransports_60 : decode cX4_openTransports 60 = .ok (.aload_n 0, 1) := by decide +kernel
theorem dX4_openTransports_61 : decode cX4_openTransports 61 = .ok (.getfield 41, 3) := by decide +kernel
theorem dX4_openTransports_64 : decode cX4_openTransports 64 = .ok (.iload_n 2, 1) := by decide +kernel
theorem dX4_openTransports_65 : decode cX4_openTransports 65 = .ok (.invokevirtual 100, 3) := by decide +kernel
theorem dX4_openTransports_68 : decode cX4_openTransports 68 = .ok (.checkcast 32, 3) := by decide +kernel
theorem dX4_openTransports_71 : decode cX4_openTransports 71 = .ok (.getfield 93, 3) := by decide +kernel
theorem dX4_openTransports_74 : decode cX4_openTransports 74 = .ok (.ifCond .eq 6, 3) := by decide +kernel
theorem dX4_openTransports_77 : decode cX4_openTransports 77 = .ok (.iinc 1 1, 3) := by decide +kernel
theorem dX4_openTransports_80 : decode cX4_openTransports 80 = .ok (.iinc 2 1, 3) := by decide +kernel
theorem dX4_openTransports_83 : decode cX4_openTransports 83 = .ok (.goto (-34), 3) := by decide +kernel
theorem dX4_openTransports_86 : decode cX4_openTransports 86 = .ok (.iload_n 1, 1) := by decide +kernel
theorem dX4_openTransports_87 : decode cX4_openTransports 87 = .ok (.ireturn, 1) := by decide +kernel
theorem dX4_claimAddress_0 : decode cX4_claimAddress 0 = .ok (.aload_n 0, 1) := by decide +kernel
theorem dX4_claimAddress_1 : decode cX4_claimAddress 1 = .ok (.iload_n 1, 1) := by decide +kernel
theorem dX4_claimAddress_2 : decode cX4_claimAddress 2 = .ok (.putfield 81, 3) := by decide +kernel
theorem dX4_claimAddress_5 : decode cX4_claimAddress 5 = .ok (.aload_n 0, 1) := by decide +kernel
theorem dX4_claimAddress_6 : decode cX4_claimAddress 6 = .ok (.iconst 1, 1) := by decide +kernel
theorem dX4_claimAddress_7 : decode cX4_claimAddress 7 = .ok (.putfield 53, 3) := by decide +kernel
theorem dX4_claimAddress_10 : decode cX4_claimAddress 10 = .ok (.aload_n 0, 1) := by decide +kernel
theorem dX4_claimAddress_11 : decode cX4_claimAddress 11 = .ok (.iconst (-1), 1) := by decide +kernel
theorem dX4_claimAddress_12 : decode cX4_claimAddress 12 = .ok (.putfield 56, 3) := by decide +kernel
theorem dX4_claimAddress_15 : decode cX4_claimAddress 15 = .ok (.aload_n 0, 1) := by decide +kernel
theorem dX4_claimAddress_16 : decode cX4_claimAddress 16 = .ok (.getfield 89, 3) := by decide +kernel
theorem dX4_claimAddress_19 : decode cX4_claimAddress 19 = .ok (.invokevirtual 108, 3) := by decide +kernel
theorem dX4_claimAddress_22 : decode cX4_claimAddress 22 = .ok (.return_, 1) := by decide +kernel
theorem dX4_maySend_0 : decode cX4_maySend 0 = .ok (.aload_n 0, 1) := by decide +kernel
theorem dX4_maySend_1 : decode cX4_maySend 1 = .ok (.getfield 53, 3) := by decide +kernel
theorem dX4_maySend_4 : decode cX4_maySend 4 = .ok (.iconst 2, 1) := by decide +kernel
theorem dX4_maySend_5 : decode cX4_maySend 5 = .ok (.if_icmp .ne 18, 3) := by decide +kernel
theorem dX4_maySend_8 : decode cX4_maySend 8 = .ok (.aload_n 0, 1) := by decide +kernel
theorem dX4_maySend_9 : decode cX4_maySend 9 = .ok (.getfield 21, 3) := by decide +kernel
theorem dX4_maySend_12 : decode cX4_maySend 12 = .ok (.getfield 121, 3) := by decide +kernel
theorem dX4_maySend_15 : decode cX4_maySend 15 = .ok (.iconst 1, 1) := by decide +kernel
theorem dX4_maySend_16 : decode cX4_maySend 16 = .ok (.if_icmp .eq 7, 3) := by decide +kernel
theorem dX4_maySend_19 : decode cX4_maySend 19 = .ok (.iconst 1, 1) := by decide +kernel
theorem dX4_maySend_20 : decode cX4_maySend 20 = .ok (.goto 4, 3) := by decide +kernel
theorem dX4_maySend_23 : decode cX4_maySend 23 = .ok (.iconst 0, 1) := by decide +kernel
theorem dX4_maySend_24 : decode cX4_maySend 24 = .ok (.ireturn, 1) := by decide +kernel
theorem dX4_beginSending_0 : decode cX4_beginSending 0 = .ok (.aload_n 0, 1) := by decide +kernel
theorem dX4_beginSending_1 : decode cX4_beginSending 1 = .ok (.getfield 21, 3) := by decide +kernel
theorem dX4_beginSending_4 : decode cX4_beginSending 4 = .ok (.aload_n 1, 1) := by decide +kernel
theorem dX4_beginSending_5 : decode cX4_beginSending 5 = .ok (.putfield 122, 3) := by decide +kernel
theorem dX4_beginSending_8 : decode cX4_beginSending 8 = .ok (.aload_n 0, 1) := by decide +kernel
theorem dX4_beginSending_9 : decode cX4_beginSending 9 = .ok (.getfield 21, 3) := by decide +kernel
theorem dX4_beginSending_12 : decode cX4_beginSending 12 = .ok (.iconst 1, 1) := by decide +kernel
theorem dX4_beginSending_13 : decode cX4_beginSending 13 = .ok (.putfield 126, 3) := by decide +kernel
theorem dX4_beginSending_16 : decode cX4_beginSending 16 = .ok (.aload_n 1, 1) := by decide +kernel
theorem dX4_beginSending_17 : decode cX4_beginSending 17 = .ok (.getfield 129, 3) := by decide +kernel
theorem dX4_beginSending_20 : decode cX4_beginSending 20 = .ok (.bipush 8, 2) := by decide +kernel
theorem dX4_beginSending_22 : decode cX4_beginSending 22 = .ok (.if_icmp .gt 27, 3) := by decide +kernel
theorem dX4_beginSending_25 : decode cX4_beginSending 25 = .ok (.aload_n 0, 1) := by decide +kernel
theorem dX4_beginSending_26 : decode cX4_beginSending 26 = .ok (.getfield 89, 3) := by decide +kernel
theorem dX4_beginSending_29 : decode cX4_beginSending 29 = .ok (.aload_n 1, 1) := by decide +kernel
theorem dX4_beginSending_30 : decode cX4_beginSending 30 = .ok (.aload_n 1, 1) := by decide +kernel
theorem dX4_beginSending_31 : decode cX4_beginSending 31 = .ok (.getfield 133, 3) := by decide +kernel
theorem dX4_beginSending_34 : decode cX4_beginSending 34 = .ok (.iconst 0, 1) := by decide +kernel
theorem dX4_beginSending_35 : decode cX4_beginSending 35 = .ok (.iconst 0, 1) := by decide +kernel
theorem dX4_beginSending_36 : decode cX4_beginSending 36 = .ok (.iconst 0, 1) := by decide +kernel
theorem dX4_beginSending_37 : decode cX4_beginSending 37 = .ok (.invokevirtual 136, 3) := by decide +kernel
theorem dX4_beginSending_40 : decode cX4_beginSending 40 = .ok (.aload_n 0, 1) := by decide +kernel
theorem dX4_beginSending_41 : decode cX4_beginSending 41 = .ok (.getfield 21, 3) := by decide +kernel
theorem dX4_beginSending_44 : decode cX4_beginSending 44 = .ok (.iconst 2, 1) := by decide +kernel
theorem dX4_beginSending_45 : decode cX4_beginSending 45 = .ok (.putfield 121, 3) := by decide +kernel
theorem dX4_beginSending_48 : decode cX4_beginSending 48 = .ok (.return_, 1) := by decide +kernel
theorem dX4_beginSending_49 : decode cX4_beginSending 49 = .ok (.aload_n 1, 1) := by decide +kernel
theorem dX4_beginSending_50 : decode cX4_beginSending 50 = .ok (.getfield 133, 3) := by decide +kernel
theorem dX4_beginSending_53 : decode cX4_beginSending 53 = .ok (.sipush 255, 3) := by decide +kernel
theorem dX4_beginSending_56 : decode cX4_beginSending 56 = .ok (.if_icmp .ne 34, 3) := by decide +kernel
theorem dX4_beginSending_59 : decode cX4_beginSending 59 = .ok (.aload_n 0, 1) := by decide +kernel
theorem dX4_beginSending_60 : decode cX4_beginSending 60 = .ok (.getfield 89, 3) := by decide +kernel
theorem dX4_beginSending_63 : decode cX4_beginSending 63 = .ok (.aload_n 1, 1) := by decide +kernel
theorem dX4_beginSending_64 : decode cX4_beginSending 64 = .ok (.sipush 255, 3) := by decide +kernel
theorem dX4_beginSending_67 : decode cX4_beginSending 67 = .ok (.bipush 32, 2) := by decide +kernel
theorem dX4_beginSending_69 : decode cX4_beginSending 69 = .ok (.sipush 255, 3) := by decide +kernel
theorem dX4_beginSending_72 : decode cX4_beginSending 72 = .ok (.iconst 0, 1) := by decide +kernel
theorem dX4_beginSending_73 : decode cX4_beginSending 73 = .ok (.invokevirtual 136, 3) := by decide +kernel
theorem dX4_beginSending_76 : decode cX4_beginSending 76 = .ok (.aload_n 0, 1) := by decide +kernel
theorem dX4_beginSending_77 : decode cX4_beginSending 77 = .ok (.getfield 21, 3) := by decide +kernel
theorem dX4_beginSending_80 : decode cX4_beginSending 80 = .ok (.iload_n 2, 1) := by decide +kernel
theorem dX4_beginSending_81 : decode cX4_beginSending 81 = .ok (.bipush 50, 2) := by decide +kernel
theorem dX4_beginSending_83 : decode cX4_beginSending 83 = .ok (.iadd, 1) := by decide +kernel
theorem dX4_beginSending_84 : decode cX4_beginSending 84 = .ok (.putfield 140, 3) := by decide +kernel
theorem dX4_beginSending_87 : decode cX4_beginSending 87 = .ok (.goto 34, 3) := by decide +kernel
theorem dX4_beginSending_90 : decode cX4_beginSending 90 = .ok (.aload_n 0, 1) := by decide +kernel
theorem dX4_beginSending_91 : decode cX4_beginSending 91 = .ok (.getfield 89, 3) := by decide +kernel
theorem dX4_beginSending_94 : decode cX4_beginSending 94 = .ok (.aload_n 1, 1) := by decide +kernel
theorem dX4_beginSending_95 : decode cX4_beginSending 95 = .ok (.aload_n 1, 1) := by decide +kernel
theorem dX4_beginSending_96 : decode cX4_beginSending 96 = .ok (.getfield 133, 3) := by decide +kernel
theorem dX4_beginSending_99 : decode cX4_beginSending 99 = .ok (.bipush 16, 2) := by decide +kernel
theorem dX4_beginSending_101 : decode cX4_beginSending 101 = .ok (.aload_n 0, 1) := by decide +kernel
theorem dX4_beginSending_102 : decode cX4_beginSending 102 = .ok (.getfield 78, 3) := by decide +kernel
theorem dX4_beginSending_105 : decode cX4_beginSending 105 = .ok (.iconst 0, 1) := by decide +kernel
theorem dX4_beginSending_106 : decode cX4_beginSending 106 = .ok (.invokevirtual 136, 3) := by decide +kernel
theorem dX4_beginSending_109 : decode cX4_beginSending 109 = .ok (.aload_n 0, 1) := by decide +kernel
theorem dX4_beginSending_110 : decode cX4_beginSending 110 = .ok (.getfield 21, 3) := by decide +kernel
theorem dX4_beginSending_113 : decode cX4_beginSending 113 = .ok (.iload_n 2, 1) := by decide +kernel
theorem dX4_beginSending_114 : decode cX4_beginSending 114 = .ok (.sipush 1250, 3) := by decide +kernel
theorem dX4_beginSending_117 : decode cX4_beginSending 117 = .ok (.iadd, 1) := by decide +kernel
theorem dX4_beginSending_118 : decode cX4_beginSending 118 = .ok (.putfield 140, 3) := by decide +kernel
theorem dX4_beginSending_121 : decode cX4_beginSending 121 = .ok (.aload_n 0, 1) := by decide +kernel
theorem dX4_beginSending_122 : decode cX4_beginSending 122 = .ok (.getfield 21, 3) := by decide +kernel
theorem dX4_beginSending_125 : decode cX4_beginSending 125 = .ok (.iconst 1, 1) := by decide +kernel
theorem dX4_beginSending_126 : decode cX4_beginSending 126 = .ok (.putfield 121, 3) := by decide +kernel
theorem dX4_beginSending_129 : decode cX4_beginSending 129 = .ok (.return_, 1) := by decide +kernel
theorem dX4_frameWasCarried_0 : decode cX4_frameWasCarried 0 = .ok (.aload_n 0, 1) := by decide +kernel
theorem dX4_frameWasCarried_1 : decode cX4_frameWasCarried 1 = .ok (.getfield 89, 3) := by decide +kernel
theorem dX4_frameWasCarried_4 : decode cX4_frameWasCarried 4 = .ok (.invokevirtual 143, 3) := by decide +kernel
theorem dX4_frameWasCarried_7 : decode cX4_frameWasCarried 7 = .ok (.iload_n 1, 1) := by decide +kernel
theorem dX4_frameWasCarried_8 : decode cX4_frameWasCarried 8 = .ok (.ifCond .eq 8, 3) := by decide +kernel
theorem dX4_frameWasCarried_11 : decode cX4_frameWasCarried 11 = .ok (.aload_n 0, 1) := by decide +kernel
theorem dX4_frameWasCarried_12 : decode cX4_frameWasCarried 12 = .ok (.iload_n 2, 1) := by decide +kernel
theorem dX4_frameWasCarried_13 : decode cX4_frameWasCarried 13 = .ok (.putfield 56, 3) := by decide +kernel
theorem dX4_frameWasCarried_16 : decode cX4_frameWasCarried 16 = .ok (.return_, 1) := by decide +kernel
theorem dX4_nextTimer_0 : decode cX4_nextTimer 0 = .ok (.ldc 146, 2) := by decide +kernel
theorem dX4_nextTimer_2 : decode cX4_nextTimer 2 = .ok (.istore_n 1, 1) := by decide +kernel
theorem dX4_nextTimer_3 : decode cX4_nextTimer 3 = .ok (.aload_n 0, 1) := by decide +kernel
theorem dX4_nextTimer_4 : decode cX4_nextTimer 4 = .ok (.getfield 53, 3) := by decide +kernel
theorem dX4_nextTimer_7 : decode cX4_nextTimer 7 = .ok (.iconst 1, 1) := by decide +kernel
theorem dX4_nextTimer_8 : decode cX4_nextTimer 8 = .ok (.if_icmp .ne 20, 3) := by decide +kernel
theorem dX4_nextTimer_11 : decode cX4_nextTimer 11 = .ok (.aload_n 0, 1) := by decide +kernel
theorem dX4_nextTimer_12 : decode cX4_nextTimer 12 = .ok (.getfield 56, 3) := by decide +kernel
theorem dX4_nextTimer_15 : decode cX4_nextTimer 15 = .ok (.iconst (-1), 1) := by decide +kernel
theorem dX4_nextTimer_16 : decode cX4_nextTimer 16 = .ok (.if_icmp .eq 12, 3) := by decide +kernel
theorem dX4_nextTimer_19 : decode cX4_nextTimer 19 = .ok (.aload_n 0, 1) := by decide +kernel
theorem dX4_nextTimer_20 : decode cX4_nextTimer 20 = .ok (.getfield 56, 3) := by decide +kernel
theorem dX4_nextTimer_23 : decode cX4_nextTimer 23 = .ok (.sipush 250, 3) := by decide +kernel
theorem dX4_nextTimer_26 : decode cX4_nextTimer 26 = .ok (.iadd, 1) := by decide +kernel
theorem dX4_nextTimer_27 : decode cX4_nextTimer 27 = .ok (.istore_n 1, 1) := by decide +kernel
theorem dX4_nextTimer_28 : decode cX4_nextTimer 28 = .ok (.aload_n 0, 1) := by decide +kernel
theorem dX4_nextTimer_29 : decode cX4_nextTimer 29 = .ok (.getfield 21, 3) := by decide +kernel
theorem dX4_nextTimer_32 : decode cX4_nextTimer 32 = .ok (.getfield 121, 3) := by decide +kernel
theorem dX4_nextTimer_35 : decode cX4_nextTimer 35 = .ok (.iconst 1, 1) := by decide +kernel
theorem dX4_nextTimer_36 : decode cX4_nextTimer 36 = .ok (.if_icmp .ne 15, 3) := by decide +kernel
theorem dX4_nextTimer_39 : decode cX4_nextTimer 39 = .ok (.iload_n 1, 1) := by decide +kernel
theorem dX4_nextTimer_40 : decode cX4_nextTimer 40 = .ok (.aload_n 0, 1) := by decide +kernel
theorem dX4_nextTimer_41 : decode cX4_nextTimer 41 = .ok (.getfield 21, 3) := by decide +kernel
theorem dX4_nextTimer_44 : decode cX4_nextTimer 44 = .ok (.getfield 140, 3) := by decide +kernel
theorem dX4_nextTimer_47 : decode cX4_nextTimer 47 = .ok (.invokestatic 147, 3) := by decide +kernel
theorem dX4_nextTimer_50 : decode cX4_nextTimer 50 = .ok (.istore_n 1, 1) := by decide +kernel
theorem dX4_nextTimer_51 : decode cX4_nextTimer 51 = .ok (.iconst 0, 1) := by decide +kernel
theorem dX4_nextTimer_52 : decode cX4_nextTimer 52 = .ok (.istore_n 2, 1) := by decide +kernel
theorem dX4_nextTimer_53 : decode cX4_nextTimer 53 = .ok (.iload_n 2, 1) := by decide +kernel
theorem dX4_nextTimer_54 : decode cX4_nextTimer 54 = .ok (.aload_n 0, 1) := by decide +kernel
theorem dX4_nextTimer_55 : decode cX4_nextTimer 55 = .ok (.getfield 41, 3) := by decide +kernel
theorem dX4_nextTimer_58 : decode cX4_nextTimer 58 = .ok (.invokevirtual 96, 3) := by decide +kernel
theorem dX4_nextTimer_61 : decode cX4_nextTimer 61 = .ok (.if_icmp .ge 49, 3) := by decide +kernel
theorem dX4_nextTimer_64 : decode cX4_nextTimer 64 = .ok (.aload_n 0, 1) := by decide +kernel
theorem dX4_nextTimer_65 : decode cX4_nextTimer 65 = .ok (.getfield 41, 3) := by decide +kernel
theorem dX4_nextTimer_68 : decode cX4_nextTimer 68 = .ok (.iload_n 2, 1) := by decide +kernel
theorem dX4_nextTimer_69 : decode cX4_nextTimer 69 = .ok (.invokevirtual 100, 3) := by decide +kernel
theorem dX4_nextTimer_72 : decode cX4_nextTimer 72 = .ok (.checkcast 32, 3) := by decide +kernel
theorem dX4_nextTimer_75 : decode cX4_nextTimer 75 = .ok (.getfield 93, 3) := by decide +kernel
theorem dX4_nextTimer_78 : decode cX4_nextTimer 78 = .ok (.ifCond .eq 26, 3) := by decide +kernel
theorem dX4_nextTimer_81 : decode cX4_nextTimer 81 = .ok (.iload_n 1, 1) := by decide +kernel
theorem dX4_nextTimer_82 : decode cX4_nextTimer 82 = .ok (.aload_n 0, 1) := by decide +kernel
theorem dX4_nextTimer_83 : decode cX4_nextTimer 83 = .ok (.getfield 41, 3) := by decide +kernel
theorem dX4_nextTimer_86 : decode cX4_nextTimer 86 = .ok (.iload_n 2, 1) := by decide +kernel
theorem dX4_nextTimer_87 : decode cX4_nextTimer 87 = .ok (.invokevirtual 100, 3) := by decide +kernel
theorem dX4_nextTimer_90 : decode cX4_nextTimer 90 = .ok (.checkcast 32, 3) := by decide +kernel
theorem dX4_nextTimer_93 : decode cX4_nextTimer 93 = .ok (.getfield 153, 3) := by decide +kernel
theorem dX4_nextTimer_96 : decode cX4_nextTimer 96 = .ok (.sipush 750, 3) := by decide +kernel
theorem dX4_nextTimer_99 : decode cX4_nextTimer 99 = .ok (.iadd, 1) := by decide +kernel
theorem dX4_nextTimer_100 : decode cX4_nextTimer 100 = .ok (.invokestatic 147, 3) := by decide +kernel
theorem dX4_nextTimer_103 : decode cX4_nextTimer 103 = .ok (.istore_n 1, 1) := by decide +kernel
theorem dX4_nextTimer_104 : decode cX4_nextTimer 104 = .ok (.iinc 2 1, 3) := by decide +kernel
theorem dX4_nextTimer_107 : decode cX4_nextTimer 107 = .ok (.goto (-54), 3) := by decide +kernel
theorem dX4_nextTimer_110 : decode cX4_nextTimer 110 = .ok (.aload_n 0, 1) := by decide +kernel
theorem dX4_nextTimer_111 : decode cX4_nextTimer 111 = .ok (.getfield 34, 3) := by decide +kernel
theorem dX4_nextTimer_114 : decode cX4_nextTimer 114 = .ok (.astore_n 2, 1) := by decide +kernel
theorem dX4_nextTimer_115 : decode cX4_nextTimer 115 = .ok (.aload_n 2, 1) := by decide +kernel
theorem dX4_nextTimer_116 : decode cX4_nextTimer 116 = .ok (.arraylength, 1) := by decide +kernel
theorem dX4_nextTimer_117 : decode cX4_nextTimer 117 = .ok (.istore_n 3, 1) := by decide +kernel
theorem dX4_nextTimer_118 : decode cX4_nextTimer 118 = .ok (.iconst 0, 1) := by decide +kernel
theorem dX4_nextTimer_119 : decode cX4_nextTimer 119 = .ok (.istore 4, 2) := by decide +kernel
theorem dX4_nextTimer_121 : decode cX4_nextTimer 121 = .ok (.iload 4, 2) := by decide +kernel
theorem dX4_nextTimer_123 : decode cX4_nextTimer 123 = .ok (.iload_n 3, 1) := by decide +kernel
theorem dX4_nextTimer_124 : decode cX4_nextTimer 124 = .ok (.if_icmp .ge 42, 3) := by decide +kernel
theorem dX4_nextTimer_127 : decode cX4_nextTimer 127 = .ok (.aload_n 2, 1) := by decide +kernel
theorem dX4_nextTimer_128 : decode cX4_nextTimer 128 = .ok (.iload 4, 2) := by decide +kernel
theorem dX4_nextTimer_130 : decode cX4_nextTimer 130 = .ok (.aaload, 1) := by decide +kernel
theorem dX4_nextTimer_131 : decode cX4_nextTimer 131 = .ok (.astore 5, 2) := by decide +kernel
theorem dX4_nextTimer_133 : decode cX4_nextTimer 133 = .ok (.aload 5, 2) := by decide +kernel
theorem dX4_nextTimer_135 : decode cX4_nextTimer 135 = .ok (.ifnull 25, 3) := by decide +kernel
theorem dX4_nextTimer_138 : decode cX4_nextTimer 138 = .ok (.aload 5, 2) := by decide +kernel
theorem dX4_nextTimer_140 : decode cX4_nextTimer 140 = .ok (.getfield 93, 3) := by decide +kernel
theorem dX4_nextTimer_143 : decode cX4_nextTimer 143 = .ok (.ifCond .eq 17, 3) := by decide +kernel
theorem dX4_nextTimer_146 : decode cX4_nextTimer 146 = .ok (.iload_n 1, 1) := by decide +kernel
theorem dX4_nextTimer_147 : decode cX4_nextTimer 147 = .ok (.aload 5, 2) := by decide +kernel
theorem dX4_nextTimer_149 : decode cX4_nextTimer 149 = .ok (.getfield 153, 3) := by decide +kernel
theorem dX4_nextTimer_152 : decode cX4_nextTimer 152 = .ok (.sipush 1250, 3) := by decide +kernel
theorem dX4_nextTimer_155 : decode cX4_nextTimer 155 = .ok (.iadd, 1) := by decide +kernel
theorem dX4_nextTimer_156 : decode cX4_nextTimer 156 = .ok (.invokestatic 147, 3) := by decide +kernel
theorem dX4_nextTimer_159 : decode cX4_nextTimer 159 = .ok (.istore_n 1, 1) := by decide +kernel
theorem dX4_nextTimer_160 : decode cX4_nextTimer 160 = .ok (.iinc 4 1, 3) := by decide +kernel
theorem dX4_nextTimer_163 : decode cX4_nextTimer 163 = .ok (.goto (-42), 3) := by decide +kernel
theorem dX4_nextTimer_166 : decode cX4_nextTimer 166 = .ok (.iload_n 1, 1) := by decide +kernel
theorem dX4_nextTimer_167 : decode cX4_nextTimer 167 = .ok (.ireturn, 1) := by decide +kernel
theorem dX4_runTimers_0 : decode cX4_runTimers 0 = .ok (.aload_n 0, 1) := by decide +kernel
theorem dX4_runTimers_1 : decode cX4_runTimers 1 = .ok (.getfield 53, 3) := by decide +kernel
theorem dX4_runTimers_4 : decode cX4_runTimers 4 = .ok (.iconst 1, 1) := by decide +kernel
theorem dX4_runTimers_5 : decode cX4_runTimers 5 = .ok (.if_icmp .ne 28, 3) := by decide +kernel
theorem dX4_runTimers_8 : decode cX4_runTimers 8 = .ok (.aload_n 0, 1) := by decide +kernel
theorem dX4_runTimers_9 : decode cX4_runTimers 9 = .ok (.getfield 56, 3) := by decide +kernel
theorem dX4_runTimers_12 : decode cX4_runTimers 12 = .ok (.iconst (-1), 1) := by decide +kernel
theorem dX4_runTimers_13 : decode cX4_runTimers 13 = .ok (.if_icmp .eq 20, 3) := by decide +kernel
theorem dX4_runTimers_16 : decode cX4_runTimers 16 = .ok (.iload_n 1, 1) := by decide +kernel
theorem dX4_runTimers_17 : decode cX4_runTimers 17 = .ok (.aload_n 0, 1) := by decide +kernel
theorem dX4_runTimers_18 : decode cX4_runTimers 18 = .ok (.getfield 56, 3) := by decide +kernel
theorem dX4_runTimers_21 : decode cX4_runTimers 21 = .ok (.isub, 1) := by decide +kernel
theorem dX4_runTimers_22 : decode cX4_runTimers 22 = .ok (.sipush 250, 3) := by decide +kernel
theorem dX4_runTimers_25 : decode cX4_runTimers 25 = .ok (.if_icmp .lt 8, 3) := by decide +kernel
theorem dX4_runTimers_28 : decode cX4_runTimers 28 = .ok (.aload_n 0, 1) := by decide +kernel
theorem dX4_runTimers_29 : decode cX4_runTimers 29 = .ok (.iconst 2, 1) := by decide +kernel
theorem dX4_runTimers_30 : decode cX4_runTimers 30 = .ok (.putfield 53, 3) := by decide +kernel
theorem dX4_runTimers_33 : decode cX4_runTimers 33 = .ok (.aload_n 0, 1) := by decide +kernel
theorem dX4_runTimers_34 : decode cX4_runTimers 34 = .ok (.getfield 21, 3) := by decide +kernel
theorem dX4_runTimers_37 : decode cX4_runTimers 37 = .ok (.getfield 121, 3) := by decide +kernel
theorem dX4_runTimers_40 : decode cX4_runTimers 40 = .ok (.iconst 1, 1) := by decide +kernel
theorem dX4_runTimers_41 : decode cX4_runTimers 41 = .ok (.if_icmp .ne 19, 3) := by decide +kernel
theorem dX4_runTimers_44 : decode cX4_runTimers 44 = .ok (.iload_n 1, 1) := by decide +kernel
theorem dX4_runTimers_45 : decode cX4_runTimers 45 = .ok (.aload_n 0, 1) := by decide +kernel
theorem dX4_runTimers_46 : decode cX4_runTimers 46 = .ok (.getfield 21, 3) := by decide +kernel
theorem dX4_runTimers_49 : decode cX4_runTimers 49 = .ok (.getfield 140, 3) := by decide +kernel
theorem dX4_runTimers_52 : decode cX4_runTimers 52 = .ok (.if_icmp .lt 8, 3) := by decide +kernel
theorem dX4_runTimers_55 : decode cX4_runTimers 55 = .ok (.aload_n 0, 1) := by decide +kernel
theorem dX4_runTimers_56 : decode cX4_runTimers 56 = .ok (.iload_n 1, 1) := by decide +kernel
theorem dX4_runTimers_57 : decode cX4_runTimers 57 = .ok (.invokevirtual 156, 3) := by decide +kernel
theorem dX4_runTimers_60 : decode cX4_runTimers 60 = .ok (.iconst 0, 1) := by decide +kernel
theorem dX4_runTimers_61 : decode cX4_runTimers 61 = .ok (.istore_n 2, 1) := by decide +kernel
theorem dX4_runTimers_62 : decode cX4_runTimers 62 = .ok (.iload_n 2, 1) := by decide +kernel
theorem dX4_runTimers_63 : decode cX4_runTimers 63 = .ok (.aload_n 0, 1) := by decide +kernel
theorem dX4_runTimers_64 : decode cX4_runTimers 64 = .ok (.getfield 41, 3) := by decide +kernel
theorem dX4_runTimers_67 : decode cX4_runTimers 67 = .ok (.invokevirtual 96, 3) := by decide +kernel
theorem dX4_runTimers_70 : decode cX4_runTimers 70 = .ok (.if_icmp .ge 45, 3) := by decide +kernel
theorem dX4_runTimers_73 : decode cX4_runTimers 73 = .ok (.aload_n 0, 1) := by decide +kernel
theorem dX4_runTimers_74 : decode cX4_runTimers 74 = .ok (.getfield 41, 3) := by decide +kernel
theorem dX4_runTimers_77 : decode cX4_runTimers 77 = .ok (.iload_n 2, 1) := by decide +kernel
theorem dX4_runTimers_78 : decode cX4_runTimers 78 = .ok (.invokevirtual 100, 3) := by decide +kernel
theorem dX4_runTimers_81 : decode cX4_runTimers 81 = .ok (.checkcast 32, 3) := by decide +kernel
theorem dX4_runTimers_84 : decode cX4_runTimers 84 = .ok (.astore_n 3, 1) := by decide +kernel
theorem dX4_runTimers_85 : decode cX4_runTimers 85 = .ok (.aload_n 3, 1) := by decide +kernel
theorem dX4_runTimers_86 : decode cX4_runTimers 86 = .ok (.getfield 93, 3) := by decide +kernel
theorem dX4_runTimers_89 : decode cX4_runTimers 89 = .ok (.ifCond .eq 20, 3) := by decide +kernel
theorem dX4_runTimers_92 : decode cX4_runTimers 92 = .ok (.iload_n 1, 1) := by decide +kernel
theorem dX4_runTimers_93 : decode cX4_runTimers 93 = .ok (.aload_n 3, 1) := by decide +kernel
theorem dX4_runTimers_94 : decode cX4_runTimers 94 = .ok (.getfield 153, 3) := by decide +kernel
theorem dX4_runTimers_97 : decode cX4_runTimers 97 = .ok (.isub, 1) := by decide +kernel
theorem dX4_runTimers_98 : decode cX4_runTimers 98 = .ok (.sipush 750, 3) := by decide +kernel
theorem dX4_runTimers_101 : decode cX4_runTimers 101 = .ok (.if_icmp .lt 8, 3) := by decide +kernel
theorem dX4_runTimers_104 : decode cX4_runTimers 104 = .ok (.aload_n 3, 1) := by decide +kernel
theorem dX4_runTimers_105 : decode cX4_runTimers 105 = .ok (.iconst 0, 1) := by decide +kernel
theorem dX4_runTimers_106 : decode cX4_runTimers 106 = .ok (.putfield 93, 3) := by decide +kernel
theorem dX4_runTimers_109 : decode cX4_runTimers 109 = .ok (.iinc 2 1, 3) := by decide +kernel
theorem dX4_runTimers_112 : decode cX4_runTimers 112 = .ok (.goto (-50), 3) := by decide +kernel
theorem dX4_runTimers_115 : decode cX4_runTimers 115 = .ok (.aload_n 0, 1) := by decide +kernel
theorem dX4_runTimers_116 : decode cX4_runTimers 116 = .ok (.getfield 34, 3) := by decide +kernel
theorem dX4_runTimers_119 : decode cX4_runTimers 119 = .ok (.astore_n 2, 1) := by decide +kernel
theorem dX4_runTimers_120 : decode cX4_runTimers 120 = .ok (.aload_n 2, 1) := by decide +kernel
theorem dX4_runTimers_121 : decode cX4_runTimers 121 = .ok (.arraylength, 1) := by decide +kernel
theorem dX4_runTimers_122 : decode cX4_runTimers 122 = .ok (.istore_n 3, 1) := by decide +kernel
theorem dX4_runTimers_123 : decode cX4_runTimers 123 = .ok (.iconst 0, 1) := by decide +kernel
theorem dX4_runTimers_124 : decode cX4_runTimers 124 = .ok (.istore 4, 2) := by decide +kernel
theorem dX4_runTimers_126 : decode cX4_runTimers 126 = .ok (.iload 4, 2) := by decide +kernel
theorem dX4_runTimers_128 : decode cX4_runTimers 128 = .ok (.iload_n 3, 1) := by decide +kernel
theorem dX4_runTimers_129 : decode cX4_runTimers 129 = .ok (.if_icmp .ge 48, 3) := by decide +kernel
theorem dX4_runTimers_132 : decode cX4_runTimers 132 = .ok (.aload_n 2, 1) := by decide +kernel
theorem dX4_runTimers_133 : decode cX4_runTimers 133 = .ok (.iload 4, 2) := by decide +kernel
theorem dX4_runTimers_135 : decode cX4_runTimers 135 = .ok (.aaload, 1) := by decide +kernel
theorem dX4_runTimers_136 : decode cX4_runTimers 136 = .ok (.astore 5, 2) := by decide +kernel
theorem dX4_runTimers_138 : decode cX4_runTimers 138 = .ok (.aload 5, 2) := by decide +kernel
theorem dX4_runTimers_140 : decode cX4_runTimers 140 = .ok (.ifnull 31, 3) := by decide +kernel
theorem dX4_runTimers_143 : decode cX4_runTimers 143 = .ok (.aload 5, 2) := by decide +kernel
theorem dX4_runTimers_145 : decode cX4_runTimers 145 = .ok (.getfield 93, 3) := by decide +kernel
theorem dX4_runTimers_148 : decode cX4_runTimers 148 = .ok (.ifCond .eq 23, 3) := by decide +kernel
theorem dX4_runTimers_151 : decode cX4_runTimers 151 = .ok (.iload_n 1, 1) := by decide +kernel
theorem dX4_runTimers_152 : decode cX4_runTimers 152 = .ok (.aload 5, 2) := by decide +kernel
theorem dX4_runTimers_154 : decode cX4_runTimers 154 = .ok (.getfield 153, 3) := by decide +kernel
theorem dX4_runTimers_157 : decode cX4_runTimers 157 = .ok (.isub, 1) := by decide +kernel
theorem dX4_runTimers_158 : decode cX4_runTimers 158 = .ok (.sipush 1250, 3) := by decide +kernel
theorem dX4_runTimers_161 : decode cX4_runTimers 161 = .ok (.if_icmp .lt 10, 3) := by decide +kernel
theorem dX4_runTimers_164 : decode cX4_runTimers 164 = .ok (.aload_n 0, 1) := by decide +kernel
theorem dX4_runTimers_165 : decode cX4_runTimers 165 = .ok (.aload 5, 2) := by decide +kernel
theorem dX4_runTimers_167 : decode cX4_runTimers 167 = .ok (.iload_n 1, 1) := by decide +kernel
theorem dX4_runTimers_168 : decode cX4_runTimers 168 = .ok (.invokevirtual 160, 3) := by decide +kernel
theorem dX4_runTimers_171 : decode cX4_runTimers 171 = .ok (.iinc 4 1, 3) := by decide +kernel
theorem dX4_runTimers_174 : decode cX4_runTimers 174 = .ok (.goto (-48), 3) := by decide +kernel
theorem dX4_runTimers_177 : decode cX4_runTimers 177 = .ok (.return_, 1) := by decide +kernel
theorem dX4_sendOn_0 : decode cX4_sendOn 0 = .ok (.aload_n 0, 1) := by decide +kernel
theorem dX4_sendOn_1 : decode cX4_sendOn 1 = .ok (.getfield 21, 3) := by decide +kernel
theorem dX4_sendOn_4 : decode cX4_sendOn 4 = .ok (.getfield 122, 3) := by decide +kernel
theorem dX4_sendOn_7 : decode cX4_sendOn 7 = .ok (.astore_n 2, 1) := by decide +kernel
theorem dX4_sendOn_8 : decode cX4_sendOn 8 = .ok (.aload_n 2, 1) := by decide +kernel
theorem dX4_sendOn_9 : decode cX4_sendOn 9 = .ok (.ifnonnull 4, 3) := by decide +kernel
theorem dX4_sendOn_12 : decode cX4_sendOn 12 = .ok (.return_, 1) := by decide +kernel
theorem dX4_sendOn_13 : decode cX4_sendOn 13 = .ok (.aload_n 2, 1) := by decide +kernel
theorem dX4_sendOn_14 : decode cX4_sendOn 14 = .ok (.getfield 133, 3) := by decide +kernel
theorem dX4_sendOn_17 : decode cX4_sendOn 17 = .ok (.sipush 255, 3) := by decide +kernel
theorem dX4_sendOn_20 : decode cX4_sendOn 20 = .ok (.if_icmp .eq 22, 3) := by decide +kernel
theorem dX4_sendOn_23 : decode cX4_sendOn 23 = .ok (.aload_n 0, 1) := by decide +kernel
theorem dX4_sendOn_24 : decode cX4_sendOn 24 = .ok (.aload_n 2, 1) := by decide +kernel
theorem dX4_sendOn_25 : decode cX4_sendOn 25 = .ok (.aload_n 2, 1) := by decide +kernel
theorem dX4_sendOn_26 : decode cX4_sendOn 26 = .ok (.getfield 133, 3) := by decide +kernel
theorem dX4_sendOn_29 : decode cX4_sendOn 29 = .ok (.iconst 3, 1) := by decide +kernel
theorem dX4_sendOn_30 : decode cX4_sendOn 30 = .ok (.invokevirtual 164, 3) := by decide +kernel
theorem dX4_sendOn_33 : decode cX4_sendOn 33 = .ok (.aload_n 0, 1) := by decide +kernel
theorem dX4_sendOn_34 : decode cX4_sendOn 34 = .ok (.getfield 21, 3) := by decide +kernel
theorem dX4_sendOn_37 : decode cX4_sendOn 37 = .ok (.iconst 3, 1) := by decide +kernel
theorem dX4_sendOn_38 : decode cX4_sendOn 38 = .ok (.putfield 121, 3) := by decide +kernel
theorem dX4_sendOn_41 : decode cX4_sendOn 41 = .ok (.return_, 1) := by decide +kernel
theorem dX4_sendOn_42 : decode cX4_sendOn 42 = .ok (.aload_n 0, 1) := by decide +kernel
theorem dX4_sendOn_43 : decode cX4_sendOn 43 = .ok (.getfield 89, 3) := by decide +kernel
theorem dX4_sendOn_46 : decode cX4_sendOn 46 = .ok (.aload_n 2, 1) := by decide +kernel
theorem dX4_sendOn_47 : decode cX4_sendOn 47 = .ok (.sipush 255, 3) := by decide +kernel
theorem dX4_sendOn_50 : decode cX4_sendOn 50 = .ok (.sipush 235, 3) := by decide +kernel
theorem dX4_sendOn_53 : decode cX4_sendOn 53 = .ok (.iconst 1, 1) := by decide +kernel
theorem dX4_sendOn_54 : decode cX4_sendOn 54 = .ok (.aload_n 0, 1) := by decide +kernel
theorem dX4_sendOn_55 : decode cX4_sendOn 55 = .ok (.getfield 21, 3) := by decide +kernel
theorem dX4_sendOn_58 : decode cX4_sendOn 58 = .ok (.getfield 126, 3) := by decide +kernel
theorem dX4_sendOn_61 : decode cX4_sendOn 61 = .ok (.invokevirtual 136, 3) := by decide +kernel
theorem dX4_sendOn_64 : decode cX4_sendOn 64 = .ok (.aload_n 0, 1) := by decide +kernel
theorem dX4_sendOn_65 : decode cX4_sendOn 65 = .ok (.getfield 21, 3) := by decide +kernel
theorem dX4_sendOn_68 : decode cX4_sendOn 68 = .ok (.dup, 1) := by decide +kernel
theorem dX4_sendOn_69 : decode cX4_sendOn 69 = .ok (.getfield 126, 3) := by decide +kernel
theorem dX4_sendOn_72 : decode cX4_sendOn 72 = .ok (.iconst 1, 1) := by decide +kernel
theorem dX4_sendOn_73 : decode cX4_sendOn 73 = .ok (.iadd, 1) := by decide +kernel
theorem dX4_sendOn_74 : decode cX4_sendOn 74 = .ok (.putfield 126, 3) := by decide +kernel
theorem dX4_sendOn_77 : decode cX4_sendOn 77 = .ok (.aload_n 0, 1) := by decide +kernel
theorem dX4_sendOn_78 : decode cX4_sendOn 78 = .ok (.getfield 21, 3) := by decide +kernel
theorem dX4_sendOn_81 : decode cX4_sendOn 81 = .ok (.iload_n 1, 1) := by decide +kernel
theorem dX4_sendOn_82 : decode cX4_sendOn 82 = .ok (.bipush 50, 2) := by decide +kernel
theorem dX4_sendOn_84 : decode cX4_sendOn 84 = .ok (.iadd, 1) := by decide +kernel
theorem dX4_sendOn_85 : decode cX4_sendOn 85 = .ok (.putfield 140, 3) := by decide +kernel
theorem dX4_sendOn_88 : decode cX4_sendOn 88 = .ok (.aload_n 0, 1) := by decide +kernel
theorem dX4_sendOn_89 : decode cX4_sendOn 89 = .ok (.getfield 21, 3) := by decide +kernel
theorem dX4_sendOn_92 : decode cX4_sendOn 92 = .ok (.getfield 126, 3) := by decide +kernel
theorem dX4_sendOn_95 : decode cX4_sendOn 95 = .ok (.aload_n 2, 1) := by decide +kernel
theorem dX4_sendOn_96 : decode cX4_sendOn 96 = .ok (.invokevirtual 168, 3) := by decide +kernel
theorem dX4_sendOn_99 : decode cX4_sendOn 99 = .ok (.if_icmp .le 11, 3) := by decide +kernel
theorem dX4_sendOn_102 : decode cX4_sendOn 102 = .ok (.aload_n 0, 1) := by decide +kernel
theorem dX4_sendOn_103 : decode cX4_sendOn 103 = .ok (.getfield 21, 3) := by decide +kernel
theorem dX4_sendOn_106 : decode cX4_sendOn 106 = .ok (.iconst 2, 1) := by decide +kernel
theorem dX4_sendOn_107 : decode cX4_sendOn 107 = .ok (.putfield 121, 3) := by decide +kernel
theorem dX4_sendOn_110 : decode cX4_sendOn 110 = .ok (.return_, 1) := by decide +kernel
theorem dX4_clearNext_0 : decode cX4_clearNext 0 = .ok (.aload_n 1, 1) := by decide +kernel
theorem dX4_clearNext_1 : decode cX4_clearNext 1 = .ok (.getfield 181, 3) := by decide +kernel
theorem dX4_clearNext_4 : decode cX4_clearNext 4 = .ok (.aload_n 1, 1) := by decide +kernel
theorem dX4_clearNext_5 : decode cX4_clearNext 5 = .ok (.getfield 183, 3) := by decide +kernel
theorem dX4_clearNext_8 : decode cX4_clearNext 8 = .ok (.isub, 1) := by decide +kernel
theorem dX4_clearNext_9 : decode cX4_clearNext 9 = .ok (.iconst 1, 1) := by decide +kernel
theorem dX4_clearNext_10 : decode cX4_clearNext 10 = .ok (.iadd, 1) := by decide +kernel
theorem dX4_clearNext_11 : decode cX4_clearNext 11 = .ok (.istore_n 3, 1) := by decide +kernel
theorem dX4_clearNext_12 : decode cX4_clearNext 12 = .ok (.aload_n 0, 1) := by decide +kernel
theorem dX4_clearNext_13 : decode cX4_clearNext 13 = .ok (.getfield 78, 3) := by decide +kernel
theorem dX4_clearNext_16 : decode cX4_clearNext 16 = .ok (.aload_n 1, 1) := by decide +kernel
theorem dX4_clearNext_17 : decode cX4_clearNext 17 = .ok (.getfield 186, 3) := by decide +kernel
theorem dX4_clearNext_20 : decode cX4_clearNext 20 = .ok (.invokestatic 147, 3) := by decide +kernel
theorem dX4_clearNext_23 : decode cX4_clearNext 23 = .ok (.iload_n 3, 1) := by decide +kernel
theorem dX4_clearNext_24 : decode cX4_clearNext 24 = .ok (.invokestatic 147, 3) := by decide +kernel
theorem dX4_clearNext_27 : decode cX4_clearNext 27 = .ok (.istore 4, 2) := by decide +kernel
theorem dX4_clearNext_29 : decode cX4_clearNext 29 = .ok (.aload_n 1, 1) := by decide +kernel
theorem dX4_clearNext_30 : decode cX4_clearNext 30 = .ok (.aload_n 1, 1) := by decide +kernel
theorem dX4_clearNext_31 : decode cX4_clearNext 31 = .ok (.getfield 183, 3) := by decide +kernel
theorem dX4_clearNext_34 : decode cX4_clearNext 34 = .ok (.iload 4, 2) := by decide +kernel
theorem dX4_clearNext_36 : decode cX4_clearNext 36 = .ok (.iadd, 1) := by decide +kernel
theorem dX4_clearNext_37 : decode cX4_clearNext 37 = .ok (.iconst 1, 1) := by decide +kernel
theorem dX4_clearNext_38 : decode cX4_clearNext 38 = .ok (.isub, 1) := by decide +kernel
theorem dX4_clearNext_39 : decode cX4_clearNext 39 = .ok (.putfield 187, 3) := by decide +kernel
theorem dX4_clearNext_42 : decode cX4_clearNext 42 = .ok (.aload_n 1, 1) := by decide +kernel
theorem dX4_clearNext_43 : decode cX4_clearNext 43 = .ok (.iload_n 2, 1) := by decide +kernel
theorem dX4_clearNext_44 : decode cX4_clearNext 44 = .ok (.putfield 153, 3) := by decide +kernel
theorem dX4_clearNext_47 : decode cX4_clearNext 47 = .ok (.aload_n 0, 1) := by decide +kernel
theorem dX4_clearNext_48 : decode cX4_clearNext 48 = .ok (.getfield 89, 3) := by decide +kernel
theorem dX4_clearNext_51 : decode cX4_clearNext 51 = .ok (.aload_n 1, 1) := by decide +kernel
theorem dX4_clearNext_52 : decode cX4_clearNext 52 = .ok (.getfield 177, 3) := by decide +kernel
theorem dX4_clearNext_55 : decode cX4_clearNext 55 = .ok (.aload_n 1, 1) := by decide +kernel
theorem dX4_clearNext_56 : decode cX4_clearNext 56 = .ok (.getfield 178, 3) := by decide +kernel
theorem dX4_clearNext_59 : decode cX4_clearNext 59 = .ok (.bipush 17, 2) := by decide +kernel
theorem dX4_clearNext_61 : decode cX4_clearNext 61 = .ok (.iload 4, 2) := by decide +kernel
theorem dX4_clearNext_63 : decode cX4_clearNext 63 = .ok (.aload_n 1, 1) := by decide +kernel
theorem dX4_clearNext_64 : decode cX4_clearNext 64 = .ok (.getfield 183, 3) := by decide +kernel
theorem dX4_clearNext_67 : decode cX4_clearNext 67 = .ok (.invokevirtual 136, 3) := by decide +kernel
theorem dX4_clearNext_70 : decode cX4_clearNext 70 = .ok (.return_, 1) := by decide +kernel
theorem dX4_hear_0 : decode cX4_hear 0 = .ok (.aload_n 0, 1) := by decide +kernel
theorem dX4_hear_1 : decode cX4_hear 1 = .ok (.getfield 59, 3) := by decide +kernel
theorem dX4_hear_4 : decode cX4_hear 4 = .ok (.ifCond .le 26, 3) := by decide +kernel
theorem dX4_hear_7 : decode cX4_hear 7 = .ok (.aload_n 0, 1) := by decide +kernel
theorem dX4_hear_8 : decode cX4_hear 8 = .ok (.dup, 1) := by decide +kernel
theorem dX4_hear_9 : decode cX4_hear 9 = .ok (.getfield 59, 3) := by decide +kernel
theorem dX4_hear_12 : decode cX4_hear 12 = .ok (.iconst 1, 1) := by decide +kernel
theorem dX4_hear_13 : decode cX4_hear 13 = .ok (.isub, 1) := by decide +kernel
theorem dX4_hear_14 : decode cX4_hear 14 = .ok (.putfield 59, 3) := by decide +kernel
theorem dX4_hear_17 : decode cX4_hear 17 = .ok (.aload_n 0, 1) := by decide +kernel
theorem dX4_hear_18 : decode cX4_hear 18 = .ok (.dup, 1) := by decide +kernel
theorem dX4_hear_19 : decode cX4_hear 19 = .ok (.getfield 62, 3) := by decide +kernel
theorem dX4_hear_22 : decode cX4_hear 22 = .ok (.iconst 1, 1) := by decide +kernel
theorem dX4_hear_23 : decode cX4_hear 23 = .ok (.iadd, 1) := by decide +kernel
theorem dX4_hear_24 : decode cX4_hear 24 = .ok (.putfield 62, 3) := by decide +kernel
theorem dX4_hear_27 : decode cX4_hear 27 = .ok (.goto 125, 3) := by decide +kernel
theorem dX4_hear_30 : decode cX4_hear 30 = .ok (.aload_n 1, 1) := by decide +kernel
theorem dX4_hear_31 : decode cX4_hear 31 = .ok (.sipush 238, 3) := by decide +kernel
theorem dX4_hear_34 : decode cX4_hear 34 = .ok (.invokevirtual 190, 3) := by decide +kernel
theorem dX4_hear_37 : decode cX4_hear 37 = .ok (.ifCond .eq 12, 3) := by decide +kernel
theorem dX4_hear_40 : decode cX4_hear 40 = .ok (.aload_n 0, 1) := by decide +kernel
theorem dX4_hear_41 : decode cX4_hear 41 = .ok (.aload_n 1, 1) := by decide +kernel
theorem dX4_hear_42 : decode cX4_hear 42 = .ok (.iload_n 2, 1) := by decide +kernel
theorem dX4_hear_43 : decode cX4_hear 43 = .ok (.invokevirtual 196, 3) := by decide +kernel
theorem dX4_hear_46 : decode cX4_hear 46 = .ok (.goto 106, 3) := by decide +kernel
theorem dX4_hear_49 : decode cX4_hear 49 = .ok (.aload_n 1, 1) := by decide +kernel
theorem dX4_hear_50 : decode cX4_hear 50 = .ok (.aload_n 0, 1) := by decide +kernel
theorem dX4_hear_51 : decode cX4_hear 51 = .ok (.getfield 81, 3) := by decide +kernel
theorem dX4_hear_54 : decode cX4_hear 54 = .ok (.invokevirtual 200, 3) := by decide +kernel
theorem dX4_hear_57 : decode cX4_hear 57 = .ok (.ifCond .ne 4, 3) := by decide +kernel
theorem dX4_hear_60 : decode cX4_hear 60 = .ok (.return_, 1) := by decide +kernel
theorem dX4_hear_61 : decode cX4_hear 61 = .ok (.aload_n 1, 1) := by decide +kernel
theorem dX4_hear_62 : decode cX4_hear 62 = .ok (.sipush 234, 3) := by decide +kernel
theorem dX4_hear_65 : decode cX4_hear 65 = .ok (.invokevirtual 190, 3) := by decide +kernel
theorem dX4_hear_68 : decode cX4_hear 68 = .ok (.ifCond .eq 13, 3) := by decide +kernel
theorem dX4_hear_71 : decode cX4_hear 71 = .ok (.aload_n 0, 1) := by decide +kernel
theorem dX4_hear_72 : decode cX4_hear 72 = .ok (.getfield 89, 3) := by decide +kernel
theorem dX4_hear_75 : decode cX4_hear 75 = .ok (.invokevirtual 108, 3) := by decide +kernel
theorem dX4_hear_78 : decode cX4_hear 78 = .ok (.goto 74, 3) := by decide +kernel
theorem dX4_hear_81 : decode cX4_hear 81 = .ok (.aload_n 0, 1) := by decide +kernel
theorem dX4_hear_82 : decode cX4_hear 82 = .ok (.getfield 53, 3) := by decide +kernel
theorem dX4_hear_85 : decode cX4_hear 85 = .ok (.iconst 2, 1) := by decide +kernel
theorem dX4_hear_86 : decode cX4_hear 86 = .ok (.if_icmp .eq 4, 3) := by decide +kernel
theorem dX4_hear_89 : decode cX4_hear 89 = .ok (.return_, 1) := by decide +kernel
theorem dX4_hear_90 : decode cX4_hear 90 = .ok (.aload_n 1, 1) := by decide +kernel
theorem dX4_hear_91 : decode cX4_hear 91 = .ok (.sipush 236, 3) := by decide +kernel
theorem dX4_hear_94 : decode cX4_hear 94 = .ok (.invokevirtual 190, 3) := by decide +kernel
theorem dX4_hear_97 : decode cX4_hear 97 = .ok (.ifCond .eq 12, 3) := by decide +kernel
theorem dX4_hear_100 : decode cX4_hear 100 = .ok (.aload_n 0, 1) := by decide +kernel
theorem dX4_hear_101 : decode cX4_hear 101 = .ok (.aload_n 1, 1) := by decide +kernel
theorem dX4_hear_102 : decode cX4_hear 102 = .ok (.iload_n 3, 1) := by decide +kernel
theorem dX4_hear_103 : decode cX4_hear 103 = .ok (.invokevirtual 203, 3) := by decide +kernel
theorem dX4_hear_106 : decode cX4_hear 106 = .ok (.goto 46, 3) := by decide +kernel
theorem dX4_hear_109 : decode cX4_hear 109 = .ok (.aload_n 1, 1) := by decide +kernel
theorem dX4_hear_110 : decode cX4_hear 110 = .ok (.sipush 235, 3) := by decide +kernel
theorem dX4_hear_113 : decode cX4_hear 113 = .ok (.invokevirtual 190, 3) := by decide +kernel
theorem dX4_hear_116 : decode cX4_hear 116 = .ok (.ifCond .ne 14, 3) := by decide +kernel
theorem dX4_hear_119 : decode cX4_hear 119 = .ok (.aload_n 0, 1) := by decide +kernel
theorem dX4_hear_120 : decode cX4_hear 120 = .ok (.getfield 28, 3) := by decide +kernel
theorem dX4_hear_123 : decode cX4_hear 123 = .ok (.aload_n 1, 1) := by decide +kernel
theorem dX4_hear_124 : decode cX4_hear 124 = .ok (.invokevirtual 206, 3) := by decide +kernel
theorem dX4_hear_127 : decode cX4_hear 127 = .ok (.goto 25, 3) := by decide +kernel
theorem dX4_hear_130 : decode cX4_hear 130 = .ok (.aload_n 1, 1) := by decide +kernel
theorem dX4_hear_131 : decode cX4_hear 131 = .ok (.invokevirtual 210, 3) := by decide +kernel
theorem dX4_hear_134 : decode cX4_hear 134 = .ok (.ifCond .eq 12, 3) := by decide +kernel
theorem dX4_hear_137 : decode cX4_hear 137 = .ok (.aload_n 0, 1) := by decide +kernel
theorem dX4_hear_138 : decode cX4_hear 138 = .ok (.aload_n 1, 1) := by decide +kernel
theorem dX4_hear_139 : decode cX4_hear 139 = .ok (.iload_n 3, 1) := by decide +kernel
theorem dX4_hear_140 : decode cX4_hear 140 = .ok (.invokevirtual 214, 3) := by decide +kernel
theorem dX4_hear_143 : decode cX4_hear 143 = .ok (.goto 9, 3) := by decide +kernel
theorem dX4_hear_146 : decode cX4_hear 146 = .ok (.aload_n 0, 1) := by decide +kernel
theorem dX4_hear_147 : decode cX4_hear 147 = .ok (.aload_n 1, 1) := by decide +kernel
theorem dX4_hear_148 : decode cX4_hear 148 = .ok (.iload_n 3, 1) := by decide +kernel
theorem dX4_hear_149 : decode cX4_hear 149 = .ok (.invokevirtual 217, 3) := by decide +kernel
theorem dX4_hear_152 : decode cX4_hear 152 = .ok (.return_, 1) := by decide +kernel
theorem dX4_hearClaim_0 : decode cX4_hearClaim 0 = .ok (.aload_n 0, 1) := by decide +kernel
theorem dX4_hearClaim_1 : decode cX4_hearClaim 1 = .ok (.getfield 12, 3) := by decide +kernel
theorem dX4_hearClaim_4 : decode cX4_hearClaim 4 = .ok (.iload_n 2, 1) := by decide +kernel
theorem dX4_hearClaim_5 : decode cX4_hearClaim 5 = .ok (.aload_n 1, 1) := by decide +kernel
theorem dX4_hearClaim_6 : decode cX4_hearClaim 6 = .ok (.invokevirtual 220, 3) := by decide +kernel
theorem dX4_hearClaim_9 : decode cX4_hearClaim 9 = .ok (.invokevirtual 222, 3) := by decide +kernel
theorem dX4_hearClaim_12 : decode cX4_hearClaim 12 = .ok (.aload_n 0, 1) := by decide +kernel
theorem dX4_hearClaim_13 : decode cX4_hearClaim 13 = .ok (.getfield 53, 3) := by decide +kernel
theorem dX4_hearClaim_16 : decode cX4_hearClaim 16 = .ok (.iconst 1, 1) := by decide +kernel
theorem dX4_hearClaim_17 : decode cX4_hearClaim 17 = .ok (.if_icmp .eq 11, 3) := by decide +kernel
theorem dX4_hearClaim_20 : decode cX4_hearClaim 20 = .ok (.aload_n 0, 1) := by decide +kernel
theorem dX4_hearClaim_21 : decode cX4_hearClaim 21 = .ok (.getfield 53, 3) := by decide +kernel
theorem dX4_hearClaim_24 : decode cX4_hearClaim 24 = .ok (.iconst 2, 1) := by decide +kernel
theorem dX4_hearClaim_25 : decode cX4_hearClaim 25 = .ok (.if_icmp .ne 7, 3) := by decide +kernel
theorem dX4_hearClaim_28 : decode cX4_hearClaim 28 = .ok (.iconst 1, 1) := by decide +kernel
theorem dX4_hearClaim_29 : decode cX4_hearClaim 29 = .ok (.goto 4, 3) := by decide +kernel
theorem dX4_hearClaim_32 : decode cX4_hearClaim 32 = .ok (.iconst 0, 1) := by decide +kernel
theorem dX4_hearClaim_33 : decode cX4_hearClaim 33 = .ok (.istore_n 3, 1) := by decide +kernel
theorem dX4_hearClaim_34 : decode cX4_hearClaim 34 = .ok (.iload_n 3, 1) := by decide +kernel
theorem dX4_hearClaim_35 : decode cX4_hearClaim 35 = .ok (.ifCond .eq 14, 3) := by decide +kernel
theorem dX4_hearClaim_38 : decode cX4_hearClaim 38 = .ok (.aload_n 1, 1) := by decide +kernel
theorem dX4_hearClaim_39 : decode cX4_hearClaim 39 = .ok (.invokevirtual 220, 3) := by decide +kernel
theorem dX4_hearClaim_42 : decode cX4_hearClaim 42 = .ok (.aload_n 0, 1) := by decide +kernel
theorem dX4_hearClaim_43 : decode cX4_hearClaim 43 = .ok (.getfield 81, 3) := by decide +kernel
theorem dX4_hearClaim_46 : decode cX4_hearClaim 46 = .ok (.if_icmp .eq 4, 3) := by decide +kernel
theorem dX4_hearClaim_49 : decode cX4_hearClaim 49 = .ok (.return_, 1) := by decide +kernel
theorem dX4_hearClaim_50 : decode cX4_hearClaim 50 = .ok (.aload_n 0, 1) := by decide +kernel
theorem dX4_hearClaim_51 : decode cX4_hearClaim 51 = .ok (.aload_n 1, 1) := by decide +kernel
theorem dX4_hearClaim_52 : decode cX4_hearClaim 52 = .ok (.getfield 226, 3) := by decide +kernel
theorem dX4_hearClaim_55 : decode cX4_hearClaim 55 = .ok (.aload_n 1, 1) := by decide +kernel
theorem dX4_hearClaim_56 : decode cX4_hearClaim 56 = .ok (.getfield 229, 3) := by decide +kernel
theorem dX4_hearClaim_59 : decode cX4_hearClaim 59 = .ok (.invokevirtual 232, 3) := by decide +kernel
theorem dX4_hearClaim_62 : decode cX4_hearClaim 62 = .ok (.ifCond .eq 11, 3) := by decide +kernel
theorem dX4_hearClaim_65 : decode cX4_hearClaim 65 = .ok (.aload_n 0, 1) := by decide +kernel
theorem dX4_hearClaim_66 : decode cX4_hearClaim 66 = .ok (.getfield 89, 3) := by decide +kernel
theorem dX4_hearClaim_69 : decode cX4_hearClaim 69 = .ok (.invokevirtual 108, 3) := by decide +kernel
theorem dX4_hearClaim_72 : decode cX4_hearClaim 72 = .ok (.return_, 1) := by decide +kernel
theorem dX4_hearClaim_73 : decode cX4_hearClaim 73 = .ok (.aload_n 0, 1) := by decide +kernel
theorem dX4_hearClaim_74 : decode cX4_hearClaim 74 = .ok (.invokevirtual 111, 3) := by decide +kernel
theorem dX4_hearClaim_77 : decode cX4_hearClaim 77 = .ok (.aload_n 0, 1) := by decide +kernel
theorem dX4_hearClaim_78 : decode cX4_hearClaim 78 = .ok (.getfield 74, 3) := by decide +kernel
theorem dX4_hearClaim_81 : decode cX4_hearClaim 81 = .ok (.ifCond .eq 10, 3) := by decide +kernel
theorem dX4_hearClaim_84 : decode cX4_hearClaim 84 = .ok (.aload_n 0, 1) := by decide +kernel
theorem dX4_hearClaim_85 : decode cX4_hearClaim 85 = .ok (.invokevirtual 236, 3) := by decide +kernel
theorem dX4_hearClaim_88 : decode cX4_hearClaim 88 = .ok (.goto 6, 3) := by decide +kernel
theorem dX4_hearClaim_91 : decode cX4_hearClaim 91 = .ok (.sipush 254, 3) := by decide +kernel
theorem dX4_hearClaim_94 : decode cX4_hearClaim 94 = .ok (.istore 4, 2) := by decide +kernel
theorem dX4_hearClaim_96 : decode cX4_hearClaim 96 = .ok (.iload 4, 2) := by decide +kernel
theorem dX4_hearClaim_98 : decode cX4_hearClaim 98 = .ok (.sipush 254, 3) := by decide +kernel
theorem dX4_hearClaim_101 : decode cX4_hearClaim 101 = .ok (.if_icmp .ne 25, 3) := by decide +kernel
theorem dX4_hearClaim_104 : decode cX4_hearClaim 104 = .ok (.aload_n 0, 1) := by decide +kernel
theorem dX4_hearClaim_105 : decode cX4_hearClaim 105 = .ok (.iconst 3, 1) := by decide +kernel
theorem dX4_hearClaim_106 : decode cX4_hearClaim 106 = .ok (.putfield 53, 3) := by decide +kernel
theorem dX4_hearClaim_109 : decode cX4_hearClaim 109 = .ok (.aload_n 0, 1) := by decide +kernel
theorem dX4_hearClaim_110 : decode cX4_hearClaim 110 = .ok (.sipush 254, 3) := by decide +kernel
theorem dX4_hearClaim_113 : decode cX4_hearClaim 113 = .ok (.putfield 81, 3) := by decide +kernel
theorem dX4_hearClaim_116 : decode cX4_hearClaim 116 = .ok (.aload_n 0, 1) := by decide +kernel
theorem dX4_hearClaim_117 : decode cX4_hearClaim 117 = .ok (.getfield 89, 3) := by decide +kernel
theorem dX4_hearClaim_120 : decode cX4_hearClaim 120 = .ok (.invokevirtual 108, 3) := by decide +kernel
theorem dX4_hearClaim_123 : decode cX4_hearClaim 123 = .ok (.goto 9, 3) := by decide +kernel
theorem dX4_hearClaim_126 : decode cX4_hearClaim 126 = .ok (.aload_n 0, 1) := by decide +kernel
theorem dX4_hearClaim_127 : decode cX4_hearClaim 127 = .ok (.iload 4, 2) := by decide +kernel
theorem dX4_hearClaim_129 : decode cX4_hearClaim 129 = .ok (.invokevirtual 239, 3) := by decide +kernel
theorem dX4_hearClaim_132 : decode cX4_hearClaim 132 = .ok (.return_, 1) := by decide +kernel
theorem dX4_goesBeforeName_0 : decode cX4_goesBeforeName 0 = .ok (.aload_n 0, 1) := by decide +kernel
theorem dX4_goesBeforeName_1 : decode cX4_goesBeforeName 1 = .ok (.getfield 65, 3) := by decide +kernel
theorem dX4_goesBeforeName_4 : decode cX4_goesBeforeName 4 = .ok (.iload_n 1, 1) := by decide +kernel
theorem dX4_goesBeforeName_5 : decode cX4_goesBeforeName 5 = .ok (.if_icmp .eq 14, 3) := by decide +kernel
theorem dX4_goesBeforeName_8 : decode cX4_goesBeforeName 8 = .ok (.aload_n 0, 1) := by decide +kernel
theorem dX4_goesBeforeName_9 : decode cX4_goesBeforeName 9 = .ok (.getfield 65, 3) := by decide +kernel
theorem dX4_goesBeforeName_12 : decode cX4_goesBeforeName 12 = .ok (.iload_n 1, 1) := by decide +kernel
theorem dX4_goesBeforeName_13 : decode cX4_goesBeforeName 13 = .ok (.invokestatic 242, 3) := by decide +kernel
theorem dX4_goesBeforeName_16 : decode cX4_goesBeforeName 16 = .ok (.goto 11, 3) := by decide +kernel
theorem dX4_goesBeforeName_19 : decode cX4_goesBeforeName 19 = .ok (.aload_n 0, 1) := by decide +kernel
theorem dX4_goesBeforeName_20 : decode cX4_goesBeforeName 20 = .ok (.getfield 68, 3) := by decide +kernel
theorem dX4_goesBeforeName_23 : decode cX4_goesBeforeName 23 = .ok (.iload_n 2, 1) := by decide +kernel
theorem dX4_goesBeforeName_24 : decode cX4_goesBeforeName 24 = .ok (.invokestatic 242, 3) := by decide +kernel
theorem dX4_goesBeforeName_27 : decode cX4_goesBeforeName 27 = .ok (.ireturn, 1) := by decide +kernel
theorem dX4_hearControl_0 : decode cX4_hearControl 0 = .ok (.aload_n 1, 1) := by decide +kernel
theorem dX4_hearControl_1 : decode cX4_hearControl 1 = .ok (.invokevirtual 220, 3) := by decide +kernel
theorem dX4_hearControl_4 : decode cX4_hearControl 4 = .ok (.istore_n 3, 1) := by decide +kernel
theorem dX4_hearControl_5 : decode cX4_hearControl 5 = .ok (.aload_n 1, 1) := by decide +kernel
theorem dX4_hearControl_6 : decode cX4_hearControl 6 = .ok (.invokevirtual 249, 3) := by decide +kernel
theorem dX4_hearControl_9 : decode cX4_hearControl 9 = .ok (.istore 4, 2) := by decide +kernel
theorem dX4_hearControl_11 : decode cX4_hearControl 11 = .ok (.aload_n 0, 1) := by decide +kernel
theorem dX4_hearControl_12 : decode cX4_hearControl 12 = .ok (.getfield 21, 3) := by decide +kernel
theorem dX4_hearControl_15 : decode cX4_hearControl 15 = .ok (.iload_n 3, 1) := by decide +kernel
theorem dX4_hearControl_16 : decode cX4_hearControl 16 = .ok (.iload 4, 2) := by decide +kernel
theorem dX4_hearControl_18 : decode cX4_hearControl 18 = .ok (.invokevirtual 252, 3) := by decide +kernel
theorem dX4_hearControl_21 : decode cX4_hearControl 21 = .ok (.istore 5, 2) := by decide +kernel
theorem dX4_hearControl_23 : decode cX4_hearControl 23 = .ok (.aload_n 1, 1) := by decide +kernel
theorem dX4_hearControl_24 : decode cX4_hearControl 24 = .ok (.iconst 0, 1) := by decide +kernel
theorem dX4_hearControl_25 : decode cX4_hearControl 25 = .ok (.invokevirtual 255, 3) := by decide +kernel
theorem dX4_hearControl_28 : decode cX4_hearControl 28 = .ok (.lookupswitch 165 #[(16, 52), (17, 103), (19, 126), (32, 94), (255, 142)], 52) := by decide +kernel
theorem dX4_hearControl_80 : decode cX4_hearControl 80 = .ok (.aload_n 0, 1) := by decide +kernel
theorem dX4_hearControl_81 : decode cX4_hearControl 81 = .ok (.iload_n 3, 1) := by decide +kernel
theorem dX4_hearControl_82 : decode cX4_hearControl 82 = .ok (.invokevirtual 258, 3) := by decide +kernel
theorem dX4_hearControl_85 : decode cX4_hearControl 85 = .ok (.astore 6, 2) := by decide +kernel
theorem dX4_hearControl_87 : decode cX4_hearControl 87 = .ok (.aload 6, 2) := by decide +kernel
theorem dX4_hearControl_89 : decode cX4_hearControl 89 = .ok (.ifnonnull 16, 3) := by decide +kernel
theorem dX4_hearControl_92 : decode cX4_hearControl 92 = .ok (.aload_n 0, 1) := by decide +kernel
theorem dX4_hearControl_93 : decode cX4_hearControl 93 = .ok (.aload_n 1, 1) := by decide +kernel
theorem dX4_hearControl_94 : decode cX4_hearControl 94 = .ok (.getfield 262, 3) := by decide +kernel
theorem dX4_hearControl_97 : decode cX4_hearControl 97 = .ok (.iload_n 3, 1) := by decide +kernel
theorem dX4_hearControl_98 : decode cX4_hearControl 98 = .ok (.iconst 2, 1) := by decide +kernel
theorem dX4_hearControl_99 : decode cX4_hearControl 99 = .ok (.invokevirtual 164, 3) := by decide +kernel
theorem dX4_hearControl_102 : decode cX4_hearControl 102 = .ok (.goto 91, 3) := by decide +kernel
theorem dX4_hearControl_105 : decode cX4_hearControl 105 = .ok (.aload 6, 2) := by decide +kernel
theorem dX4_hearControl_107 : decode cX4_hearControl 107 = .ok (.aload_n 1, 1) := by decide +kernel
theorem dX4_hearControl_108 : decode cX4_hearControl 108 = .ok (.iload_n 2, 1) := by decide +kernel
theorem dX4_hearControl_109 : decode cX4_hearControl 109 = .ok (.invokevirtual 263, 3) := by decide +kernel
theorem dX4_hearControl_112 : decode cX4_hearControl 112 = .ok (.aload_n 0, 1) := by decide +kernel
theorem dX4_hearControl_113 : decode cX4_hearControl 113 = .ok (.aload 6, 2) := by decide +kernel
theorem dX4_hearControl_115 : decode cX4_hearControl 115 = .ok (.iload_n 2, 1) := by decide +kernel
theorem dX4_hearControl_116 : decode cX4_hearControl 116 = .ok (.invokevirtual 174, 3) := by decide +kernel
theorem dX4_hearControl_119 : decode cX4_hearControl 119 = .ok (.goto 74, 3) := by decide +kernel
theorem dX4_hearControl_122 : decode cX4_hearControl 122 = .ok (.aload_n 0, 1) := by decide +kernel
theorem dX4_hearControl_123 : decode cX4_hearControl 123 = .ok (.aload_n 1, 1) := by decide +kernel
theorem dX4_hearControl_124 : decode cX4_hearControl 124 = .ok (.iload_n 2, 1) := by decide +kernel
theorem dX4_hearControl_125 : decode cX4_hearControl 125 = .ok (.invokevirtual 266, 3) := by decide +kernel
theorem dX4_hearControl_128 : decode cX4_hearControl 128 = .ok (.goto 65, 3) := by decide +kernel
theorem dX4_hearControl_131 : decode cX4_hearControl 131 = .ok (.iload 5, 2) := by decide +kernel
theorem dX4_hearControl_133 : decode cX4_hearControl 133 = .ok (.ifCond .eq 60, 3) := by decide +kernel
theorem dX4_hearControl_136 : decode cX4_hearControl 136 = .ok (.aload_n 0, 1) := by decide +kernel
