theorem dX10_send_0 : decode cX10_send 0 = .ok (.aload_n 0, 1) := by decide +kernel
theorem dX10_send_1 : decode cX10_send 1 = .ok (.iload_n 1, 1) := by decide +kernel
theorem dX10_send_2 : decode cX10_send 2 = .ok (.invokevirtual 53, 3) := by decide +kernel
theorem dX10_send_5 : decode cX10_send 5 = .ok (.astore 6, 2) := by decide +kernel
theorem dX10_send_7 : decode cX10_send 7 = .ok (.aload 6, 2) := by decide +kernel
theorem dX10_send_9 : decode cX10_send 9 = .ok (.ifnull 21, 3) := by decide +kernel
theorem dX10_send_12 : decode cX10_send 12 = .ok (.aload 6, 2) := by decide +kernel
theorem dX10_send_14 : decode cX10_send 14 = .ok (.invokevirtual 84, 3) := by decide +kernel
theorem dX10_send_17 : decode cX10_send 17 = .ok (.ifCond .eq 13, 3) := by decide +kernel
theorem dX10_send_20 : decode cX10_send 20 = .ok (.iload_n 2, 1) := by decide +kernel
theorem dX10_send_21 : decode cX10_send 21 = .ok (.iload_n 3, 1) := by decide +kernel
theorem dX10_send_22 : decode cX10_send 22 = .ok (.iload 4, 2) := by decide +kernel
theorem dX10_send_24 : decode cX10_send 24 = .ok (.invokestatic 88, 3) := by decide +kernel
theorem dX10_send_27 : decode cX10_send 27 = .ok (.ifCond .ne 5, 3) := by decide +kernel
theorem dX10_send_30 : decode cX10_send 30 = .ok (.iconst 0, 1) := by decide +kernel
theorem dX10_send_31 : decode cX10_send 31 = .ok (.ireturn, 1) := by decide +kernel
theorem dX10_send_32 : decode cX10_send 32 = .ok (.aload 6, 2) := by decide +kernel
theorem dX10_send_34 : decode cX10_send 34 = .ok (.aload_n 0, 1) := by decide +kernel
theorem dX10_send_35 : decode cX10_send 35 = .ok (.getfield 18, 3) := by decide +kernel
theorem dX10_send_38 : decode cX10_send 38 = .ok (.iload_n 2, 1) := by decide +kernel
theorem dX10_send_39 : decode cX10_send 39 = .ok (.iload_n 3, 1) := by decide +kernel
theorem dX10_send_40 : decode cX10_send 40 = .ok (.iload 4, 2) := by decide +kernel
theorem dX10_send_42 : decode cX10_send 42 = .ok (.iload 5, 2) := by decide +kernel
theorem dX10_send_44 : decode cX10_send 44 = .ok (.invokevirtual 92, 3) := by decide +kernel
theorem dX10_send_47 : decode cX10_send 47 = .ok (.aload_n 0, 1) := by decide +kernel
theorem dX10_send_48 : decode cX10_send 48 = .ok (.getfield 33, 3) := by decide +kernel
theorem dX10_send_51 : decode cX10_send 51 = .ok (.invokevirtual 96, 3) := by decide +kernel
theorem dX10_send_54 : decode cX10_send 54 = .ok (.iconst 1, 1) := by decide +kernel
theorem dX10_send_55 : decode cX10_send 55 = .ok (.ireturn, 1) := by decide +kernel
theorem dX10_pass_0 : decode cX10_pass 0 = .ok (.iload_n 1, 1) := by decide +kernel
theorem dX10_pass_1 : decode cX10_pass 1 = .ok (.iconst 1, 1) := by decide +kernel
theorem dX10_pass_2 : decode cX10_pass 2 = .ok (.if_icmp .lt 10, 3) := by decide +kernel
theorem dX10_pass_5 : decode cX10_pass 5 = .ok (.iload_n 1, 1) := by decide +kernel
theorem dX10_pass_6 : decode cX10_pass 6 = .ok (.sipush 5000, 3) := by decide +kernel
theorem dX10_pass_9 : decode cX10_pass 9 = .ok (.if_icmp .le 5, 3) := by decide +kernel
theorem dX10_pass_12 : decode cX10_pass 12 = .ok (.iconst (-1), 1) := by decide +kernel
theorem dX10_pass_13 : decode cX10_pass 13 = .ok (.ireturn, 1) := by decide +kernel
theorem dX10_pass_14 : decode cX10_pass 14 = .ok (.aload_n 0, 1) := by decide +kernel
theorem dX10_pass_15 : decode cX10_pass 15 = .ok (.getfield 33, 3) := by decide +kernel
theorem dX10_pass_18 : decode cX10_pass 18 = .ok (.iload_n 1, 1) := by decide +kernel
theorem dX10_pass_19 : decode cX10_pass 19 = .ok (.iadd, 1) := by decide +kernel
theorem dX10_pass_20 : decode cX10_pass 20 = .ok (.istore_n 2, 1) := by decide +kernel
theorem dX10_pass_21 : decode cX10_pass 21 = .ok (.iconst 0, 1) := by decide +kernel
theorem dX10_pass_22 : decode cX10_pass 22 = .ok (.istore_n 3, 1) := by decide +kernel
theorem dX10_pass_23 : decode cX10_pass 23 = .ok (.iload_n 3, 1) := by decide +kernel
theorem dX10_pass_24 : decode cX10_pass 24 = .ok (.iload_n 1, 1) := by decide +kernel
theorem dX10_pass_25 : decode cX10_pass 25 = .ok (.if_icmp .ge 34, 3) := by decide +kernel
theorem dX10_pass_28 : decode cX10_pass 28 = .ok (.aload_n 0, 1) := by decide +kernel
theorem dX10_pass_29 : decode cX10_pass 29 = .ok (.getfield 33, 3) := by decide +kernel
theorem dX10_pass_32 : decode cX10_pass 32 = .ok (.iload_n 2, 1) := by decide +kernel
theorem dX10_pass_33 : decode cX10_pass 33 = .ok (.if_icmp .ge 26, 3) := by decide +kernel
theorem dX10_pass_36 : decode cX10_pass 36 = .ok (.aload_n 0, 1) := by decide +kernel
theorem dX10_pass_37 : decode cX10_pass 37 = .ok (.aload_n 0, 1) := by decide +kernel
theorem dX10_pass_38 : decode cX10_pass 38 = .ok (.iload_n 2, 1) := by decide +kernel
theorem dX10_pass_39 : decode cX10_pass 39 = .ok (.invokevirtual 116, 3) := by decide +kernel
theorem dX10_pass_42 : decode cX10_pass 42 = .ok (.putfield 33, 3) := by decide +kernel
theorem dX10_pass_45 : decode cX10_pass 45 = .ok (.aload_n 0, 1) := by decide +kernel
theorem dX10_pass_46 : decode cX10_pass 46 = .ok (.invokevirtual 120, 3) := by decide +kernel
theorem dX10_pass_49 : decode cX10_pass 49 = .ok (.aload_n 0, 1) := by decide +kernel
theorem dX10_pass_50 : decode cX10_pass 50 = .ok (.invokevirtual 123, 3) := by decide +kernel
theorem dX10_pass_53 : decode cX10_pass 53 = .ok (.iinc 3 1, 3) := by decide +kernel
theorem dX10_pass_56 : decode cX10_pass 56 = .ok (.goto (-33), 3) := by decide +kernel
theorem dX10_pass_59 : decode cX10_pass 59 = .ok (.aload_n 0, 1) := by decide +kernel
theorem dX10_pass_60 : decode cX10_pass 60 = .ok (.getfield 33, 3) := by decide +kernel
theorem dX10_pass_63 : decode cX10_pass 63 = .ok (.ireturn, 1) := by decide +kernel
theorem dX10_told_0 : decode cX10_told 0 = .ok (.aload_n 0, 1) := by decide +kernel
theorem dX10_told_1 : decode cX10_told 1 = .ok (.iload_n 1, 1) := by decide +kernel
theorem dX10_told_2 : decode cX10_told 2 = .ok (.invokevirtual 53, 3) := by decide +kernel
theorem dX10_told_5 : decode cX10_told 5 = .ok (.astore_n 3, 1) := by decide +kernel
theorem dX10_told_6 : decode cX10_told 6 = .ok (.aload_n 3, 1) := by decide +kernel
theorem dX10_told_7 : decode cX10_told 7 = .ok (.ifnonnull 5, 3) := by decide +kernel
theorem dX10_told_10 : decode cX10_told 10 = .ok (.iconst (-1), 1) := by decide +kernel
theorem dX10_told_11 : decode cX10_told 11 = .ok (.ireturn, 1) := by decide +kernel
theorem dX10_told_12 : decode cX10_told 12 = .ok (.iload_n 2, 1) := by decide +kernel
theorem dX10_told_13 : decode cX10_told 13 = .ok (.tableswitch 87 0 6 #[43, 48, 53, 61, 69, 77, 82], 43) := by decide +kernel
theorem dX10_told_56 : decode cX10_told 56 = .ok (.aload_n 3, 1) := by decide +kernel
theorem dX10_told_57 : decode cX10_told 57 = .ok (.getfield 57, 3) := by decide +kernel
theorem dX10_told_60 : decode cX10_told 60 = .ok (.ireturn, 1) := by decide +kernel
theorem dX10_told_61 : decode cX10_told 61 = .ok (.aload_n 3, 1) := by decide +kernel
theorem dX10_told_62 : decode cX10_told 62 = .ok (.getfield 126, 3) := by decide +kernel
theorem dX10_told_65 : decode cX10_told 65 = .ok (.ireturn, 1) := by decide +kernel
theorem dX10_told_66 : decode cX10_told 66 = .ok (.aload_n 3, 1) := by decide +kernel
theorem dX10_told_67 : decode cX10_told 67 = .ok (.getfield 74, 3) := by decide +kernel
theorem dX10_told_70 : decode cX10_told 70 = .ok (.invokevirtual 129, 3) := by decide +kernel
theorem dX10_told_73 : decode cX10_told 73 = .ok (.ireturn, 1) := by decide +kernel
theorem dX10_told_74 : decode cX10_told 74 = .ok (.aload_n 3, 1) := by decide +kernel
theorem dX10_told_75 : decode cX10_told 75 = .ok (.getfield 133, 3) := by decide +kernel
theorem dX10_told_78 : decode cX10_told 78 = .ok (.getfield 137, 3) := by decide +kernel
theorem dX10_told_81 : decode cX10_told 81 = .ok (.ireturn, 1) := by decide +kernel
theorem dX10_told_82 : decode cX10_told 82 = .ok (.aload_n 3, 1) := by decide +kernel
theorem dX10_told_83 : decode cX10_told 83 = .ok (.getfield 140, 3) := by decide +kernel
theorem dX10_told_86 : decode cX10_told 86 = .ok (.getfield 144, 3) := by decide +kernel
theorem dX10_told_89 : decode cX10_told 89 = .ok (.ireturn, 1) := by decide +kernel
theorem dX10_told_90 : decode cX10_told 90 = .ok (.aload_n 3, 1) := by decide +kernel
theorem dX10_told_91 : decode cX10_told 91 = .ok (.invokevirtual 149, 3) := by decide +kernel
theorem dX10_told_94 : decode cX10_told 94 = .ok (.ireturn, 1) := by decide +kernel
theorem dX10_told_95 : decode cX10_told 95 = .ok (.aload_n 3, 1) := by decide +kernel
theorem dX10_told_96 : decode cX10_told 96 = .ok (.getfield 152, 3) := by decide +kernel
theorem dX10_told_99 : decode cX10_told 99 = .ok (.ireturn, 1) := by decide +kernel
theorem dX10_told_100 : decode cX10_told 100 = .ok (.iconst (-1), 1) := by decide +kernel
theorem dX10_told_101 : decode cX10_told 101 = .ok (.ireturn, 1) := by decide +kernel
theorem dX10_message_0 : decode cX10_message 0 = .ok (.aload_n 0, 1) := by decide +kernel
theorem dX10_message_1 : decode cX10_message 1 = .ok (.iload_n 1, 1) := by decide +kernel
theorem dX10_message_2 : decode cX10_message 2 = .ok (.invokevirtual 53, 3) := by decide +kernel
theorem dX10_message_5 : decode cX10_message 5 = .ok (.astore 4, 2) := by decide +kernel
theorem dX10_message_7 : decode cX10_message 7 = .ok (.aload 4, 2) := by decide +kernel
theorem dX10_message_9 : decode cX10_message 9 = .ok (.ifnonnull 7, 3) := by decide +kernel
theorem dX10_message_12 : decode cX10_message 12 = .ok (.iconst (-1), 1) := by decide +kernel
theorem dX10_message_13 : decode cX10_message 13 = .ok (.goto 13, 3) := by decide +kernel
theorem dX10_message_16 : decode cX10_message 16 = .ok (.aload 4, 2) := by decide +kernel
theorem dX10_message_18 : decode cX10_message 18 = .ok (.getfield 140, 3) := by decide +kernel
theorem dX10_message_21 : decode cX10_message 21 = .ok (.iload_n 2, 1) := by decide +kernel
theorem dX10_message_22 : decode cX10_message 22 = .ok (.iload_n 3, 1) := by decide +kernel
theorem dX10_message_23 : decode cX10_message 23 = .ok (.invokevirtual 164, 3) := by decide +kernel
theorem dX10_message_26 : decode cX10_message 26 = .ok (.ireturn, 1) := by decide +kernel
theorem dX10_sound_0 : decode cX10_sound 0 = .ok (.aload_n 0, 1) := by decide +kernel
theorem dX10_sound_1 : decode cX10_sound 1 = .ok (.invokevirtual 180, 3) := by decide +kernel
theorem dX10_sound_4 : decode cX10_sound 4 = .ok (.ifCond .ne 17, 3) := by decide +kernel
theorem dX10_sound_7 : decode cX10_sound 7 = .ok (.aload_n 0, 1) := by decide +kernel
theorem dX10_sound_8 : decode cX10_sound 8 = .ok (.invokevirtual 183, 3) := by decide +kernel
theorem dX10_sound_11 : decode cX10_sound 11 = .ok (.ifCond .eq 14, 3) := by decide +kernel
theorem dX10_sound_14 : decode cX10_sound 14 = .ok (.aload_n 0, 1) := by decide +kernel
theorem dX10_sound_15 : decode cX10_sound 15 = .ok (.invokevirtual 186, 3) := by decide +kernel
theorem dX10_sound_18 : decode cX10_sound 18 = .ok (.ifCond .eq 7, 3) := by decide +kernel
theorem dX10_sound_21 : decode cX10_sound 21 = .ok (.iconst 1, 1) := by decide +kernel
theorem dX10_sound_22 : decode cX10_sound 22 = .ok (.goto 4, 3) := by decide +kernel
theorem dX10_sound_25 : decode cX10_sound 25 = .ok (.iconst 0, 1) := by decide +kernel
theorem dX10_sound_26 : decode cX10_sound 26 = .ok (.ireturn, 1) := by decide +kernel
theorem dX10_count_0 : decode cX10_count 0 = .ok (.iload_n 1, 1) := by decide +kernel
theorem dX10_count_1 : decode cX10_count 1 = .ok (.tableswitch 51 0 3 #[31, 36, 41, 46], 31) := by decide +kernel
theorem dX10_count_32 : decode cX10_count 32 = .ok (.aload_n 0, 1) := by decide +kernel
theorem dX10_count_33 : decode cX10_count 33 = .ok (.getfield 29, 3) := by decide +kernel
theorem dX10_count_36 : decode cX10_count 36 = .ok (.ireturn, 1) := by decide +kernel
theorem dX10_count_37 : decode cX10_count 37 = .ok (.aload_n 0, 1) := by decide +kernel
theorem dX10_count_38 : decode cX10_count 38 = .ok (.getfield 33, 3) := by decide +kernel
theorem dX10_count_41 : decode cX10_count 41 = .ok (.ireturn, 1) := by decide +kernel
theorem dX10_count_42 : decode cX10_count 42 = .ok (.aload_n 0, 1) := by decide +kernel
theorem dX10_count_43 : decode cX10_count 43 = .ok (.getfield 36, 3) := by decide +kernel
theorem dX10_count_46 : decode cX10_count 46 = .ok (.ireturn, 1) := by decide +kernel
theorem dX10_count_47 : decode cX10_count 47 = .ok (.aload_n 0, 1) := by decide +kernel
theorem dX10_count_48 : decode cX10_count 48 = .ok (.invokevirtual 189, 3) := by decide +kernel
theorem dX10_count_51 : decode cX10_count 51 = .ok (.ireturn, 1) := by decide +kernel
theorem dX10_count_52 : decode cX10_count 52 = .ok (.iconst (-1), 1) := by decide +kernel
theorem dX10_count_53 : decode cX10_count 53 = .ok (.ireturn, 1) := by decide +kernel
theorem dX10_find_0 : decode cX10_find 0 = .ok (.iload_n 1, 1) := by decide +kernel
theorem dX10_find_1 : decode cX10_find 1 = .ok (.ifCond .lt 26, 3) := by decide +kernel
theorem dX10_find_4 : decode cX10_find 4 = .ok (.iload_n 1, 1) := by decide +kernel
theorem dX10_find_5 : decode cX10_find 5 = .ok (.aload_n 0, 1) := by decide +kernel
theorem dX10_find_6 : decode cX10_find 6 = .ok (.getfield 29, 3) := by decide +kernel
theorem dX10_find_9 : decode cX10_find 9 = .ok (.if_icmp .ge 18, 3) := by decide +kernel
theorem dX10_find_12 : decode cX10_find 12 = .ok (.iload_n 1, 1) := by decide +kernel
theorem dX10_find_13 : decode cX10_find 13 = .ok (.bipush 8, 2) := by decide +kernel
theorem dX10_find_15 : decode cX10_find 15 = .ok (.if_icmp .ge 12, 3) := by decide +kernel
theorem dX10_find_18 : decode cX10_find 18 = .ok (.aload_n 0, 1) := by decide +kernel
theorem dX10_find_19 : decode cX10_find 19 = .ok (.getfield 11, 3) := by decide +kernel
theorem dX10_find_22 : decode cX10_find 22 = .ok (.iload_n 1, 1) := by decide +kernel
theorem dX10_find_23 : decode cX10_find 23 = .ok (.aaload, 1) := by decide +kernel
theorem dX10_find_24 : decode cX10_find 24 = .ok (.goto 4, 3) := by decide +kernel
theorem dX10_find_27 : decode cX10_find 27 = .ok (.aconst_null, 1) := by decide +kernel
theorem dX10_find_28 : decode cX10_find 28 = .ok (.areturn, 1) := by decide +kernel
theorem dX10_nameIsThere_0 : decode cX10_nameIsThere 0 = .ok (.iconst 0, 1) := by decide +kernel
theorem dX10_nameIsThere_1 : decode cX10_nameIsThere 1 = .ok (.istore_n 3, 1) := by decide +kernel
theorem dX10_nameIsThere_2 : decode cX10_nameIsThere 2 = .ok (.iload_n 3, 1) := by decide +kernel
theorem dX10_nameIsThere_3 : decode cX10_nameIsThere 3 = .ok (.aload_n 0, 1) := by decide +kernel
theorem dX10_nameIsThere_4 : decode cX10_nameIsThere 4 = .ok (.getfield 29, 3) := by decide +kernel
theorem dX10_nameIsThere_7 : decode cX10_nameIsThere 7 = .ok (.if_icmp .ge 41, 3) := by decide +kernel
theorem dX10_nameIsThere_10 : decode cX10_nameIsThere 10 = .ok (.aload_n 0, 1) := by decide +kernel
theorem dX10_nameIsThere_11 : decode cX10_nameIsThere 11 = .ok (.iload_n 3, 1) := by decide +kernel
theorem dX10_nameIsThere_12 : decode cX10_nameIsThere 12 = .ok (.invokevirtual 53, 3) := by decide +kernel
theorem dX10_nameIsThere_15 : decode cX10_nameIsThere 15 = .ok (.astore 4, 2) := by decide +kernel
theorem dX10_nameIsThere_17 : decode cX10_nameIsThere 17 = .ok (.aload 4, 2) := by decide +kernel
theorem dX10_nameIsThere_19 : decode cX10_nameIsThere 19 = .ok (.ifnull 23, 3) := by decide +kernel
theorem dX10_nameIsThere_22 : decode cX10_nameIsThere 22 = .ok (.aload 4, 2) := by decide +kernel
theorem dX10_nameIsThere_24 : decode cX10_nameIsThere 24 = .ok (.getfield 192, 3) := by decide +kernel
theorem dX10_nameIsThere_27 : decode cX10_nameIsThere 27 = .ok (.iload_n 1, 1) := by decide +kernel
theorem dX10_nameIsThere_28 : decode cX10_nameIsThere 28 = .ok (.if_icmp .ne 14, 3) := by decide +kernel
theorem dX10_nameIsThere_31 : decode cX10_nameIsThere 31 = .ok (.aload 4, 2) := by decide +kernel
theorem dX10_nameIsThere_33 : decode cX10_nameIsThere 33 = .ok (.getfield 195, 3) := by decide +kernel
theorem dX10_nameIsThere_36 : decode cX10_nameIsThere 36 = .ok (.iload_n 2, 1) := by decide +kernel
theorem dX10_nameIsThere_37 : decode cX10_nameIsThere 37 = .ok (.if_icmp .ne 5, 3) := by decide +kernel
theorem dX10_nameIsThere_40 : decode cX10_nameIsThere 40 = .ok (.iconst 1, 1) := by decide +kernel
theorem dX10_nameIsThere_41 : decode cX10_nameIsThere 41 = .ok (.ireturn, 1) := by decide +kernel
theorem dX10_nameIsThere_42 : decode cX10_nameIsThere 42 = .ok (.iinc 3 1, 3) := by decide +kernel
theorem dX10_nameIsThere_45 : decode cX10_nameIsThere 45 = .ok (.goto (-43), 3) := by decide +kernel
theorem dX10_nameIsThere_48 : decode cX10_nameIsThere 48 = .ok (.iconst 0, 1) := by decide +kernel
theorem dX10_nameIsThere_49 : decode cX10_nameIsThere 49 = .ok (.ireturn, 1) := by decide +kernel
theorem dX10_isReceiver_0 : decode cX10_isReceiver 0 = .ok (.iload_n 0, 1) := by decide +kernel
theorem dX10_isReceiver_1 : decode cX10_isReceiver 1 = .ok (.sipush 255, 3) := by decide +kernel
theorem dX10_isReceiver_4 : decode cX10_isReceiver 4 = .ok (.if_icmp .eq 14, 3) := by decide +kernel
theorem dX10_isReceiver_7 : decode cX10_isReceiver 7 = .ok (.iload_n 0, 1) := by decide +kernel
theorem dX10_isReceiver_8 : decode cX10_isReceiver 8 = .ok (.ifCond .lt 14, 3) := by decide +kernel
theorem dX10_isReceiver_11 : decode cX10_isReceiver 11 = .ok (.iload_n 0, 1) := by decide +kernel
theorem dX10_isReceiver_12 : decode cX10_isReceiver 12 = .ok (.sipush 254, 3) := by decide +kernel
theorem dX10_isReceiver_15 : decode cX10_isReceiver 15 = .ok (.if_icmp .ge 7, 3) := by decide +kernel
theorem dX10_isReceiver_18 : decode cX10_isReceiver 18 = .ok (.iconst 1, 1) := by decide +kernel
theorem dX10_isReceiver_19 : decode cX10_isReceiver 19 = .ok (.goto 4, 3) := by decide +kernel
theorem dX10_isReceiver_22 : decode cX10_isReceiver 22 = .ok (.iconst 0, 1) := by decide +kernel
theorem dX10_isReceiver_23 : decode cX10_isReceiver 23 = .ok (.ireturn, 1) := by decide +kernel
theorem dX10_isSendable_0 : decode cX10_isSendable 0 = .ok (.iload_n 2, 1) := by decide +kernel
theorem dX10_isSendable_1 : decode cX10_isSendable 1 = .ok (.iconst 1, 1) := by decide +kernel
theorem dX10_isSendable_2 : decode cX10_isSendable 2 = .ok (.if_icmp .lt 20, 3) := by decide +kernel
theorem dX10_isSendable_5 : decode cX10_isSendable 5 = .ok (.iload_n 2, 1) := by decide +kernel
theorem dX10_isSendable_6 : decode cX10_isSendable 6 = .ok (.sipush 1785, 3) := by decide +kernel
theorem dX10_isSendable_9 : decode cX10_isSendable 9 = .ok (.if_icmp .gt 13, 3) := by decide +kernel
theorem dX10_isSendable_12 : decode cX10_isSendable 12 = .ok (.iload_n 1, 1) := by decide +kernel
theorem dX10_isSendable_13 : decode cX10_isSendable 13 = .ok (.ifCond .lt 9, 3) := by decide +kernel
theorem dX10_isSendable_16 : decode cX10_isSendable 16 = .ok (.iload_n 1, 1) := by decide +kernel
theorem dX10_isSendable_17 : decode cX10_isSendable 17 = .ok (.ldc 198, 2) := by decide +kernel
theorem dX10_isSendable_19 : decode cX10_isSendable 19 = .ok (.if_icmp .le 5, 3) := by decide +kernel
theorem dX10_isSendable_22 : decode cX10_isSendable 22 = .ok (.iconst 0, 1) := by decide +kernel
theorem dX10_isSendable_23 : decode cX10_isSendable 23 = .ok (.ireturn, 1) := by decide +kernel
theorem dX10_isSendable_24 : decode cX10_isSendable 24 = .ok (.iload_n 1, 1) := by decide +kernel
theorem dX10_isSendable_25 : decode cX10_isSendable 25 = .ok (.bipush 16, 2) := by decide +kernel
theorem dX10_isSendable_27 : decode cX10_isSendable 27 = .ok (.ishr, 1) := by decide +kernel
theorem dX10_isSendable_28 : decode cX10_isSendable 28 = .ok (.istore_n 3, 1) := by decide +kernel
theorem dX10_isSendable_29 : decode cX10_isSendable 29 = .ok (.iload_n 1, 1) := by decide +kernel
theorem dX10_isSendable_30 : decode cX10_isSendable 30 = .ok (.bipush 8, 2) := by decide +kernel
theorem dX10_isSendable_32 : decode cX10_isSendable 32 = .ok (.ishr, 1) := by decide +kernel
theorem dX10_isSendable_33 : decode cX10_isSendable 33 = .ok (.sipush 255, 3) := by decide +kernel
theorem dX10_isSendable_36 : decode cX10_isSendable 36 = .ok (.iand, 1) := by decide +kernel
theorem dX10_isSendable_37 : decode cX10_isSendable 37 = .ok (.istore 4, 2) := by decide +kernel
theorem dX10_isSendable_39 : decode cX10_isSendable 39 = .ok (.iload 4, 2) := by decide +kernel
theorem dX10_isSendable_41 : decode cX10_isSendable 41 = .ok (.sipush 234, 3) := by decide +kernel
theorem dX10_isSendable_44 : decode cX10_isSendable 44 = .ok (.if_icmp .lt 11, 3) := by decide +kernel
theorem dX10_isSendable_47 : decode cX10_isSendable 47 = .ok (.iload 4, 2) := by decide +kernel
theorem dX10_isSendable_49 : decode cX10_isSendable 49 = .ok (.sipush 236, 3) := by decide +kernel
theorem dX10_isSendable_52 : decode cX10_isSendable 52 = .ok (.if_icmp .le 11, 3) := by decide +kernel
theorem dX10_isSendable_55 : decode cX10_isSendable 55 = .ok (.iload 4, 2) := by decide +kernel
theorem dX10_isSendable_57 : decode cX10_isSendable 57 = .ok (.sipush 238, 3) := by decide +kernel
theorem dX10_isSendable_60 : decode cX10_isSendable 60 = .ok (.if_icmp .ne 7, 3) := by decide +kernel
theorem dX10_isSendable_63 : decode cX10_isSendable 63 = .ok (.iconst 1, 1) := by decide +kernel
theorem dX10_isSendable_64 : decode cX10_isSendable 64 = .ok (.goto 4, 3) := by decide +kernel
theorem dX10_isSendable_67 : decode cX10_isSendable 67 = .ok (.iconst 0, 1) := by decide +kernel
theorem dX10_isSendable_68 : decode cX10_isSendable 68 = .ok (.istore 5, 2) := by decide +kernel
theorem dX10_isSendable_70 : decode cX10_isSendable 70 = .ok (.iload_n 3, 1) := by decide +kernel
theorem dX10_isSendable_71 : decode cX10_isSendable 71 = .ok (.ifCond .ne 10, 3) := by decide +kernel
theorem dX10_isSendable_74 : decode cX10_isSendable 74 = .ok (.iload 5, 2) := by decide +kernel
theorem dX10_isSendable_76 : decode cX10_isSendable 76 = .ok (.ifCond .eq 5, 3) := by decide +kernel
theorem dX10_isSendable_79 : decode cX10_isSendable 79 = .ok (.iconst 0, 1) := by decide +kernel
theorem dX10_isSendable_80 : decode cX10_isSendable 80 = .ok (.ireturn, 1) := by decide +kernel
theorem dX10_isSendable_81 : decode cX10_isSendable 81 = .ok (.iload 4, 2) := by decide +kernel
theorem dX10_isSendable_83 : decode cX10_isSendable 83 = .ok (.sipush 240, 3) := by decide +kernel
theorem dX10_isSendable_86 : decode cX10_isSendable 86 = .ok (.if_icmp .lt 16, 3) := by decide +kernel
theorem dX10_isSendable_89 : decode cX10_isSendable 89 = .ok (.iload_n 0, 1) := by decide +kernel
theorem dX10_isSendable_90 : decode cX10_isSendable 90 = .ok (.sipush 255, 3) := by decide +kernel
theorem dX10_isSendable_93 : decode cX10_isSendable 93 = .ok (.if_icmp .ne 7, 3) := by decide +kernel
theorem dX10_isSendable_96 : decode cX10_isSendable 96 = .ok (.iconst 1, 1) := by decide +kernel
theorem dX10_isSendable_97 : decode cX10_isSendable 97 = .ok (.goto 4, 3) := by decide +kernel
theorem dX10_isSendable_100 : decode cX10_isSendable 100 = .ok (.iconst 0, 1) := by decide +kernel
theorem dX10_isSendable_101 : decode cX10_isSendable 101 = .ok (.ireturn, 1) := by decide +kernel
theorem dX10_isSendable_102 : decode cX10_isSendable 102 = .ok (.iload_n 1, 1) := by decide +kernel
theorem dX10_isSendable_103 : decode cX10_isSendable 103 = .ok (.sipush 255, 3) := by decide +kernel
theorem dX10_isSendable_106 : decode cX10_isSendable 106 = .ok (.iand, 1) := by decide +kernel
theorem dX10_isSendable_107 : decode cX10_isSendable 107 = .ok (.ifCond .ne 14, 3) := by decide +kernel
theorem dX10_isSendable_110 : decode cX10_isSendable 110 = .ok (.iload_n 0, 1) := by decide +kernel
theorem dX10_isSendable_111 : decode cX10_isSendable 111 = .ok (.invokestatic 70, 3) := by decide +kernel
theorem dX10_isSendable_114 : decode cX10_isSendable 114 = .ok (.ifCond .eq 7, 3) := by decide +kernel
theorem dX10_isSendable_117 : decode cX10_isSendable 117 = .ok (.iconst 1, 1) := by decide +kernel
theorem dX10_isSendable_118 : decode cX10_isSendable 118 = .ok (.goto 4, 3) := by decide +kernel
theorem dX10_isSendable_121 : decode cX10_isSendable 121 = .ok (.iconst 0, 1) := by decide +kernel
theorem dX10_isSendable_122 : decode cX10_isSendable 122 = .ok (.ireturn, 1) := by decide +kernel
theorem dX10_nextMoment_0 : decode cX10_nextMoment 0 = .ok (.iload_n 1, 1) := by decide +kernel
theorem dX10_nextMoment_1 : decode cX10_nextMoment 1 = .ok (.istore_n 2, 1) := by decide +kernel
theorem dX10_nextMoment_2 : decode cX10_nextMoment 2 = .ok (.iconst 0, 1) := by decide +kernel
theorem dX10_nextMoment_3 : decode cX10_nextMoment 3 = .ok (.istore_n 3, 1) := by decide +kernel
theorem dX10_nextMoment_4 : decode cX10_nextMoment 4 = .ok (.iload_n 3, 1) := by decide +kernel
theorem dX10_nextMoment_5 : decode cX10_nextMoment 5 = .ok (.aload_n 0, 1) := by decide +kernel
theorem dX10_nextMoment_6 : decode cX10_nextMoment 6 = .ok (.getfield 29, 3) := by decide +kernel
theorem dX10_nextMoment_9 : decode cX10_nextMoment 9 = .ok (.if_icmp .ge 54, 3) := by decide +kernel
theorem dX10_nextMoment_12 : decode cX10_nextMoment 12 = .ok (.aload_n 0, 1) := by decide +kernel
theorem dX10_nextMoment_13 : decode cX10_nextMoment 13 = .ok (.iload_n 3, 1) := by decide +kernel
theorem dX10_nextMoment_14 : decode cX10_nextMoment 14 = .ok (.invokevirtual 53, 3) := by decide +kernel
theorem dX10_nextMoment_17 : decode cX10_nextMoment 17 = .ok (.astore 4, 2) := by decide +kernel
theorem dX10_nextMoment_19 : decode cX10_nextMoment 19 = .ok (.aload 4, 2) := by decide +kernel
theorem dX10_nextMoment_21 : decode cX10_nextMoment 21 = .ok (.ifnull 21, 3) := by decide +kernel
theorem dX10_nextMoment_24 : decode cX10_nextMoment 24 = .ok (.aload 4, 2) := by decide +kernel
theorem dX10_nextMoment_26 : decode cX10_nextMoment 26 = .ok (.getfield 74, 3) := by decide +kernel
theorem dX10_nextMoment_29 : decode cX10_nextMoment 29 = .ok (.invokevirtual 129, 3) := by decide +kernel
theorem dX10_nextMoment_32 : decode cX10_nextMoment 32 = .ok (.ifCond .le 10, 3) := by decide +kernel
theorem dX10_nextMoment_35 : decode cX10_nextMoment 35 = .ok (.aload_n 0, 1) := by decide +kernel
theorem dX10_nextMoment_36 : decode cX10_nextMoment 36 = .ok (.getfield 33, 3) := by decide +kernel
theorem dX10_nextMoment_39 : decode cX10_nextMoment 39 = .ok (.iconst 1, 1) := by decide +kernel
theorem dX10_nextMoment_40 : decode cX10_nextMoment 40 = .ok (.iadd, 1) := by decide +kernel
theorem dX10_nextMoment_41 : decode cX10_nextMoment 41 = .ok (.ireturn, 1) := by decide +kernel
theorem dX10_nextMoment_42 : decode cX10_nextMoment 42 = .ok (.aload 4, 2) := by decide +kernel
theorem dX10_nextMoment_44 : decode cX10_nextMoment 44 = .ok (.ifnull 13, 3) := by decide +kernel
theorem dX10_nextMoment_47 : decode cX10_nextMoment 47 = .ok (.iload_n 2, 1) := by decide +kernel
theorem dX10_nextMoment_48 : decode cX10_nextMoment 48 = .ok (.aload 4, 2) := by decide +kernel
theorem dX10_nextMoment_50 : decode cX10_nextMoment 50 = .ok (.invokevirtual 199, 3) := by decide +kernel
theorem dX10_nextMoment_53 : decode cX10_nextMoment 53 = .ok (.invokestatic 202, 3) := by decide +kernel
theorem dX10_nextMoment_56 : decode cX10_nextMoment 56 = .ok (.istore_n 2, 1) := by decide +kernel
theorem dX10_nextMoment_57 : decode cX10_nextMoment 57 = .ok (.iinc 3 1, 3) := by decide +kernel
theorem dX10_nextMoment_60 : decode cX10_nextMoment 60 = .ok (.goto (-56), 3) := by decide +kernel
theorem dX10_nextMoment_63 : decode cX10_nextMoment 63 = .ok (.aload_n 0, 1) := by decide +kernel
theorem dX10_nextMoment_64 : decode cX10_nextMoment 64 = .ok (.getfield 33, 3) := by decide +kernel
theorem dX10_nextMoment_67 : decode cX10_nextMoment 67 = .ok (.iconst 1, 1) := by decide +kernel
theorem dX10_nextMoment_68 : decode cX10_nextMoment 68 = .ok (.iadd, 1) := by decide +kernel
theorem dX10_nextMoment_69 : decode cX10_nextMoment 69 = .ok (.iload_n 2, 1) := by decide +kernel
theorem dX10_nextMoment_70 : decode cX10_nextMoment 70 = .ok (.invokestatic 207, 3) := by decide +kernel
theorem dX10_nextMoment_73 : decode cX10_nextMoment 73 = .ok (.ireturn, 1) := by decide +kernel
theorem dX10_runTimers_0 : decode cX10_runTimers 0 = .ok (.iconst 0, 1) := by decide +kernel
theorem dX10_runTimers_1 : decode cX10_runTimers 1 = .ok (.istore_n 1, 1) := by decide +kernel
theorem dX10_runTimers_2 : decode cX10_runTimers 2 = .ok (.iload_n 1, 1) := by decide +kernel
theorem dX10_runTimers_3 : decode cX10_runTimers 3 = .ok (.aload_n 0, 1) := by decide +kernel
theorem dX10_runTimers_4 : decode cX10_runTimers 4 = .ok (.getfield 29, 3) := by decide +kernel
theorem dX10_runTimers_7 : decode cX10_runTimers 7 = .ok (.if_icmp .ge 27, 3) := by decide +kernel
theorem dX10_runTimers_10 : decode cX10_runTimers 10 = .ok (.aload_n 0, 1) := by decide +kernel
theorem dX10_runTimers_11 : decode cX10_runTimers 11 = .ok (.iload_n 1, 1) := by decide +kernel
theorem dX10_runTimers_12 : decode cX10_runTimers 12 = .ok (.invokevirtual 53, 3) := by decide +kernel
theorem dX10_runTimers_15 : decode cX10_runTimers 15 = .ok (.astore_n 2, 1) := by decide +kernel
theorem dX10_runTimers_16 : decode cX10_runTimers 16 = .ok (.aload_n 2, 1) := by decide +kernel
theorem dX10_runTimers_17 : decode cX10_runTimers 17 = .ok (.ifnull 11, 3) := by decide +kernel
theorem dX10_runTimers_20 : decode cX10_runTimers 20 = .ok (.aload_n 2, 1) := by decide +kernel
theorem dX10_runTimers_21 : decode cX10_runTimers 21 = .ok (.aload_n 0, 1) := by decide +kernel
theorem dX10_runTimers_22 : decode cX10_runTimers 22 = .ok (.getfield 33, 3) := by decide +kernel
theorem dX10_runTimers_25 : decode cX10_runTimers 25 = .ok (.invokevirtual 210, 3) := by decide +kernel
theorem dX10_runTimers_28 : decode cX10_runTimers 28 = .ok (.iinc 1 1, 3) := by decide +kernel
theorem dX10_runTimers_31 : decode cX10_runTimers 31 = .ok (.goto (-29), 3) := by decide +kernel
theorem dX10_runTimers_34 : decode cX10_runTimers 34 = .ok (.return_, 1) := by decide +kernel
theorem dX10_carryFrame_0 : decode cX10_carryFrame 0 = .ok (.aload_n 0, 1) := by decide +kernel
theorem dX10_carryFrame_1 : decode cX10_carryFrame 1 = .ok (.invokevirtual 212, 3) := by decide +kernel
theorem dX10_carryFrame_4 : decode cX10_carryFrame 4 = .ok (.istore_n 1, 1) := by decide +kernel
theorem dX10_carryFrame_5 : decode cX10_carryFrame 5 = .ok (.aload_n 0, 1) := by decide +kernel
theorem dX10_carryFrame_6 : decode cX10_carryFrame 6 = .ok (.iload_n 1, 1) := by decide +kernel
theorem dX10_carryFrame_7 : decode cX10_carryFrame 7 = .ok (.invokevirtual 53, 3) := by decide +kernel
theorem dX10_carryFrame_10 : decode cX10_carryFrame 10 = .ok (.astore_n 2, 1) := by decide +kernel
theorem dX10_carryFrame_11 : decode cX10_carryFrame 11 = .ok (.aload_n 2, 1) := by decide +kernel
theorem dX10_carryFrame_12 : decode cX10_carryFrame 12 = .ok (.ifnonnull 4, 3) := by decide +kernel
theorem dX10_carryFrame_15 : decode cX10_carryFrame 15 = .ok (.return_, 1) := by decide +kernel
theorem dX10_carryFrame_16 : decode cX10_carryFrame 16 = .ok (.aload_n 2, 1) := by decide +kernel
theorem dX10_carryFrame_17 : decode cX10_carryFrame 17 = .ok (.aload_n 0, 1) := by decide +kernel
theorem dX10_carryFrame_18 : decode cX10_carryFrame 18 = .ok (.getfield 25, 3) := by decide +kernel
theorem dX10_carryFrame_21 : decode cX10_carryFrame 21 = .ok (.sipush 238, 3) := by decide +kernel
theorem dX10_carryFrame_24 : decode cX10_carryFrame 24 = .ok (.invokevirtual 215, 3) := by decide +kernel
theorem dX10_carryFrame_27 : decode cX10_carryFrame 27 = .ok (.aload_n 0, 1) := by decide +kernel
theorem dX10_carryFrame_28 : decode cX10_carryFrame 28 = .ok (.getfield 33, 3) := by decide +kernel
theorem dX10_carryFrame_31 : decode cX10_carryFrame 31 = .ok (.invokevirtual 218, 3) := by decide +kernel
theorem dX10_carryFrame_34 : decode cX10_carryFrame 34 = .ok (.aload_n 0, 1) := by decide +kernel
theorem dX10_carryFrame_35 : decode cX10_carryFrame 35 = .ok (.iload_n 1, 1) := by decide +kernel
theorem dX10_carryFrame_36 : decode cX10_carryFrame 36 = .ok (.putfield 39, 3) := by decide +kernel
theorem dX10_carryFrame_39 : decode cX10_carryFrame 39 = .ok (.aload_n 0, 1) := by decide +kernel
theorem dX10_carryFrame_40 : decode cX10_carryFrame 40 = .ok (.dup, 1) := by decide +kernel
theorem dX10_carryFrame_41 : decode cX10_carryFrame 41 = .ok (.getfield 36, 3) := by decide +kernel
theorem dX10_carryFrame_44 : decode cX10_carryFrame 44 = .ok (.iconst 1, 1) := by decide +kernel
theorem dX10_carryFrame_45 : decode cX10_carryFrame 45 = .ok (.iadd, 1) := by decide +kernel
theorem dX10_carryFrame_46 : decode cX10_carryFrame 46 = .ok (.putfield 36, 3) := by decide +kernel
theorem dX10_carryFrame_49 : decode cX10_carryFrame 49 = .ok (.iconst 0, 1) := by decide +kernel
theorem dX10_carryFrame_50 : decode cX10_carryFrame 50 = .ok (.istore_n 3, 1) := by decide +kernel
theorem dX10_carryFrame_51 : decode cX10_carryFrame 51 = .ok (.iload_n 3, 1) := by decide +kernel
theorem dX10_carryFrame_52 : decode cX10_carryFrame 52 = .ok (.aload_n 0, 1) := by decide +kernel
theorem dX10_carryFrame_53 : decode cX10_carryFrame 53 = .ok (.getfield 29, 3) := by decide +kernel
theorem dX10_carryFrame_56 : decode cX10_carryFrame 56 = .ok (.if_icmp .ge 48, 3) := by decide +kernel
theorem dX10_carryFrame_59 : decode cX10_carryFrame 59 = .ok (.aload_n 0, 1) := by decide +kernel
theorem dX10_carryFrame_60 : decode cX10_carryFrame 60 = .ok (.iload_n 3, 1) := by decide +kernel
theorem dX10_carryFrame_61 : decode cX10_carryFrame 61 = .ok (.invokevirtual 53, 3) := by decide +kernel
theorem dX10_carryFrame_64 : decode cX10_carryFrame 64 = .ok (.astore 4, 2) := by decide +kernel
theorem dX10_carryFrame_66 : decode cX10_carryFrame 66 = .ok (.aload 4, 2) := by decide +kernel
theorem dX10_carryFrame_68 : decode cX10_carryFrame 68 = .ok (.ifnull 30, 3) := by decide +kernel
theorem dX10_carryFrame_71 : decode cX10_carryFrame 71 = .ok (.iload_n 3, 1) := by decide +kernel
theorem dX10_carryFrame_72 : decode cX10_carryFrame 72 = .ok (.iload_n 1, 1) := by decide +kernel
theorem dX10_carryFrame_73 : decode cX10_carryFrame 73 = .ok (.if_icmp .eq 25, 3) := by decide +kernel
theorem dX10_carryFrame_76 : decode cX10_carryFrame 76 = .ok (.aload 4, 2) := by decide +kernel
theorem dX10_carryFrame_78 : decode cX10_carryFrame 78 = .ok (.getfield 57, 3) := by decide +kernel
theorem dX10_carryFrame_81 : decode cX10_carryFrame 81 = .ok (.ifCond .eq 17, 3) := by decide +kernel
theorem dX10_carryFrame_84 : decode cX10_carryFrame 84 = .ok (.aload 4, 2) := by decide +kernel
theorem dX10_carryFrame_86 : decode cX10_carryFrame 86 = .ok (.aload_n 0, 1) := by decide +kernel
theorem dX10_carryFrame_87 : decode cX10_carryFrame 87 = .ok (.getfield 25, 3) := by decide +kernel
theorem dX10_carryFrame_90 : decode cX10_carryFrame 90 = .ok (.iload_n 1, 1) := by decide +kernel
theorem dX10_carryFrame_91 : decode cX10_carryFrame 91 = .ok (.aload_n 0, 1) := by decide +kernel
theorem dX10_carryFrame_92 : decode cX10_carryFrame 92 = .ok (.getfield 33, 3) := by decide +kernel
theorem dX10_carryFrame_95 : decode cX10_carryFrame 95 = .ok (.invokevirtual 222, 3) := by decide +kernel
theorem dX10_carryFrame_98 : decode cX10_carryFrame 98 = .ok (.iinc 3 1, 3) := by decide +kernel
theorem dX10_carryFrame_101 : decode cX10_carryFrame 101 = .ok (.goto (-50), 3) := by decide +kernel
theorem dX10_carryFrame_104 : decode cX10_carryFrame 104 = .ok (.return_, 1) := by decide +kernel
theorem dX10_firstToSend_0 : decode cX10_firstToSend 0 = .ok (.iconst (-1), 1) := by decide +kernel
theorem dX10_firstToSend_1 : decode cX10_firstToSend 1 = .ok (.istore_n 1, 1) := by decide +kernel
theorem dX10_firstToSend_2 : decode cX10_firstToSend 2 = .ok (.aconst_null, 1) := by decide +kernel
theorem dX10_firstToSend_3 : decode cX10_firstToSend 3 = .ok (.astore_n 2, 1) := by decide +kernel
theorem dX10_firstToSend_4 : decode cX10_firstToSend 4 = .ok (.iconst 0, 1) := by decide +kernel
theorem dX10_firstToSend_5 : decode cX10_firstToSend 5 = .ok (.istore_n 3, 1) := by decide +kernel
theorem dX10_firstToSend_6 : decode cX10_firstToSend 6 = .ok (.iload_n 3, 1) := by decide +kernel
theorem dX10_firstToSend_7 : decode cX10_firstToSend 7 = .ok (.aload_n 0, 1) := by decide +kernel
theorem dX10_firstToSend_8 : decode cX10_firstToSend 8 = .ok (.getfield 29, 3) := by decide +kernel
theorem dX10_firstToSend_11 : decode cX10_firstToSend 11 = .ok (.if_icmp .ge 63, 3) := by decide +kernel
theorem dX10_firstToSend_14 : decode cX10_firstToSend 14 = .ok (.aload_n 0, 1) := by decide +kernel
theorem dX10_firstToSend_15 : decode cX10_firstToSend 15 = .ok (.iload_n 3, 1) := by decide +kernel
theorem dX10_firstToSend_16 : decode cX10_firstToSend 16 = .ok (.invokevirtual 53, 3) := by decide +kernel
theorem dX10_firstToSend_19 : decode cX10_firstToSend 19 = .ok (.astore 4, 2) := by decide +kernel
theorem dX10_firstToSend_21 : decode cX10_firstToSend 21 = .ok (.aload 4, 2) := by decide +kernel
theorem dX10_firstToSend_23 : decode cX10_firstToSend 23 = .ok (.ifnonnull 7, 3) := by decide +kernel
theorem dX10_firstToSend_26 : decode cX10_firstToSend 26 = .ok (.aconst_null, 1) := by decide +kernel
theorem dX10_firstToSend_27 : decode cX10_firstToSend 27 = .ok (.goto 16, 3) := by decide +kernel
theorem dX10_firstToSend_30 : decode cX10_firstToSend 30 = .ok (.aload 4, 2) := by decide +kernel
theorem dX10_firstToSend_32 : decode cX10_firstToSend 32 = .ok (.getfield 74, 3) := by decide +kernel
theorem dX10_firstToSend_35 : decode cX10_firstToSend 35 = .ok (.aload 4, 2) := by decide +kernel
theorem dX10_firstToSend_37 : decode cX10_firstToSend 37 = .ok (.getfield 126, 3) := by decide +kernel
theorem dX10_firstToSend_40 : decode cX10_firstToSend 40 = .ok (.invokevirtual 226, 3) := by decide +kernel
theorem dX10_firstToSend_43 : decode cX10_firstToSend 43 = .ok (.astore 5, 2) := by decide +kernel
theorem dX10_firstToSend_45 : decode cX10_firstToSend 45 = .ok (.aload 5, 2) := by decide +kernel
theorem dX10_firstToSend_47 : decode cX10_firstToSend 47 = .ok (.ifnull 21, 3) := by decide +kernel
theorem dX10_firstToSend_50 : decode cX10_firstToSend 50 = .ok (.aload_n 2, 1) := by decide +kernel
theorem dX10_firstToSend_51 : decode cX10_firstToSend 51 = .ok (.ifnull 12, 3) := by decide +kernel
theorem dX10_firstToSend_54 : decode cX10_firstToSend 54 = .ok (.aload 5, 2) := by decide +kernel
theorem dX10_firstToSend_56 : decode cX10_firstToSend 56 = .ok (.aload_n 2, 1) := by decide +kernel
theorem dX10_firstToSend_57 : decode cX10_firstToSend 57 = .ok (.invokevirtual 229, 3) := by decide +kernel
theorem dX10_firstToSend_60 : decode cX10_firstToSend 60 = .ok (.ifCond .eq 8, 3) := by decide +kernel
theorem dX10_firstToSend_63 : decode cX10_firstToSend 63 = .ok (.aload 5, 2) := by decide +kernel
theorem dX10_firstToSend_65 : decode cX10_firstToSend 65 = .ok (.astore_n 2, 1) := by decide +kernel
theorem dX10_firstToSend_66 : decode cX10_firstToSend 66 = .ok (.iload_n 3, 1) := by decide +kernel
theorem dX10_firstToSend_67 : decode cX10_firstToSend 67 = .ok (.istore_n 1, 1) := by decide +kernel
theorem dX10_firstToSend_68 : decode cX10_firstToSend 68 = .ok (.iinc 3 1, 3) := by decide +kernel
theorem dX10_firstToSend_71 : decode cX10_firstToSend 71 = .ok (.goto (-65), 3) := by decide +kernel
theorem dX10_firstToSend_74 : decode cX10_firstToSend 74 = .ok (.aload_n 2, 1) := by decide +kernel
theorem dX10_firstToSend_75 : decode cX10_firstToSend 75 = .ok (.ifnull 11, 3) := by decide +kernel
theorem dX10_firstToSend_78 : decode cX10_firstToSend 78 = .ok (.aload_n 0, 1) := by decide +kernel
theorem dX10_firstToSend_79 : decode cX10_firstToSend 79 = .ok (.getfield 25, 3) := by decide +kernel
theorem dX10_firstToSend_82 : decode cX10_firstToSend 82 = .ok (.aload_n 2, 1) := by decide +kernel
theorem dX10_firstToSend_83 : decode cX10_firstToSend 83 = .ok (.invokevirtual 233, 3) := by decide +kernel
theorem dX10_firstToSend_86 : decode cX10_firstToSend 86 = .ok (.iload_n 1, 1) := by decide +kernel
theorem dX10_firstToSend_87 : decode cX10_firstToSend 87 = .ok (.ireturn, 1) := by decide +kernel
theorem dX10_isDisturbed_0 : decode cX10_isDisturbed 0 = .ok (.iconst 0, 1) := by decide +kernel
theorem dX10_isDisturbed_1 : decode cX10_isDisturbed 1 = .ok (.istore_n 1, 1) := by decide +kernel
theorem dX10_isDisturbed_2 : decode cX10_isDisturbed 2 = .ok (.iload_n 1, 1) := by decide +kernel
theorem dX10_isDisturbed_3 : decode cX10_isDisturbed 3 = .ok (.aload_n 0, 1) := by decide +kernel
theorem dX10_isDisturbed_4 : decode cX10_isDisturbed 4 = .ok (.getfield 29, 3) := by decide +kernel
theorem dX10_isDisturbed_7 : decode cX10_isDisturbed 7 = .ok (.if_icmp .ge 28, 3) := by decide +kernel
theorem dX10_isDisturbed_10 : decode cX10_isDisturbed 10 = .ok (.aload_n 0, 1) := by decide +kernel
theorem dX10_isDisturbed_11 : decode cX10_isDisturbed 11 = .ok (.iload_n 1, 1) := by decide +kernel
theorem dX10_isDisturbed_12 : decode cX10_isDisturbed 12 = .ok (.invokevirtual 53, 3) := by decide +kernel
theorem dX10_isDisturbed_15 : decode cX10_isDisturbed 15 = .ok (.astore_n 2, 1) := by decide +kernel
theorem dX10_isDisturbed_16 : decode cX10_isDisturbed 16 = .ok (.aload_n 2, 1) := by decide +kernel
theorem dX10_isDisturbed_17 : decode cX10_isDisturbed 17 = .ok (.ifnull 12, 3) := by decide +kernel
theorem dX10_isDisturbed_20 : decode cX10_isDisturbed 20 = .ok (.aload_n 2, 1) := by decide +kernel
theorem dX10_isDisturbed_21 : decode cX10_isDisturbed 21 = .ok (.getfield 152, 3) := by decide +kernel
theorem dX10_isDisturbed_24 : decode cX10_isDisturbed 24 = .ok (.ifCond .le 5, 3) := by decide +kernel
theorem dX10_isDisturbed_27 : decode cX10_isDisturbed 27 = .ok (.iconst 1, 1) := by decide +kernel
theorem dX10_isDisturbed_28 : decode cX10_isDisturbed 28 = .ok (.ireturn, 1) := by decide +kernel
theorem dX10_isDisturbed_29 : decode cX10_isDisturbed 29 = .ok (.iinc 1 1, 3) := by decide +kernel
theorem dX10_isDisturbed_32 : decode cX10_isDisturbed 32 = .ok (.goto (-30), 3) := by decide +kernel
theorem dX10_isDisturbed_35 : decode cX10_isDisturbed 35 = .ok (.aload_n 0, 1) := by decide +kernel
theorem dX10_isDisturbed_36 : decode cX10_isDisturbed 36 = .ok (.getfield 42, 3) := by decide +kernel
theorem dX10_isDisturbed_39 : decode cX10_isDisturbed 39 = .ok (.ireturn, 1) := by decide +kernel
theorem dX10_addressesAreApart_0 : decode cX10_addressesAreApart 0 = .ok (.iconst 0, 1) := by decide +kernel
theorem dX10_addressesAreApart_1 : decode cX10_addressesAreApart 1 = .ok (.istore_n 1, 1) := by decide +kernel
theorem dX10_addressesAreApart_2 : decode cX10_addressesAreApart 2 = .ok (.iload_n 1, 1) := by decide +kernel
theorem dX10_addressesAreApart_3 : decode cX10_addressesAreApart 3 = .ok (.aload_n 0, 1) := by decide +kernel
theorem dX10_addressesAreApart_4 : decode cX10_addressesAreApart 4 = .ok (.getfield 29, 3) := by decide +kernel
theorem dX10_addressesAreApart_7 : decode cX10_addressesAreApart 7 = .ok (.if_icmp .ge 55, 3) := by decide +kernel
theorem dX10_addressesAreApart_10 : decode cX10_addressesAreApart 10 = .ok (.iconst 0, 1) := by decide +kernel
theorem dX10_addressesAreApart_11 : decode cX10_addressesAreApart 11 = .ok (.istore_n 2, 1) := by decide +kernel
theorem dX10_addressesAreApart_12 : decode cX10_addressesAreApart 12 = .ok (.iload_n 2, 1) := by decide +kernel
theorem dX10_addressesAreApart_13 : decode cX10_addressesAreApart 13 = .ok (.iload_n 1, 1) := by decide +kernel
theorem dX10_addressesAreApart_14 : decode cX10_addressesAreApart 14 = .ok (.if_icmp .ge 42, 3) := by decide +kernel
theorem dX10_addressesAreApart_17 : decode cX10_addressesAreApart 17 = .ok (.aload_n 0, 1) := by decide +kernel
theorem dX10_addressesAreApart_18 : decode cX10_addressesAreApart 18 = .ok (.iload_n 1, 1) := by decide +kernel
theorem dX10_addressesAreApart_19 : decode cX10_addressesAreApart 19 = .ok (.invokevirtual 53, 3) := by decide +kernel
theorem dX10_addressesAreApart_22 : decode cX10_addressesAreApart 22 = .ok (.astore_n 3, 1) := by decide +kernel
theorem dX10_addressesAreApart_23 : decode cX10_addressesAreApart 23 = .ok (.aload_n 0, 1) := by decide +kernel
theorem dX10_addressesAreApart_24 : decode cX10_addressesAreApart 24 = .ok (.iload_n 2, 1) := by decide +kernel
theorem dX10_addressesAreApart_25 : decode cX10_addressesAreApart 25 = .ok (.invokevirtual 53, 3) := by decide +kernel
theorem dX10_addressesAreApart_28 : decode cX10_addressesAreApart 28 = .ok (.astore 4, 2) := by decide +kernel
theorem dX10_addressesAreApart_30 : decode cX10_addressesAreApart 30 = .ok (.aload_n 3, 1) := by decide +kernel
theorem dX10_addressesAreApart_31 : decode cX10_addressesAreApart 31 = .ok (.ifnull 19, 3) := by decide +kernel
theorem dX10_addressesAreApart_34 : decode cX10_addressesAreApart 34 = .ok (.aload 4, 2) := by decide +kernel
theorem dX10_addressesAreApart_36 : decode cX10_addressesAreApart 36 = .ok (.ifnull 14, 3) := by decide +kernel
theorem dX10_addressesAreApart_39 : decode cX10_addressesAreApart 39 = .ok (.aload_n 3, 1) := by decide +kernel
theorem dX10_addressesAreApart_40 : decode cX10_addressesAreApart 40 = .ok (.aload 4, 2) := by decide +kernel
theorem dX10_addressesAreApart_42 : decode cX10_addressesAreApart 42 = .ok (.invokevirtual 237, 3) := by decide +kernel
theorem dX10_addressesAreApart_45 : decode cX10_addressesAreApart 45 = .ok (.ifCond .eq 5, 3) := by decide +kernel
theorem dX10_addressesAreApart_48 : decode cX10_addressesAreApart 48 = .ok (.iconst 0, 1) := by decide +kernel
theorem dX10_addressesAreApart_49 : decode cX10_addressesAreApart 49 = .ok (.ireturn, 1) := by decide +kernel
theorem dX10_addressesAreApart_50 : decode cX10_addressesAreApart 50 = .ok (.iinc 2 1, 3) := by decide +kernel
theorem dX10_addressesAreApart_53 : decode cX10_addressesAreApart 53 = .ok (.goto (-41), 3) := by decide +kernel
theorem dX10_addressesAreApart_56 : decode cX10_addressesAreApart 56 = .ok (.iinc 1 1, 3) := by decide +kernel
theorem dX10_addressesAreApart_59 : decode cX10_addressesAreApart 59 = .ok (.goto (-57), 3) := by decide +kernel
theorem dX10_addressesAreApart_62 : decode cX10_addressesAreApart 62 = .ok (.iconst 1, 1) := by decide +kernel
theorem dX10_addressesAreApart_63 : decode cX10_addressesAreApart 63 = .ok (.ireturn, 1) := by decide +kernel
theorem dX10_messagesAreTrue_0 : decode cX10_messagesAreTrue 0 = .ok (.iconst 0, 1) := by decide +kernel
theorem dX10_messagesAreTrue_1 : decode cX10_messagesAreTrue 1 = .ok (.istore_n 1, 1) := by decide +kernel
theorem dX10_messagesAreTrue_2 : decode cX10_messagesAreTrue 2 = .ok (.iload_n 1, 1) := by decide +kernel
theorem dX10_messagesAreTrue_3 : decode cX10_messagesAreTrue 3 = .ok (.aload_n 0, 1) := by decide +kernel
theorem dX10_messagesAreTrue_4 : decode cX10_messagesAreTrue 4 = .ok (.getfield 29, 3) := by decide +kernel
theorem dX10_messagesAreTrue_7 : decode cX10_messagesAreTrue 7 = .ok (.if_icmp .ge 31, 3) := by decide +kernel
theorem dX10_messagesAreTrue_10 : decode cX10_messagesAreTrue 10 = .ok (.aload_n 0, 1) := by decide +kernel
theorem dX10_messagesAreTrue_11 : decode cX10_messagesAreTrue 11 = .ok (.iload_n 1, 1) := by decide +kernel
theorem dX10_messagesAreTrue_12 : decode cX10_messagesAreTrue 12 = .ok (.invokevirtual 53, 3) := by decide +kernel
theorem dX10_messagesAreTrue_15 : decode cX10_messagesAreTrue 15 = .ok (.astore_n 2, 1) := by decide +kernel
theorem dX10_messagesAreTrue_16 : decode cX10_messagesAreTrue 16 = .ok (.aload_n 2, 1) := by decide +kernel
theorem dX10_messagesAreTrue_17 : decode cX10_messagesAreTrue 17 = .ok (.ifnull 15, 3) := by decide +kernel
theorem dX10_messagesAreTrue_20 : decode cX10_messagesAreTrue 20 = .ok (.aload_n 2, 1) := by decide +kernel
theorem dX10_messagesAreTrue_21 : decode cX10_messagesAreTrue 21 = .ok (.getfield 140, 3) := by decide +kernel
theorem dX10_messagesAreTrue_24 : decode cX10_messagesAreTrue 24 = .ok (.getfield 241, 3) := by decide +kernel
theorem dX10_messagesAreTrue_27 : decode cX10_messagesAreTrue 27 = .ok (.ifCond .eq 5, 3) := by decide +kernel
theorem dX10_messagesAreTrue_30 : decode cX10_messagesAreTrue 30 = .ok (.iconst 0, 1) := by decide +kernel
theorem dX10_messagesAreTrue_31 : decode cX10_messagesAreTrue 31 = .ok (.ireturn, 1) := by decide +kernel
theorem dX10_messagesAreTrue_32 : decode cX10_messagesAreTrue 32 = .ok (.iinc 1 1, 3) := by decide +kernel
theorem dX10_messagesAreTrue_35 : decode cX10_messagesAreTrue 35 = .ok (.goto (-33), 3) := by decide +kernel
theorem dX10_messagesAreTrue_38 : decode cX10_messagesAreTrue 38 = .ok (.iconst 1, 1) := by decide +kernel
theorem dX10_messagesAreTrue_39 : decode cX10_messagesAreTrue 39 = .ok (.ireturn, 1) := by decide +kernel
theorem dX10_pack_0 : decode cX10_pack 0 = .ok (.iload_n 0, 1) := by decide +kernel
theorem dX10_pack_1 : decode cX10_pack 1 = .ok (.sipush 255, 3) := by decide +kernel
theorem dX10_pack_4 : decode cX10_pack 4 = .ok (.iand, 1) := by decide +kernel
theorem dX10_pack_5 : decode cX10_pack 5 = .ok (.iload_n 1, 1) := by decide +kernel
theorem dX10_pack_6 : decode cX10_pack 6 = .ok (.sipush 255, 3) := by decide +kernel
theorem dX10_pack_9 : decode cX10_pack 9 = .ok (.iand, 1) := by decide +kernel
theorem dX10_pack_10 : decode cX10_pack 10 = .ok (.bipush 8, 2) := by decide +kernel
theorem dX10_pack_12 : decode cX10_pack 12 = .ok (.ishl, 1) := by decide +kernel
theorem dX10_pack_13 : decode cX10_pack 13 = .ok (.ior, 1) := by decide +kernel
theorem dX10_pack_14 : decode cX10_pack 14 = .ok (.iload_n 2, 1) := by decide +kernel
theorem dX10_pack_15 : decode cX10_pack 15 = .ok (.sipush 255, 3) := by decide +kernel
theorem dX10_pack_18 : decode cX10_pack 18 = .ok (.iand, 1) := by decide +kernel
theorem dX10_pack_19 : decode cX10_pack 19 = .ok (.bipush 16, 2) := by decide +kernel
theorem dX10_pack_21 : decode cX10_pack 21 = .ok (.ishl, 1) := by decide +kernel
theorem dX10_pack_22 : decode cX10_pack 22 = .ok (.ior, 1) := by decide +kernel
theorem dX10_pack_23 : decode cX10_pack 23 = .ok (.iload_n 3, 1) := by decide +kernel
theorem dX10_pack_24 : decode cX10_pack 24 = .ok (.bipush 24, 2) := by decide +kernel
theorem dX10_pack_26 : decode cX10_pack 26 = .ok (.ishl, 1) := by decide +kernel
theorem dX10_pack_27 : decode cX10_pack 27 = .ok (.ior, 1) := by decide +kernel
theorem dX10_pack_28 : decode cX10_pack 28 = .ok (.ireturn, 1) := by decide +kernel
theorem dX10_isLess_0 : decode cX10_isLess 0 = .ok (.iload_n 0, 1) := by decide +kernel
theorem dX10_isLess_1 : decode cX10_isLess 1 = .ok (.ldc 244, 2) := by decide +kernel
theorem dX10_isLess_3 : decode cX10_isLess 3 = .ok (.ixor, 1) := by decide +kernel
theorem dX10_isLess_4 : decode cX10_isLess 4 = .ok (.iload_n 1, 1) := by decide +kernel
theorem dX10_isLess_5 : decode cX10_isLess 5 = .ok (.ldc 244, 2) := by decide +kernel
theorem dX10_isLess_7 : decode cX10_isLess 7 = .ok (.ixor, 1) := by decide +kernel
theorem dX10_isLess_8 : decode cX10_isLess 8 = .ok (.if_icmp .ge 7, 3) := by decide +kernel
theorem dX10_isLess_11 : decode cX10_isLess 11 = .ok (.iconst 1, 1) := by decide +kernel
theorem dX10_isLess_12 : decode cX10_isLess 12 = .ok (.goto 4, 3) := by decide +kernel
theorem dX10_isLess_15 : decode cX10_isLess 15 = .ok (.iconst 0, 1) := by decide +kernel
theorem dX10_isLess_16 : decode cX10_isLess 16 = .ok (.ireturn, 1) := by decide +kernel
theorem dX10_identifier_0 : decode cX10_identifier 0 = .ok (.ldc 245, 2) := by decide +kernel
theorem dX10_identifier_2 : decode cX10_identifier 2 = .ok (.iload_n 0, 1) := by decide +kernel
theorem dX10_identifier_3 : decode cX10_identifier 3 = .ok (.bipush 16, 2) := by decide +kernel
theorem dX10_identifier_5 : decode cX10_identifier 5 = .ok (.ishl, 1) := by decide +kernel
theorem dX10_identifier_6 : decode cX10_identifier 6 = .ok (.ior, 1) := by decide +kernel
theorem dX10_identifier_7 : decode cX10_identifier 7 = .ok (.iload_n 1, 1) := by decide +kernel
theorem dX10_identifier_8 : decode cX10_identifier 8 = .ok (.bipush 8, 2) := by decide +kernel
theorem dX10_identifier_10 : decode cX10_identifier 10 = .ok (.ishl, 1) := by decide +kernel
theorem dX10_identifier_11 : decode cX10_identifier 11 = .ok (.ior, 1) := by decide +kernel
theorem dX10_identifier_12 : decode cX10_identifier 12 = .ok (.iload_n 2, 1) := by decide +kernel
theorem dX10_identifier_13 : decode cX10_identifier 13 = .ok (.ior, 1) := by decide +kernel
theorem dX10_identifier_14 : decode cX10_identifier 14 = .ok (.ireturn, 1) := by decide +kernel
theorem dJ9_max_7cf53_0 : decode cJ9_max_7cf53 0 = .ok (.iload_n 0, 1) := by decide +kernel
theorem dJ9_max_7cf53_1 : decode cJ9_max_7cf53 1 = .ok (.iload_n 1, 1) := by decide +kernel
theorem dJ9_max_7cf53_2 : decode cJ9_max_7cf53 2 = .ok (.if_icmp .lt 7, 3) := by decide +kernel
theorem dJ9_max_7cf53_5 : decode cJ9_max_7cf53 5 = .ok (.iload_n 0, 1) := by decide +kernel
theorem dJ9_max_7cf53_6 : decode cJ9_max_7cf53 6 = .ok (.goto 4, 3) := by decide +kernel
theorem dJ9_max_7cf53_9 : decode cJ9_max_7cf53 9 = .ok (.iload_n 1, 1) := by decide +kernel
theorem dJ9_max_7cf53_10 : decode cJ9_max_7cf53 10 = .ok (.ireturn, 1) := by decide +kernel
theorem dJ9_min_7cf53_0 : decode cJ9_min_7cf53 0 = .ok (.iload_n 0, 1) := by decide +kernel
theorem dJ9_min_7cf53_1 : decode cJ9_min_7cf53 1 = .ok (.iload_n 1, 1) := by decide +kernel
theorem dJ9_min_7cf53_2 : decode cJ9_min_7cf53 2 = .ok (.if_icmp .gt 7, 3) := by decide +kernel
theorem dJ9_min_7cf53_5 : decode cJ9_min_7cf53 5 = .ok (.iload_n 0, 1) := by decide +kernel
theorem dJ9_min_7cf53_6 : decode cJ9_min_7cf53 6 = .ok (.goto 4, 3) := by decide +kernel
theorem dJ9_min_7cf53_9 : decode cJ9_min_7cf53 9 = .ok (.iload_n 1, 1) := by decide +kernel
theorem dJ9_min_7cf53_10 : decode cJ9_min_7cf53 10 = .ok (.ireturn, 1) := by decide +kernel
theorem dJxa1e45_init_da8c8_0 : decode cJxa1e45_init_da8c8 0 = .ok (.aload_n 0, 1) := by decide +kernel
theorem dJxa1e45_init_da8c8_1 : decode cJxa1e45_init_da8c8 1 = .ok (.invokespecial 1, 3) := by decide +kernel
theorem dJxa1e45_init_da8c8_4 : decode cJxa1e45_init_da8c8 4 = .ok (.return_, 1) := by decide +kernel
theorem dJxc12de_init_da8c8_0 : decode cJxc12de_init_da8c8 0 = .ok (.aload_n 0, 1) := by decide +kernel
theorem dJxc12de_init_da8c8_1 : decode cJxc12de_init_da8c8 1 = .ok (.invokespecial 1, 3) := by decide +kernel
theorem dJxc12de_init_da8c8_4 : decode cJxc12de_init_da8c8 4 = .ok (.aload_n 0, 1) := by decide +kernel
theorem dJxc12de_init_da8c8_5 : decode cJxc12de_init_da8c8 5 = .ok (.iconst 0, 1) := by decide +kernel
theorem dJxc12de_init_da8c8_6 : decode cJxc12de_init_da8c8 6 = .ok (.putfield 7, 3) := by decide +kernel
theorem dJxc12de_init_da8c8_9 : decode cJxc12de_init_da8c8 9 = .ok (.return_, 1) := by decide +kernel
theorem dJx4a65c_init_da8c8_0 : decode cJx4a65c_init_da8c8 0 = .ok (.aload_n 0, 1) := by decide +kernel
theorem dJx4a65c_init_da8c8_1 : decode cJx4a65c_init_da8c8 1 = .ok (.invokespecial 1, 3) := by decide +kernel
theorem dJx4a65c_init_da8c8_4 : decode cJx4a65c_init_da8c8 4 = .ok (.aload_n 0, 1) := by decide +kernel
theorem dJx4a65c_init_da8c8_5 : decode cJx4a65c_init_da8c8 5 = .ok (.getstatic 39, 3) := by decide +kernel
theorem dJx4a65c_init_da8c8_8 : decode cJx4a65c_init_da8c8 8 = .ok (.putfield 9, 3) := by decide +kernel
theorem dJx4a65c_init_da8c8_11 : decode cJx4a65c_init_da8c8 11 = .ok (.return_, 1) := by decide +kernel
theorem dJx4a65c_grow_92f84_0 : decode cJx4a65c_grow_92f84 0 = .ok (.aload_n 0, 1) := by decide +kernel
theorem dJx4a65c_grow_92f84_1 : decode cJx4a65c_grow_92f84 1 = .ok (.getfield 9, 3) := by decide +kernel
theorem dJx4a65c_grow_92f84_4 : decode cJx4a65c_grow_92f84 4 = .ok (.arraylength, 1) := by decide +kernel
theorem dJx4a65c_grow_92f84_5 : decode cJx4a65c_grow_92f84 5 = .ok (.istore_n 2, 1) := by decide +kernel
theorem dJx4a65c_grow_92f84_6 : decode cJx4a65c_grow_92f84 6 = .ok (.iload_n 2, 1) := by decide +kernel
theorem dJx4a65c_grow_92f84_7 : decode cJx4a65c_grow_92f84 7 = .ok (.ifCond .gt 13, 3) := by decide +kernel
theorem dJx4a65c_grow_92f84_10 : decode cJx4a65c_grow_92f84 10 = .ok (.aload_n 0, 1) := by decide +kernel
theorem dJx4a65c_grow_92f84_11 : decode cJx4a65c_grow_92f84 11 = .ok (.getfield 9, 3) := by decide +kernel
theorem dJx4a65c_grow_92f84_14 : decode cJx4a65c_grow_92f84 14 = .ok (.getstatic 39, 3) := by decide +kernel
theorem dJx4a65c_grow_92f84_17 : decode cJx4a65c_grow_92f84 17 = .ok (.if_acmp .eq 28, 3) := by decide +kernel
theorem dJx4a65c_grow_92f84_20 : decode cJx4a65c_grow_92f84 20 = .ok (.iload_n 2, 1) := by decide +kernel
theorem dJx4a65c_grow_92f84_21 : decode cJx4a65c_grow_92f84 21 = .ok (.iload_n 1, 1) := by decide +kernel
theorem dJx4a65c_grow_92f84_22 : decode cJx4a65c_grow_92f84 22 = .ok (.iload_n 2, 1) := by decide +kernel
theorem dJx4a65c_grow_92f84_23 : decode cJx4a65c_grow_92f84 23 = .ok (.isub, 1) := by decide +kernel
theorem dJx4a65c_grow_92f84_24 : decode cJx4a65c_grow_92f84 24 = .ok (.iload_n 2, 1) := by decide +kernel
theorem dJx4a65c_grow_92f84_25 : decode cJx4a65c_grow_92f84 25 = .ok (.iconst 1, 1) := by decide +kernel
theorem dJx4a65c_grow_92f84_26 : decode cJx4a65c_grow_92f84 26 = .ok (.ishr, 1) := by decide +kernel
theorem dJx4a65c_grow_92f84_27 : decode cJx4a65c_grow_92f84 27 = .ok (.invokestatic 73, 3) := by decide +kernel
theorem dJx4a65c_grow_92f84_30 : decode cJx4a65c_grow_92f84 30 = .ok (.istore_n 3, 1) := by decide +kernel
theorem dJx4a65c_grow_92f84_31 : decode cJx4a65c_grow_92f84 31 = .ok (.aload_n 0, 1) := by decide +kernel
theorem dJx4a65c_grow_92f84_32 : decode cJx4a65c_grow_92f84 32 = .ok (.aload_n 0, 1) := by decide +kernel
theorem dJx4a65c_grow_92f84_33 : decode cJx4a65c_grow_92f84 33 = .ok (.getfield 9, 3) := by decide +kernel
theorem dJx4a65c_grow_92f84_36 : decode cJx4a65c_grow_92f84 36 = .ok (.iload_n 3, 1) := by decide +kernel
theorem dJx4a65c_grow_92f84_37 : decode cJx4a65c_grow_92f84 37 = .ok (.invokestatic 66, 3) := by decide +kernel
theorem dJx4a65c_grow_92f84_40 : decode cJx4a65c_grow_92f84 40 = .ok (.dup_x1, 1) := by decide +kernel
theorem dJx4a65c_grow_92f84_41 : decode cJx4a65c_grow_92f84 41 = .ok (.putfield 9, 3) := by decide +kernel
theorem dJx4a65c_grow_92f84_44 : decode cJx4a65c_grow_92f84 44 = .ok (.areturn, 1) := by decide +kernel
theorem dJx4a65c_grow_92f84_45 : decode cJx4a65c_grow_92f84 45 = .ok (.aload_n 0, 1) := by decide +kernel
theorem dJx4a65c_grow_92f84_46 : decode cJx4a65c_grow_92f84 46 = .ok (.bipush 10, 2) := by decide +kernel
theorem dJx4a65c_grow_92f84_48 : decode cJx4a65c_grow_92f84 48 = .ok (.iload_n 1, 1) := by decide +kernel
theorem dJx4a65c_grow_92f84_49 : decode cJx4a65c_grow_92f84 49 = .ok (.invokestatic 79, 3) := by decide +kernel
theorem dJx4a65c_grow_92f84_52 : decode cJx4a65c_grow_92f84 52 = .ok (.anewarray 7, 3) := by decide +kernel
theorem dJx4a65c_grow_92f84_55 : decode cJx4a65c_grow_92f84 55 = .ok (.dup_x1, 1) := by decide +kernel
theorem dJx4a65c_grow_92f84_56 : decode cJx4a65c_grow_92f84 56 = .ok (.putfield 9, 3) := by decide +kernel
theorem dJx4a65c_grow_92f84_59 : decode cJx4a65c_grow_92f84 59 = .ok (.areturn, 1) := by decide +kernel
theorem dJx4a65c_grow_d5877_0 : decode cJx4a65c_grow_d5877 0 = .ok (.aload_n 0, 1) := by decide +kernel
theorem dJx4a65c_grow_d5877_1 : decode cJx4a65c_grow_d5877 1 = .ok (.aload_n 0, 1) := by decide +kernel
theorem dJx4a65c_grow_d5877_2 : decode cJx4a65c_grow_d5877 2 = .ok (.getfield 48, 3) := by decide +kernel
theorem dJx4a65c_grow_d5877_5 : decode cJx4a65c_grow_d5877 5 = .ok (.iconst 1, 1) := by decide +kernel
theorem dJx4a65c_grow_d5877_6 : decode cJx4a65c_grow_d5877 6 = .ok (.iadd, 1) := by decide +kernel
theorem dJx4a65c_grow_d5877_7 : decode cJx4a65c_grow_d5877 7 = .ok (.invokevirtual 69, 3) := by decide +kernel
theorem dJx4a65c_grow_d5877_10 : decode cJx4a65c_grow_d5877 10 = .ok (.areturn, 1) := by decide +kernel
theorem dJx4a65c_size_8abf5_0 : decode cJx4a65c_size_8abf5 0 = .ok (.aload_n 0, 1) := by decide +kernel
theorem dJx4a65c_size_8abf5_1 : decode cJx4a65c_size_8abf5 1 = .ok (.getfield 48, 3) := by decide +kernel
theorem dJx4a65c_size_8abf5_4 : decode cJx4a65c_size_8abf5 4 = .ok (.ireturn, 1) := by decide +kernel
theorem dJx4a65c_elementData_915e3_0 : decode cJx4a65c_elementData_915e3 0 = .ok (.aload_n 0, 1) := by decide +kernel
theorem dJx4a65c_elementData_915e3_1 : decode cJx4a65c_elementData_915e3 1 = .ok (.getfield 9, 3) := by decide +kernel
theorem dJx4a65c_elementData_915e3_4 : decode cJx4a65c_elementData_915e3 4 = .ok (.iload_n 1, 1) := by decide +kernel
theorem dJx4a65c_elementData_915e3_5 : decode cJx4a65c_elementData_915e3 5 = .ok (.aaload, 1) := by decide +kernel
theorem dJx4a65c_elementData_915e3_6 : decode cJx4a65c_elementData_915e3 6 = .ok (.areturn, 1) := by decide +kernel
theorem dJx4a65c_get_915e3_0 : decode cJx4a65c_get_915e3 0 = .ok (.iload_n 1, 1) := by decide +kernel
theorem dJx4a65c_get_915e3_1 : decode cJx4a65c_get_915e3 1 = .ok (.aload_n 0, 1) := by decide +kernel
theorem dJx4a65c_get_915e3_2 : decode cJx4a65c_get_915e3 2 = .ok (.getfield 48, 3) := by decide +kernel
theorem dJx4a65c_get_915e3_5 : decode cJx4a65c_get_915e3 5 = .ok (.invokestatic 118, 3) := by decide +kernel
theorem dJx4a65c_get_915e3_8 : decode cJx4a65c_get_915e3 8 = .ok (.pop, 1) := by decide +kernel
theorem dJx4a65c_get_915e3_9 : decode cJx4a65c_get_915e3 9 = .ok (.aload_n 0, 1) := by decide +kernel
theorem dJx4a65c_get_915e3_10 : decode cJx4a65c_get_915e3 10 = .ok (.iload_n 1, 1) := by decide +kernel
theorem dJx4a65c_get_915e3_11 : decode cJx4a65c_get_915e3 11 = .ok (.invokevirtual 123, 3) := by decide +kernel
theorem dJx4a65c_get_915e3_14 : decode cJx4a65c_get_915e3 14 = .ok (.areturn, 1) := by decide +kernel
theorem dJx4a65c_add_72be8_0 : decode cJx4a65c_add_72be8 0 = .ok (.iload_n 3, 1) := by decide +kernel
theorem dJx4a65c_add_72be8_1 : decode cJx4a65c_add_72be8 1 = .ok (.aload_n 2, 1) := by decide +kernel
theorem dJx4a65c_add_72be8_2 : decode cJx4a65c_add_72be8 2 = .ok (.arraylength, 1) := by decide +kernel
theorem dJx4a65c_add_72be8_3 : decode cJx4a65c_add_72be8 3 = .ok (.if_icmp .ne 8, 3) := by decide +kernel
theorem dJx4a65c_add_72be8_6 : decode cJx4a65c_add_72be8 6 = .ok (.aload_n 0, 1) := by decide +kernel
theorem dJx4a65c_add_72be8_7 : decode cJx4a65c_add_72be8 7 = .ok (.invokevirtual 129, 3) := by decide +kernel
theorem dJx4a65c_add_72be8_10 : decode cJx4a65c_add_72be8 10 = .ok (.astore_n 2, 1) := by decide +kernel
theorem dJx4a65c_add_72be8_11 : decode cJx4a65c_add_72be8 11 = .ok (.aload_n 2, 1) := by decide +kernel
theorem dJx4a65c_add_72be8_12 : decode cJx4a65c_add_72be8 12 = .ok (.iload_n 3, 1) := by decide +kernel
theorem dJx4a65c_add_72be8_13 : decode cJx4a65c_add_72be8 13 = .ok (.aload_n 1, 1) := by decide +kernel
theorem dJx4a65c_add_72be8_14 : decode cJx4a65c_add_72be8 14 = .ok (.aastore, 1) := by decide +kernel
theorem dJx4a65c_add_72be8_15 : decode cJx4a65c_add_72be8 15 = .ok (.aload_n 0, 1) := by decide +kernel
theorem dJx4a65c_add_72be8_16 : decode cJx4a65c_add_72be8 16 = .ok (.iload_n 3, 1) := by decide +kernel
theorem dJx4a65c_add_72be8_17 : decode cJx4a65c_add_72be8 17 = .ok (.iconst 1, 1) := by decide +kernel
theorem dJx4a65c_add_72be8_18 : decode cJx4a65c_add_72be8 18 = .ok (.iadd, 1) := by decide +kernel
theorem dJx4a65c_add_72be8_19 : decode cJx4a65c_add_72be8 19 = .ok (.putfield 48, 3) := by decide +kernel
theorem dJx4a65c_add_72be8_22 : decode cJx4a65c_add_72be8 22 = .ok (.return_, 1) := by decide +kernel
theorem dJx4a65c_add_9ea2d_0 : decode cJx4a65c_add_9ea2d 0 = .ok (.aload_n 0, 1) := by decide +kernel
theorem dJx4a65c_add_9ea2d_1 : decode cJx4a65c_add_9ea2d 1 = .ok (.dup, 1) := by decide +kernel
theorem dJx4a65c_add_9ea2d_2 : decode cJx4a65c_add_9ea2d 2 = .ok (.getfield 63, 3) := by decide +kernel
theorem dJx4a65c_add_9ea2d_5 : decode cJx4a65c_add_9ea2d 5 = .ok (.iconst 1, 1) := by decide +kernel
theorem dJx4a65c_add_9ea2d_6 : decode cJx4a65c_add_9ea2d 6 = .ok (.iadd, 1) := by decide +kernel
theorem dJx4a65c_add_9ea2d_7 : decode cJx4a65c_add_9ea2d 7 = .ok (.putfield 63, 3) := by decide +kernel
theorem dJx4a65c_add_9ea2d_10 : decode cJx4a65c_add_9ea2d 10 = .ok (.aload_n 0, 1) := by decide +kernel
theorem dJx4a65c_add_9ea2d_11 : decode cJx4a65c_add_9ea2d 11 = .ok (.aload_n 1, 1) := by decide +kernel
theorem dJx4a65c_add_9ea2d_12 : decode cJx4a65c_add_9ea2d 12 = .ok (.aload_n 0, 1) := by decide +kernel
theorem dJx4a65c_add_9ea2d_13 : decode cJx4a65c_add_9ea2d 13 = .ok (.getfield 9, 3) := by decide +kernel
theorem dJx4a65c_add_9ea2d_16 : decode cJx4a65c_add_9ea2d 16 = .ok (.aload_n 0, 1) := by decide +kernel
theorem dJx4a65c_add_9ea2d_17 : decode cJx4a65c_add_9ea2d 17 = .ok (.getfield 48, 3) := by decide +kernel
theorem dJx4a65c_add_9ea2d_20 : decode cJx4a65c_add_9ea2d 20 = .ok (.invokevirtual 131, 3) := by decide +kernel
theorem dJx4a65c_add_9ea2d_23 : decode cJx4a65c_add_9ea2d 23 = .ok (.iconst 1, 1) := by decide +kernel
theorem dJx4a65c_add_9ea2d_24 : decode cJx4a65c_add_9ea2d 24 = .ok (.ireturn, 1) := by decide +kernel
theorem dJ7_copyOf_1904c_0 : decode cJ7_copyOf_1904c 0 = .ok (.aload_n 0, 1) := by decide +kernel
theorem dJ7_copyOf_1904c_1 : decode cJ7_copyOf_1904c 1 = .ok (.iload_n 1, 1) := by decide +kernel
theorem dJ7_copyOf_1904c_2 : decode cJ7_copyOf_1904c 2 = .ok (.aload_n 0, 1) := by decide +kernel
theorem dJ7_copyOf_1904c_3 : decode cJ7_copyOf_1904c 3 = .ok (.invokevirtual 86, 3) := by decide +kernel
theorem dJ7_copyOf_1904c_6 : decode cJ7_copyOf_1904c 6 = .ok (.invokestatic 300, 3) := by decide +kernel
theorem dJ7_copyOf_1904c_9 : decode cJ7_copyOf_1904c 9 = .ok (.areturn, 1) := by decide +kernel
theorem dJ7_copyOf_6403c_0 : decode cJ7_copyOf_6403c 0 = .ok (.aload_n 2, 1) := by decide +kernel
theorem dJ7_copyOf_6403c_1 : decode cJ7_copyOf_6403c 1 = .ok (.ldc 110, 2) := by decide +kernel
theorem dJ7_copyOf_6403c_3 : decode cJ7_copyOf_6403c 3 = .ok (.if_acmp .ne 10, 3) := by decide +kernel
theorem dJ7_copyOf_6403c_6 : decode cJ7_copyOf_6403c 6 = .ok (.iload_n 1, 1) := by decide +kernel
theorem dJ7_copyOf_6403c_7 : decode cJ7_copyOf_6403c 7 = .ok (.anewarray 2, 3) := by decide +kernel
theorem dJ7_copyOf_6403c_10 : decode cJ7_copyOf_6403c 10 = .ok (.goto 14, 3) := by decide +kernel
theorem dJ7_copyOf_6403c_13 : decode cJ7_copyOf_6403c 13 = .ok (.aload_n 2, 1) := by decide +kernel
theorem dJ7_copyOf_6403c_14 : decode cJ7_copyOf_6403c 14 = .ok (.invokevirtual 90, 3) := by decide +kernel
theorem dJ7_copyOf_6403c_17 : decode cJ7_copyOf_6403c 17 = .ok (.iload_n 1, 1) := by decide +kernel
theorem dJ7_copyOf_6403c_18 : decode cJ7_copyOf_6403c 18 = .ok (.invokestatic 95, 3) := by decide +kernel
theorem dJ7_copyOf_6403c_21 : decode cJ7_copyOf_6403c 21 = .ok (.checkcast 110, 3) := by decide +kernel
theorem dJ7_copyOf_6403c_24 : decode cJ7_copyOf_6403c 24 = .ok (.astore_n 3, 1) := by decide +kernel
theorem dJ7_copyOf_6403c_25 : decode cJ7_copyOf_6403c 25 = .ok (.aload_n 0, 1) := by decide +kernel
theorem dJ7_copyOf_6403c_26 : decode cJ7_copyOf_6403c 26 = .ok (.iconst 0, 1) := by decide +kernel
theorem dJ7_copyOf_6403c_27 : decode cJ7_copyOf_6403c 27 = .ok (.aload_n 3, 1) := by decide +kernel
theorem dJ7_copyOf_6403c_28 : decode cJ7_copyOf_6403c 28 = .ok (.iconst 0, 1) := by decide +kernel
theorem dJ7_copyOf_6403c_29 : decode cJ7_copyOf_6403c 29 = .ok (.aload_n 0, 1) := by decide +kernel
theorem dJ7_copyOf_6403c_30 : decode cJ7_copyOf_6403c 30 = .ok (.arraylength, 1) := by decide +kernel
theorem dJ7_copyOf_6403c_31 : decode cJ7_copyOf_6403c 31 = .ok (.iload_n 1, 1) := by decide +kernel
theorem dJ7_copyOf_6403c_32 : decode cJ7_copyOf_6403c 32 = .ok (.invokestatic 304, 3) := by decide +kernel
theorem dJ7_copyOf_6403c_35 : decode cJ7_copyOf_6403c 35 = .ok (.invokestatic 150, 3) := by decide +kernel
theorem dJ7_copyOf_6403c_38 : decode cJ7_copyOf_6403c 38 = .ok (.aload_n 3, 1) := by decide +kernel
theorem dJ7_copyOf_6403c_39 : decode cJ7_copyOf_6403c 39 = .ok (.areturn, 1) := by decide +kernel
theorem dJ15_checkIndex_7cf53_0 : decode cJ15_checkIndex_7cf53 0 = .ok (.iload_n 0, 1) := by decide +kernel
theorem dJ15_checkIndex_7cf53_1 : decode cJ15_checkIndex_7cf53 1 = .ok (.iload_n 1, 1) := by decide +kernel
theorem dJ15_checkIndex_7cf53_2 : decode cJ15_checkIndex_7cf53 2 = .ok (.aconst_null, 1) := by decide +kernel
theorem dJ15_checkIndex_7cf53_3 : decode cJ15_checkIndex_7cf53 3 = .ok (.invokestatic 105, 3) := by decide +kernel
theorem dJ15_checkIndex_7cf53_6 : decode cJ15_checkIndex_7cf53 6 = .ok (.ireturn, 1) := by decide +kernel
theorem dJ8_newLength_cabcc_0 : decode cJ8_newLength_cabcc 0 = .ok (.iload_n 0, 1) := by decide +kernel
theorem dJ8_newLength_cabcc_1 : decode cJ8_newLength_cabcc 1 = .ok (.iload_n 1, 1) := by decide +kernel
theorem dJ8_newLength_cabcc_2 : decode cJ8_newLength_cabcc 2 = .ok (.iload_n 2, 1) := by decide +kernel
theorem dJ8_newLength_cabcc_3 : decode cJ8_newLength_cabcc 3 = .ok (.invokestatic 194, 3) := by decide +kernel
theorem dJ8_newLength_cabcc_6 : decode cJ8_newLength_cabcc 6 = .ok (.iadd, 1) := by decide +kernel
theorem dJ8_newLength_cabcc_7 : decode cJ8_newLength_cabcc 7 = .ok (.istore_n 3, 1) := by decide +kernel
theorem dJ8_newLength_cabcc_8 : decode cJ8_newLength_cabcc 8 = .ok (.iconst 0, 1) := by decide +kernel
theorem dJ8_newLength_cabcc_9 : decode cJ8_newLength_cabcc 9 = .ok (.iload_n 3, 1) := by decide +kernel
theorem dJ8_newLength_cabcc_10 : decode cJ8_newLength_cabcc 10 = .ok (.if_icmp .ge 11, 3) := by decide +kernel
theorem dJ8_newLength_cabcc_13 : decode cJ8_newLength_cabcc 13 = .ok (.iload_n 3, 1) := by decide +kernel
theorem dJ8_newLength_cabcc_14 : decode cJ8_newLength_cabcc 14 = .ok (.ldc 200, 2) := by decide +kernel
theorem dJ8_newLength_cabcc_16 : decode cJ8_newLength_cabcc 16 = .ok (.if_icmp .gt 5, 3) := by decide +kernel
theorem dJ8_newLength_cabcc_19 : decode cJ8_newLength_cabcc 19 = .ok (.iload_n 3, 1) := by decide +kernel
theorem dJ8_newLength_cabcc_20 : decode cJ8_newLength_cabcc 20 = .ok (.ireturn, 1) := by decide +kernel
theorem dJ8_newLength_cabcc_21 : decode cJ8_newLength_cabcc 21 = .ok (.iload_n 0, 1) := by decide +kernel
theorem dJ8_newLength_cabcc_22 : decode cJ8_newLength_cabcc 22 = .ok (.iload_n 1, 1) := by decide +kernel
theorem dJ8_newLength_cabcc_23 : decode cJ8_newLength_cabcc 23 = .ok (.invokestatic 201, 3) := by decide +kernel
theorem dJ8_newLength_cabcc_26 : decode cJ8_newLength_cabcc 26 = .ok (.ireturn, 1) := by decide +kernel
theorem dJ8_hugeLength_7cf53_0 : decode cJ8_hugeLength_7cf53 0 = .ok (.iload_n 0, 1) := by decide +kernel
theorem dJ8_hugeLength_7cf53_1 : decode cJ8_hugeLength_7cf53 1 = .ok (.iload_n 1, 1) := by decide +kernel
theorem dJ8_hugeLength_7cf53_2 : decode cJ8_hugeLength_7cf53 2 = .ok (.iadd, 1) := by decide +kernel
theorem dJ8_hugeLength_7cf53_3 : decode cJ8_hugeLength_7cf53 3 = .ok (.istore_n 2, 1) := by decide +kernel
theorem dJ8_hugeLength_7cf53_4 : decode cJ8_hugeLength_7cf53 4 = .ok (.iload_n 2, 1) := by decide +kernel
theorem dJ8_hugeLength_7cf53_5 : decode cJ8_hugeLength_7cf53 5 = .ok (.ifCond .ge 44, 3) := by decide +kernel
theorem dJ8_hugeLength_7cf53_8 : decode cJ8_hugeLength_7cf53 8 = .ok (.new 204, 3) := by decide +kernel
theorem dJ8_hugeLength_7cf53_11 : decode cJ8_hugeLength_7cf53 11 = .ok (.dup, 1) := by decide +kernel
theorem dJ8_hugeLength_7cf53_12 : decode cJ8_hugeLength_7cf53 12 = .ok (.new 89, 3) := by decide +kernel
theorem dJ8_hugeLength_7cf53_15 : decode cJ8_hugeLength_7cf53 15 = .ok (.dup, 1) := by decide +kernel
theorem dJ8_hugeLength_7cf53_16 : decode cJ8_hugeLength_7cf53 16 = .ok (.invokespecial 91, 3) := by decide +kernel
theorem dJ8_hugeLength_7cf53_19 : decode cJ8_hugeLength_7cf53 19 = .ok (.ldc 206, 2) := by decide +kernel
theorem dJ8_hugeLength_7cf53_21 : decode cJ8_hugeLength_7cf53 21 = .ok (.invokevirtual 94, 3) := by decide +kernel
theorem dJ8_hugeLength_7cf53_24 : decode cJ8_hugeLength_7cf53 24 = .ok (.iload_n 0, 1) := by decide +kernel
theorem dJ8_hugeLength_7cf53_25 : decode cJ8_hugeLength_7cf53 25 = .ok (.invokevirtual 98, 3) := by decide +kernel
theorem dJ8_hugeLength_7cf53_28 : decode cJ8_hugeLength_7cf53 28 = .ok (.ldc 208, 2) := by decide +kernel
theorem dJ8_hugeLength_7cf53_30 : decode cJ8_hugeLength_7cf53 30 = .ok (.invokevirtual 94, 3) := by decide +kernel
theorem dJ8_hugeLength_7cf53_33 : decode cJ8_hugeLength_7cf53 33 = .ok (.iload_n 1, 1) := by decide +kernel
theorem dJ8_hugeLength_7cf53_34 : decode cJ8_hugeLength_7cf53 34 = .ok (.invokevirtual 98, 3) := by decide +kernel
theorem dJ8_hugeLength_7cf53_37 : decode cJ8_hugeLength_7cf53 37 = .ok (.ldc 210, 2) := by decide +kernel
theorem dJ8_hugeLength_7cf53_39 : decode cJ8_hugeLength_7cf53 39 = .ok (.invokevirtual 94, 3) := by decide +kernel
theorem dJ8_hugeLength_7cf53_42 : decode cJ8_hugeLength_7cf53 42 = .ok (.invokevirtual 101, 3) := by decide +kernel
theorem dJ8_hugeLength_7cf53_45 : decode cJ8_hugeLength_7cf53 45 = .ok (.invokespecial 212, 3) := by decide +kernel
theorem dJ8_hugeLength_7cf53_48 : decode cJ8_hugeLength_7cf53 48 = .ok (.athrow, 1) := by decide +kernel
theorem dJ8_hugeLength_7cf53_49 : decode cJ8_hugeLength_7cf53 49 = .ok (.iload_n 2, 1) := by decide +kernel
theorem dJ8_hugeLength_7cf53_50 : decode cJ8_hugeLength_7cf53 50 = .ok (.ldc 200, 2) := by decide +kernel
theorem dJ8_hugeLength_7cf53_52 : decode cJ8_hugeLength_7cf53 52 = .ok (.if_icmp .gt 6, 3) := by decide +kernel
theorem dJ8_hugeLength_7cf53_55 : decode cJ8_hugeLength_7cf53 55 = .ok (.ldc 200, 2) := by decide +kernel
theorem dJ8_hugeLength_7cf53_57 : decode cJ8_hugeLength_7cf53 57 = .ok (.ireturn, 1) := by decide +kernel
theorem dJ8_hugeLength_7cf53_58 : decode cJ8_hugeLength_7cf53 58 = .ok (.iload_n 2, 1) := by decide +kernel
theorem dJ8_hugeLength_7cf53_59 : decode cJ8_hugeLength_7cf53 59 = .ok (.ireturn, 1) := by decide +kernel
theorem dJ3_checkIndex_8e157_0 : decode cJ3_checkIndex_8e157 0 = .ok (.iload_n 0, 1) := by decide +kernel
theorem dJ3_checkIndex_8e157_1 : decode cJ3_checkIndex_8e157 1 = .ok (.ifCond .lt 8, 3) := by decide +kernel
theorem dJ3_checkIndex_8e157_4 : decode cJ3_checkIndex_8e157 4 = .ok (.iload_n 0, 1) := by decide +kernel
theorem dJ3_checkIndex_8e157_5 : decode cJ3_checkIndex_8e157 5 = .ok (.iload_n 1, 1) := by decide +kernel
theorem dJ3_checkIndex_8e157_6 : decode cJ3_checkIndex_8e157 6 = .ok (.if_icmp .lt 10, 3) := by decide +kernel
theorem dJ3_checkIndex_8e157_9 : decode cJ3_checkIndex_8e157 9 = .ok (.aload_n 2, 1) := by decide +kernel
theorem dJ3_checkIndex_8e157_10 : decode cJ3_checkIndex_8e157 10 = .ok (.iload_n 0, 1) := by decide +kernel
theorem dJ3_checkIndex_8e157_11 : decode cJ3_checkIndex_8e157 11 = .ok (.iload_n 1, 1) := by decide +kernel
theorem dJ3_checkIndex_8e157_12 : decode cJ3_checkIndex_8e157 12 = .ok (.invokestatic 95, 3) := by decide +kernel
theorem dJ3_checkIndex_8e157_15 : decode cJ3_checkIndex_8e157 15 = .ok (.athrow, 1) := by decide +kernel
theorem dJ3_checkIndex_8e157_16 : decode cJ3_checkIndex_8e157 16 = .ok (.iload_n 0, 1) := by decide +kernel
theorem dJ3_checkIndex_8e157_17 : decode cJ3_checkIndex_8e157 17 = .ok (.ireturn, 1) := by decide +kernel
theorem dL_at_0 : decode cL_at 0 = .ok (.iload_n 0, 1) := by decide +kernel
theorem dL_at_1 : decode cL_at 1 = .ok (.iload_n 1, 1) := by decide +kernel
theorem dL_at_2 : decode cL_at 2 = .ok (.iload_n 1, 1) := by decide +kernel
theorem dL_at_3 : decode cL_at 3 = .ok (.imul, 1) := by decide +kernel
theorem dL_at_4 : decode cL_at 4 = .ok (.iadd, 1) := by decide +kernel
theorem dL_at_5 : decode cL_at 5 = .ok (.iload_n 1, 1) := by decide +kernel
theorem dL_at_6 : decode cL_at 6 = .ok (.sipush 256, 3) := by decide +kernel
theorem dL_at_9 : decode cL_at 9 = .ok (.idiv, 1) := by decide +kernel
theorem dL_at_10 : decode cL_at 10 = .ok (.iadd, 1) := by decide +kernel
theorem dL_at_11 : decode cL_at 11 = .ok (.sipush 255, 3) := by decide +kernel
theorem dL_at_14 : decode cL_at 14 = .ok (.iand, 1) := by decide +kernel
theorem dL_at_15 : decode cL_at 15 = .ok (.ireturn, 1) := by decide +kernel
theorem dL_law_0 : decode cL_law 0 = .ok (.new 7, 3) := by decide +kernel
theorem dL_law_3 : decode cL_law 3 = .ok (.dup, 1) := by decide +kernel
theorem dL_law_4 : decode cL_law 4 = .ok (.invokespecial 9, 3) := by decide +kernel
theorem dL_law_7 : decode cL_law 7 = .ok (.astore_n 1, 1) := by decide +kernel
theorem dL_law_8 : decode cL_law 8 = .ok (.aload_n 0, 1) := by decide +kernel
theorem dL_law_9 : decode cL_law 9 = .ok (.arraylength, 1) := by decide +kernel
theorem dL_law_10 : decode cL_law 10 = .ok (.ifCond .le 9, 3) := by decide +kernel
theorem dL_law_13 : decode cL_law 13 = .ok (.aload_n 0, 1) := by decide +kernel
theorem dL_law_14 : decode cL_law 14 = .ok (.iconst 0, 1) := by decide +kernel
theorem dL_law_15 : decode cL_law 15 = .ok (.iaload, 1) := by decide +kernel
theorem dL_law_16 : decode cL_law 16 = .ok (.goto 5, 3) := by decide +kernel
theorem dL_law_19 : decode cL_law 19 = .ok (.ldc 10, 2) := by decide +kernel
theorem dL_law_21 : decode cL_law 21 = .ok (.istore_n 2, 1) := by decide +kernel
theorem dL_law_22 : decode cL_law 22 = .ok (.iconst 1, 1) := by decide +kernel
theorem dL_law_23 : decode cL_law 23 = .ok (.iload_n 2, 1) := by decide +kernel
theorem dL_law_24 : decode cL_law 24 = .ok (.bipush 15, 2) := by decide +kernel
theorem dL_law_26 : decode cL_law 26 = .ok (.iand, 1) := by decide +kernel
theorem dL_law_27 : decode cL_law 27 = .ok (.iadd, 1) := by decide +kernel
theorem dL_law_28 : decode cL_law 28 = .ok (.istore_n 3, 1) := by decide +kernel
theorem dL_law_29 : decode cL_law 29 = .ok (.iconst 1, 1) := by decide +kernel
theorem dL_law_30 : decode cL_law 30 = .ok (.iload_n 2, 1) := by decide +kernel
theorem dL_law_31 : decode cL_law 31 = .ok (.iconst 4, 1) := by decide +kernel
theorem dL_law_32 : decode cL_law 32 = .ok (.ishr, 1) := by decide +kernel
theorem dL_law_33 : decode cL_law 33 = .ok (.bipush 15, 2) := by decide +kernel
theorem dL_law_35 : decode cL_law 35 = .ok (.iand, 1) := by decide +kernel
theorem dL_law_36 : decode cL_law 36 = .ok (.iadd, 1) := by decide +kernel
theorem dL_law_37 : decode cL_law 37 = .ok (.istore 4, 2) := by decide +kernel
theorem dL_law_39 : decode cL_law 39 = .ok (.aload_n 1, 1) := by decide +kernel
theorem dL_law_40 : decode cL_law 40 = .ok (.iconst 0, 1) := by decide +kernel
theorem dL_law_41 : decode cL_law 41 = .ok (.iconst 5, 1) := by decide +kernel
theorem dL_law_42 : decode cL_law 42 = .ok (.bipush 10, 2) := by decide +kernel
theorem dL_law_44 : decode cL_law 44 = .ok (.iconst 0, 1) := by decide +kernel
theorem dL_law_45 : decode cL_law 45 = .ok (.iload_n 3, 1) := by decide +kernel
theorem dL_law_46 : decode cL_law 46 = .ok (.invokevirtual 11, 3) := by decide +kernel
theorem dL_law_49 : decode cL_law 49 = .ok (.ifCond .ne 102, 3) := by decide +kernel
theorem dL_law_52 : decode cL_law 52 = .ok (.aload_n 1, 1) := by decide +kernel
theorem dL_law_53 : decode cL_law 53 = .ok (.iconst 0, 1) := by decide +kernel
theorem dL_law_54 : decode cL_law 54 = .ok (.iconst 4, 1) := by decide +kernel
theorem dL_law_55 : decode cL_law 55 = .ok (.sipush 200, 3) := by decide +kernel
theorem dL_law_58 : decode cL_law 58 = .ok (.iconst 1, 1) := by decide +kernel
theorem dL_law_59 : decode cL_law 59 = .ok (.iload 4, 2) := by decide +kernel
theorem dL_law_61 : decode cL_law 61 = .ok (.invokevirtual 11, 3) := by decide +kernel
theorem dL_law_64 : decode cL_law 64 = .ok (.iconst 1, 1) := by decide +kernel
theorem dL_law_65 : decode cL_law 65 = .ok (.if_icmp .ne 86, 3) := by decide +kernel
theorem dL_law_68 : decode cL_law 68 = .ok (.aload_n 1, 1) := by decide +kernel
theorem dL_law_69 : decode cL_law 69 = .ok (.iconst 0, 1) := by decide +kernel
theorem dL_law_70 : decode cL_law 70 = .ok (.invokevirtual 15, 3) := by decide +kernel
theorem dL_law_73 : decode cL_law 73 = .ok (.ifCond .eq 78, 3) := by decide +kernel
theorem dL_law_76 : decode cL_law 76 = .ok (.aload_n 1, 1) := by decide +kernel
theorem dL_law_77 : decode cL_law 77 = .ok (.iconst 1, 1) := by decide +kernel
theorem dL_law_78 : decode cL_law 78 = .ok (.invokevirtual 15, 3) := by decide +kernel
theorem dL_law_81 : decode cL_law 81 = .ok (.ifCond .eq 70, 3) := by decide +kernel
theorem dL_law_84 : decode cL_law 84 = .ok (.aload_n 1, 1) := by decide +kernel
theorem dL_law_85 : decode cL_law 85 = .ok (.sipush 251, 3) := by decide +kernel
theorem dL_law_88 : decode cL_law 88 = .ok (.invokevirtual 19, 3) := by decide +kernel
theorem dL_law_91 : decode cL_law 91 = .ok (.sipush 251, 3) := by decide +kernel
theorem dL_law_94 : decode cL_law 94 = .ok (.if_icmp .ne 57, 3) := by decide +kernel
theorem dL_law_97 : decode cL_law 97 = .ok (.aload_n 1, 1) := by decide +kernel
theorem dL_law_98 : decode cL_law 98 = .ok (.iconst 0, 1) := by decide +kernel
theorem dL_law_99 : decode cL_law 99 = .ok (.iconst 0, 1) := by decide +kernel
theorem dL_law_100 : decode cL_law 100 = .ok (.invokevirtual 23, 3) := by decide +kernel
theorem dL_law_103 : decode cL_law 103 = .ok (.iconst 2, 1) := by decide +kernel
theorem dL_law_104 : decode cL_law 104 = .ok (.if_icmp .ne 47, 3) := by decide +kernel
theorem dL_law_107 : decode cL_law 107 = .ok (.aload_n 1, 1) := by decide +kernel
theorem dL_law_108 : decode cL_law 108 = .ok (.iconst 1, 1) := by decide +kernel
theorem dL_law_109 : decode cL_law 109 = .ok (.iconst 0, 1) := by decide +kernel
theorem dL_law_110 : decode cL_law 110 = .ok (.invokevirtual 23, 3) := by decide +kernel
theorem dL_law_113 : decode cL_law 113 = .ok (.iconst 1, 1) := by decide +kernel
theorem dL_law_114 : decode cL_law 114 = .ok (.if_icmp .ne 37, 3) := by decide +kernel
theorem dL_law_117 : decode cL_law 117 = .ok (.aload_n 1, 1) := by decide +kernel
theorem dL_law_118 : decode cL_law 118 = .ok (.iconst 1, 1) := by decide +kernel
theorem dL_law_119 : decode cL_law 119 = .ok (.invokevirtual 19, 3) := by decide +kernel
theorem dL_law_122 : decode cL_law 122 = .ok (.sipush 252, 3) := by decide +kernel
theorem dL_law_125 : decode cL_law 125 = .ok (.if_icmp .ne 26, 3) := by decide +kernel
theorem dL_law_128 : decode cL_law 128 = .ok (.aload_n 1, 1) := by decide +kernel
theorem dL_law_129 : decode cL_law 129 = .ok (.iconst 1, 1) := by decide +kernel
theorem dL_law_130 : decode cL_law 130 = .ok (.iconst 0, 1) := by decide +kernel
theorem dL_law_131 : decode cL_law 131 = .ok (.invokevirtual 23, 3) := by decide +kernel
theorem dL_law_134 : decode cL_law 134 = .ok (.iconst 2, 1) := by decide +kernel
theorem dL_law_135 : decode cL_law 135 = .ok (.if_icmp .ne 16, 3) := by decide +kernel
theorem dL_law_138 : decode cL_law 138 = .ok (.aload_n 1, 1) := by decide +kernel
theorem dL_law_139 : decode cL_law 139 = .ok (.iconst 2, 1) := by decide +kernel
theorem dL_law_140 : decode cL_law 140 = .ok (.invokevirtual 27, 3) := by decide +kernel
theorem dL_law_143 : decode cL_law 143 = .ok (.iconst 2, 1) := by decide +kernel
theorem dL_law_144 : decode cL_law 144 = .ok (.if_icmp .ne 7, 3) := by decide +kernel
theorem dL_law_147 : decode cL_law 147 = .ok (.iconst 1, 1) := by decide +kernel
theorem dL_law_148 : decode cL_law 148 = .ok (.goto 4, 3) := by decide +kernel
theorem dL_law_151 : decode cL_law 151 = .ok (.iconst 0, 1) := by decide +kernel
theorem dL_law_152 : decode cL_law 152 = .ok (.istore 5, 2) := by decide +kernel
theorem dL_law_154 : decode cL_law 154 = .ok (.iload_n 3, 1) := by decide +kernel
theorem dL_law_155 : decode cL_law 155 = .ok (.iload 4, 2) := by decide +kernel
theorem dL_law_157 : decode cL_law 157 = .ok (.if_icmp .ge 7, 3) := by decide +kernel
theorem dL_law_160 : decode cL_law 160 = .ok (.iload_n 3, 1) := by decide +kernel
theorem dL_law_161 : decode cL_law 161 = .ok (.goto 5, 3) := by decide +kernel
theorem dL_law_164 : decode cL_law 164 = .ok (.iload 4, 2) := by decide +kernel
theorem dL_law_166 : decode cL_law 166 = .ok (.istore 6, 2) := by decide +kernel
theorem dL_law_168 : decode cL_law 168 = .ok (.iconst 2, 1) := by decide +kernel
theorem dL_law_169 : decode cL_law 169 = .ok (.istore 7, 2) := by decide +kernel
theorem dL_law_171 : decode cL_law 171 = .ok (.iconst 1, 1) := by decide +kernel
theorem dL_law_172 : decode cL_law 172 = .ok (.istore 8, 2) := by decide +kernel
theorem dL_law_174 : decode cL_law 174 = .ok (.iload 8, 2) := by decide +kernel
theorem dL_law_176 : decode cL_law 176 = .ok (.aload_n 0, 1) := by decide +kernel
theorem dL_law_177 : decode cL_law 177 = .ok (.arraylength, 1) := by decide +kernel
theorem dL_law_178 : decode cL_law 178 = .ok (.if_icmp .ge 419, 3) := by decide +kernel
theorem dL_law_181 : decode cL_law 181 = .ok (.iload 8, 2) := by decide +kernel
theorem dL_law_183 : decode cL_law 183 = .ok (.bipush 8, 2) := by decide +kernel
theorem dL_law_185 : decode cL_law 185 = .ok (.if_icmp .ge 412, 3) := by decide +kernel
theorem dL_law_188 : decode cL_law 188 = .ok (.iload 5, 2) := by decide +kernel
theorem dL_law_190 : decode cL_law 190 = .ok (.ifCond .eq 407, 3) := by decide +kernel
theorem dL_law_193 : decode cL_law 193 = .ok (.bipush 9, 2) := by decide +kernel
theorem dL_law_195 : decode cL_law 195 = .ok (.aload_n 0, 1) := by decide +kernel
theorem dL_law_196 : decode cL_law 196 = .ok (.iload 8, 2) := by decide +kernel
theorem dL_law_198 : decode cL_law 198 = .ok (.iaload, 1) := by decide +kernel
theorem dL_law_199 : decode cL_law 199 = .ok (.sipush 2047, 3) := by decide +kernel
theorem dL_law_202 : decode cL_law 202 = .ok (.iand, 1) := by decide +kernel
theorem dL_law_203 : decode cL_law 203 = .ok (.sipush 1777, 3) := by decide +kernel
theorem dL_law_206 : decode cL_law 206 = .ok (.irem, 1) := by decide +kernel
theorem dL_law_207 : decode cL_law 207 = .ok (.iadd, 1) := by decide +kernel
theorem dL_law_208 : decode cL_law 208 = .ok (.istore 9, 2) := by decide +kernel
theorem dL_law_210 : decode cL_law 210 = .ok (.iload 9, 2) := by decide +kernel
theorem dL_law_212 : decode cL_law 212 = .ok (.bipush 6, 2) := by decide +kernel
theorem dL_law_214 : decode cL_law 214 = .ok (.iadd, 1) := by decide +kernel
theorem dL_law_215 : decode cL_law 215 = .ok (.bipush 7, 2) := by decide +kernel
theorem dL_law_217 : decode cL_law 217 = .ok (.idiv, 1) := by decide +kernel
theorem dL_law_218 : decode cL_law 218 = .ok (.istore 10, 2) := by decide +kernel
theorem dL_law_220 : decode cL_law 220 = .ok (.aload_n 0, 1) := by decide +kernel
theorem dL_law_221 : decode cL_law 221 = .ok (.iload 8, 2) := by decide +kernel
theorem dL_law_223 : decode cL_law 223 = .ok (.iaload, 1) := by decide +kernel
theorem dL_law_224 : decode cL_law 224 = .ok (.bipush 12, 2) := by decide +kernel
theorem dL_law_226 : decode cL_law 226 = .ok (.ishr, 1) := by decide +kernel
theorem dL_law_227 : decode cL_law 227 = .ok (.iconst 1, 1) := by decide +kernel
theorem dL_law_228 : decode cL_law 228 = .ok (.iand, 1) := by decide +kernel
theorem dL_law_229 : decode cL_law 229 = .ok (.iconst 1, 1) := by decide +kernel
theorem dL_law_230 : decode cL_law 230 = .ok (.if_icmp .ne 7, 3) := by decide +kernel
theorem dL_law_233 : decode cL_law 233 = .ok (.iconst 1, 1) := by decide +kernel
theorem dL_law_234 : decode cL_law 234 = .ok (.goto 4, 3) := by decide +kernel
theorem dL_law_237 : decode cL_law 237 = .ok (.iconst 0, 1) := by decide +kernel
theorem dL_law_238 : decode cL_law 238 = .ok (.istore 11, 2) := by decide +kernel
theorem dL_law_240 : decode cL_law 240 = .ok (.aload_n 0, 1) := by decide +kernel
theorem dL_law_241 : decode cL_law 241 = .ok (.iload 8, 2) := by decide +kernel
theorem dL_law_243 : decode cL_law 243 = .ok (.iaload, 1) := by decide +kernel
theorem dL_law_244 : decode cL_law 244 = .ok (.bipush 13, 2) := by decide +kernel
theorem dL_law_246 : decode cL_law 246 = .ok (.ishr, 1) := by decide +kernel
theorem dL_law_247 : decode cL_law 247 = .ok (.istore 12, 2) := by decide +kernel
theorem dL_law_249 : decode cL_law 249 = .ok (.iload 11, 2) := by decide +kernel
theorem dL_law_251 : decode cL_law 251 = .ok (.ifCond .eq 30, 3) := by decide +kernel
theorem dL_law_254 : decode cL_law 254 = .ok (.aload_n 0, 1) := by decide +kernel
theorem dL_law_255 : decode cL_law 255 = .ok (.iload 8, 2) := by decide +kernel
theorem dL_law_257 : decode cL_law 257 = .ok (.iaload, 1) := by decide +kernel
theorem dL_law_258 : decode cL_law 258 = .ok (.iconst 1, 1) := by decide +kernel
theorem dL_law_259 : decode cL_law 259 = .ok (.iand, 1) := by decide +kernel
theorem dL_law_260 : decode cL_law 260 = .ok (.iconst 1, 1) := by decide +kernel
theorem dL_law_261 : decode cL_law 261 = .ok (.if_icmp .ne 20, 3) := by decide +kernel
theorem dL_law_264 : decode cL_law 264 = .ok (.ldc 30, 2) := by decide +kernel
theorem dL_law_266 : decode cL_law 266 = .ok (.aload_n 0, 1) := by decide +kernel
theorem dL_law_267 : decode cL_law 267 = .ok (.iload 8, 2) := by decide +kernel
theorem dL_law_269 : decode cL_law 269 = .ok (.iaload, 1) := by decide +kernel
theorem dL_law_270 : decode cL_law 270 = .ok (.bipush 20, 2) := by decide +kernel
theorem dL_law_272 : decode cL_law 272 = .ok (.ishr, 1) := by decide +kernel
theorem dL_law_273 : decode cL_law 273 = .ok (.sipush 255, 3) := by decide +kernel
theorem dL_law_276 : decode cL_law 276 = .ok (.iand, 1) := by decide +kernel
theorem dL_law_277 : decode cL_law 277 = .ok (.iadd, 1) := by decide +kernel
theorem dL_law_278 : decode cL_law 278 = .ok (.goto 16, 3) := by decide +kernel
theorem dL_law_281 : decode cL_law 281 = .ok (.aload_n 0, 1) := by decide +kernel
theorem dL_law_282 : decode cL_law 282 = .ok (.iload 8, 2) := by decide +kernel
theorem dL_law_284 : decode cL_law 284 = .ok (.iaload, 1) := by decide +kernel
theorem dL_law_285 : decode cL_law 285 = .ok (.bipush 20, 2) := by decide +kernel
theorem dL_law_287 : decode cL_law 287 = .ok (.ishr, 1) := by decide +kernel
theorem dL_law_288 : decode cL_law 288 = .ok (.bipush 127, 2) := by decide +kernel
theorem dL_law_290 : decode cL_law 290 = .ok (.iand, 1) := by decide +kernel
theorem dL_law_291 : decode cL_law 291 = .ok (.bipush 8, 2) := by decide +kernel
theorem dL_law_293 : decode cL_law 293 = .ok (.ishl, 1) := by decide +kernel
theorem dL_law_294 : decode cL_law 294 = .ok (.istore 13, 2) := by decide +kernel
theorem dL_law_296 : decode cL_law 296 = .ok (.aload_n 1, 1) := by decide +kernel
theorem dL_law_297 : decode cL_law 297 = .ok (.iconst 0, 1) := by decide +kernel
theorem dL_law_298 : decode cL_law 298 = .ok (.iload 11, 2) := by decide +kernel
theorem dL_law_300 : decode cL_law 300 = .ok (.ifCond .eq 9, 3) := by decide +kernel
theorem dL_law_303 : decode cL_law 303 = .ok (.sipush 255, 3) := by decide +kernel
theorem dL_law_306 : decode cL_law 306 = .ok (.goto 6, 3) := by decide +kernel
theorem dL_law_309 : decode cL_law 309 = .ok (.sipush 200, 3) := by decide +kernel
theorem dL_law_312 : decode cL_law 312 = .ok (.iload 13, 2) := by decide +kernel
theorem dL_law_314 : decode cL_law 314 = .ok (.iload 9, 2) := by decide +kernel
theorem dL_law_316 : decode cL_law 316 = .ok (.iload 12, 2) := by decide +kernel
theorem dL_law_318 : decode cL_law 318 = .ok (.invokevirtual 31, 3) := by decide +kernel
theorem dL_law_321 : decode cL_law 321 = .ok (.ifCond .eq 24, 3) := by decide +kernel
theorem dL_law_324 : decode cL_law 324 = .ok (.aload_n 1, 1) := by decide +kernel
theorem dL_law_325 : decode cL_law 325 = .ok (.iconst 0, 1) := by decide +kernel
theorem dL_law_326 : decode cL_law 326 = .ok (.sipush 255, 3) := by decide +kernel
theorem dL_law_329 : decode cL_law 329 = .ok (.iload 13, 2) := by decide +kernel
theorem dL_law_331 : decode cL_law 331 = .ok (.iload 9, 2) := by decide +kernel
theorem dL_law_333 : decode cL_law 333 = .ok (.iload 12, 2) := by decide +kernel
theorem dL_law_335 : decode cL_law 335 = .ok (.invokevirtual 31, 3) := by decide +kernel
theorem dL_law_338 : decode cL_law 338 = .ok (.ifCond .ne 7, 3) := by decide +kernel
theorem dL_law_341 : decode cL_law 341 = .ok (.iconst 1, 1) := by decide +kernel
theorem dL_law_342 : decode cL_law 342 = .ok (.goto 4, 3) := by decide +kernel
theorem dL_law_345 : decode cL_law 345 = .ok (.iconst 0, 1) := by decide +kernel
theorem dL_law_346 : decode cL_law 346 = .ok (.istore 5, 2) := by decide +kernel
theorem dL_law_348 : decode cL_law 348 = .ok (.aload_n 1, 1) := by decide +kernel
theorem dL_law_349 : decode cL_law 349 = .ok (.iconst 1, 1) := by decide +kernel
theorem dL_law_350 : decode cL_law 350 = .ok (.invokevirtual 19, 3) := by decide +kernel
theorem dL_law_353 : decode cL_law 353 = .ok (.istore 14, 2) := by decide +kernel
theorem dL_law_355 : decode cL_law 355 = .ok (.iload 5, 2) := by decide +kernel
theorem dL_law_357 : decode cL_law 357 = .ok (.ifCond .eq 31, 3) := by decide +kernel
theorem dL_law_360 : decode cL_law 360 = .ok (.aload_n 1, 1) := by decide +kernel
theorem dL_law_361 : decode cL_law 361 = .ok (.iconst 0, 1) := by decide +kernel
theorem dL_law_362 : decode cL_law 362 = .ok (.iconst 3, 1) := by decide +kernel
theorem dL_law_363 : decode cL_law 363 = .ok (.invokevirtual 23, 3) := by decide +kernel
theorem dL_law_366 : decode cL_law 366 = .ok (.iconst 1, 1) := by decide +kernel
theorem dL_law_367 : decode cL_law 367 = .ok (.if_icmp .ne 21, 3) := by decide +kernel
theorem dL_law_370 : decode cL_law 370 = .ok (.iload 14, 2) := by decide +kernel
theorem dL_law_372 : decode cL_law 372 = .ok (.ldc 35, 2) := by decide +kernel
theorem dL_law_374 : decode cL_law 374 = .ok (.if_icmp .ge 14, 3) := by decide +kernel
theorem dL_law_377 : decode cL_law 377 = .ok (.aload_n 1, 1) := by decide +kernel
theorem dL_law_378 : decode cL_law 378 = .ok (.bipush 50, 2) := by decide +kernel
theorem dL_law_380 : decode cL_law 380 = .ok (.invokevirtual 19, 3) := by decide +kernel
theorem dL_law_383 : decode cL_law 383 = .ok (.istore 14, 2) := by decide +kernel
theorem dL_law_385 : decode cL_law 385 = .ok (.goto (-30), 3) := by decide +kernel
theorem dL_law_388 : decode cL_law 388 = .ok (.aload_n 1, 1) := by decide +kernel
theorem dL_law_389 : decode cL_law 389 = .ok (.bipush 50, 2) := by decide +kernel
theorem dL_law_391 : decode cL_law 391 = .ok (.invokevirtual 19, 3) := by decide +kernel
theorem dL_law_394 : decode cL_law 394 = .ok (.istore 14, 2) := by decide +kernel
theorem dL_law_396 : decode cL_law 396 = .ok (.iload 10, 2) := by decide +kernel
theorem dL_law_398 : decode cL_law 398 = .ok (.iload 6, 2) := by decide +kernel
theorem dL_law_400 : decode cL_law 400 = .ok (.iadd, 1) := by decide +kernel
theorem dL_law_401 : decode cL_law 401 = .ok (.iconst 1, 1) := by decide +kernel
theorem dL_law_402 : decode cL_law 402 = .ok (.isub, 1) := by decide +kernel
theorem dL_law_403 : decode cL_law 403 = .ok (.iload 6, 2) := by decide +kernel
theorem dL_law_405 : decode cL_law 405 = .ok (.idiv, 1) := by decide +kernel
theorem dL_law_406 : decode cL_law 406 = .ok (.istore 15, 2) := by decide +kernel
theorem dL_law_408 : decode cL_law 408 = .ok (.iload 7, 2) := by decide +kernel
theorem dL_law_410 : decode cL_law 410 = .ok (.iconst 1, 1) := by decide +kernel
theorem dL_law_411 : decode cL_law 411 = .ok (.iload 10, 2) := by decide +kernel
theorem dL_law_413 : decode cL_law 413 = .ok (.iadd, 1) := by decide +kernel
theorem dL_law_414 : decode cL_law 414 = .ok (.iload 11, 2) := by decide +kernel
theorem dL_law_416 : decode cL_law 416 = .ok (.ifCond .eq 7, 3) := by decide +kernel
theorem dL_law_419 : decode cL_law 419 = .ok (.iconst 0, 1) := by decide +kernel
theorem dL_law_420 : decode cL_law 420 = .ok (.goto 7, 3) := by decide +kernel
theorem dL_law_423 : decode cL_law 423 = .ok (.iload 15, 2) := by decide +kernel
theorem dL_law_425 : decode cL_law 425 = .ok (.iconst 1, 1) := by decide +kernel
theorem dL_law_426 : decode cL_law 426 = .ok (.iadd, 1) := by decide +kernel
theorem dL_law_427 : decode cL_law 427 = .ok (.iadd, 1) := by decide +kernel
theorem dL_law_428 : decode cL_law 428 = .ok (.iadd, 1) := by decide +kernel
theorem dL_law_429 : decode cL_law 429 = .ok (.istore 7, 2) := by decide +kernel
theorem dL_law_431 : decode cL_law 431 = .ok (.lconst 0, 1) := by decide +kernel
theorem dL_law_432 : decode cL_law 432 = .ok (.lstore 16, 2) := by decide +kernel
theorem dL_law_434 : decode cL_law 434 = .ok (.iconst 0, 1) := by decide +kernel
theorem dL_law_435 : decode cL_law 435 = .ok (.istore 18, 2) := by decide +kernel
theorem dL_law_437 : decode cL_law 437 = .ok (.iload 18, 2) := by decide +kernel
theorem dL_law_439 : decode cL_law 439 = .ok (.iload 9, 2) := by decide +kernel
theorem dL_law_441 : decode cL_law 441 = .ok (.if_icmp .ge 28, 3) := by decide +kernel
theorem dL_law_444 : decode cL_law 444 = .ok (.lload 16, 2) := by decide +kernel
theorem dL_law_446 : decode cL_law 446 = .ok (.iload 18, 2) := by decide +kernel
theorem dL_law_448 : decode cL_law 448 = .ok (.i2l, 1) := by decide +kernel
theorem dL_law_449 : decode cL_law 449 = .ok (.lconst 1, 1) := by decide +kernel
theorem dL_law_450 : decode cL_law 450 = .ok (.ladd, 1) := by decide +kernel
theorem dL_law_451 : decode cL_law 451 = .ok (.iload 12, 2) := by decide +kernel
theorem dL_law_453 : decode cL_law 453 = .ok (.iload 18, 2) := by decide +kernel
theorem dL_law_455 : decode cL_law 455 = .ok (.invokestatic 36, 3) := by decide +kernel
theorem dL_law_458 : decode cL_law 458 = .ok (.i2l, 1) := by decide +kernel
theorem dL_law_459 : decode cL_law 459 = .ok (.lmul, 1) := by decide +kernel
theorem dL_law_460 : decode cL_law 460 = .ok (.ladd, 1) := by decide +kernel
theorem dL_law_461 : decode cL_law 461 = .ok (.lstore 16, 2) := by decide +kernel
theorem dL_law_463 : decode cL_law 463 = .ok (.iinc 18 1, 3) := by decide +kernel
theorem dL_law_466 : decode cL_law 466 = .ok (.goto (-29), 3) := by decide +kernel
theorem dL_law_469 : decode cL_law 469 = .ok (.iload 5, 2) := by decide +kernel
theorem dL_law_471 : decode cL_law 471 = .ok (.ifCond .eq 117, 3) := by decide +kernel
theorem dL_law_474 : decode cL_law 474 = .ok (.aload_n 1, 1) := by decide +kernel
theorem dL_law_475 : decode cL_law 475 = .ok (.iconst 0, 1) := by decide +kernel
theorem dL_law_476 : decode cL_law 476 = .ok (.iconst 3, 1) := by decide +kernel
theorem dL_law_477 : decode cL_law 477 = .ok (.invokevirtual 23, 3) := by decide +kernel
theorem dL_law_480 : decode cL_law 480 = .ok (.iconst 2, 1) := by decide +kernel
theorem dL_law_481 : decode cL_law 481 = .ok (.if_icmp .ne 107, 3) := by decide +kernel
theorem dL_law_484 : decode cL_law 484 = .ok (.aload_n 1, 1) := by decide +kernel
theorem dL_law_485 : decode cL_law 485 = .ok (.iconst 1, 1) := by decide +kernel
theorem dL_law_486 : decode cL_law 486 = .ok (.iconst 4, 1) := by decide +kernel
theorem dL_law_487 : decode cL_law 487 = .ok (.invokevirtual 23, 3) := by decide +kernel
theorem dL_law_490 : decode cL_law 490 = .ok (.iload 8, 2) := by decide +kernel
theorem dL_law_492 : decode cL_law 492 = .ok (.if_icmp .ne 96, 3) := by decide +kernel
theorem dL_law_495 : decode cL_law 495 = .ok (.aload_n 1, 1) := by decide +kernel
theorem dL_law_496 : decode cL_law 496 = .ok (.iconst 1, 1) := by decide +kernel
theorem dL_law_497 : decode cL_law 497 = .ok (.iload 8, 2) := by decide +kernel
theorem dL_law_499 : decode cL_law 499 = .ok (.iconst 1, 1) := by decide +kernel
theorem dL_law_500 : decode cL_law 500 = .ok (.isub, 1) := by decide +kernel
theorem dL_law_501 : decode cL_law 501 = .ok (.iconst 0, 1) := by decide +kernel
theorem dL_law_502 : decode cL_law 502 = .ok (.invokevirtual 41, 3) := by decide +kernel
theorem dL_law_505 : decode cL_law 505 = .ok (.bipush 10, 2) := by decide +kernel
theorem dL_law_507 : decode cL_law 507 = .ok (.if_icmp .ne 81, 3) := by decide +kernel
theorem dL_law_510 : decode cL_law 510 = .ok (.aload_n 1, 1) := by decide +kernel
theorem dL_law_511 : decode cL_law 511 = .ok (.iconst 1, 1) := by decide +kernel
theorem dL_law_512 : decode cL_law 512 = .ok (.iload 8, 2) := by decide +kernel
theorem dL_law_514 : decode cL_law 514 = .ok (.iconst 1, 1) := by decide +kernel
theorem dL_law_515 : decode cL_law 515 = .ok (.isub, 1) := by decide +kernel
theorem dL_law_516 : decode cL_law 516 = .ok (.iconst 1, 1) := by decide +kernel
theorem dL_law_517 : decode cL_law 517 = .ok (.invokevirtual 41, 3) := by decide +kernel
theorem dL_law_520 : decode cL_law 520 = .ok (.iload 13, 2) := by decide +kernel
theorem dL_law_522 : decode cL_law 522 = .ok (.if_icmp .ne 66, 3) := by decide +kernel
theorem dL_law_525 : decode cL_law 525 = .ok (.aload_n 1, 1) := by decide +kernel
theorem dL_law_526 : decode cL_law 526 = .ok (.iconst 1, 1) := by decide +kernel
theorem dL_law_527 : decode cL_law 527 = .ok (.iload 8, 2) := by decide +kernel
theorem dL_law_529 : decode cL_law 529 = .ok (.iconst 1, 1) := by decide +kernel
theorem dL_law_530 : decode cL_law 530 = .ok (.isub, 1) := by decide +kernel
theorem dL_law_531 : decode cL_law 531 = .ok (.iconst 2, 1) := by decide +kernel
theorem dL_law_532 : decode cL_law 532 = .ok (.invokevirtual 41, 3) := by decide +kernel
theorem dL_law_535 : decode cL_law 535 = .ok (.iload 9, 2) := by decide +kernel
theorem dL_law_537 : decode cL_law 537 = .ok (.if_icmp .ne 51, 3) := by decide +kernel
theorem dL_law_540 : decode cL_law 540 = .ok (.aload_n 1, 1) := by decide +kernel
theorem dL_law_541 : decode cL_law 541 = .ok (.iconst 1, 1) := by decide +kernel
theorem dL_law_542 : decode cL_law 542 = .ok (.iload 8, 2) := by decide +kernel
theorem dL_law_544 : decode cL_law 544 = .ok (.iconst 1, 1) := by decide +kernel
theorem dL_law_545 : decode cL_law 545 = .ok (.isub, 1) := by decide +kernel
theorem dL_law_546 : decode cL_law 546 = .ok (.iconst 3, 1) := by decide +kernel
theorem dL_law_547 : decode cL_law 547 = .ok (.invokevirtual 41, 3) := by decide +kernel
theorem dL_law_550 : decode cL_law 550 = .ok (.lload 16, 2) := by decide +kernel
theorem dL_law_552 : decode cL_law 552 = .ok (.l2i, 1) := by decide +kernel
theorem dL_law_553 : decode cL_law 553 = .ok (.if_icmp .ne 35, 3) := by decide +kernel
theorem dL_law_556 : decode cL_law 556 = .ok (.aload_n 1, 1) := by decide +kernel
theorem dL_law_557 : decode cL_law 557 = .ok (.iconst 2, 1) := by decide +kernel
theorem dL_law_558 : decode cL_law 558 = .ok (.invokevirtual 27, 3) := by decide +kernel
theorem dL_law_561 : decode cL_law 561 = .ok (.iload 7, 2) := by decide +kernel
theorem dL_law_563 : decode cL_law 563 = .ok (.if_icmp .ne 25, 3) := by decide +kernel
theorem dL_law_566 : decode cL_law 566 = .ok (.aload_n 1, 1) := by decide +kernel
theorem dL_law_567 : decode cL_law 567 = .ok (.iconst 1, 1) := by decide +kernel
theorem dL_law_568 : decode cL_law 568 = .ok (.iconst 5, 1) := by decide +kernel
theorem dL_law_569 : decode cL_law 569 = .ok (.invokevirtual 23, 3) := by decide +kernel
theorem dL_law_572 : decode cL_law 572 = .ok (.ifCond .ne 16, 3) := by decide +kernel
theorem dL_law_575 : decode cL_law 575 = .ok (.aload_n 1, 1) := by decide +kernel
theorem dL_law_576 : decode cL_law 576 = .ok (.iconst 0, 1) := by decide +kernel
theorem dL_law_577 : decode cL_law 577 = .ok (.iconst 2, 1) := by decide +kernel
theorem dL_law_578 : decode cL_law 578 = .ok (.invokevirtual 23, 3) := by decide +kernel
theorem dL_law_581 : decode cL_law 581 = .ok (.ifCond .ne 7, 3) := by decide +kernel
theorem dL_law_584 : decode cL_law 584 = .ok (.iconst 1, 1) := by decide +kernel
theorem dL_law_585 : decode cL_law 585 = .ok (.goto 4, 3) := by decide +kernel
theorem dL_law_588 : decode cL_law 588 = .ok (.iconst 0, 1) := by decide +kernel
theorem dL_law_589 : decode cL_law 589 = .ok (.istore 5, 2) := by decide +kernel
theorem dL_law_591 : decode cL_law 591 = .ok (.iinc 8 1, 3) := by decide +kernel
theorem dL_law_594 : decode cL_law 594 = .ok (.goto (-420), 3) := by decide +kernel
theorem dL_law_597 : decode cL_law 597 = .ok (.iload 5, 2) := by decide +kernel
theorem dL_law_599 : decode cL_law 599 = .ok (.ifCond .eq 14, 3) := by decide +kernel
theorem dL_law_602 : decode cL_law 602 = .ok (.aload_n 1, 1) := by decide +kernel
theorem dL_law_603 : decode cL_law 603 = .ok (.invokevirtual 45, 3) := by decide +kernel
theorem dL_law_606 : decode cL_law 606 = .ok (.ifCond .eq 7, 3) := by decide +kernel
theorem dL_law_609 : decode cL_law 609 = .ok (.iconst 1, 1) := by decide +kernel
theorem dL_law_610 : decode cL_law 610 = .ok (.goto 4, 3) := by decide +kernel
theorem dL_law_613 : decode cL_law 613 = .ok (.iconst 0, 1) := by decide +kernel
theorem dL_law_614 : decode cL_law 614 = .ok (.ireturn, 1) := by decide +kernel
