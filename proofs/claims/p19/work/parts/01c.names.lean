theorem dX4_hearControl_137 : decode cX4_hearControl 137 = .ok (.aload_n 1, 1) := by decide +kernel
theorem dX4_hearControl_138 : decode cX4_hearControl 138 = .ok (.iconst 1, 1) := by decide +kernel
theorem dX4_hearControl_139 : decode cX4_hearControl 139 = .ok (.invokevirtual 255, 3) := by decide +kernel
theorem dX4_hearControl_142 : decode cX4_hearControl 142 = .ok (.aload_n 1, 1) := by decide +kernel
theorem dX4_hearControl_143 : decode cX4_hearControl 143 = .ok (.iconst 2, 1) := by decide +kernel
theorem dX4_hearControl_144 : decode cX4_hearControl 144 = .ok (.invokevirtual 255, 3) := by decide +kernel
theorem dX4_hearControl_147 : decode cX4_hearControl 147 = .ok (.iload_n 2, 1) := by decide +kernel
theorem dX4_hearControl_148 : decode cX4_hearControl 148 = .ok (.invokevirtual 269, 3) := by decide +kernel
theorem dX4_hearControl_151 : decode cX4_hearControl 151 = .ok (.goto 42, 3) := by decide +kernel
theorem dX4_hearControl_154 : decode cX4_hearControl 154 = .ok (.iload 5, 2) := by decide +kernel
theorem dX4_hearControl_156 : decode cX4_hearControl 156 = .ok (.ifCond .eq 37, 3) := by decide +kernel
theorem dX4_hearControl_159 : decode cX4_hearControl 159 = .ok (.aload_n 0, 1) := by decide +kernel
theorem dX4_hearControl_160 : decode cX4_hearControl 160 = .ok (.getfield 21, 3) := by decide +kernel
theorem dX4_hearControl_163 : decode cX4_hearControl 163 = .ok (.iconst 2, 1) := by decide +kernel
theorem dX4_hearControl_164 : decode cX4_hearControl 164 = .ok (.putfield 121, 3) := by decide +kernel
theorem dX4_hearControl_167 : decode cX4_hearControl 167 = .ok (.goto 26, 3) := by decide +kernel
theorem dX4_hearControl_170 : decode cX4_hearControl 170 = .ok (.iload 5, 2) := by decide +kernel
theorem dX4_hearControl_172 : decode cX4_hearControl 172 = .ok (.ifCond .eq 11, 3) := by decide +kernel
theorem dX4_hearControl_175 : decode cX4_hearControl 175 = .ok (.aload_n 0, 1) := by decide +kernel
theorem dX4_hearControl_176 : decode cX4_hearControl 176 = .ok (.getfield 21, 3) := by decide +kernel
theorem dX4_hearControl_179 : decode cX4_hearControl 179 = .ok (.iconst 3, 1) := by decide +kernel
theorem dX4_hearControl_180 : decode cX4_hearControl 180 = .ok (.putfield 121, 3) := by decide +kernel
theorem dX4_hearControl_183 : decode cX4_hearControl 183 = .ok (.aload_n 0, 1) := by decide +kernel
theorem dX4_hearControl_184 : decode cX4_hearControl 184 = .ok (.iload_n 3, 1) := by decide +kernel
theorem dX4_hearControl_185 : decode cX4_hearControl 185 = .ok (.iload 4, 2) := by decide +kernel
theorem dX4_hearControl_187 : decode cX4_hearControl 187 = .ok (.invokevirtual 273, 3) := by decide +kernel
theorem dX4_hearControl_190 : decode cX4_hearControl 190 = .ok (.goto 3, 3) := by decide +kernel
theorem dX4_hearControl_193 : decode cX4_hearControl 193 = .ok (.return_, 1) := by decide +kernel
theorem dX4_sendCleared_0 : decode cX4_sendCleared 0 = .ok (.aload_n 0, 1) := by decide +kernel
theorem dX4_sendCleared_1 : decode cX4_sendCleared 1 = .ok (.getfield 21, 3) := by decide +kernel
theorem dX4_sendCleared_4 : decode cX4_sendCleared 4 = .ok (.getfield 122, 3) := by decide +kernel
theorem dX4_sendCleared_7 : decode cX4_sendCleared 7 = .ok (.astore 4, 2) := by decide +kernel
theorem dX4_sendCleared_9 : decode cX4_sendCleared 9 = .ok (.aload 4, 2) := by decide +kernel
theorem dX4_sendCleared_11 : decode cX4_sendCleared 11 = .ok (.ifnull 26, 3) := by decide +kernel
theorem dX4_sendCleared_14 : decode cX4_sendCleared 14 = .ok (.iload_n 1, 1) := by decide +kernel
theorem dX4_sendCleared_15 : decode cX4_sendCleared 15 = .ok (.ifCond .le 22, 3) := by decide +kernel
theorem dX4_sendCleared_18 : decode cX4_sendCleared 18 = .ok (.aload_n 0, 1) := by decide +kernel
theorem dX4_sendCleared_19 : decode cX4_sendCleared 19 = .ok (.getfield 89, 3) := by decide +kernel
theorem dX4_sendCleared_22 : decode cX4_sendCleared 22 = .ok (.aload 4, 2) := by decide +kernel
theorem dX4_sendCleared_24 : decode cX4_sendCleared 24 = .ok (.aload 4, 2) := by decide +kernel
theorem dX4_sendCleared_26 : decode cX4_sendCleared 26 = .ok (.getfield 133, 3) := by decide +kernel
theorem dX4_sendCleared_29 : decode cX4_sendCleared 29 = .ok (.sipush 235, 3) := by decide +kernel
theorem dX4_sendCleared_32 : decode cX4_sendCleared 32 = .ok (.iload_n 1, 1) := by decide +kernel
theorem dX4_sendCleared_33 : decode cX4_sendCleared 33 = .ok (.iload_n 2, 1) := by decide +kernel
theorem dX4_sendCleared_34 : decode cX4_sendCleared 34 = .ok (.invokevirtual 136, 3) := by decide +kernel
theorem dX4_sendCleared_37 : decode cX4_sendCleared 37 = .ok (.aload_n 0, 1) := by decide +kernel
theorem dX4_sendCleared_38 : decode cX4_sendCleared 38 = .ok (.getfield 21, 3) := by decide +kernel
theorem dX4_sendCleared_41 : decode cX4_sendCleared 41 = .ok (.iload_n 3, 1) := by decide +kernel
theorem dX4_sendCleared_42 : decode cX4_sendCleared 42 = .ok (.sipush 1250, 3) := by decide +kernel
theorem dX4_sendCleared_45 : decode cX4_sendCleared 45 = .ok (.iadd, 1) := by decide +kernel
theorem dX4_sendCleared_46 : decode cX4_sendCleared 46 = .ok (.putfield 140, 3) := by decide +kernel
theorem dX4_sendCleared_49 : decode cX4_sendCleared 49 = .ok (.return_, 1) := by decide +kernel
theorem dX4_gotFrom_0 : decode cX4_gotFrom 0 = .ok (.aload_n 0, 1) := by decide +kernel
theorem dX4_gotFrom_1 : decode cX4_gotFrom 1 = .ok (.getfield 34, 3) := by decide +kernel
theorem dX4_gotFrom_4 : decode cX4_gotFrom 4 = .ok (.astore_n 2, 1) := by decide +kernel
theorem dX4_gotFrom_5 : decode cX4_gotFrom 5 = .ok (.aload_n 2, 1) := by decide +kernel
theorem dX4_gotFrom_6 : decode cX4_gotFrom 6 = .ok (.arraylength, 1) := by decide +kernel
theorem dX4_gotFrom_7 : decode cX4_gotFrom 7 = .ok (.istore_n 3, 1) := by decide +kernel
theorem dX4_gotFrom_8 : decode cX4_gotFrom 8 = .ok (.iconst 0, 1) := by decide +kernel
theorem dX4_gotFrom_9 : decode cX4_gotFrom 9 = .ok (.istore 4, 2) := by decide +kernel
theorem dX4_gotFrom_11 : decode cX4_gotFrom 11 = .ok (.iload 4, 2) := by decide +kernel
theorem dX4_gotFrom_13 : decode cX4_gotFrom 13 = .ok (.iload_n 3, 1) := by decide +kernel
theorem dX4_gotFrom_14 : decode cX4_gotFrom 14 = .ok (.if_icmp .ge 40, 3) := by decide +kernel
theorem dX4_gotFrom_17 : decode cX4_gotFrom 17 = .ok (.aload_n 2, 1) := by decide +kernel
theorem dX4_gotFrom_18 : decode cX4_gotFrom 18 = .ok (.iload 4, 2) := by decide +kernel
theorem dX4_gotFrom_20 : decode cX4_gotFrom 20 = .ok (.aaload, 1) := by decide +kernel
theorem dX4_gotFrom_21 : decode cX4_gotFrom 21 = .ok (.astore 5, 2) := by decide +kernel
theorem dX4_gotFrom_23 : decode cX4_gotFrom 23 = .ok (.aload 5, 2) := by decide +kernel
theorem dX4_gotFrom_25 : decode cX4_gotFrom 25 = .ok (.ifnull 23, 3) := by decide +kernel
theorem dX4_gotFrom_28 : decode cX4_gotFrom 28 = .ok (.aload 5, 2) := by decide +kernel
theorem dX4_gotFrom_30 : decode cX4_gotFrom 30 = .ok (.getfield 93, 3) := by decide +kernel
theorem dX4_gotFrom_33 : decode cX4_gotFrom 33 = .ok (.ifCond .eq 15, 3) := by decide +kernel
theorem dX4_gotFrom_36 : decode cX4_gotFrom 36 = .ok (.aload 5, 2) := by decide +kernel
theorem dX4_gotFrom_38 : decode cX4_gotFrom 38 = .ok (.getfield 178, 3) := by decide +kernel
theorem dX4_gotFrom_41 : decode cX4_gotFrom 41 = .ok (.iload_n 1, 1) := by decide +kernel
theorem dX4_gotFrom_42 : decode cX4_gotFrom 42 = .ok (.if_icmp .ne 6, 3) := by decide +kernel
theorem dX4_gotFrom_45 : decode cX4_gotFrom 45 = .ok (.aload 5, 2) := by decide +kernel
theorem dX4_gotFrom_47 : decode cX4_gotFrom 47 = .ok (.areturn, 1) := by decide +kernel
theorem dX4_gotFrom_48 : decode cX4_gotFrom 48 = .ok (.iinc 4 1, 3) := by decide +kernel
theorem dX4_gotFrom_51 : decode cX4_gotFrom 51 = .ok (.goto (-40), 3) := by decide +kernel
theorem dX4_gotFrom_54 : decode cX4_gotFrom 54 = .ok (.aconst_null, 1) := by decide +kernel
theorem dX4_gotFrom_55 : decode cX4_gotFrom 55 = .ok (.areturn, 1) := by decide +kernel
theorem dX4_placeFor_0 : decode cX4_placeFor 0 = .ok (.aload_n 0, 1) := by decide +kernel
theorem dX4_placeFor_1 : decode cX4_placeFor 1 = .ok (.iload_n 1, 1) := by decide +kernel
theorem dX4_placeFor_2 : decode cX4_placeFor 2 = .ok (.invokevirtual 276, 3) := by decide +kernel
theorem dX4_placeFor_5 : decode cX4_placeFor 5 = .ok (.astore_n 2, 1) := by decide +kernel
theorem dX4_placeFor_6 : decode cX4_placeFor 6 = .ok (.iconst 0, 1) := by decide +kernel
theorem dX4_placeFor_7 : decode cX4_placeFor 7 = .ok (.istore_n 3, 1) := by decide +kernel
theorem dX4_placeFor_8 : decode cX4_placeFor 8 = .ok (.aload_n 2, 1) := by decide +kernel
theorem dX4_placeFor_9 : decode cX4_placeFor 9 = .ok (.ifnonnull 59, 3) := by decide +kernel
theorem dX4_placeFor_12 : decode cX4_placeFor 12 = .ok (.iload_n 3, 1) := by decide +kernel
theorem dX4_placeFor_13 : decode cX4_placeFor 13 = .ok (.iconst 3, 1) := by decide +kernel
theorem dX4_placeFor_14 : decode cX4_placeFor 14 = .ok (.if_icmp .ge 54, 3) := by decide +kernel
theorem dX4_placeFor_17 : decode cX4_placeFor 17 = .ok (.aload_n 0, 1) := by decide +kernel
theorem dX4_placeFor_18 : decode cX4_placeFor 18 = .ok (.getfield 34, 3) := by decide +kernel
theorem dX4_placeFor_21 : decode cX4_placeFor 21 = .ok (.iload_n 3, 1) := by decide +kernel
theorem dX4_placeFor_22 : decode cX4_placeFor 22 = .ok (.aaload, 1) := by decide +kernel
theorem dX4_placeFor_23 : decode cX4_placeFor 23 = .ok (.ifnonnull 16, 3) := by decide +kernel
theorem dX4_placeFor_26 : decode cX4_placeFor 26 = .ok (.aload_n 0, 1) := by decide +kernel
theorem dX4_placeFor_27 : decode cX4_placeFor 27 = .ok (.getfield 34, 3) := by decide +kernel
theorem dX4_placeFor_30 : decode cX4_placeFor 30 = .ok (.iload_n 3, 1) := by decide +kernel
theorem dX4_placeFor_31 : decode cX4_placeFor 31 = .ok (.new 32, 3) := by decide +kernel
theorem dX4_placeFor_34 : decode cX4_placeFor 34 = .ok (.dup, 1) := by decide +kernel
theorem dX4_placeFor_35 : decode cX4_placeFor 35 = .ok (.invokespecial 282, 3) := by decide +kernel
theorem dX4_placeFor_38 : decode cX4_placeFor 38 = .ok (.aastore, 1) := by decide +kernel
theorem dX4_placeFor_39 : decode cX4_placeFor 39 = .ok (.aload_n 0, 1) := by decide +kernel
theorem dX4_placeFor_40 : decode cX4_placeFor 40 = .ok (.getfield 34, 3) := by decide +kernel
theorem dX4_placeFor_43 : decode cX4_placeFor 43 = .ok (.iload_n 3, 1) := by decide +kernel
theorem dX4_placeFor_44 : decode cX4_placeFor 44 = .ok (.aaload, 1) := by decide +kernel
theorem dX4_placeFor_45 : decode cX4_placeFor 45 = .ok (.getfield 93, 3) := by decide +kernel
theorem dX4_placeFor_48 : decode cX4_placeFor 48 = .ok (.ifCond .eq 7, 3) := by decide +kernel
theorem dX4_placeFor_51 : decode cX4_placeFor 51 = .ok (.aconst_null, 1) := by decide +kernel
theorem dX4_placeFor_52 : decode cX4_placeFor 52 = .ok (.goto 9, 3) := by decide +kernel
theorem dX4_placeFor_55 : decode cX4_placeFor 55 = .ok (.aload_n 0, 1) := by decide +kernel
theorem dX4_placeFor_56 : decode cX4_placeFor 56 = .ok (.getfield 34, 3) := by decide +kernel
theorem dX4_placeFor_59 : decode cX4_placeFor 59 = .ok (.iload_n 3, 1) := by decide +kernel
theorem dX4_placeFor_60 : decode cX4_placeFor 60 = .ok (.aaload, 1) := by decide +kernel
theorem dX4_placeFor_61 : decode cX4_placeFor 61 = .ok (.astore_n 2, 1) := by decide +kernel
theorem dX4_placeFor_62 : decode cX4_placeFor 62 = .ok (.iinc 3 1, 3) := by decide +kernel
theorem dX4_placeFor_65 : decode cX4_placeFor 65 = .ok (.goto (-57), 3) := by decide +kernel
theorem dX4_placeFor_68 : decode cX4_placeFor 68 = .ok (.aload_n 2, 1) := by decide +kernel
theorem dX4_placeFor_69 : decode cX4_placeFor 69 = .ok (.areturn, 1) := by decide +kernel
theorem dX4_getPacket_0 : decode cX4_getPacket 0 = .ok (.aload_n 0, 1) := by decide +kernel
theorem dX4_getPacket_1 : decode cX4_getPacket 1 = .ok (.aload_n 1, 1) := by decide +kernel
theorem dX4_getPacket_2 : decode cX4_getPacket 2 = .ok (.invokevirtual 220, 3) := by decide +kernel
theorem dX4_getPacket_5 : decode cX4_getPacket 5 = .ok (.invokevirtual 276, 3) := by decide +kernel
theorem dX4_getPacket_8 : decode cX4_getPacket 8 = .ok (.astore_n 3, 1) := by decide +kernel
theorem dX4_getPacket_9 : decode cX4_getPacket 9 = .ok (.aload_n 3, 1) := by decide +kernel
theorem dX4_getPacket_10 : decode cX4_getPacket 10 = .ok (.ifnull 15, 3) := by decide +kernel
theorem dX4_getPacket_13 : decode cX4_getPacket 13 = .ok (.aload_n 1, 1) := by decide +kernel
theorem dX4_getPacket_14 : decode cX4_getPacket 14 = .ok (.iconst 0, 1) := by decide +kernel
theorem dX4_getPacket_15 : decode cX4_getPacket 15 = .ok (.invokevirtual 255, 3) := by decide +kernel
theorem dX4_getPacket_18 : decode cX4_getPacket 18 = .ok (.aload_n 3, 1) := by decide +kernel
theorem dX4_getPacket_19 : decode cX4_getPacket 19 = .ok (.getfield 183, 3) := by decide +kernel
theorem dX4_getPacket_22 : decode cX4_getPacket 22 = .ok (.if_icmp .eq 4, 3) := by decide +kernel
theorem dX4_getPacket_25 : decode cX4_getPacket 25 = .ok (.return_, 1) := by decide +kernel
theorem dX4_getPacket_26 : decode cX4_getPacket 26 = .ok (.aload_n 3, 1) := by decide +kernel
theorem dX4_getPacket_27 : decode cX4_getPacket 27 = .ok (.aload_n 1, 1) := by decide +kernel
theorem dX4_getPacket_28 : decode cX4_getPacket 28 = .ok (.iload_n 2, 1) := by decide +kernel
theorem dX4_getPacket_29 : decode cX4_getPacket 29 = .ok (.invokevirtual 283, 3) := by decide +kernel
theorem dX4_getPacket_32 : decode cX4_getPacket 32 = .ok (.aload_n 3, 1) := by decide +kernel
theorem dX4_getPacket_33 : decode cX4_getPacket 33 = .ok (.invokevirtual 286, 3) := by decide +kernel
theorem dX4_getPacket_36 : decode cX4_getPacket 36 = .ok (.ifCond .eq 40, 3) := by decide +kernel
theorem dX4_getPacket_39 : decode cX4_getPacket 39 = .ok (.aload_n 0, 1) := by decide +kernel
theorem dX4_getPacket_40 : decode cX4_getPacket 40 = .ok (.getfield 89, 3) := by decide +kernel
theorem dX4_getPacket_43 : decode cX4_getPacket 43 = .ok (.aload_n 3, 1) := by decide +kernel
theorem dX4_getPacket_44 : decode cX4_getPacket 44 = .ok (.getfield 177, 3) := by decide +kernel
theorem dX4_getPacket_47 : decode cX4_getPacket 47 = .ok (.aload_n 3, 1) := by decide +kernel
theorem dX4_getPacket_48 : decode cX4_getPacket 48 = .ok (.getfield 178, 3) := by decide +kernel
theorem dX4_getPacket_51 : decode cX4_getPacket 51 = .ok (.bipush 19, 2) := by decide +kernel
theorem dX4_getPacket_53 : decode cX4_getPacket 53 = .ok (.sipush 255, 3) := by decide +kernel
theorem dX4_getPacket_56 : decode cX4_getPacket 56 = .ok (.iconst 0, 1) := by decide +kernel
theorem dX4_getPacket_57 : decode cX4_getPacket 57 = .ok (.invokevirtual 136, 3) := by decide +kernel
theorem dX4_getPacket_60 : decode cX4_getPacket 60 = .ok (.aload_n 3, 1) := by decide +kernel
theorem dX4_getPacket_61 : decode cX4_getPacket 61 = .ok (.iconst 0, 1) := by decide +kernel
theorem dX4_getPacket_62 : decode cX4_getPacket 62 = .ok (.putfield 93, 3) := by decide +kernel
theorem dX4_getPacket_65 : decode cX4_getPacket 65 = .ok (.aload_n 0, 1) := by decide +kernel
theorem dX4_getPacket_66 : decode cX4_getPacket 66 = .ok (.getfield 28, 3) := by decide +kernel
theorem dX4_getPacket_69 : decode cX4_getPacket 69 = .ok (.aload_n 3, 1) := by decide +kernel
theorem dX4_getPacket_70 : decode cX4_getPacket 70 = .ok (.invokevirtual 289, 3) := by decide +kernel
theorem dX4_getPacket_73 : decode cX4_getPacket 73 = .ok (.goto 20, 3) := by decide +kernel
theorem dX4_getPacket_76 : decode cX4_getPacket 76 = .ok (.aload_n 3, 1) := by decide +kernel
theorem dX4_getPacket_77 : decode cX4_getPacket 77 = .ok (.getfield 183, 3) := by decide +kernel
theorem dX4_getPacket_80 : decode cX4_getPacket 80 = .ok (.aload_n 3, 1) := by decide +kernel
theorem dX4_getPacket_81 : decode cX4_getPacket 81 = .ok (.getfield 187, 3) := by decide +kernel
theorem dX4_getPacket_84 : decode cX4_getPacket 84 = .ok (.if_icmp .le 9, 3) := by decide +kernel
theorem dX4_getPacket_87 : decode cX4_getPacket 87 = .ok (.aload_n 0, 1) := by decide +kernel
theorem dX4_getPacket_88 : decode cX4_getPacket 88 = .ok (.aload_n 3, 1) := by decide +kernel
theorem dX4_getPacket_89 : decode cX4_getPacket 89 = .ok (.iload_n 2, 1) := by decide +kernel
theorem dX4_getPacket_90 : decode cX4_getPacket 90 = .ok (.invokevirtual 174, 3) := by decide +kernel
theorem dX4_getPacket_93 : decode cX4_getPacket 93 = .ok (.return_, 1) := by decide +kernel
theorem dX4_collectedFrom_0 : decode cX4_collectedFrom 0 = .ok (.iconst 0, 1) := by decide +kernel
theorem dX4_collectedFrom_1 : decode cX4_collectedFrom 1 = .ok (.istore_n 2, 1) := by decide +kernel
theorem dX4_collectedFrom_2 : decode cX4_collectedFrom 2 = .ok (.iload_n 2, 1) := by decide +kernel
theorem dX4_collectedFrom_3 : decode cX4_collectedFrom 3 = .ok (.aload_n 0, 1) := by decide +kernel
theorem dX4_collectedFrom_4 : decode cX4_collectedFrom 4 = .ok (.getfield 41, 3) := by decide +kernel
theorem dX4_collectedFrom_7 : decode cX4_collectedFrom 7 = .ok (.invokevirtual 96, 3) := by decide +kernel
theorem dX4_collectedFrom_10 : decode cX4_collectedFrom 10 = .ok (.if_icmp .ge 38, 3) := by decide +kernel
theorem dX4_collectedFrom_13 : decode cX4_collectedFrom 13 = .ok (.aload_n 0, 1) := by decide +kernel
theorem dX4_collectedFrom_14 : decode cX4_collectedFrom 14 = .ok (.getfield 41, 3) := by decide +kernel
theorem dX4_collectedFrom_17 : decode cX4_collectedFrom 17 = .ok (.iload_n 2, 1) := by decide +kernel
theorem dX4_collectedFrom_18 : decode cX4_collectedFrom 18 = .ok (.invokevirtual 100, 3) := by decide +kernel
theorem dX4_collectedFrom_21 : decode cX4_collectedFrom 21 = .ok (.checkcast 32, 3) := by decide +kernel
theorem dX4_collectedFrom_24 : decode cX4_collectedFrom 24 = .ok (.astore_n 3, 1) := by decide +kernel
theorem dX4_collectedFrom_25 : decode cX4_collectedFrom 25 = .ok (.aload_n 3, 1) := by decide +kernel
theorem dX4_collectedFrom_26 : decode cX4_collectedFrom 26 = .ok (.getfield 93, 3) := by decide +kernel
theorem dX4_collectedFrom_29 : decode cX4_collectedFrom 29 = .ok (.ifCond .eq 13, 3) := by decide +kernel
theorem dX4_collectedFrom_32 : decode cX4_collectedFrom 32 = .ok (.aload_n 3, 1) := by decide +kernel
theorem dX4_collectedFrom_33 : decode cX4_collectedFrom 33 = .ok (.getfield 178, 3) := by decide +kernel
theorem dX4_collectedFrom_36 : decode cX4_collectedFrom 36 = .ok (.iload_n 1, 1) := by decide +kernel
theorem dX4_collectedFrom_37 : decode cX4_collectedFrom 37 = .ok (.if_icmp .ne 5, 3) := by decide +kernel
theorem dX4_collectedFrom_40 : decode cX4_collectedFrom 40 = .ok (.aload_n 3, 1) := by decide +kernel
theorem dX4_collectedFrom_41 : decode cX4_collectedFrom 41 = .ok (.areturn, 1) := by decide +kernel
theorem dX4_collectedFrom_42 : decode cX4_collectedFrom 42 = .ok (.iinc 2 1, 3) := by decide +kernel
theorem dX4_collectedFrom_45 : decode cX4_collectedFrom 45 = .ok (.goto (-43), 3) := by decide +kernel
theorem dX4_collectedFrom_48 : decode cX4_collectedFrom 48 = .ok (.aconst_null, 1) := by decide +kernel
theorem dX4_collectedFrom_49 : decode cX4_collectedFrom 49 = .ok (.areturn, 1) := by decide +kernel
theorem dX4_beginCollecting_0 : decode cX4_beginCollecting 0 = .ok (.aload_n 0, 1) := by decide +kernel
theorem dX4_beginCollecting_1 : decode cX4_beginCollecting 1 = .ok (.aload_n 1, 1) := by decide +kernel
theorem dX4_beginCollecting_2 : decode cX4_beginCollecting 2 = .ok (.invokevirtual 220, 3) := by decide +kernel
theorem dX4_beginCollecting_5 : decode cX4_beginCollecting 5 = .ok (.invokevirtual 293, 3) := by decide +kernel
theorem dX4_beginCollecting_8 : decode cX4_beginCollecting 8 = .ok (.astore_n 3, 1) := by decide +kernel
theorem dX4_beginCollecting_9 : decode cX4_beginCollecting 9 = .ok (.iconst 0, 1) := by decide +kernel
theorem dX4_beginCollecting_10 : decode cX4_beginCollecting 10 = .ok (.istore 4, 2) := by decide +kernel
theorem dX4_beginCollecting_12 : decode cX4_beginCollecting 12 = .ok (.aload_n 3, 1) := by decide +kernel
theorem dX4_beginCollecting_13 : decode cX4_beginCollecting 13 = .ok (.ifnonnull 56, 3) := by decide +kernel
theorem dX4_beginCollecting_16 : decode cX4_beginCollecting 16 = .ok (.iload 4, 2) := by decide +kernel
theorem dX4_beginCollecting_18 : decode cX4_beginCollecting 18 = .ok (.aload_n 0, 1) := by decide +kernel
theorem dX4_beginCollecting_19 : decode cX4_beginCollecting 19 = .ok (.getfield 41, 3) := by decide +kernel
theorem dX4_beginCollecting_22 : decode cX4_beginCollecting 22 = .ok (.invokevirtual 96, 3) := by decide +kernel
theorem dX4_beginCollecting_25 : decode cX4_beginCollecting 25 = .ok (.if_icmp .ge 44, 3) := by decide +kernel
theorem dX4_beginCollecting_28 : decode cX4_beginCollecting 28 = .ok (.aload_n 0, 1) := by decide +kernel
theorem dX4_beginCollecting_29 : decode cX4_beginCollecting 29 = .ok (.getfield 41, 3) := by decide +kernel
theorem dX4_beginCollecting_32 : decode cX4_beginCollecting 32 = .ok (.iload 4, 2) := by decide +kernel
theorem dX4_beginCollecting_34 : decode cX4_beginCollecting 34 = .ok (.invokevirtual 100, 3) := by decide +kernel
theorem dX4_beginCollecting_37 : decode cX4_beginCollecting 37 = .ok (.checkcast 32, 3) := by decide +kernel
theorem dX4_beginCollecting_40 : decode cX4_beginCollecting 40 = .ok (.getfield 93, 3) := by decide +kernel
theorem dX4_beginCollecting_43 : decode cX4_beginCollecting 43 = .ok (.ifCond .eq 7, 3) := by decide +kernel
theorem dX4_beginCollecting_46 : decode cX4_beginCollecting 46 = .ok (.aconst_null, 1) := by decide +kernel
theorem dX4_beginCollecting_47 : decode cX4_beginCollecting 47 = .ok (.goto 15, 3) := by decide +kernel
theorem dX4_beginCollecting_50 : decode cX4_beginCollecting 50 = .ok (.aload_n 0, 1) := by decide +kernel
theorem dX4_beginCollecting_51 : decode cX4_beginCollecting 51 = .ok (.getfield 41, 3) := by decide +kernel
theorem dX4_beginCollecting_54 : decode cX4_beginCollecting 54 = .ok (.iload 4, 2) := by decide +kernel
theorem dX4_beginCollecting_56 : decode cX4_beginCollecting 56 = .ok (.invokevirtual 100, 3) := by decide +kernel
theorem dX4_beginCollecting_59 : decode cX4_beginCollecting 59 = .ok (.checkcast 32, 3) := by decide +kernel
theorem dX4_beginCollecting_62 : decode cX4_beginCollecting 62 = .ok (.astore_n 3, 1) := by decide +kernel
theorem dX4_beginCollecting_63 : decode cX4_beginCollecting 63 = .ok (.iinc 4 1, 3) := by decide +kernel
theorem dX4_beginCollecting_66 : decode cX4_beginCollecting 66 = .ok (.goto (-54), 3) := by decide +kernel
theorem dX4_beginCollecting_69 : decode cX4_beginCollecting 69 = .ok (.aload_n 3, 1) := by decide +kernel
theorem dX4_beginCollecting_70 : decode cX4_beginCollecting 70 = .ok (.ifnonnull 33, 3) := by decide +kernel
theorem dX4_beginCollecting_73 : decode cX4_beginCollecting 73 = .ok (.aload_n 0, 1) := by decide +kernel
theorem dX4_beginCollecting_74 : decode cX4_beginCollecting 74 = .ok (.getfield 41, 3) := by decide +kernel
theorem dX4_beginCollecting_77 : decode cX4_beginCollecting 77 = .ok (.invokevirtual 96, 3) := by decide +kernel
theorem dX4_beginCollecting_80 : decode cX4_beginCollecting 80 = .ok (.sipush 254, 3) := by decide +kernel
theorem dX4_beginCollecting_83 : decode cX4_beginCollecting 83 = .ok (.if_icmp .ge 20, 3) := by decide +kernel
theorem dX4_beginCollecting_86 : decode cX4_beginCollecting 86 = .ok (.new 32, 3) := by decide +kernel
theorem dX4_beginCollecting_89 : decode cX4_beginCollecting 89 = .ok (.dup, 1) := by decide +kernel
theorem dX4_beginCollecting_90 : decode cX4_beginCollecting 90 = .ok (.invokespecial 282, 3) := by decide +kernel
theorem dX4_beginCollecting_93 : decode cX4_beginCollecting 93 = .ok (.astore_n 3, 1) := by decide +kernel
theorem dX4_beginCollecting_94 : decode cX4_beginCollecting 94 = .ok (.aload_n 0, 1) := by decide +kernel
theorem dX4_beginCollecting_95 : decode cX4_beginCollecting 95 = .ok (.getfield 41, 3) := by decide +kernel
theorem dX4_beginCollecting_98 : decode cX4_beginCollecting 98 = .ok (.aload_n 3, 1) := by decide +kernel
theorem dX4_beginCollecting_99 : decode cX4_beginCollecting 99 = .ok (.invokevirtual 296, 3) := by decide +kernel
theorem dX4_beginCollecting_102 : decode cX4_beginCollecting 102 = .ok (.pop, 1) := by decide +kernel
theorem dX4_beginCollecting_103 : decode cX4_beginCollecting 103 = .ok (.aload_n 3, 1) := by decide +kernel
theorem dX4_beginCollecting_104 : decode cX4_beginCollecting 104 = .ok (.ifnull 9, 3) := by decide +kernel
theorem dX4_beginCollecting_107 : decode cX4_beginCollecting 107 = .ok (.aload_n 3, 1) := by decide +kernel
theorem dX4_beginCollecting_108 : decode cX4_beginCollecting 108 = .ok (.aload_n 1, 1) := by decide +kernel
theorem dX4_beginCollecting_109 : decode cX4_beginCollecting 109 = .ok (.iload_n 2, 1) := by decide +kernel
theorem dX4_beginCollecting_110 : decode cX4_beginCollecting 110 = .ok (.invokevirtual 263, 3) := by decide +kernel
theorem dX4_beginCollecting_113 : decode cX4_beginCollecting 113 = .ok (.return_, 1) := by decide +kernel
theorem dX4_collectPacket_0 : decode cX4_collectPacket 0 = .ok (.aload_n 0, 1) := by decide +kernel
theorem dX4_collectPacket_1 : decode cX4_collectPacket 1 = .ok (.aload_n 1, 1) := by decide +kernel
theorem dX4_collectPacket_2 : decode cX4_collectPacket 2 = .ok (.invokevirtual 220, 3) := by decide +kernel
theorem dX4_collectPacket_5 : decode cX4_collectPacket 5 = .ok (.invokevirtual 293, 3) := by decide +kernel
theorem dX4_collectPacket_8 : decode cX4_collectPacket 8 = .ok (.astore_n 3, 1) := by decide +kernel
theorem dX4_collectPacket_9 : decode cX4_collectPacket 9 = .ok (.aload_n 3, 1) := by decide +kernel
theorem dX4_collectPacket_10 : decode cX4_collectPacket 10 = .ok (.ifnonnull 4, 3) := by decide +kernel
theorem dX4_collectPacket_13 : decode cX4_collectPacket 13 = .ok (.return_, 1) := by decide +kernel
theorem dX4_collectPacket_14 : decode cX4_collectPacket 14 = .ok (.aload_n 1, 1) := by decide +kernel
theorem dX4_collectPacket_15 : decode cX4_collectPacket 15 = .ok (.iconst 0, 1) := by decide +kernel
theorem dX4_collectPacket_16 : decode cX4_collectPacket 16 = .ok (.invokevirtual 255, 3) := by decide +kernel
theorem dX4_collectPacket_19 : decode cX4_collectPacket 19 = .ok (.aload_n 3, 1) := by decide +kernel
theorem dX4_collectPacket_20 : decode cX4_collectPacket 20 = .ok (.getfield 183, 3) := by decide +kernel
theorem dX4_collectPacket_23 : decode cX4_collectPacket 23 = .ok (.if_icmp .eq 9, 3) := by decide +kernel
theorem dX4_collectPacket_26 : decode cX4_collectPacket 26 = .ok (.aload_n 3, 1) := by decide +kernel
theorem dX4_collectPacket_27 : decode cX4_collectPacket 27 = .ok (.iconst 0, 1) := by decide +kernel
theorem dX4_collectPacket_28 : decode cX4_collectPacket 28 = .ok (.putfield 93, 3) := by decide +kernel
theorem dX4_collectPacket_31 : decode cX4_collectPacket 31 = .ok (.return_, 1) := by decide +kernel
theorem dX4_collectPacket_32 : decode cX4_collectPacket 32 = .ok (.aload_n 3, 1) := by decide +kernel
theorem dX4_collectPacket_33 : decode cX4_collectPacket 33 = .ok (.aload_n 1, 1) := by decide +kernel
theorem dX4_collectPacket_34 : decode cX4_collectPacket 34 = .ok (.iload_n 2, 1) := by decide +kernel
theorem dX4_collectPacket_35 : decode cX4_collectPacket 35 = .ok (.invokevirtual 283, 3) := by decide +kernel
theorem dX4_collectPacket_38 : decode cX4_collectPacket 38 = .ok (.aload_n 3, 1) := by decide +kernel
theorem dX4_collectPacket_39 : decode cX4_collectPacket 39 = .ok (.invokevirtual 286, 3) := by decide +kernel
theorem dX4_collectPacket_42 : decode cX4_collectPacket 42 = .ok (.ifCond .eq 16, 3) := by decide +kernel
theorem dX4_collectPacket_45 : decode cX4_collectPacket 45 = .ok (.aload_n 3, 1) := by decide +kernel
theorem dX4_collectPacket_46 : decode cX4_collectPacket 46 = .ok (.iconst 0, 1) := by decide +kernel
theorem dX4_collectPacket_47 : decode cX4_collectPacket 47 = .ok (.putfield 93, 3) := by decide +kernel
theorem dX4_collectPacket_50 : decode cX4_collectPacket 50 = .ok (.aload_n 0, 1) := by decide +kernel
theorem dX4_collectPacket_51 : decode cX4_collectPacket 51 = .ok (.getfield 28, 3) := by decide +kernel
theorem dX4_collectPacket_54 : decode cX4_collectPacket 54 = .ok (.aload_n 3, 1) := by decide +kernel
theorem dX4_collectPacket_55 : decode cX4_collectPacket 55 = .ok (.invokevirtual 289, 3) := by decide +kernel
theorem dX4_collectPacket_58 : decode cX4_collectPacket 58 = .ok (.return_, 1) := by decide +kernel
theorem dX5_init_0 : decode cX5_init 0 = .ok (.aload_n 0, 1) := by decide +kernel
theorem dX5_init_1 : decode cX5_init 1 = .ok (.invokespecial 3, 3) := by decide +kernel
theorem dX5_init_4 : decode cX5_init 4 = .ok (.aload_n 0, 1) := by decide +kernel
theorem dX5_init_5 : decode cX5_init 5 = .ok (.aconst_null, 1) := by decide +kernel
theorem dX5_init_6 : decode cX5_init 6 = .ok (.putfield 9, 3) := by decide +kernel
theorem dX5_init_9 : decode cX5_init 9 = .ok (.aload_n 0, 1) := by decide +kernel
theorem dX5_init_10 : decode cX5_init 10 = .ok (.aconst_null, 1) := by decide +kernel
theorem dX5_init_11 : decode cX5_init 11 = .ok (.putfield 15, 3) := by decide +kernel
theorem dX5_init_14 : decode cX5_init 14 = .ok (.aload_n 0, 1) := by decide +kernel
theorem dX5_init_15 : decode cX5_init 15 = .ok (.iconst 0, 1) := by decide +kernel
theorem dX5_init_16 : decode cX5_init 16 = .ok (.putfield 18, 3) := by decide +kernel
theorem dX5_init_19 : decode cX5_init 19 = .ok (.aload_n 0, 1) := by decide +kernel
theorem dX5_init_20 : decode cX5_init 20 = .ok (.iconst 0, 1) := by decide +kernel
theorem dX5_init_21 : decode cX5_init 21 = .ok (.putfield 22, 3) := by decide +kernel
theorem dX5_init_24 : decode cX5_init 24 = .ok (.aload_n 0, 1) := by decide +kernel
theorem dX5_init_25 : decode cX5_init 25 = .ok (.iconst 0, 1) := by decide +kernel
theorem dX5_init_26 : decode cX5_init 26 = .ok (.putfield 25, 3) := by decide +kernel
theorem dX5_init_29 : decode cX5_init 29 = .ok (.aload_n 0, 1) := by decide +kernel
theorem dX5_init_30 : decode cX5_init 30 = .ok (.iconst 0, 1) := by decide +kernel
theorem dX5_init_31 : decode cX5_init 31 = .ok (.putfield 28, 3) := by decide +kernel
theorem dX5_init_34 : decode cX5_init 34 = .ok (.aload_n 0, 1) := by decide +kernel
theorem dX5_init_35 : decode cX5_init 35 = .ok (.iconst 0, 1) := by decide +kernel
theorem dX5_init_36 : decode cX5_init 36 = .ok (.putfield 31, 3) := by decide +kernel
theorem dX5_init_39 : decode cX5_init 39 = .ok (.aload_n 0, 1) := by decide +kernel
theorem dX5_init_40 : decode cX5_init 40 = .ok (.new 35, 3) := by decide +kernel
theorem dX5_init_43 : decode cX5_init 43 = .ok (.dup, 1) := by decide +kernel
theorem dX5_init_44 : decode cX5_init 44 = .ok (.invokespecial 37, 3) := by decide +kernel
theorem dX5_init_47 : decode cX5_init 47 = .ok (.putfield 38, 3) := by decide +kernel
theorem dX5_init_50 : decode cX5_init 50 = .ok (.aload_n 0, 1) := by decide +kernel
theorem dX5_init_51 : decode cX5_init 51 = .ok (.iconst 0, 1) := by decide +kernel
theorem dX5_init_52 : decode cX5_init 52 = .ok (.putfield 42, 3) := by decide +kernel
theorem dX5_init_55 : decode cX5_init 55 = .ok (.aload_n 0, 1) := by decide +kernel
theorem dX5_init_56 : decode cX5_init 56 = .ok (.iload_n 1, 1) := by decide +kernel
theorem dX5_init_57 : decode cX5_init 57 = .ok (.putfield 45, 3) := by decide +kernel
theorem dX5_init_60 : decode cX5_init 60 = .ok (.aload_n 0, 1) := by decide +kernel
theorem dX5_init_61 : decode cX5_init 61 = .ok (.iload_n 2, 1) := by decide +kernel
theorem dX5_init_62 : decode cX5_init 62 = .ok (.putfield 48, 3) := by decide +kernel
theorem dX5_init_65 : decode cX5_init 65 = .ok (.aload_n 0, 1) := by decide +kernel
theorem dX5_init_66 : decode cX5_init 66 = .ok (.aload_n 3, 1) := by decide +kernel
theorem dX5_init_67 : decode cX5_init 67 = .ok (.putfield 51, 3) := by decide +kernel
theorem dX5_init_70 : decode cX5_init 70 = .ok (.return_, 1) := by decide +kernel
theorem dX5_length_0 : decode cX5_length 0 = .ok (.aload_n 0, 1) := by decide +kernel
theorem dX5_length_1 : decode cX5_length 1 = .ok (.getfield 31, 3) := by decide +kernel
theorem dX5_length_4 : decode cX5_length 4 = .ok (.ifCond .eq 12, 3) := by decide +kernel
theorem dX5_length_7 : decode cX5_length 7 = .ok (.aload_n 0, 1) := by decide +kernel
theorem dX5_length_8 : decode cX5_length 8 = .ok (.getfield 25, 3) := by decide +kernel
theorem dX5_length_11 : decode cX5_length 11 = .ok (.iconst 1, 1) := by decide +kernel
theorem dX5_length_12 : decode cX5_length 12 = .ok (.iadd, 1) := by decide +kernel
theorem dX5_length_13 : decode cX5_length 13 = .ok (.goto 7, 3) := by decide +kernel
theorem dX5_length_16 : decode cX5_length 16 = .ok (.aload_n 0, 1) := by decide +kernel
theorem dX5_length_17 : decode cX5_length 17 = .ok (.getfield 25, 3) := by decide +kernel
theorem dX5_length_20 : decode cX5_length 20 = .ok (.ireturn, 1) := by decide +kernel
theorem dX5_putClaim_0 : decode cX5_putClaim 0 = .ok (.aload_n 0, 1) := by decide +kernel
theorem dX5_putClaim_1 : decode cX5_putClaim 1 = .ok (.getfield 31, 3) := by decide +kernel
theorem dX5_putClaim_4 : decode cX5_putClaim 4 = .ok (.ifCond .ne 13, 3) := by decide +kernel
theorem dX5_putClaim_7 : decode cX5_putClaim 7 = .ok (.aload_n 0, 1) := by decide +kernel
theorem dX5_putClaim_8 : decode cX5_putClaim 8 = .ok (.iconst 1, 1) := by decide +kernel
theorem dX5_putClaim_9 : decode cX5_putClaim 9 = .ok (.putfield 31, 3) := by decide +kernel
theorem dX5_putClaim_12 : decode cX5_putClaim 12 = .ok (.aload_n 0, 1) := by decide +kernel
theorem dX5_putClaim_13 : decode cX5_putClaim 13 = .ok (.iconst 0, 1) := by decide +kernel
theorem dX5_putClaim_14 : decode cX5_putClaim 14 = .ok (.putfield 42, 3) := by decide +kernel
theorem dX5_putClaim_17 : decode cX5_putClaim 17 = .ok (.return_, 1) := by decide +kernel
theorem dX5_put_0 : decode cX5_put 0 = .ok (.aload_n 0, 1) := by decide +kernel
theorem dX5_put_1 : decode cX5_put 1 = .ok (.getfield 15, 3) := by decide +kernel
theorem dX5_put_4 : decode cX5_put 4 = .ok (.ifnull 13, 3) := by decide +kernel
theorem dX5_put_7 : decode cX5_put 7 = .ok (.aload_n 0, 1) := by decide +kernel
theorem dX5_put_8 : decode cX5_put 8 = .ok (.getfield 22, 3) := by decide +kernel
theorem dX5_put_11 : decode cX5_put 11 = .ok (.sipush 128, 3) := by decide +kernel
theorem dX5_put_14 : decode cX5_put 14 = .ok (.if_icmp .lt 33, 3) := by decide +kernel
theorem dX5_put_17 : decode cX5_put 17 = .ok (.aload_n 0, 1) := by decide +kernel
theorem dX5_put_18 : decode cX5_put 18 = .ok (.getfield 51, 3) := by decide +kernel
theorem dX5_put_21 : decode cX5_put 21 = .ok (.invokevirtual 57, 3) := by decide +kernel
theorem dX5_put_24 : decode cX5_put 24 = .ok (.astore 6, 2) := by decide +kernel
theorem dX5_put_26 : decode cX5_put 26 = .ok (.aload_n 0, 1) := by decide +kernel
theorem dX5_put_27 : decode cX5_put 27 = .ok (.aload 6, 2) := by decide +kernel
theorem dX5_put_29 : decode cX5_put 29 = .ok (.ifnonnull 13, 3) := by decide +kernel
theorem dX5_put_32 : decode cX5_put 32 = .ok (.new 55, 3) := by decide +kernel
theorem dX5_put_35 : decode cX5_put 35 = .ok (.dup, 1) := by decide +kernel
theorem dX5_put_36 : decode cX5_put 36 = .ok (.invokespecial 63, 3) := by decide +kernel
theorem dX5_put_39 : decode cX5_put 39 = .ok (.goto 5, 3) := by decide +kernel
theorem dX5_put_42 : decode cX5_put 42 = .ok (.aload 6, 2) := by decide +kernel
theorem dX5_put_44 : decode cX5_put 44 = .ok (.invokevirtual 64, 3) := by decide +kernel
theorem dX5_put_47 : decode cX5_put 47 = .ok (.aload_n 1, 1) := by decide +kernel
theorem dX5_put_48 : decode cX5_put 48 = .ok (.ifnonnull 7, 3) := by decide +kernel
theorem dX5_put_51 : decode cX5_put 51 = .ok (.iconst (-1), 1) := by decide +kernel
theorem dX5_put_52 : decode cX5_put 52 = .ok (.goto 7, 3) := by decide +kernel
theorem dX5_put_55 : decode cX5_put 55 = .ok (.aload_n 1, 1) := by decide +kernel
theorem dX5_put_56 : decode cX5_put 56 = .ok (.getfield 68, 3) := by decide +kernel
theorem dX5_put_59 : decode cX5_put 59 = .ok (.istore 6, 2) := by decide +kernel
theorem dX5_put_61 : decode cX5_put 61 = .ok (.iload_n 2, 1) := by decide +kernel
theorem dX5_put_62 : decode cX5_put 62 = .ok (.bipush 24, 2) := by decide +kernel
theorem dX5_put_64 : decode cX5_put 64 = .ok (.ishl, 1) := by decide +kernel
theorem dX5_put_65 : decode cX5_put 65 = .ok (.iload_n 3, 1) := by decide +kernel
theorem dX5_put_66 : decode cX5_put 66 = .ok (.sipush 255, 3) := by decide +kernel
theorem dX5_put_69 : decode cX5_put 69 = .ok (.iand, 1) := by decide +kernel
theorem dX5_put_70 : decode cX5_put 70 = .ok (.bipush 16, 2) := by decide +kernel
theorem dX5_put_72 : decode cX5_put 72 = .ok (.ishl, 1) := by decide +kernel
theorem dX5_put_73 : decode cX5_put 73 = .ok (.ior, 1) := by decide +kernel
theorem dX5_put_74 : decode cX5_put 74 = .ok (.iload 4, 2) := by decide +kernel
theorem dX5_put_76 : decode cX5_put 76 = .ok (.sipush 255, 3) := by decide +kernel
theorem dX5_put_79 : decode cX5_put 79 = .ok (.iand, 1) := by decide +kernel
theorem dX5_put_80 : decode cX5_put 80 = .ok (.bipush 8, 2) := by decide +kernel
theorem dX5_put_82 : decode cX5_put 82 = .ok (.ishl, 1) := by decide +kernel
theorem dX5_put_83 : decode cX5_put 83 = .ok (.ior, 1) := by decide +kernel
theorem dX5_put_84 : decode cX5_put 84 = .ok (.iload 5, 2) := by decide +kernel
theorem dX5_put_86 : decode cX5_put 86 = .ok (.sipush 255, 3) := by decide +kernel
theorem dX5_put_89 : decode cX5_put 89 = .ok (.iand, 1) := by decide +kernel
theorem dX5_put_90 : decode cX5_put 90 = .ok (.ior, 1) := by decide +kernel
theorem dX5_put_91 : decode cX5_put 91 = .ok (.istore 7, 2) := by decide +kernel
theorem dX5_put_93 : decode cX5_put 93 = .ok (.aload_n 0, 1) := by decide +kernel
theorem dX5_put_94 : decode cX5_put 94 = .ok (.getfield 15, 3) := by decide +kernel
theorem dX5_put_97 : decode cX5_put 97 = .ok (.ifnull 83, 3) := by decide +kernel
theorem dX5_put_100 : decode cX5_put 100 = .ok (.aload_n 0, 1) := by decide +kernel
theorem dX5_put_101 : decode cX5_put 101 = .ok (.getfield 22, 3) := by decide +kernel
theorem dX5_put_104 : decode cX5_put 104 = .ok (.ifCond .lt 76, 3) := by decide +kernel
theorem dX5_put_107 : decode cX5_put 107 = .ok (.aload_n 0, 1) := by decide +kernel
theorem dX5_put_108 : decode cX5_put 108 = .ok (.getfield 22, 3) := by decide +kernel
theorem dX5_put_111 : decode cX5_put 111 = .ok (.aload_n 0, 1) := by decide +kernel
theorem dX5_put_112 : decode cX5_put 112 = .ok (.getfield 15, 3) := by decide +kernel
theorem dX5_put_115 : decode cX5_put 115 = .ok (.getfield 73, 3) := by decide +kernel
theorem dX5_put_118 : decode cX5_put 118 = .ok (.arraylength, 1) := by decide +kernel
theorem dX5_put_119 : decode cX5_put 119 = .ok (.if_icmp .ge 61, 3) := by decide +kernel
theorem dX5_put_122 : decode cX5_put 122 = .ok (.aload_n 0, 1) := by decide +kernel
theorem dX5_put_123 : decode cX5_put 123 = .ok (.getfield 15, 3) := by decide +kernel
theorem dX5_put_126 : decode cX5_put 126 = .ok (.getfield 73, 3) := by decide +kernel
theorem dX5_put_129 : decode cX5_put 129 = .ok (.aload_n 0, 1) := by decide +kernel
theorem dX5_put_130 : decode cX5_put 130 = .ok (.getfield 22, 3) := by decide +kernel
theorem dX5_put_133 : decode cX5_put 133 = .ok (.iload 6, 2) := by decide +kernel
theorem dX5_put_135 : decode cX5_put 135 = .ok (.i2l, 1) := by decide +kernel
theorem dX5_put_136 : decode cX5_put 136 = .ok (.bipush 32, 2) := by decide +kernel
theorem dX5_put_138 : decode cX5_put 138 = .ok (.lshl, 1) := by decide +kernel
theorem dX5_put_139 : decode cX5_put 139 = .ok (.iload 7, 2) := by decide +kernel
theorem dX5_put_141 : decode cX5_put 141 = .ok (.i2l, 1) := by decide +kernel
theorem dX5_put_142 : decode cX5_put 142 = .ok (.ldc2_w 77, 3) := by decide +kernel
theorem dX5_put_145 : decode cX5_put 145 = .ok (.land, 1) := by decide +kernel
theorem dX5_put_146 : decode cX5_put 146 = .ok (.lor, 1) := by decide +kernel
theorem dX5_put_147 : decode cX5_put 147 = .ok (.lastore, 1) := by decide +kernel
theorem dX5_put_148 : decode cX5_put 148 = .ok (.aload_n 0, 1) := by decide +kernel
theorem dX5_put_149 : decode cX5_put 149 = .ok (.dup, 1) := by decide +kernel
theorem dX5_put_150 : decode cX5_put 150 = .ok (.getfield 22, 3) := by decide +kernel
theorem dX5_put_153 : decode cX5_put 153 = .ok (.iconst 1, 1) := by decide +kernel
theorem dX5_put_154 : decode cX5_put 154 = .ok (.iadd, 1) := by decide +kernel
theorem dX5_put_155 : decode cX5_put 155 = .ok (.putfield 22, 3) := by decide +kernel
theorem dX5_put_158 : decode cX5_put 158 = .ok (.aload_n 0, 1) := by decide +kernel
theorem dX5_put_159 : decode cX5_put 159 = .ok (.dup, 1) := by decide +kernel
theorem dX5_put_160 : decode cX5_put 160 = .ok (.getfield 25, 3) := by decide +kernel
theorem dX5_put_163 : decode cX5_put 163 = .ok (.iload_n 3, 1) := by decide +kernel
theorem dX5_put_164 : decode cX5_put 164 = .ok (.sipush 235, 3) := by decide +kernel
theorem dX5_put_167 : decode cX5_put 167 = .ok (.if_icmp .ne 8, 3) := by decide +kernel
theorem dX5_put_170 : decode cX5_put 170 = .ok (.iload 4, 2) := by decide +kernel
theorem dX5_put_172 : decode cX5_put 172 = .ok (.goto 4, 3) := by decide +kernel
theorem dX5_put_175 : decode cX5_put 175 = .ok (.iconst 1, 1) := by decide +kernel
theorem dX5_put_176 : decode cX5_put 176 = .ok (.iadd, 1) := by decide +kernel
theorem dX5_put_177 : decode cX5_put 177 = .ok (.putfield 25, 3) := by decide +kernel
theorem dX5_put_180 : decode cX5_put 180 = .ok (.return_, 1) := by decide +kernel
theorem dX5_lengthen_0 : decode cX5_lengthen 0 = .ok (.aload_n 0, 1) := by decide +kernel
theorem dX5_lengthen_1 : decode cX5_lengthen 1 = .ok (.getfield 15, 3) := by decide +kernel
theorem dX5_lengthen_4 : decode cX5_lengthen 4 = .ok (.ifnonnull 16, 3) := by decide +kernel
theorem dX5_lengthen_7 : decode cX5_lengthen 7 = .ok (.aload_n 0, 1) := by decide +kernel
theorem dX5_lengthen_8 : decode cX5_lengthen 8 = .ok (.aload_n 1, 1) := by decide +kernel
theorem dX5_lengthen_9 : decode cX5_lengthen 9 = .ok (.putfield 9, 3) := by decide +kernel
theorem dX5_lengthen_12 : decode cX5_lengthen 12 = .ok (.aload_n 0, 1) := by decide +kernel
theorem dX5_lengthen_13 : decode cX5_lengthen 13 = .ok (.iconst 0, 1) := by decide +kernel
theorem dX5_lengthen_14 : decode cX5_lengthen 14 = .ok (.putfield 18, 3) := by decide +kernel
theorem dX5_lengthen_17 : decode cX5_lengthen 17 = .ok (.goto 11, 3) := by decide +kernel
theorem dX5_lengthen_20 : decode cX5_lengthen 20 = .ok (.aload_n 0, 1) := by decide +kernel
theorem dX5_lengthen_21 : decode cX5_lengthen 21 = .ok (.getfield 15, 3) := by decide +kernel
theorem dX5_lengthen_24 : decode cX5_lengthen 24 = .ok (.aload_n 1, 1) := by decide +kernel
theorem dX5_lengthen_25 : decode cX5_lengthen 25 = .ok (.putfield 79, 3) := by decide +kernel
theorem dX5_lengthen_28 : decode cX5_lengthen 28 = .ok (.aload_n 0, 1) := by decide +kernel
theorem dX5_lengthen_29 : decode cX5_lengthen 29 = .ok (.aload_n 1, 1) := by decide +kernel
theorem dX5_lengthen_30 : decode cX5_lengthen 30 = .ok (.putfield 15, 3) := by decide +kernel
theorem dX5_lengthen_33 : decode cX5_lengthen 33 = .ok (.aload_n 0, 1) := by decide +kernel
theorem dX5_lengthen_34 : decode cX5_lengthen 34 = .ok (.iconst 0, 1) := by decide +kernel
theorem dX5_lengthen_35 : decode cX5_lengthen 35 = .ok (.putfield 22, 3) := by decide +kernel
theorem dX5_lengthen_38 : decode cX5_lengthen 38 = .ok (.return_, 1) := by decide +kernel
theorem dX5_firstEntry_0 : decode cX5_firstEntry 0 = .ok (.aload_n 0, 1) := by decide +kernel
theorem dX5_firstEntry_1 : decode cX5_firstEntry 1 = .ok (.getfield 9, 3) := by decide +kernel
theorem dX5_firstEntry_4 : decode cX5_firstEntry 4 = .ok (.ifnull 29, 3) := by decide +kernel
theorem dX5_firstEntry_7 : decode cX5_firstEntry 7 = .ok (.aload_n 0, 1) := by decide +kernel
theorem dX5_firstEntry_8 : decode cX5_firstEntry 8 = .ok (.getfield 18, 3) := by decide +kernel
theorem dX5_firstEntry_11 : decode cX5_firstEntry 11 = .ok (.ifCond .lt 22, 3) := by decide +kernel
theorem dX5_firstEntry_14 : decode cX5_firstEntry 14 = .ok (.aload_n 0, 1) := by decide +kernel
theorem dX5_firstEntry_15 : decode cX5_firstEntry 15 = .ok (.getfield 18, 3) := by decide +kernel
theorem dX5_firstEntry_18 : decode cX5_firstEntry 18 = .ok (.aload_n 0, 1) := by decide +kernel
theorem dX5_firstEntry_19 : decode cX5_firstEntry 19 = .ok (.getfield 9, 3) := by decide +kernel
theorem dX5_firstEntry_22 : decode cX5_firstEntry 22 = .ok (.getfield 73, 3) := by decide +kernel
theorem dX5_firstEntry_25 : decode cX5_firstEntry 25 = .ok (.arraylength, 1) := by decide +kernel
theorem dX5_firstEntry_26 : decode cX5_firstEntry 26 = .ok (.if_icmp .ge 7, 3) := by decide +kernel
theorem dX5_firstEntry_29 : decode cX5_firstEntry 29 = .ok (.iconst 1, 1) := by decide +kernel
theorem dX5_firstEntry_30 : decode cX5_firstEntry 30 = .ok (.goto 4, 3) := by decide +kernel
theorem dX5_firstEntry_33 : decode cX5_firstEntry 33 = .ok (.iconst 0, 1) := by decide +kernel
theorem dX5_firstEntry_34 : decode cX5_firstEntry 34 = .ok (.istore_n 1, 1) := by decide +kernel
theorem dX5_firstEntry_35 : decode cX5_firstEntry 35 = .ok (.iload_n 1, 1) := by decide +kernel
theorem dX5_firstEntry_36 : decode cX5_firstEntry 36 = .ok (.ifCond .eq 18, 3) := by decide +kernel
theorem dX5_firstEntry_39 : decode cX5_firstEntry 39 = .ok (.aload_n 0, 1) := by decide +kernel
theorem dX5_firstEntry_40 : decode cX5_firstEntry 40 = .ok (.getfield 9, 3) := by decide +kernel
theorem dX5_firstEntry_43 : decode cX5_firstEntry 43 = .ok (.getfield 73, 3) := by decide +kernel
theorem dX5_firstEntry_46 : decode cX5_firstEntry 46 = .ok (.aload_n 0, 1) := by decide +kernel
theorem dX5_firstEntry_47 : decode cX5_firstEntry 47 = .ok (.getfield 18, 3) := by decide +kernel
theorem dX5_firstEntry_50 : decode cX5_firstEntry 50 = .ok (.laload, 1) := by decide +kernel
theorem dX5_firstEntry_51 : decode cX5_firstEntry 51 = .ok (.goto 4, 3) := by decide +kernel
theorem dX5_firstEntry_54 : decode cX5_firstEntry 54 = .ok (.lconst 0, 1) := by decide +kernel
theorem dX5_firstEntry_55 : decode cX5_firstEntry 55 = .ok (.lreturn, 1) := by decide +kernel
theorem dX5_first_0 : decode cX5_first 0 = .ok (.aload_n 0, 1) := by decide +kernel
theorem dX5_first_1 : decode cX5_first 1 = .ok (.invokevirtual 82, 3) := by decide +kernel
theorem dX5_first_4 : decode cX5_first 4 = .ok (.ifCond .ne 5, 3) := by decide +kernel
theorem dX5_first_7 : decode cX5_first 7 = .ok (.aconst_null, 1) := by decide +kernel
theorem dX5_first_8 : decode cX5_first 8 = .ok (.areturn, 1) := by decide +kernel
theorem dX5_first_9 : decode cX5_first 9 = .ok (.aload_n 0, 1) := by decide +kernel
theorem dX5_first_10 : decode cX5_first 10 = .ok (.getfield 42, 3) := by decide +kernel
theorem dX5_first_13 : decode cX5_first 13 = .ok (.ifCond .ne 13, 3) := by decide +kernel
theorem dX5_first_16 : decode cX5_first 16 = .ok (.aload_n 0, 1) := by decide +kernel
theorem dX5_first_17 : decode cX5_first 17 = .ok (.iload_n 1, 1) := by decide +kernel
theorem dX5_first_18 : decode cX5_first 18 = .ok (.invokevirtual 86, 3) := by decide +kernel
theorem dX5_first_21 : decode cX5_first 21 = .ok (.aload_n 0, 1) := by decide +kernel
theorem dX5_first_22 : decode cX5_first 22 = .ok (.iconst 1, 1) := by decide +kernel
theorem dX5_first_23 : decode cX5_first 23 = .ok (.putfield 42, 3) := by decide +kernel
theorem dX5_first_26 : decode cX5_first 26 = .ok (.aload_n 0, 1) := by decide +kernel
theorem dX5_first_27 : decode cX5_first 27 = .ok (.getfield 38, 3) := by decide +kernel
theorem dX5_first_30 : decode cX5_first 30 = .ok (.areturn, 1) := by decide +kernel
theorem dX5_writeFirst_0 : decode cX5_writeFirst 0 = .ok (.aload_n 0, 1) := by decide +kernel
theorem dX5_writeFirst_1 : decode cX5_writeFirst 1 = .ok (.getfield 31, 3) := by decide +kernel
theorem dX5_writeFirst_4 : decode cX5_writeFirst 4 = .ok (.ifCond .eq 24, 3) := by decide +kernel
theorem dX5_writeFirst_7 : decode cX5_writeFirst 7 = .ok (.aload_n 0, 1) := by decide +kernel
theorem dX5_writeFirst_8 : decode cX5_writeFirst 8 = .ok (.getfield 38, 3) := by decide +kernel
theorem dX5_writeFirst_11 : decode cX5_writeFirst 11 = .ok (.ldc 90, 2) := by decide +kernel
theorem dX5_writeFirst_13 : decode cX5_writeFirst 13 = .ok (.iload_n 1, 1) := by decide +kernel
theorem dX5_writeFirst_14 : decode cX5_writeFirst 14 = .ok (.ior, 1) := by decide +kernel
theorem dX5_writeFirst_15 : decode cX5_writeFirst 15 = .ok (.aload_n 0, 1) := by decide +kernel
theorem dX5_writeFirst_16 : decode cX5_writeFirst 16 = .ok (.getfield 48, 3) := by decide +kernel
theorem dX5_writeFirst_19 : decode cX5_writeFirst 19 = .ok (.aload_n 0, 1) := by decide +kernel
theorem dX5_writeFirst_20 : decode cX5_writeFirst 20 = .ok (.getfield 45, 3) := by decide +kernel
theorem dX5_writeFirst_23 : decode cX5_writeFirst 23 = .ok (.aconst_null, 1) := by decide +kernel
theorem dX5_writeFirst_24 : decode cX5_writeFirst 24 = .ok (.invokevirtual 91, 3) := by decide +kernel
theorem dX5_writeFirst_27 : decode cX5_writeFirst 27 = .ok (.return_, 1) := by decide +kernel
theorem dX5_writeFirst_28 : decode cX5_writeFirst 28 = .ok (.aload_n 0, 1) := by decide +kernel
theorem dX5_writeFirst_29 : decode cX5_writeFirst 29 = .ok (.invokevirtual 95, 3) := by decide +kernel
theorem dX5_writeFirst_32 : decode cX5_writeFirst 32 = .ok (.lstore_n 2, 1) := by decide +kernel
theorem dX5_writeFirst_33 : decode cX5_writeFirst 33 = .ok (.aload_n 0, 1) := by decide +kernel
theorem dX5_writeFirst_34 : decode cX5_writeFirst 34 = .ok (.getfield 51, 3) := by decide +kernel
theorem dX5_writeFirst_37 : decode cX5_writeFirst 37 = .ok (.lload_n 2, 1) := by decide +kernel
theorem dX5_writeFirst_38 : decode cX5_writeFirst 38 = .ok (.bipush 32, 2) := by decide +kernel
theorem dX5_writeFirst_40 : decode cX5_writeFirst 40 = .ok (.lshr, 1) := by decide +kernel
theorem dX5_writeFirst_41 : decode cX5_writeFirst 41 = .ok (.l2i, 1) := by decide +kernel
theorem dX5_writeFirst_42 : decode cX5_writeFirst 42 = .ok (.invokevirtual 99, 3) := by decide +kernel
theorem dX5_writeFirst_45 : decode cX5_writeFirst 45 = .ok (.astore 4, 2) := by decide +kernel
theorem dX5_writeFirst_47 : decode cX5_writeFirst 47 = .ok (.lload_n 2, 1) := by decide +kernel
theorem dX5_writeFirst_48 : decode cX5_writeFirst 48 = .ok (.l2i, 1) := by decide +kernel
theorem dX5_writeFirst_49 : decode cX5_writeFirst 49 = .ok (.istore 5, 2) := by decide +kernel
theorem dX5_writeFirst_51 : decode cX5_writeFirst 51 = .ok (.iload 5, 2) := by decide +kernel
theorem dX5_writeFirst_53 : decode cX5_writeFirst 53 = .ok (.bipush 24, 2) := by decide +kernel
theorem dX5_writeFirst_55 : decode cX5_writeFirst 55 = .ok (.iushr, 1) := by decide +kernel
theorem dX5_writeFirst_56 : decode cX5_writeFirst 56 = .ok (.istore 6, 2) := by decide +kernel
theorem dX5_writeFirst_58 : decode cX5_writeFirst 58 = .ok (.iload 5, 2) := by decide +kernel
theorem dX5_writeFirst_60 : decode cX5_writeFirst 60 = .ok (.bipush 16, 2) := by decide +kernel
theorem dX5_writeFirst_62 : decode cX5_writeFirst 62 = .ok (.iushr, 1) := by decide +kernel
theorem dX5_writeFirst_63 : decode cX5_writeFirst 63 = .ok (.sipush 255, 3) := by decide +kernel
theorem dX5_writeFirst_66 : decode cX5_writeFirst 66 = .ok (.iand, 1) := by decide +kernel
theorem dX5_writeFirst_67 : decode cX5_writeFirst 67 = .ok (.istore 7, 2) := by decide +kernel
theorem dX5_writeFirst_69 : decode cX5_writeFirst 69 = .ok (.aload 4, 2) := by decide +kernel
theorem dX5_writeFirst_71 : decode cX5_writeFirst 71 = .ok (.ifnonnull 35, 3) := by decide +kernel
theorem dX5_writeFirst_74 : decode cX5_writeFirst 74 = .ok (.aload_n 0, 1) := by decide +kernel
theorem dX5_writeFirst_75 : decode cX5_writeFirst 75 = .ok (.getfield 38, 3) := by decide +kernel
theorem dX5_writeFirst_78 : decode cX5_writeFirst 78 = .ok (.sipush 234, 3) := by decide +kernel
theorem dX5_writeFirst_81 : decode cX5_writeFirst 81 = .ok (.iload 6, 2) := by decide +kernel
theorem dX5_writeFirst_83 : decode cX5_writeFirst 83 = .ok (.iload_n 1, 1) := by decide +kernel
theorem dX5_writeFirst_84 : decode cX5_writeFirst 84 = .ok (.invokestatic 103, 3) := by decide +kernel
theorem dX5_writeFirst_87 : decode cX5_writeFirst 87 = .ok (.iconst 0, 1) := by decide +kernel
theorem dX5_writeFirst_88 : decode cX5_writeFirst 88 = .ok (.sipush 238, 3) := by decide +kernel
theorem dX5_writeFirst_91 : decode cX5_writeFirst 91 = .ok (.iconst 0, 1) := by decide +kernel
theorem dX5_writeFirst_92 : decode cX5_writeFirst 92 = .ok (.sipush 255, 3) := by decide +kernel
theorem dX5_writeFirst_95 : decode cX5_writeFirst 95 = .ok (.invokestatic 107, 3) := by decide +kernel
theorem dX5_writeFirst_98 : decode cX5_writeFirst 98 = .ok (.iconst (-1), 1) := by decide +kernel
theorem dX5_writeFirst_99 : decode cX5_writeFirst 99 = .ok (.aconst_null, 1) := by decide +kernel
theorem dX5_writeFirst_100 : decode cX5_writeFirst 100 = .ok (.invokevirtual 91, 3) := by decide +kernel
theorem dX5_writeFirst_103 : decode cX5_writeFirst 103 = .ok (.goto 88, 3) := by decide +kernel
theorem dX5_writeFirst_106 : decode cX5_writeFirst 106 = .ok (.iload 7, 2) := by decide +kernel
theorem dX5_writeFirst_108 : decode cX5_writeFirst 108 = .ok (.ifCond .ne 16, 3) := by decide +kernel
theorem dX5_writeFirst_111 : decode cX5_writeFirst 111 = .ok (.aload 4, 2) := by decide +kernel
theorem dX5_writeFirst_113 : decode cX5_writeFirst 113 = .ok (.aload_n 0, 1) := by decide +kernel
theorem dX5_writeFirst_114 : decode cX5_writeFirst 114 = .ok (.getfield 38, 3) := by decide +kernel
theorem dX5_writeFirst_117 : decode cX5_writeFirst 117 = .ok (.iload_n 1, 1) := by decide +kernel
theorem dX5_writeFirst_118 : decode cX5_writeFirst 118 = .ok (.invokevirtual 111, 3) := by decide +kernel
theorem dX5_writeFirst_121 : decode cX5_writeFirst 121 = .ok (.goto 70, 3) := by decide +kernel
theorem dX5_writeFirst_124 : decode cX5_writeFirst 124 = .ok (.iload 7, 2) := by decide +kernel
theorem dX5_writeFirst_126 : decode cX5_writeFirst 126 = .ok (.sipush 235, 3) := by decide +kernel
theorem dX5_writeFirst_129 : decode cX5_writeFirst 129 = .ok (.if_icmp .ne 27, 3) := by decide +kernel
theorem dX5_writeFirst_132 : decode cX5_writeFirst 132 = .ok (.aload 4, 2) := by decide +kernel
theorem dX5_writeFirst_134 : decode cX5_writeFirst 134 = .ok (.aload_n 0, 1) := by decide +kernel
theorem dX5_writeFirst_135 : decode cX5_writeFirst 135 = .ok (.getfield 38, 3) := by decide +kernel
theorem dX5_writeFirst_138 : decode cX5_writeFirst 138 = .ok (.iload_n 1, 1) := by decide +kernel
theorem dX5_writeFirst_139 : decode cX5_writeFirst 139 = .ok (.iload 5, 2) := by decide +kernel
theorem dX5_writeFirst_141 : decode cX5_writeFirst 141 = .ok (.sipush 255, 3) := by decide +kernel
theorem dX5_writeFirst_144 : decode cX5_writeFirst 144 = .ok (.iand, 1) := by decide +kernel
theorem dX5_writeFirst_145 : decode cX5_writeFirst 145 = .ok (.aload_n 0, 1) := by decide +kernel
theorem dX5_writeFirst_146 : decode cX5_writeFirst 146 = .ok (.getfield 28, 3) := by decide +kernel
theorem dX5_writeFirst_149 : decode cX5_writeFirst 149 = .ok (.iadd, 1) := by decide +kernel
theorem dX5_writeFirst_150 : decode cX5_writeFirst 150 = .ok (.invokevirtual 115, 3) := by decide +kernel
theorem dX5_writeFirst_153 : decode cX5_writeFirst 153 = .ok (.goto 38, 3) := by decide +kernel
theorem dX5_writeFirst_156 : decode cX5_writeFirst 156 = .ok (.aload 4, 2) := by decide +kernel
theorem dX5_writeFirst_158 : decode cX5_writeFirst 158 = .ok (.aload_n 0, 1) := by decide +kernel
theorem dX5_writeFirst_159 : decode cX5_writeFirst 159 = .ok (.getfield 38, 3) := by decide +kernel
theorem dX5_writeFirst_162 : decode cX5_writeFirst 162 = .ok (.sipush 236, 3) := by decide +kernel
theorem dX5_writeFirst_165 : decode cX5_writeFirst 165 = .ok (.iload 6, 2) := by decide +kernel
theorem dX5_writeFirst_167 : decode cX5_writeFirst 167 = .ok (.iload_n 1, 1) := by decide +kernel
theorem dX5_writeFirst_168 : decode cX5_writeFirst 168 = .ok (.invokestatic 103, 3) := by decide +kernel
theorem dX5_writeFirst_171 : decode cX5_writeFirst 171 = .ok (.iload 7, 2) := by decide +kernel
theorem dX5_writeFirst_173 : decode cX5_writeFirst 173 = .ok (.iload 5, 2) := by decide +kernel
theorem dX5_writeFirst_175 : decode cX5_writeFirst 175 = .ok (.bipush 8, 2) := by decide +kernel
theorem dX5_writeFirst_177 : decode cX5_writeFirst 177 = .ok (.iushr, 1) := by decide +kernel
theorem dX5_writeFirst_178 : decode cX5_writeFirst 178 = .ok (.sipush 255, 3) := by decide +kernel
theorem dX5_writeFirst_181 : decode cX5_writeFirst 181 = .ok (.iand, 1) := by decide +kernel
theorem dX5_writeFirst_182 : decode cX5_writeFirst 182 = .ok (.iload 5, 2) := by decide +kernel
theorem dX5_writeFirst_184 : decode cX5_writeFirst 184 = .ok (.sipush 255, 3) := by decide +kernel
theorem dX5_writeFirst_187 : decode cX5_writeFirst 187 = .ok (.iand, 1) := by decide +kernel
theorem dX5_writeFirst_188 : decode cX5_writeFirst 188 = .ok (.invokevirtual 119, 3) := by decide +kernel
theorem dX5_writeFirst_191 : decode cX5_writeFirst 191 = .ok (.return_, 1) := by decide +kernel
theorem dX5_removeFirst_0 : decode cX5_removeFirst 0 = .ok (.aload_n 0, 1) := by decide +kernel
theorem dX5_removeFirst_1 : decode cX5_removeFirst 1 = .ok (.iconst 0, 1) := by decide +kernel
theorem dX5_removeFirst_2 : decode cX5_removeFirst 2 = .ok (.putfield 42, 3) := by decide +kernel
theorem dX5_removeFirst_5 : decode cX5_removeFirst 5 = .ok (.aload_n 0, 1) := by decide +kernel
theorem dX5_removeFirst_6 : decode cX5_removeFirst 6 = .ok (.getfield 31, 3) := by decide +kernel
theorem dX5_removeFirst_9 : decode cX5_removeFirst 9 = .ok (.ifCond .eq 11, 3) := by decide +kernel
theorem dX5_removeFirst_12 : decode cX5_removeFirst 12 = .ok (.aload_n 0, 1) := by decide +kernel
theorem dX5_removeFirst_13 : decode cX5_removeFirst 13 = .ok (.iconst 0, 1) := by decide +kernel
theorem dX5_removeFirst_14 : decode cX5_removeFirst 14 = .ok (.putfield 31, 3) := by decide +kernel
theorem dX5_removeFirst_17 : decode cX5_removeFirst 17 = .ok (.goto 40, 3) := by decide +kernel
theorem dX5_removeFirst_20 : decode cX5_removeFirst 20 = .ok (.aload_n 0, 1) := by decide +kernel
theorem dX5_removeFirst_21 : decode cX5_removeFirst 21 = .ok (.getfield 25, 3) := by decide +kernel
theorem dX5_removeFirst_24 : decode cX5_removeFirst 24 = .ok (.iconst 1, 1) := by decide +kernel
theorem dX5_removeFirst_25 : decode cX5_removeFirst 25 = .ok (.if_icmp .ne 10, 3) := by decide +kernel
theorem dX5_removeFirst_28 : decode cX5_removeFirst 28 = .ok (.aload_n 0, 1) := by decide +kernel
theorem dX5_removeFirst_29 : decode cX5_removeFirst 29 = .ok (.invokevirtual 123, 3) := by decide +kernel
theorem dX5_removeFirst_32 : decode cX5_removeFirst 32 = .ok (.goto 25, 3) := by decide +kernel
theorem dX5_removeFirst_35 : decode cX5_removeFirst 35 = .ok (.aload_n 0, 1) := by decide +kernel
theorem dX5_removeFirst_36 : decode cX5_removeFirst 36 = .ok (.getfield 25, 3) := by decide +kernel
theorem dX5_removeFirst_39 : decode cX5_removeFirst 39 = .ok (.iconst 1, 1) := by decide +kernel
theorem dX5_removeFirst_40 : decode cX5_removeFirst 40 = .ok (.if_icmp .le 17, 3) := by decide +kernel
theorem dX5_removeFirst_43 : decode cX5_removeFirst 43 = .ok (.aload_n 0, 1) := by decide +kernel
theorem dX5_removeFirst_44 : decode cX5_removeFirst 44 = .ok (.dup, 1) := by decide +kernel
theorem dX5_removeFirst_45 : decode cX5_removeFirst 45 = .ok (.getfield 25, 3) := by decide +kernel
theorem dX5_removeFirst_48 : decode cX5_removeFirst 48 = .ok (.iconst 1, 1) := by decide +kernel
theorem dX5_removeFirst_49 : decode cX5_removeFirst 49 = .ok (.isub, 1) := by decide +kernel
theorem dX5_removeFirst_50 : decode cX5_removeFirst 50 = .ok (.putfield 25, 3) := by decide +kernel
theorem dX5_removeFirst_53 : decode cX5_removeFirst 53 = .ok (.aload_n 0, 1) := by decide +kernel
theorem dX5_removeFirst_54 : decode cX5_removeFirst 54 = .ok (.invokevirtual 126, 3) := by decide +kernel
theorem dX5_removeFirst_57 : decode cX5_removeFirst 57 = .ok (.return_, 1) := by decide +kernel
theorem dX5_removeFromFirstEntry_0 : decode cX5_removeFromFirstEntry 0 = .ok (.aload_n 0, 1) := by decide +kernel
theorem dX5_removeFromFirstEntry_1 : decode cX5_removeFromFirstEntry 1 = .ok (.invokevirtual 95, 3) := by decide +kernel
theorem dX5_removeFromFirstEntry_4 : decode cX5_removeFromFirstEntry 4 = .ok (.l2i, 1) := by decide +kernel
theorem dX5_removeFromFirstEntry_5 : decode cX5_removeFromFirstEntry 5 = .ok (.istore_n 1, 1) := by decide +kernel
theorem dX5_removeFromFirstEntry_6 : decode cX5_removeFromFirstEntry 6 = .ok (.iload_n 1, 1) := by decide +kernel
theorem dX5_removeFromFirstEntry_7 : decode cX5_removeFromFirstEntry 7 = .ok (.bipush 16, 2) := by decide +kernel
theorem dX5_removeFromFirstEntry_9 : decode cX5_removeFromFirstEntry 9 = .ok (.iushr, 1) := by decide +kernel
theorem dX5_removeFromFirstEntry_10 : decode cX5_removeFromFirstEntry 10 = .ok (.sipush 255, 3) := by decide +kernel
theorem dX5_removeFromFirstEntry_13 : decode cX5_removeFromFirstEntry 13 = .ok (.iand, 1) := by decide +kernel
theorem dX5_removeFromFirstEntry_14 : decode cX5_removeFromFirstEntry 14 = .ok (.sipush 235, 3) := by decide +kernel
theorem dX5_removeFromFirstEntry_17 : decode cX5_removeFromFirstEntry 17 = .ok (.if_icmp .ne 7, 3) := by decide +kernel
theorem dX5_removeFromFirstEntry_20 : decode cX5_removeFromFirstEntry 20 = .ok (.iconst 1, 1) := by decide +kernel
theorem dX5_removeFromFirstEntry_21 : decode cX5_removeFromFirstEntry 21 = .ok (.goto 4, 3) := by decide +kernel
theorem dX5_removeFromFirstEntry_24 : decode cX5_removeFromFirstEntry 24 = .ok (.iconst 0, 1) := by decide +kernel
theorem dX5_removeFromFirstEntry_25 : decode cX5_removeFromFirstEntry 25 = .ok (.istore_n 2, 1) := by decide +kernel
theorem dX5_removeFromFirstEntry_26 : decode cX5_removeFromFirstEntry 26 = .ok (.aload_n 0, 1) := by decide +kernel
theorem dX5_removeFromFirstEntry_27 : decode cX5_removeFromFirstEntry 27 = .ok (.dup, 1) := by decide +kernel
theorem dX5_removeFromFirstEntry_28 : decode cX5_removeFromFirstEntry 28 = .ok (.getfield 28, 3) := by decide +kernel
theorem dX5_removeFromFirstEntry_31 : decode cX5_removeFromFirstEntry 31 = .ok (.iconst 1, 1) := by decide +kernel
theorem dX5_removeFromFirstEntry_32 : decode cX5_removeFromFirstEntry 32 = .ok (.iadd, 1) := by decide +kernel
theorem dX5_removeFromFirstEntry_33 : decode cX5_removeFromFirstEntry 33 = .ok (.putfield 28, 3) := by decide +kernel
theorem dX5_removeFromFirstEntry_36 : decode cX5_removeFromFirstEntry 36 = .ok (.iload_n 2, 1) := by decide +kernel
theorem dX5_removeFromFirstEntry_37 : decode cX5_removeFromFirstEntry 37 = .ok (.ifCond .eq 19, 3) := by decide +kernel
theorem dX5_removeFromFirstEntry_40 : decode cX5_removeFromFirstEntry 40 = .ok (.aload_n 0, 1) := by decide +kernel
theorem dX5_removeFromFirstEntry_41 : decode cX5_removeFromFirstEntry 41 = .ok (.getfield 28, 3) := by decide +kernel
theorem dX5_removeFromFirstEntry_44 : decode cX5_removeFromFirstEntry 44 = .ok (.iload_n 1, 1) := by decide +kernel
theorem dX5_removeFromFirstEntry_45 : decode cX5_removeFromFirstEntry 45 = .ok (.bipush 8, 2) := by decide +kernel
theorem dX5_removeFromFirstEntry_47 : decode cX5_removeFromFirstEntry 47 = .ok (.iushr, 1) := by decide +kernel
theorem dX5_removeFromFirstEntry_48 : decode cX5_removeFromFirstEntry 48 = .ok (.sipush 255, 3) := by decide +kernel
theorem dX5_removeFromFirstEntry_51 : decode cX5_removeFromFirstEntry 51 = .ok (.iand, 1) := by decide +kernel
theorem dX5_removeFromFirstEntry_52 : decode cX5_removeFromFirstEntry 52 = .ok (.if_icmp .ge 4, 3) := by decide +kernel
theorem dX5_removeFromFirstEntry_55 : decode cX5_removeFromFirstEntry 55 = .ok (.return_, 1) := by decide +kernel
theorem dX5_removeFromFirstEntry_56 : decode cX5_removeFromFirstEntry 56 = .ok (.aload_n 0, 1) := by decide +kernel
theorem dX5_removeFromFirstEntry_57 : decode cX5_removeFromFirstEntry 57 = .ok (.iconst 0, 1) := by decide +kernel
theorem dX5_removeFromFirstEntry_58 : decode cX5_removeFromFirstEntry 58 = .ok (.putfield 28, 3) := by decide +kernel
theorem dX5_removeFromFirstEntry_61 : decode cX5_removeFromFirstEntry 61 = .ok (.aload_n 0, 1) := by decide +kernel
theorem dX5_removeFromFirstEntry_62 : decode cX5_removeFromFirstEntry 62 = .ok (.dup, 1) := by decide +kernel
theorem dX5_removeFromFirstEntry_63 : decode cX5_removeFromFirstEntry 63 = .ok (.getfield 18, 3) := by decide +kernel
theorem dX5_removeFromFirstEntry_66 : decode cX5_removeFromFirstEntry 66 = .ok (.iconst 1, 1) := by decide +kernel
theorem dX5_removeFromFirstEntry_67 : decode cX5_removeFromFirstEntry 67 = .ok (.iadd, 1) := by decide +kernel
theorem dX5_removeFromFirstEntry_68 : decode cX5_removeFromFirstEntry 68 = .ok (.putfield 18, 3) := by decide +kernel
theorem dX5_removeFromFirstEntry_71 : decode cX5_removeFromFirstEntry 71 = .ok (.aload_n 0, 1) := by decide +kernel
theorem dX5_removeFromFirstEntry_72 : decode cX5_removeFromFirstEntry 72 = .ok (.getfield 18, 3) := by decide +kernel
theorem dX5_removeFromFirstEntry_75 : decode cX5_removeFromFirstEntry 75 = .ok (.sipush 128, 3) := by decide +kernel
theorem dX5_removeFromFirstEntry_78 : decode cX5_removeFromFirstEntry 78 = .ok (.if_icmp .lt 37, 3) := by decide +kernel
theorem dX5_removeFromFirstEntry_81 : decode cX5_removeFromFirstEntry 81 = .ok (.aload_n 0, 1) := by decide +kernel
theorem dX5_removeFromFirstEntry_82 : decode cX5_removeFromFirstEntry 82 = .ok (.getfield 9, 3) := by decide +kernel
theorem dX5_removeFromFirstEntry_85 : decode cX5_removeFromFirstEntry 85 = .ok (.ifnull 30, 3) := by decide +kernel
theorem dX5_removeFromFirstEntry_88 : decode cX5_removeFromFirstEntry 88 = .ok (.aload_n 0, 1) := by decide +kernel
theorem dX5_removeFromFirstEntry_89 : decode cX5_removeFromFirstEntry 89 = .ok (.getfield 9, 3) := by decide +kernel
theorem dX5_removeFromFirstEntry_92 : decode cX5_removeFromFirstEntry 92 = .ok (.astore_n 3, 1) := by decide +kernel
theorem dX5_removeFromFirstEntry_93 : decode cX5_removeFromFirstEntry 93 = .ok (.aload_n 0, 1) := by decide +kernel
theorem dX5_removeFromFirstEntry_94 : decode cX5_removeFromFirstEntry 94 = .ok (.aload_n 3, 1) := by decide +kernel
theorem dX5_removeFromFirstEntry_95 : decode cX5_removeFromFirstEntry 95 = .ok (.getfield 79, 3) := by decide +kernel
theorem dX5_removeFromFirstEntry_98 : decode cX5_removeFromFirstEntry 98 = .ok (.putfield 9, 3) := by decide +kernel
theorem dX5_removeFromFirstEntry_101 : decode cX5_removeFromFirstEntry 101 = .ok (.aload_n 0, 1) := by decide +kernel
theorem dX5_removeFromFirstEntry_102 : decode cX5_removeFromFirstEntry 102 = .ok (.iconst 0, 1) := by decide +kernel
theorem dX5_removeFromFirstEntry_103 : decode cX5_removeFromFirstEntry 103 = .ok (.putfield 18, 3) := by decide +kernel
theorem dX5_removeFromFirstEntry_106 : decode cX5_removeFromFirstEntry 106 = .ok (.aload_n 0, 1) := by decide +kernel
theorem dX5_removeFromFirstEntry_107 : decode cX5_removeFromFirstEntry 107 = .ok (.getfield 51, 3) := by decide +kernel
theorem dX5_removeFromFirstEntry_110 : decode cX5_removeFromFirstEntry 110 = .ok (.aload_n 3, 1) := by decide +kernel
theorem dX5_removeFromFirstEntry_111 : decode cX5_removeFromFirstEntry 111 = .ok (.aload_n 3, 1) := by decide +kernel
theorem dX5_removeFromFirstEntry_112 : decode cX5_removeFromFirstEntry 112 = .ok (.invokevirtual 129, 3) := by decide +kernel
theorem dX5_removeFromFirstEntry_115 : decode cX5_removeFromFirstEntry 115 = .ok (.return_, 1) := by decide +kernel
theorem dX5_clear_0 : decode cX5_clear 0 = .ok (.aload_n 0, 1) := by decide +kernel
theorem dX5_clear_1 : decode cX5_clear 1 = .ok (.getfield 9, 3) := by decide +kernel
theorem dX5_clear_4 : decode cX5_clear 4 = .ok (.ifnull 25, 3) := by decide +kernel
theorem dX5_clear_7 : decode cX5_clear 7 = .ok (.aload_n 0, 1) := by decide +kernel
theorem dX5_clear_8 : decode cX5_clear 8 = .ok (.getfield 15, 3) := by decide +kernel
theorem dX5_clear_11 : decode cX5_clear 11 = .ok (.ifnull 18, 3) := by decide +kernel
theorem dX5_clear_14 : decode cX5_clear 14 = .ok (.aload_n 0, 1) := by decide +kernel
theorem dX5_clear_15 : decode cX5_clear 15 = .ok (.getfield 51, 3) := by decide +kernel
theorem dX5_clear_18 : decode cX5_clear 18 = .ok (.aload_n 0, 1) := by decide +kernel
theorem dX5_clear_19 : decode cX5_clear 19 = .ok (.getfield 9, 3) := by decide +kernel
theorem dX5_clear_22 : decode cX5_clear 22 = .ok (.aload_n 0, 1) := by decide +kernel
theorem dX5_clear_23 : decode cX5_clear 23 = .ok (.getfield 15, 3) := by decide +kernel
theorem dX5_clear_26 : decode cX5_clear 26 = .ok (.invokevirtual 129, 3) := by decide +kernel
theorem dX5_clear_29 : decode cX5_clear 29 = .ok (.aload_n 0, 1) := by decide +kernel
theorem dX5_clear_30 : decode cX5_clear 30 = .ok (.aconst_null, 1) := by decide +kernel
theorem dX5_clear_31 : decode cX5_clear 31 = .ok (.putfield 9, 3) := by decide +kernel
theorem dX5_clear_34 : decode cX5_clear 34 = .ok (.aload_n 0, 1) := by decide +kernel
theorem dX5_clear_35 : decode cX5_clear 35 = .ok (.aconst_null, 1) := by decide +kernel
theorem dX5_clear_36 : decode cX5_clear 36 = .ok (.putfield 15, 3) := by decide +kernel
theorem dX5_clear_39 : decode cX5_clear 39 = .ok (.aload_n 0, 1) := by decide +kernel
theorem dX5_clear_40 : decode cX5_clear 40 = .ok (.iconst 0, 1) := by decide +kernel
theorem dX5_clear_41 : decode cX5_clear 41 = .ok (.putfield 25, 3) := by decide +kernel
theorem dX5_clear_44 : decode cX5_clear 44 = .ok (.aload_n 0, 1) := by decide +kernel
theorem dX5_clear_45 : decode cX5_clear 45 = .ok (.iconst 0, 1) := by decide +kernel
theorem dX5_clear_46 : decode cX5_clear 46 = .ok (.putfield 28, 3) := by decide +kernel
theorem dX5_clear_49 : decode cX5_clear 49 = .ok (.aload_n 0, 1) := by decide +kernel
theorem dX5_clear_50 : decode cX5_clear 50 = .ok (.iconst 0, 1) := by decide +kernel
theorem dX5_clear_51 : decode cX5_clear 51 = .ok (.putfield 31, 3) := by decide +kernel
theorem dX5_clear_54 : decode cX5_clear 54 = .ok (.aload_n 0, 1) := by decide +kernel
theorem dX5_clear_55 : decode cX5_clear 55 = .ok (.iconst 0, 1) := by decide +kernel
theorem dX5_clear_56 : decode cX5_clear 56 = .ok (.putfield 42, 3) := by decide +kernel
theorem dX5_clear_59 : decode cX5_clear 59 = .ok (.return_, 1) := by decide +kernel
theorem dX6_init_0 : decode cX6_init 0 = .ok (.aload_n 0, 1) := by decide +kernel
theorem dX6_init_1 : decode cX6_init 1 = .ok (.invokespecial 3, 3) := by decide +kernel
theorem dX6_init_4 : decode cX6_init 4 = .ok (.aload_n 0, 1) := by decide +kernel
theorem dX6_init_5 : decode cX6_init 5 = .ok (.iconst 0, 1) := by decide +kernel
theorem dX6_init_6 : decode cX6_init 6 = .ok (.putfield 9, 3) := by decide +kernel
theorem dX6_init_9 : decode cX6_init 9 = .ok (.aload_n 0, 1) := by decide +kernel
theorem dX6_init_10 : decode cX6_init 10 = .ok (.iconst 1, 1) := by decide +kernel
theorem dX6_init_11 : decode cX6_init 11 = .ok (.putfield 15, 3) := by decide +kernel
theorem dX6_init_14 : decode cX6_init 14 = .ok (.aload_n 0, 1) := by decide +kernel
theorem dX6_init_15 : decode cX6_init 15 = .ok (.iconst 0, 1) := by decide +kernel
theorem dX6_init_16 : decode cX6_init 16 = .ok (.putfield 18, 3) := by decide +kernel
theorem dX6_init_19 : decode cX6_init 19 = .ok (.aload_n 0, 1) := by decide +kernel
theorem dX6_init_20 : decode cX6_init 20 = .ok (.aconst_null, 1) := by decide +kernel
theorem dX6_init_21 : decode cX6_init 21 = .ok (.putfield 21, 3) := by decide +kernel
theorem dX6_init_24 : decode cX6_init 24 = .ok (.return_, 1) := by decide +kernel
theorem dX6_goesTo_0 : decode cX6_goesTo 0 = .ok (.aload_n 0, 1) := by decide +kernel
theorem dX6_goesTo_1 : decode cX6_goesTo 1 = .ok (.getfield 9, 3) := by decide +kernel
theorem dX6_goesTo_4 : decode cX6_goesTo 4 = .ok (.iconst 1, 1) := by decide +kernel
theorem dX6_goesTo_5 : decode cX6_goesTo 5 = .ok (.if_icmp .ne 36, 3) := by decide +kernel
theorem dX6_goesTo_8 : decode cX6_goesTo 8 = .ok (.aload_n 0, 1) := by decide +kernel
theorem dX6_goesTo_9 : decode cX6_goesTo 9 = .ok (.getfield 21, 3) := by decide +kernel
theorem dX6_goesTo_12 : decode cX6_goesTo 12 = .ok (.ifnull 29, 3) := by decide +kernel
theorem dX6_goesTo_15 : decode cX6_goesTo 15 = .ok (.aload_n 0, 1) := by decide +kernel
theorem dX6_goesTo_16 : decode cX6_goesTo 16 = .ok (.getfield 21, 3) := by decide +kernel
theorem dX6_goesTo_19 : decode cX6_goesTo 19 = .ok (.getfield 25, 3) := by decide +kernel
theorem dX6_goesTo_22 : decode cX6_goesTo 22 = .ok (.iload_n 1, 1) := by decide +kernel
theorem dX6_goesTo_23 : decode cX6_goesTo 23 = .ok (.if_icmp .ne 18, 3) := by decide +kernel
theorem dX6_goesTo_26 : decode cX6_goesTo 26 = .ok (.aload_n 0, 1) := by decide +kernel
theorem dX6_goesTo_27 : decode cX6_goesTo 27 = .ok (.getfield 21, 3) := by decide +kernel
theorem dX6_goesTo_30 : decode cX6_goesTo 30 = .ok (.getfield 30, 3) := by decide +kernel
theorem dX6_goesTo_33 : decode cX6_goesTo 33 = .ok (.iload_n 2, 1) := by decide +kernel
theorem dX6_goesTo_34 : decode cX6_goesTo 34 = .ok (.if_icmp .ne 7, 3) := by decide +kernel
theorem dX6_goesTo_37 : decode cX6_goesTo 37 = .ok (.iconst 1, 1) := by decide +kernel
theorem dX6_goesTo_38 : decode cX6_goesTo 38 = .ok (.goto 4, 3) := by decide +kernel
theorem dX6_goesTo_41 : decode cX6_goesTo 41 = .ok (.iconst 0, 1) := by decide +kernel
theorem dX6_goesTo_42 : decode cX6_goesTo 42 = .ok (.ireturn, 1) := by decide +kernel
theorem dX7_init_0 : decode cX7_init 0 = .ok (.aload_n 0, 1) := by decide +kernel
theorem dX7_init_1 : decode cX7_init 1 = .ok (.invokespecial 3, 3) := by decide +kernel
theorem dX7_init_4 : decode cX7_init 4 = .ok (.aload_n 0, 1) := by decide +kernel
theorem dX7_init_5 : decode cX7_init 5 = .ok (.new 9, 3) := by decide +kernel
theorem dX7_init_8 : decode cX7_init 8 = .ok (.dup, 1) := by decide +kernel
theorem dX7_init_9 : decode cX7_init 9 = .ok (.invokespecial 11, 3) := by decide +kernel
theorem dX7_init_12 : decode cX7_init 12 = .ok (.putfield 12, 3) := by decide +kernel
theorem dX7_init_15 : decode cX7_init 15 = .ok (.aload_n 0, 1) := by decide +kernel
theorem dX7_init_16 : decode cX7_init 16 = .ok (.aconst_null, 1) := by decide +kernel
theorem dX7_init_17 : decode cX7_init 17 = .ok (.putfield 18, 3) := by decide +kernel
theorem dX7_init_20 : decode cX7_init 20 = .ok (.return_, 1) := by decide +kernel
theorem dX7_newMessage_0 : decode cX7_newMessage 0 = .ok (.new 22, 3) := by decide +kernel
theorem dX7_newMessage_3 : decode cX7_newMessage 3 = .ok (.dup, 1) := by decide +kernel
theorem dX7_newMessage_4 : decode cX7_newMessage 4 = .ok (.aload_n 0, 1) := by decide +kernel
theorem dX7_newMessage_5 : decode cX7_newMessage 5 = .ok (.getfield 12, 3) := by decide +kernel
theorem dX7_newMessage_8 : decode cX7_newMessage 8 = .ok (.invokevirtual 24, 3) := by decide +kernel
theorem dX7_newMessage_11 : decode cX7_newMessage 11 = .ok (.iload_n 1, 1) := by decide +kernel
theorem dX7_newMessage_12 : decode cX7_newMessage 12 = .ok (.iload_n 2, 1) := by decide +kernel
theorem dX7_newMessage_13 : decode cX7_newMessage 13 = .ok (.iload_n 3, 1) := by decide +kernel
theorem dX7_newMessage_14 : decode cX7_newMessage 14 = .ok (.iload 4, 2) := by decide +kernel
theorem dX7_newMessage_16 : decode cX7_newMessage 16 = .ok (.invokespecial 28, 3) := by decide +kernel
theorem dX7_newMessage_19 : decode cX7_newMessage 19 = .ok (.astore 5, 2) := by decide +kernel
theorem dX7_newMessage_21 : decode cX7_newMessage 21 = .ok (.aload_n 0, 1) := by decide +kernel
theorem dX7_newMessage_22 : decode cX7_newMessage 22 = .ok (.getfield 12, 3) := by decide +kernel
theorem dX7_newMessage_25 : decode cX7_newMessage 25 = .ok (.aload 5, 2) := by decide +kernel
theorem dX7_newMessage_27 : decode cX7_newMessage 27 = .ok (.invokevirtual 31, 3) := by decide +kernel
theorem dX7_newMessage_30 : decode cX7_newMessage 30 = .ok (.pop, 1) := by decide +kernel
theorem dX7_newMessage_31 : decode cX7_newMessage 31 = .ok (.aload 5, 2) := by decide +kernel
theorem dX7_newMessage_33 : decode cX7_newMessage 33 = .ok (.areturn, 1) := by decide +kernel
theorem dX7_messageAt_0 : decode cX7_messageAt 0 = .ok (.iload_n 1, 1) := by decide +kernel
theorem dX7_messageAt_1 : decode cX7_messageAt 1 = .ok (.ifCond .lt 28, 3) := by decide +kernel
theorem dX7_messageAt_4 : decode cX7_messageAt 4 = .ok (.iload_n 1, 1) := by decide +kernel
theorem dX7_messageAt_5 : decode cX7_messageAt 5 = .ok (.aload_n 0, 1) := by decide +kernel
theorem dX7_messageAt_6 : decode cX7_messageAt 6 = .ok (.getfield 12, 3) := by decide +kernel
theorem dX7_messageAt_9 : decode cX7_messageAt 9 = .ok (.invokevirtual 24, 3) := by decide +kernel
theorem dX7_messageAt_12 : decode cX7_messageAt 12 = .ok (.if_icmp .ge 17, 3) := by decide +kernel
theorem dX7_messageAt_15 : decode cX7_messageAt 15 = .ok (.aload_n 0, 1) := by decide +kernel
theorem dX7_messageAt_16 : decode cX7_messageAt 16 = .ok (.getfield 12, 3) := by decide +kernel
theorem dX7_messageAt_19 : decode cX7_messageAt 19 = .ok (.iload_n 1, 1) := by decide +kernel
theorem dX7_messageAt_20 : decode cX7_messageAt 20 = .ok (.invokevirtual 44, 3) := by decide +kernel
theorem dX7_messageAt_23 : decode cX7_messageAt 23 = .ok (.checkcast 22, 3) := by decide +kernel
theorem dX7_messageAt_26 : decode cX7_messageAt 26 = .ok (.goto 4, 3) := by decide +kernel
theorem dX7_messageAt_29 : decode cX7_messageAt 29 = .ok (.aconst_null, 1) := by decide +kernel
theorem dX7_messageAt_30 : decode cX7_messageAt 30 = .ok (.areturn, 1) := by decide +kernel
theorem dX7_lend_0 : decode cX7_lend 0 = .ok (.aload_n 0, 1) := by decide +kernel
theorem dX7_lend_1 : decode cX7_lend 1 = .ok (.getfield 18, 3) := by decide +kernel
theorem dX7_lend_4 : decode cX7_lend 4 = .ok (.astore_n 1, 1) := by decide +kernel
theorem dX7_lend_5 : decode cX7_lend 5 = .ok (.aload_n 1, 1) := by decide +kernel
theorem dX7_lend_6 : decode cX7_lend 6 = .ok (.ifnull 16, 3) := by decide +kernel
theorem dX7_lend_9 : decode cX7_lend 9 = .ok (.aload_n 0, 1) := by decide +kernel
theorem dX7_lend_10 : decode cX7_lend 10 = .ok (.aload_n 1, 1) := by decide +kernel
theorem dX7_lend_11 : decode cX7_lend 11 = .ok (.getfield 48, 3) := by decide +kernel
theorem dX7_lend_14 : decode cX7_lend 14 = .ok (.putfield 18, 3) := by decide +kernel
theorem dX7_lend_17 : decode cX7_lend 17 = .ok (.aload_n 1, 1) := by decide +kernel
theorem dX7_lend_18 : decode cX7_lend 18 = .ok (.aconst_null, 1) := by decide +kernel
theorem dX7_lend_19 : decode cX7_lend 19 = .ok (.putfield 48, 3) := by decide +kernel
theorem dX7_lend_22 : decode cX7_lend 22 = .ok (.aload_n 1, 1) := by decide +kernel
theorem dX7_lend_23 : decode cX7_lend 23 = .ok (.areturn, 1) := by decide +kernel
theorem dX7_takeBack_0 : decode cX7_takeBack 0 = .ok (.aload_n 2, 1) := by decide +kernel
theorem dX7_takeBack_1 : decode cX7_takeBack 1 = .ok (.aload_n 0, 1) := by decide +kernel
theorem dX7_takeBack_2 : decode cX7_takeBack 2 = .ok (.getfield 18, 3) := by decide +kernel
theorem dX7_takeBack_5 : decode cX7_takeBack 5 = .ok (.putfield 48, 3) := by decide +kernel
theorem dX7_takeBack_8 : decode cX7_takeBack 8 = .ok (.aload_n 0, 1) := by decide +kernel
theorem dX7_takeBack_9 : decode cX7_takeBack 9 = .ok (.aload_n 1, 1) := by decide +kernel
theorem dX7_takeBack_10 : decode cX7_takeBack 10 = .ok (.putfield 18, 3) := by decide +kernel
theorem dX7_takeBack_13 : decode cX7_takeBack 13 = .ok (.return_, 1) := by decide +kernel
theorem dX8_init_0 : decode cX8_init 0 = .ok (.aload_n 0, 1) := by decide +kernel
theorem dX8_init_1 : decode cX8_init 1 = .ok (.invokespecial 3, 3) := by decide +kernel
theorem dX8_init_4 : decode cX8_init 4 = .ok (.aload_n 0, 1) := by decide +kernel
theorem dX8_init_5 : decode cX8_init 5 = .ok (.bipush 8, 2) := by decide +kernel
theorem dX8_init_7 : decode cX8_init 7 = .ok (.newarray .int, 2) := by decide +kernel
theorem dX8_init_9 : decode cX8_init 9 = .ok (.putfield 9, 3) := by decide +kernel
theorem dX8_init_12 : decode cX8_init 12 = .ok (.aload_n 0, 1) := by decide +kernel
theorem dX8_init_13 : decode cX8_init 13 = .ok (.invokevirtual 15, 3) := by decide +kernel
theorem dX8_init_16 : decode cX8_init 16 = .ok (.return_, 1) := by decide +kernel
theorem dX8_clear_0 : decode cX8_clear 0 = .ok (.iconst 0, 1) := by decide +kernel
theorem dX8_clear_1 : decode cX8_clear 1 = .ok (.istore_n 1, 1) := by decide +kernel
theorem dX8_clear_2 : decode cX8_clear 2 = .ok (.iload_n 1, 1) := by decide +kernel
theorem dX8_clear_3 : decode cX8_clear 3 = .ok (.bipush 8, 2) := by decide +kernel
theorem dX8_clear_5 : decode cX8_clear 5 = .ok (.if_icmp .ge 16, 3) := by decide +kernel
theorem dX8_clear_8 : decode cX8_clear 8 = .ok (.aload_n 0, 1) := by decide +kernel
theorem dX8_clear_9 : decode cX8_clear 9 = .ok (.getfield 9, 3) := by decide +kernel
theorem dX8_clear_12 : decode cX8_clear 12 = .ok (.iload_n 1, 1) := by decide +kernel
theorem dX8_clear_13 : decode cX8_clear 13 = .ok (.iconst (-1), 1) := by decide +kernel
theorem dX8_clear_14 : decode cX8_clear 14 = .ok (.iastore, 1) := by decide +kernel
theorem dX8_clear_15 : decode cX8_clear 15 = .ok (.iinc 1 1, 3) := by decide +kernel
theorem dX8_clear_18 : decode cX8_clear 18 = .ok (.goto (-16), 3) := by decide +kernel
theorem dX8_clear_21 : decode cX8_clear 21 = .ok (.return_, 1) := by decide +kernel
theorem dX8_learn_0 : decode cX8_learn 0 = .ok (.iconst 0, 1) := by decide +kernel
theorem dX8_learn_1 : decode cX8_learn 1 = .ok (.istore_n 3, 1) := by decide +kernel
theorem dX8_learn_2 : decode cX8_learn 2 = .ok (.iload_n 3, 1) := by decide +kernel
theorem dX8_learn_3 : decode cX8_learn 3 = .ok (.bipush 8, 2) := by decide +kernel
theorem dX8_learn_5 : decode cX8_learn 5 = .ok (.if_icmp .ge 52, 3) := by decide +kernel
theorem dX8_learn_8 : decode cX8_learn 8 = .ok (.iload_n 3, 1) := by decide +kernel
theorem dX8_learn_9 : decode cX8_learn 9 = .ok (.iload_n 1, 1) := by decide +kernel
theorem dX8_learn_10 : decode cX8_learn 10 = .ok (.if_icmp .ne 24, 3) := by decide +kernel
theorem dX8_learn_13 : decode cX8_learn 13 = .ok (.aload_n 0, 1) := by decide +kernel
theorem dX8_learn_14 : decode cX8_learn 14 = .ok (.getfield 9, 3) := by decide +kernel
theorem dX8_learn_17 : decode cX8_learn 17 = .ok (.iload_n 3, 1) := by decide +kernel
theorem dX8_learn_18 : decode cX8_learn 18 = .ok (.iload_n 2, 1) := by decide +kernel
theorem dX8_learn_19 : decode cX8_learn 19 = .ok (.sipush 254, 3) := by decide +kernel
theorem dX8_learn_22 : decode cX8_learn 22 = .ok (.if_icmp .ne 7, 3) := by decide +kernel
theorem dX8_learn_25 : decode cX8_learn 25 = .ok (.iconst (-1), 1) := by decide +kernel
theorem dX8_learn_26 : decode cX8_learn 26 = .ok (.goto 4, 3) := by decide +kernel
theorem dX8_learn_29 : decode cX8_learn 29 = .ok (.iload_n 2, 1) := by decide +kernel
theorem dX8_learn_30 : decode cX8_learn 30 = .ok (.iastore, 1) := by decide +kernel
theorem dX8_learn_31 : decode cX8_learn 31 = .ok (.goto 20, 3) := by decide +kernel
theorem dX8_learn_34 : decode cX8_learn 34 = .ok (.aload_n 0, 1) := by decide +kernel
theorem dX8_learn_35 : decode cX8_learn 35 = .ok (.getfield 9, 3) := by decide +kernel
theorem dX8_learn_38 : decode cX8_learn 38 = .ok (.iload_n 3, 1) := by decide +kernel
theorem dX8_learn_39 : decode cX8_learn 39 = .ok (.iaload, 1) := by decide +kernel
theorem dX8_learn_40 : decode cX8_learn 40 = .ok (.iload_n 2, 1) := by decide +kernel
theorem dX8_learn_41 : decode cX8_learn 41 = .ok (.if_icmp .ne 10, 3) := by decide +kernel
theorem dX8_learn_44 : decode cX8_learn 44 = .ok (.aload_n 0, 1) := by decide +kernel
theorem dX8_learn_45 : decode cX8_learn 45 = .ok (.getfield 9, 3) := by decide +kernel
theorem dX8_learn_48 : decode cX8_learn 48 = .ok (.iload_n 3, 1) := by decide +kernel
theorem dX8_learn_49 : decode cX8_learn 49 = .ok (.iconst (-1), 1) := by decide +kernel
theorem dX8_learn_50 : decode cX8_learn 50 = .ok (.iastore, 1) := by decide +kernel
theorem dX8_learn_51 : decode cX8_learn 51 = .ok (.iinc 3 1, 3) := by decide +kernel
theorem dX8_learn_54 : decode cX8_learn 54 = .ok (.goto (-52), 3) := by decide +kernel
theorem dX8_learn_57 : decode cX8_learn 57 = .ok (.return_, 1) := by decide +kernel
theorem dX9_init_0 : decode cX9_init 0 = .ok (.aload_n 0, 1) := by decide +kernel
theorem dX9_init_1 : decode cX9_init 1 = .ok (.invokespecial 3, 3) := by decide +kernel
theorem dX9_init_4 : decode cX9_init 4 = .ok (.aload_n 0, 1) := by decide +kernel
theorem dX9_init_5 : decode cX9_init 5 = .ok (.iconst 0, 1) := by decide +kernel
theorem dX9_init_6 : decode cX9_init 6 = .ok (.putfield 9, 3) := by decide +kernel
theorem dX9_init_9 : decode cX9_init 9 = .ok (.aload_n 0, 1) := by decide +kernel
theorem dX9_init_10 : decode cX9_init 10 = .ok (.iconst 0, 1) := by decide +kernel
theorem dX9_init_11 : decode cX9_init 11 = .ok (.putfield 15, 3) := by decide +kernel
theorem dX9_init_14 : decode cX9_init 14 = .ok (.aload_n 0, 1) := by decide +kernel
theorem dX9_init_15 : decode cX9_init 15 = .ok (.iconst 0, 1) := by decide +kernel
theorem dX9_init_16 : decode cX9_init 16 = .ok (.putfield 19, 3) := by decide +kernel
theorem dX9_init_19 : decode cX9_init 19 = .ok (.aload_n 0, 1) := by decide +kernel
theorem dX9_init_20 : decode cX9_init 20 = .ok (.iconst 0, 1) := by decide +kernel
theorem dX9_init_21 : decode cX9_init 21 = .ok (.putfield 22, 3) := by decide +kernel
theorem dX9_init_24 : decode cX9_init 24 = .ok (.aload_n 0, 1) := by decide +kernel
theorem dX9_init_25 : decode cX9_init 25 = .ok (.iconst 0, 1) := by decide +kernel
theorem dX9_init_26 : decode cX9_init 26 = .ok (.putfield 25, 3) := by decide +kernel
theorem dX9_init_29 : decode cX9_init 29 = .ok (.aload_n 0, 1) := by decide +kernel
theorem dX9_init_30 : decode cX9_init 30 = .ok (.iconst 0, 1) := by decide +kernel
theorem dX9_init_31 : decode cX9_init 31 = .ok (.putfield 28, 3) := by decide +kernel
theorem dX9_init_34 : decode cX9_init 34 = .ok (.aload_n 0, 1) := by decide +kernel
theorem dX9_init_35 : decode cX9_init 35 = .ok (.iconst 1, 1) := by decide +kernel
theorem dX9_init_36 : decode cX9_init 36 = .ok (.putfield 31, 3) := by decide +kernel
theorem dX9_init_39 : decode cX9_init 39 = .ok (.aload_n 0, 1) := by decide +kernel
theorem dX9_init_40 : decode cX9_init 40 = .ok (.iconst 0, 1) := by decide +kernel
theorem dX9_init_41 : decode cX9_init 41 = .ok (.putfield 34, 3) := by decide +kernel
theorem dX9_init_44 : decode cX9_init 44 = .ok (.aload_n 0, 1) := by decide +kernel
theorem dX9_init_45 : decode cX9_init 45 = .ok (.iconst 0, 1) := by decide +kernel
theorem dX9_init_46 : decode cX9_init 46 = .ok (.putfield 37, 3) := by decide +kernel
theorem dX9_init_49 : decode cX9_init 49 = .ok (.aload_n 0, 1) := by decide +kernel
theorem dX9_init_50 : decode cX9_init 50 = .ok (.iconst 0, 1) := by decide +kernel
theorem dX9_init_51 : decode cX9_init 51 = .ok (.putfield 40, 3) := by decide +kernel
theorem dX9_init_54 : decode cX9_init 54 = .ok (.aload_n 0, 1) := by decide +kernel
theorem dX9_init_55 : decode cX9_init 55 = .ok (.iconst 0, 1) := by decide +kernel
theorem dX9_init_56 : decode cX9_init 56 = .ok (.putfield 43, 3) := by decide +kernel
theorem dX9_init_59 : decode cX9_init 59 = .ok (.aload_n 0, 1) := by decide +kernel
theorem dX9_init_60 : decode cX9_init 60 = .ok (.iconst 1, 1) := by decide +kernel
theorem dX9_init_61 : decode cX9_init 61 = .ok (.putfield 46, 3) := by decide +kernel
theorem dX9_init_64 : decode cX9_init 64 = .ok (.aload_n 0, 1) := by decide +kernel
theorem dX9_init_65 : decode cX9_init 65 = .ok (.aconst_null, 1) := by decide +kernel
theorem dX9_init_66 : decode cX9_init 66 = .ok (.putfield 49, 3) := by decide +kernel
theorem dX9_init_69 : decode cX9_init 69 = .ok (.aload_n 0, 1) := by decide +kernel
theorem dX9_init_70 : decode cX9_init 70 = .ok (.bipush 42, 2) := by decide +kernel
theorem dX9_init_72 : decode cX9_init 72 = .ok (.newarray .int, 2) := by decide +kernel
theorem dX9_init_74 : decode cX9_init 74 = .ok (.putfield 53, 3) := by decide +kernel
theorem dX9_init_77 : decode cX9_init 77 = .ok (.return_, 1) := by decide +kernel
theorem dX9_begin_0 : decode cX9_begin 0 = .ok (.aload_n 0, 1) := by decide +kernel
theorem dX9_begin_1 : decode cX9_begin 1 = .ok (.iconst 1, 1) := by decide +kernel
theorem dX9_begin_2 : decode cX9_begin 2 = .ok (.putfield 9, 3) := by decide +kernel
theorem dX9_begin_5 : decode cX9_begin 5 = .ok (.aload_n 0, 1) := by decide +kernel
theorem dX9_begin_6 : decode cX9_begin 6 = .ok (.aload_n 1, 1) := by decide +kernel
theorem dX9_begin_7 : decode cX9_begin 7 = .ok (.invokevirtual 57, 3) := by decide +kernel
theorem dX9_begin_10 : decode cX9_begin 10 = .ok (.putfield 15, 3) := by decide +kernel
theorem dX9_begin_13 : decode cX9_begin 13 = .ok (.aload_n 0, 1) := by decide +kernel
theorem dX9_begin_14 : decode cX9_begin 14 = .ok (.aload_n 1, 1) := by decide +kernel
theorem dX9_begin_15 : decode cX9_begin 15 = .ok (.invokevirtual 62, 3) := by decide +kernel
theorem dX9_begin_18 : decode cX9_begin 18 = .ok (.putfield 19, 3) := by decide +kernel
theorem dX9_begin_21 : decode cX9_begin 21 = .ok (.aload_n 0, 1) := by decide +kernel
theorem dX9_begin_22 : decode cX9_begin 22 = .ok (.aload_n 1, 1) := by decide +kernel
theorem dX9_begin_23 : decode cX9_begin 23 = .ok (.iconst 1, 1) := by decide +kernel
theorem dX9_begin_24 : decode cX9_begin 24 = .ok (.invokevirtual 65, 3) := by decide +kernel
theorem dX9_begin_27 : decode cX9_begin 27 = .ok (.aload_n 1, 1) := by decide +kernel
theorem dX9_begin_28 : decode cX9_begin 28 = .ok (.iconst 2, 1) := by decide +kernel
theorem dX9_begin_29 : decode cX9_begin 29 = .ok (.invokevirtual 65, 3) := by decide +kernel
theorem dX9_begin_32 : decode cX9_begin 32 = .ok (.bipush 8, 2) := by decide +kernel
theorem dX9_begin_34 : decode cX9_begin 34 = .ok (.ishl, 1) := by decide +kernel
theorem dX9_begin_35 : decode cX9_begin 35 = .ok (.ior, 1) := by decide +kernel
theorem dX9_begin_36 : decode cX9_begin 36 = .ok (.putfield 22, 3) := by decide +kernel
theorem dX9_begin_39 : decode cX9_begin 39 = .ok (.aload_n 0, 1) := by decide +kernel
theorem dX9_begin_40 : decode cX9_begin 40 = .ok (.aload_n 1, 1) := by decide +kernel
theorem dX9_begin_41 : decode cX9_begin 41 = .ok (.iconst 3, 1) := by decide +kernel
theorem dX9_begin_42 : decode cX9_begin 42 = .ok (.invokevirtual 65, 3) := by decide +kernel
theorem dX9_begin_45 : decode cX9_begin 45 = .ok (.putfield 25, 3) := by decide +kernel
theorem dX9_begin_48 : decode cX9_begin 48 = .ok (.aload_n 0, 1) := by decide +kernel
theorem dX9_begin_49 : decode cX9_begin 49 = .ok (.aload_n 1, 1) := by decide +kernel
theorem dX9_begin_50 : decode cX9_begin 50 = .ok (.iconst 4, 1) := by decide +kernel
theorem dX9_begin_51 : decode cX9_begin 51 = .ok (.invokevirtual 65, 3) := by decide +kernel
theorem dX9_begin_54 : decode cX9_begin 54 = .ok (.putfield 28, 3) := by decide +kernel
theorem dX9_begin_57 : decode cX9_begin 57 = .ok (.aload_n 0, 1) := by decide +kernel
theorem dX9_begin_58 : decode cX9_begin 58 = .ok (.iconst 1, 1) := by decide +kernel
theorem dX9_begin_59 : decode cX9_begin 59 = .ok (.putfield 31, 3) := by decide +kernel
theorem dX9_begin_62 : decode cX9_begin 62 = .ok (.aload_n 0, 1) := by decide +kernel
theorem dX9_begin_63 : decode cX9_begin 63 = .ok (.iconst 0, 1) := by decide +kernel
theorem dX9_begin_64 : decode cX9_begin 64 = .ok (.putfield 34, 3) := by decide +kernel
theorem dX9_begin_67 : decode cX9_begin 67 = .ok (.aload_n 0, 1) := by decide +kernel
theorem dX9_begin_68 : decode cX9_begin 68 = .ok (.iload_n 2, 1) := by decide +kernel
theorem dX9_begin_69 : decode cX9_begin 69 = .ok (.putfield 37, 3) := by decide +kernel
theorem dX9_begin_72 : decode cX9_begin 72 = .ok (.aload_n 0, 1) := by decide +kernel
theorem dX9_begin_73 : decode cX9_begin 73 = .ok (.iconst 0, 1) := by decide +kernel
theorem dX9_begin_74 : decode cX9_begin 74 = .ok (.putfield 40, 3) := by decide +kernel
theorem dX9_begin_77 : decode cX9_begin 77 = .ok (.aload_n 0, 1) := by decide +kernel
theorem dX9_begin_78 : decode cX9_begin 78 = .ok (.iconst 0, 1) := by decide +kernel
theorem dX9_begin_79 : decode cX9_begin 79 = .ok (.putfield 43, 3) := by decide +kernel
theorem dX9_begin_82 : decode cX9_begin 82 = .ok (.aload_n 0, 1) := by decide +kernel
theorem dX9_begin_83 : decode cX9_begin 83 = .ok (.aload_n 1, 1) := by decide +kernel
theorem dX9_begin_84 : decode cX9_begin 84 = .ok (.getfield 69, 3) := by decide +kernel
theorem dX9_begin_87 : decode cX9_begin 87 = .ok (.putfield 49, 3) := by decide +kernel
theorem dX9_begin_90 : decode cX9_begin 90 = .ok (.aload_n 0, 1) := by decide +kernel
theorem dX9_begin_91 : decode cX9_begin 91 = .ok (.aload_n 0, 1) := by decide +kernel
theorem dX9_begin_92 : decode cX9_begin 92 = .ok (.getfield 49, 3) := by decide +kernel
theorem dX9_begin_95 : decode cX9_begin 95 = .ok (.ifnull 35, 3) := by decide +kernel
theorem dX9_begin_98 : decode cX9_begin 98 = .ok (.aload_n 0, 1) := by decide +kernel
theorem dX9_begin_99 : decode cX9_begin 99 = .ok (.getfield 49, 3) := by decide +kernel
theorem dX9_begin_102 : decode cX9_begin 102 = .ok (.getfield 70, 3) := by decide +kernel
theorem dX9_begin_105 : decode cX9_begin 105 = .ok (.aload_n 0, 1) := by decide +kernel
theorem dX9_begin_106 : decode cX9_begin 106 = .ok (.getfield 22, 3) := by decide +kernel
theorem dX9_begin_109 : decode cX9_begin 109 = .ok (.if_icmp .ne 21, 3) := by decide +kernel
theorem dX9_begin_112 : decode cX9_begin 112 = .ok (.aload_n 0, 1) := by decide +kernel
theorem dX9_begin_113 : decode cX9_begin 113 = .ok (.getfield 49, 3) := by decide +kernel
theorem dX9_begin_116 : decode cX9_begin 116 = .ok (.getfield 73, 3) := by decide +kernel
theorem dX9_begin_119 : decode cX9_begin 119 = .ok (.aload_n 0, 1) := by decide +kernel
theorem dX9_begin_120 : decode cX9_begin 120 = .ok (.getfield 19, 3) := by decide +kernel
theorem dX9_begin_123 : decode cX9_begin 123 = .ok (.if_icmp .ne 7, 3) := by decide +kernel
theorem dX9_begin_126 : decode cX9_begin 126 = .ok (.iconst 1, 1) := by decide +kernel
theorem dX9_begin_127 : decode cX9_begin 127 = .ok (.goto 4, 3) := by decide +kernel
theorem dX9_begin_130 : decode cX9_begin 130 = .ok (.iconst 0, 1) := by decide +kernel
theorem dX9_begin_131 : decode cX9_begin 131 = .ok (.putfield 46, 3) := by decide +kernel
theorem dX9_begin_134 : decode cX9_begin 134 = .ok (.return_, 1) := by decide +kernel
theorem dX9_takePacket_0 : decode cX9_takePacket 0 = .ok (.aload_n 0, 1) := by decide +kernel
theorem dX9_takePacket_1 : decode cX9_takePacket 1 = .ok (.getfield 31, 3) := by decide +kernel
theorem dX9_takePacket_4 : decode cX9_takePacket 4 = .ok (.iconst 1, 1) := by decide +kernel
theorem dX9_takePacket_5 : decode cX9_takePacket 5 = .ok (.isub, 1) := by decide +kernel
theorem dX9_takePacket_6 : decode cX9_takePacket 6 = .ok (.bipush 7, 2) := by decide +kernel
theorem dX9_takePacket_8 : decode cX9_takePacket 8 = .ok (.imul, 1) := by decide +kernel
theorem dX9_takePacket_9 : decode cX9_takePacket 9 = .ok (.istore_n 3, 1) := by decide +kernel
theorem dX9_takePacket_10 : decode cX9_takePacket 10 = .ok (.iconst 0, 1) := by decide +kernel
theorem dX9_takePacket_11 : decode cX9_takePacket 11 = .ok (.istore 4, 2) := by decide +kernel
theorem dX9_takePacket_13 : decode cX9_takePacket 13 = .ok (.iload 4, 2) := by decide +kernel
theorem dX9_takePacket_15 : decode cX9_takePacket 15 = .ok (.bipush 7, 2) := by decide +kernel
theorem dX9_takePacket_17 : decode cX9_takePacket 17 = .ok (.if_icmp .ge 36, 3) := by decide +kernel
theorem dX9_takePacket_20 : decode cX9_takePacket 20 = .ok (.iload_n 3, 1) := by decide +kernel
theorem dX9_takePacket_21 : decode cX9_takePacket 21 = .ok (.iload 4, 2) := by decide +kernel
theorem dX9_takePacket_23 : decode cX9_takePacket 23 = .ok (.iadd, 1) := by decide +kernel
theorem dX9_takePacket_24 : decode cX9_takePacket 24 = .ok (.aload_n 0, 1) := by decide +kernel
theorem dX9_takePacket_25 : decode cX9_takePacket 25 = .ok (.getfield 22, 3) := by decide +kernel
theorem dX9_takePacket_28 : decode cX9_takePacket 28 = .ok (.if_icmp .ge 25, 3) := by decide +kernel
theorem dX9_takePacket_31 : decode cX9_takePacket 31 = .ok (.aload_n 0, 1) := by decide +kernel
theorem dX9_takePacket_32 : decode cX9_takePacket 32 = .ok (.iload_n 3, 1) := by decide +kernel
theorem dX9_takePacket_33 : decode cX9_takePacket 33 = .ok (.iload 4, 2) := by decide +kernel
theorem dX9_takePacket_35 : decode cX9_takePacket 35 = .ok (.iadd, 1) := by decide +kernel
theorem dX9_takePacket_36 : decode cX9_takePacket 36 = .ok (.aload_n 1, 1) := by decide +kernel
theorem dX9_takePacket_37 : decode cX9_takePacket 37 = .ok (.iload 4, 2) := by decide +kernel
theorem dX9_takePacket_39 : decode cX9_takePacket 39 = .ok (.iconst 1, 1) := by decide +kernel
theorem dX9_takePacket_40 : decode cX9_takePacket 40 = .ok (.iadd, 1) := by decide +kernel
theorem dX9_takePacket_41 : decode cX9_takePacket 41 = .ok (.invokevirtual 65, 3) := by decide +kernel
theorem dX9_takePacket_44 : decode cX9_takePacket 44 = .ok (.invokevirtual 74, 3) := by decide +kernel
theorem dX9_takePacket_47 : decode cX9_takePacket 47 = .ok (.iinc 4 1, 3) := by decide +kernel
theorem dX9_takePacket_50 : decode cX9_takePacket 50 = .ok (.goto (-37), 3) := by decide +kernel
theorem dX9_takePacket_53 : decode cX9_takePacket 53 = .ok (.aload_n 0, 1) := by decide +kernel
theorem dX9_takePacket_54 : decode cX9_takePacket 54 = .ok (.dup, 1) := by decide +kernel
theorem dX9_takePacket_55 : decode cX9_takePacket 55 = .ok (.getfield 31, 3) := by decide +kernel
theorem dX9_takePacket_58 : decode cX9_takePacket 58 = .ok (.iconst 1, 1) := by decide +kernel
theorem dX9_takePacket_59 : decode cX9_takePacket 59 = .ok (.iadd, 1) := by decide +kernel
theorem dX9_takePacket_60 : decode cX9_takePacket 60 = .ok (.putfield 31, 3) := by decide +kernel
theorem dX9_takePacket_63 : decode cX9_takePacket 63 = .ok (.aload_n 0, 1) := by decide +kernel
theorem dX9_takePacket_64 : decode cX9_takePacket 64 = .ok (.iload_n 2, 1) := by decide +kernel
theorem dX9_takePacket_65 : decode cX9_takePacket 65 = .ok (.putfield 37, 3) := by decide +kernel
theorem dX9_takePacket_68 : decode cX9_takePacket 68 = .ok (.return_, 1) := by decide +kernel
theorem dX9_takeByte_0 : decode cX9_takeByte 0 = .ok (.aload_n 0, 1) := by decide +kernel
theorem dX9_takeByte_1 : decode cX9_takeByte 1 = .ok (.dup, 1) := by decide +kernel
theorem dX9_takeByte_2 : decode cX9_takeByte 2 = .ok (.getfield 43, 3) := by decide +kernel
theorem dX9_takeByte_5 : decode cX9_takeByte 5 = .ok (.iload_n 2, 1) := by decide +kernel
theorem dX9_takeByte_6 : decode cX9_takeByte 6 = .ok (.iload_n 1, 1) := by decide +kernel
theorem dX9_takeByte_7 : decode cX9_takeByte 7 = .ok (.iconst 1, 1) := by decide +kernel
theorem dX9_takeByte_8 : decode cX9_takeByte 8 = .ok (.iadd, 1) := by decide +kernel
theorem dX9_takeByte_9 : decode cX9_takeByte 9 = .ok (.imul, 1) := by decide +kernel
theorem dX9_takeByte_10 : decode cX9_takeByte 10 = .ok (.iadd, 1) := by decide +kernel
theorem dX9_takeByte_11 : decode cX9_takeByte 11 = .ok (.putfield 43, 3) := by decide +kernel
theorem dX9_takeByte_14 : decode cX9_takeByte 14 = .ok (.aload_n 0, 1) := by decide +kernel
theorem dX9_takeByte_15 : decode cX9_takeByte 15 = .ok (.getfield 49, 3) := by decide +kernel
theorem dX9_takeByte_18 : decode cX9_takeByte 18 = .ok (.ifnull 15, 3) := by decide +kernel
theorem dX9_takeByte_21 : decode cX9_takeByte 21 = .ok (.aload_n 0, 1) := by decide +kernel
theorem dX9_takeByte_22 : decode cX9_takeByte 22 = .ok (.getfield 49, 3) := by decide +kernel
theorem dX9_takeByte_25 : decode cX9_takeByte 25 = .ok (.iload_n 1, 1) := by decide +kernel
theorem dX9_takeByte_26 : decode cX9_takeByte 26 = .ok (.invokevirtual 78, 3) := by decide +kernel
theorem dX9_takeByte_29 : decode cX9_takeByte 29 = .ok (.iload_n 2, 1) := by decide +kernel
theorem dX9_takeByte_30 : decode cX9_takeByte 30 = .ok (.if_icmp .eq 8, 3) := by decide +kernel
theorem dX9_takeByte_33 : decode cX9_takeByte 33 = .ok (.aload_n 0, 1) := by decide +kernel
theorem dX9_takeByte_34 : decode cX9_takeByte 34 = .ok (.iconst 0, 1) := by decide +kernel
theorem dX9_takeByte_35 : decode cX9_takeByte 35 = .ok (.putfield 46, 3) := by decide +kernel
theorem dX9_takeByte_38 : decode cX9_takeByte 38 = .ok (.iload_n 1, 1) := by decide +kernel
theorem dX9_takeByte_39 : decode cX9_takeByte 39 = .ok (.ifCond .lt 19, 3) := by decide +kernel
theorem dX9_takeByte_42 : decode cX9_takeByte 42 = .ok (.iload_n 1, 1) := by decide +kernel
theorem dX9_takeByte_43 : decode cX9_takeByte 43 = .ok (.aload_n 0, 1) := by decide +kernel
theorem dX9_takeByte_44 : decode cX9_takeByte 44 = .ok (.getfield 53, 3) := by decide +kernel
theorem dX9_takeByte_47 : decode cX9_takeByte 47 = .ok (.arraylength, 1) := by decide +kernel
theorem dX9_takeByte_48 : decode cX9_takeByte 48 = .ok (.if_icmp .ge 10, 3) := by decide +kernel
theorem dX9_takeByte_51 : decode cX9_takeByte 51 = .ok (.aload_n 0, 1) := by decide +kernel
theorem dX9_takeByte_52 : decode cX9_takeByte 52 = .ok (.getfield 53, 3) := by decide +kernel
theorem dX9_takeByte_55 : decode cX9_takeByte 55 = .ok (.iload_n 1, 1) := by decide +kernel
theorem dX9_takeByte_56 : decode cX9_takeByte 56 = .ok (.iload_n 2, 1) := by decide +kernel
theorem dX9_takeByte_57 : decode cX9_takeByte 57 = .ok (.iastore, 1) := by decide +kernel
theorem dX9_takeByte_58 : decode cX9_takeByte 58 = .ok (.return_, 1) := by decide +kernel
theorem dX9_isWhole_0 : decode cX9_isWhole 0 = .ok (.aload_n 0, 1) := by decide +kernel
theorem dX9_isWhole_1 : decode cX9_isWhole 1 = .ok (.getfield 31, 3) := by decide +kernel
theorem dX9_isWhole_4 : decode cX9_isWhole 4 = .ok (.aload_n 0, 1) := by decide +kernel
theorem dX9_isWhole_5 : decode cX9_isWhole 5 = .ok (.getfield 25, 3) := by decide +kernel
theorem dX9_isWhole_8 : decode cX9_isWhole 8 = .ok (.if_icmp .le 7, 3) := by decide +kernel
theorem dX9_isWhole_11 : decode cX9_isWhole 11 = .ok (.iconst 1, 1) := by decide +kernel
theorem dX9_isWhole_12 : decode cX9_isWhole 12 = .ok (.goto 4, 3) := by decide +kernel
theorem dX9_isWhole_15 : decode cX9_isWhole 15 = .ok (.iconst 0, 1) := by decide +kernel
theorem dX9_isWhole_16 : decode cX9_isWhole 16 = .ok (.ireturn, 1) := by decide +kernel
theorem dX9_byteAt_0 : decode cX9_byteAt 0 = .ok (.iload_n 1, 1) := by decide +kernel
theorem dX9_byteAt_1 : decode cX9_byteAt 1 = .ok (.ifCond .lt 12, 3) := by decide +kernel
theorem dX9_byteAt_4 : decode cX9_byteAt 4 = .ok (.iload_n 1, 1) := by decide +kernel
theorem dX9_byteAt_5 : decode cX9_byteAt 5 = .ok (.aload_n 0, 1) := by decide +kernel
theorem dX9_byteAt_6 : decode cX9_byteAt 6 = .ok (.getfield 53, 3) := by decide +kernel
theorem dX9_byteAt_9 : decode cX9_byteAt 9 = .ok (.arraylength, 1) := by decide +kernel
theorem dX9_byteAt_10 : decode cX9_byteAt 10 = .ok (.if_icmp .lt 7, 3) := by decide +kernel
theorem dX9_byteAt_13 : decode cX9_byteAt 13 = .ok (.iconst 0, 1) := by decide +kernel
theorem dX9_byteAt_14 : decode cX9_byteAt 14 = .ok (.goto 9, 3) := by decide +kernel
theorem dX9_byteAt_17 : decode cX9_byteAt 17 = .ok (.aload_n 0, 1) := by decide +kernel
theorem dX9_byteAt_18 : decode cX9_byteAt 18 = .ok (.getfield 53, 3) := by decide +kernel
theorem dX9_byteAt_21 : decode cX9_byteAt 21 = .ok (.iload_n 1, 1) := by decide +kernel
theorem dX9_byteAt_22 : decode cX9_byteAt 22 = .ok (.iaload, 1) := by decide +kernel
theorem dX9_byteAt_23 : decode cX9_byteAt 23 = .ok (.ireturn, 1) := by decide +kernel
theorem dX10_init_0 : decode cX10_init 0 = .ok (.aload_n 0, 1) := by decide +kernel
theorem dX10_init_1 : decode cX10_init 1 = .ok (.invokespecial 1, 3) := by decide +kernel
theorem dX10_init_4 : decode cX10_init 4 = .ok (.aload_n 0, 1) := by decide +kernel
theorem dX10_init_5 : decode cX10_init 5 = .ok (.bipush 8, 2) := by decide +kernel
theorem dX10_init_7 : decode cX10_init 7 = .ok (.anewarray 9, 3) := by decide +kernel
theorem dX10_init_10 : decode cX10_init 10 = .ok (.putfield 11, 3) := by decide +kernel
theorem dX10_init_13 : decode cX10_init 13 = .ok (.aload_n 0, 1) := by decide +kernel
theorem dX10_init_14 : decode cX10_init 14 = .ok (.new 15, 3) := by decide +kernel
theorem dX10_init_17 : decode cX10_init 17 = .ok (.dup, 1) := by decide +kernel
theorem dX10_init_18 : decode cX10_init 18 = .ok (.invokespecial 17, 3) := by decide +kernel
theorem dX10_init_21 : decode cX10_init 21 = .ok (.putfield 18, 3) := by decide +kernel
theorem dX10_init_24 : decode cX10_init 24 = .ok (.aload_n 0, 1) := by decide +kernel
theorem dX10_init_25 : decode cX10_init 25 = .ok (.new 22, 3) := by decide +kernel
theorem dX10_init_28 : decode cX10_init 28 = .ok (.dup, 1) := by decide +kernel
theorem dX10_init_29 : decode cX10_init 29 = .ok (.invokespecial 24, 3) := by decide +kernel
theorem dX10_init_32 : decode cX10_init 32 = .ok (.putfield 25, 3) := by decide +kernel
theorem dX10_init_35 : decode cX10_init 35 = .ok (.aload_n 0, 1) := by decide +kernel
theorem dX10_init_36 : decode cX10_init 36 = .ok (.iconst 0, 1) := by decide +kernel
theorem dX10_init_37 : decode cX10_init 37 = .ok (.putfield 29, 3) := by decide +kernel
theorem dX10_init_40 : decode cX10_init 40 = .ok (.aload_n 0, 1) := by decide +kernel
theorem dX10_init_41 : decode cX10_init 41 = .ok (.iconst 0, 1) := by decide +kernel
theorem dX10_init_42 : decode cX10_init 42 = .ok (.putfield 33, 3) := by decide +kernel
theorem dX10_init_45 : decode cX10_init 45 = .ok (.aload_n 0, 1) := by decide +kernel
theorem dX10_init_46 : decode cX10_init 46 = .ok (.iconst 0, 1) := by decide +kernel
theorem dX10_init_47 : decode cX10_init 47 = .ok (.putfield 36, 3) := by decide +kernel
theorem dX10_init_50 : decode cX10_init 50 = .ok (.aload_n 0, 1) := by decide +kernel
theorem dX10_init_51 : decode cX10_init 51 = .ok (.iconst (-1), 1) := by decide +kernel
theorem dX10_init_52 : decode cX10_init 52 = .ok (.putfield 39, 3) := by decide +kernel
theorem dX10_init_55 : decode cX10_init 55 = .ok (.aload_n 0, 1) := by decide +kernel
theorem dX10_init_56 : decode cX10_init 56 = .ok (.iconst 0, 1) := by decide +kernel
theorem dX10_init_57 : decode cX10_init 57 = .ok (.putfield 42, 3) := by decide +kernel
theorem dX10_init_60 : decode cX10_init 60 = .ok (.return_, 1) := by decide +kernel
theorem dX10_node_0 : decode cX10_node 0 = .ok (.iload_n 3, 1) := by decide +kernel
theorem dX10_node_1 : decode cX10_node 1 = .ok (.ifCond .lt 23, 3) := by decide +kernel
theorem dX10_node_4 : decode cX10_node 4 = .ok (.iload_n 3, 1) := by decide +kernel
theorem dX10_node_5 : decode cX10_node 5 = .ok (.sipush 247, 3) := by decide +kernel
theorem dX10_node_8 : decode cX10_node 8 = .ok (.if_icmp .gt 16, 3) := by decide +kernel
theorem dX10_node_11 : decode cX10_node 11 = .ok (.iload 5, 2) := by decide +kernel
theorem dX10_node_13 : decode cX10_node 13 = .ok (.iconst 1, 1) := by decide +kernel
theorem dX10_node_14 : decode cX10_node 14 = .ok (.if_icmp .lt 10, 3) := by decide +kernel
theorem dX10_node_17 : decode cX10_node 17 = .ok (.iload 5, 2) := by decide +kernel
theorem dX10_node_19 : decode cX10_node 19 = .ok (.bipush 16, 2) := by decide +kernel
theorem dX10_node_21 : decode cX10_node 21 = .ok (.if_icmp .le 5, 3) := by decide +kernel
theorem dX10_node_24 : decode cX10_node 24 = .ok (.iconst (-1), 1) := by decide +kernel
theorem dX10_node_25 : decode cX10_node 25 = .ok (.ireturn, 1) := by decide +kernel
theorem dX10_node_26 : decode cX10_node 26 = .ok (.aload_n 0, 1) := by decide +kernel
theorem dX10_node_27 : decode cX10_node 27 = .ok (.getfield 29, 3) := by decide +kernel
theorem dX10_node_30 : decode cX10_node 30 = .ok (.bipush 8, 2) := by decide +kernel
theorem dX10_node_32 : decode cX10_node 32 = .ok (.if_icmp .ge 12, 3) := by decide +kernel
theorem dX10_node_35 : decode cX10_node 35 = .ok (.aload_n 0, 1) := by decide +kernel
theorem dX10_node_36 : decode cX10_node 36 = .ok (.iload_n 1, 1) := by decide +kernel
theorem dX10_node_37 : decode cX10_node 37 = .ok (.iload_n 2, 1) := by decide +kernel
theorem dX10_node_38 : decode cX10_node 38 = .ok (.invokevirtual 46, 3) := by decide +kernel
theorem dX10_node_41 : decode cX10_node 41 = .ok (.ifCond .eq 5, 3) := by decide +kernel
theorem dX10_node_44 : decode cX10_node 44 = .ok (.iconst (-1), 1) := by decide +kernel
theorem dX10_node_45 : decode cX10_node 45 = .ok (.ireturn, 1) := by decide +kernel
theorem dX10_node_46 : decode cX10_node 46 = .ok (.aload_n 0, 1) := by decide +kernel
theorem dX10_node_47 : decode cX10_node 47 = .ok (.getfield 11, 3) := by decide +kernel
theorem dX10_node_50 : decode cX10_node 50 = .ok (.aload_n 0, 1) := by decide +kernel
theorem dX10_node_51 : decode cX10_node 51 = .ok (.getfield 29, 3) := by decide +kernel
theorem dX10_node_54 : decode cX10_node 54 = .ok (.new 9, 3) := by decide +kernel
theorem dX10_node_57 : decode cX10_node 57 = .ok (.dup, 1) := by decide +kernel
theorem dX10_node_58 : decode cX10_node 58 = .ok (.iload_n 1, 1) := by decide +kernel
theorem dX10_node_59 : decode cX10_node 59 = .ok (.iload_n 2, 1) := by decide +kernel
theorem dX10_node_60 : decode cX10_node 60 = .ok (.iload_n 3, 1) := by decide +kernel
theorem dX10_node_61 : decode cX10_node 61 = .ok (.iload 4, 2) := by decide +kernel
theorem dX10_node_63 : decode cX10_node 63 = .ok (.iload 5, 2) := by decide +kernel
theorem dX10_node_65 : decode cX10_node 65 = .ok (.aload_n 0, 1) := by decide +kernel
theorem dX10_node_66 : decode cX10_node 66 = .ok (.getfield 18, 3) := by decide +kernel
theorem dX10_node_69 : decode cX10_node 69 = .ok (.invokespecial 50, 3) := by decide +kernel
theorem dX10_node_72 : decode cX10_node 72 = .ok (.aastore, 1) := by decide +kernel
theorem dX10_node_73 : decode cX10_node 73 = .ok (.aload_n 0, 1) := by decide +kernel
theorem dX10_node_74 : decode cX10_node 74 = .ok (.dup, 1) := by decide +kernel
theorem dX10_node_75 : decode cX10_node 75 = .ok (.getfield 29, 3) := by decide +kernel
theorem dX10_node_78 : decode cX10_node 78 = .ok (.iconst 1, 1) := by decide +kernel
theorem dX10_node_79 : decode cX10_node 79 = .ok (.iadd, 1) := by decide +kernel
theorem dX10_node_80 : decode cX10_node 80 = .ok (.putfield 29, 3) := by decide +kernel
theorem dX10_node_83 : decode cX10_node 83 = .ok (.aload_n 0, 1) := by decide +kernel
theorem dX10_node_84 : decode cX10_node 84 = .ok (.getfield 29, 3) := by decide +kernel
theorem dX10_node_87 : decode cX10_node 87 = .ok (.iconst 1, 1) := by decide +kernel
theorem dX10_node_88 : decode cX10_node 88 = .ok (.isub, 1) := by decide +kernel
theorem dX10_node_89 : decode cX10_node 89 = .ok (.ireturn, 1) := by decide +kernel
theorem dX10_start_0 : decode cX10_start 0 = .ok (.aload_n 0, 1) := by decide +kernel
theorem dX10_start_1 : decode cX10_start 1 = .ok (.iload_n 1, 1) := by decide +kernel
theorem dX10_start_2 : decode cX10_start 2 = .ok (.invokevirtual 53, 3) := by decide +kernel
theorem dX10_start_5 : decode cX10_start 5 = .ok (.astore_n 2, 1) := by decide +kernel
theorem dX10_start_6 : decode cX10_start 6 = .ok (.aload_n 2, 1) := by decide +kernel
theorem dX10_start_7 : decode cX10_start 7 = .ok (.ifnull 10, 3) := by decide +kernel
theorem dX10_start_10 : decode cX10_start 10 = .ok (.aload_n 2, 1) := by decide +kernel
theorem dX10_start_11 : decode cX10_start 11 = .ok (.getfield 57, 3) := by decide +kernel
theorem dX10_start_14 : decode cX10_start 14 = .ok (.ifCond .eq 5, 3) := by decide +kernel
theorem dX10_start_17 : decode cX10_start 17 = .ok (.iconst 0, 1) := by decide +kernel
theorem dX10_start_18 : decode cX10_start 18 = .ok (.ireturn, 1) := by decide +kernel
theorem dX10_start_19 : decode cX10_start 19 = .ok (.aload_n 2, 1) := by decide +kernel
theorem dX10_start_20 : decode cX10_start 20 = .ok (.aload_n 2, 1) := by decide +kernel
theorem dX10_start_21 : decode cX10_start 21 = .ok (.getfield 60, 3) := by decide +kernel
theorem dX10_start_24 : decode cX10_start 24 = .ok (.invokevirtual 63, 3) := by decide +kernel
theorem dX10_start_27 : decode cX10_start 27 = .ok (.iconst 1, 1) := by decide +kernel
theorem dX10_start_28 : decode cX10_start 28 = .ok (.ireturn, 1) := by decide +kernel
