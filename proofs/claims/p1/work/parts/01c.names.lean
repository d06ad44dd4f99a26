theorem dX11_node_48 : decode cX11_node 48 = .ok (.goto 4, 3) := by decide +kernel
theorem dX11_node_51 : decode cX11_node 51 = .ok (.iconst 0, 1) := by decide +kernel
theorem dX11_node_52 : decode cX11_node 52 = .ok (.istore 8, 2) := by decide +kernel
theorem dX11_node_54 : decode cX11_node 54 = .ok (.iinc 9 1, 3) := by decide +kernel
theorem dX11_node_57 : decode cX11_node 57 = .ok (.goto (-37), 3) := by decide +kernel
theorem dX11_node_60 : decode cX11_node 60 = .ok (.iload_n 3, 1) := by decide +kernel
theorem dX11_node_61 : decode cX11_node 61 = .ok (.iconst 0, 1) := by decide +kernel
theorem dX11_node_62 : decode cX11_node 62 = .ok (.sipush 247, 3) := by decide +kernel
theorem dX11_node_65 : decode cX11_node 65 = .ok (.invokestatic 175, 3) := by decide +kernel
theorem dX11_node_68 : decode cX11_node 68 = .ok (.ifCond .eq 28, 3) := by decide +kernel
theorem dX11_node_71 : decode cX11_node 71 = .ok (.iload 5, 2) := by decide +kernel
theorem dX11_node_73 : decode cX11_node 73 = .ok (.iconst 1, 1) := by decide +kernel
theorem dX11_node_74 : decode cX11_node 74 = .ok (.bipush 16, 2) := by decide +kernel
theorem dX11_node_76 : decode cX11_node 76 = .ok (.invokestatic 175, 3) := by decide +kernel
theorem dX11_node_79 : decode cX11_node 79 = .ok (.ifCond .eq 17, 3) := by decide +kernel
theorem dX11_node_82 : decode cX11_node 82 = .ok (.iload 8, 2) := by decide +kernel
theorem dX11_node_84 : decode cX11_node 84 = .ok (.ifCond .ne 12, 3) := by decide +kernel
theorem dX11_node_87 : decode cX11_node 87 = .ok (.aload_n 0, 1) := by decide +kernel
theorem dX11_node_88 : decode cX11_node 88 = .ok (.getfield 172, 3) := by decide +kernel
theorem dX11_node_91 : decode cX11_node 91 = .ok (.bipush 8, 2) := by decide +kernel
theorem dX11_node_93 : decode cX11_node 93 = .ok (.if_icmp .ne 5, 3) := by decide +kernel
theorem dX11_node_96 : decode cX11_node 96 = .ok (.iconst (-1), 1) := by decide +kernel
theorem dX11_node_97 : decode cX11_node 97 = .ok (.ireturn, 1) := by decide +kernel
theorem dX11_node_98 : decode cX11_node 98 = .ok (.aload_n 0, 1) := by decide +kernel
theorem dX11_node_99 : decode cX11_node 99 = .ok (.getfield 7, 3) := by decide +kernel
theorem dX11_node_102 : decode cX11_node 102 = .ok (.aload_n 0, 1) := by decide +kernel
theorem dX11_node_103 : decode cX11_node 103 = .ok (.getfield 172, 3) := by decide +kernel
theorem dX11_node_106 : decode cX11_node 106 = .ok (.lload 6, 2) := by decide +kernel
theorem dX11_node_108 : decode cX11_node 108 = .ok (.lastore, 1) := by decide +kernel
theorem dX11_node_109 : decode cX11_node 109 = .ok (.aload_n 0, 1) := by decide +kernel
theorem dX11_node_110 : decode cX11_node 110 = .ok (.getfield 13, 3) := by decide +kernel
theorem dX11_node_113 : decode cX11_node 113 = .ok (.aload_n 0, 1) := by decide +kernel
theorem dX11_node_114 : decode cX11_node 114 = .ok (.getfield 172, 3) := by decide +kernel
theorem dX11_node_117 : decode cX11_node 117 = .ok (.iload_n 3, 1) := by decide +kernel
theorem dX11_node_118 : decode cX11_node 118 = .ok (.iastore, 1) := by decide +kernel
theorem dX11_node_119 : decode cX11_node 119 = .ok (.aload_n 0, 1) := by decide +kernel
theorem dX11_node_120 : decode cX11_node 120 = .ok (.getfield 17, 3) := by decide +kernel
theorem dX11_node_123 : decode cX11_node 123 = .ok (.aload_n 0, 1) := by decide +kernel
theorem dX11_node_124 : decode cX11_node 124 = .ok (.getfield 172, 3) := by decide +kernel
theorem dX11_node_127 : decode cX11_node 127 = .ok (.iload_n 3, 1) := by decide +kernel
theorem dX11_node_128 : decode cX11_node 128 = .ok (.iastore, 1) := by decide +kernel
theorem dX11_node_129 : decode cX11_node 129 = .ok (.aload_n 0, 1) := by decide +kernel
theorem dX11_node_130 : decode cX11_node 130 = .ok (.getfield 20, 3) := by decide +kernel
theorem dX11_node_133 : decode cX11_node 133 = .ok (.aload_n 0, 1) := by decide +kernel
theorem dX11_node_134 : decode cX11_node 134 = .ok (.getfield 172, 3) := by decide +kernel
theorem dX11_node_137 : decode cX11_node 137 = .ok (.iload 4, 2) := by decide +kernel
theorem dX11_node_139 : decode cX11_node 139 = .ok (.bastore, 1) := by decide +kernel
theorem dX11_node_140 : decode cX11_node 140 = .ok (.aload_n 0, 1) := by decide +kernel
theorem dX11_node_141 : decode cX11_node 141 = .ok (.getfield 24, 3) := by decide +kernel
theorem dX11_node_144 : decode cX11_node 144 = .ok (.aload_n 0, 1) := by decide +kernel
theorem dX11_node_145 : decode cX11_node 145 = .ok (.getfield 172, 3) := by decide +kernel
theorem dX11_node_148 : decode cX11_node 148 = .ok (.iload 5, 2) := by decide +kernel
theorem dX11_node_150 : decode cX11_node 150 = .ok (.iastore, 1) := by decide +kernel
theorem dX11_node_151 : decode cX11_node 151 = .ok (.aload_n 0, 1) := by decide +kernel
theorem dX11_node_152 : decode cX11_node 152 = .ok (.dup, 1) := by decide +kernel
theorem dX11_node_153 : decode cX11_node 153 = .ok (.getfield 172, 3) := by decide +kernel
theorem dX11_node_156 : decode cX11_node 156 = .ok (.iconst 1, 1) := by decide +kernel
theorem dX11_node_157 : decode cX11_node 157 = .ok (.iadd, 1) := by decide +kernel
theorem dX11_node_158 : decode cX11_node 158 = .ok (.putfield 172, 3) := by decide +kernel
theorem dX11_node_161 : decode cX11_node 161 = .ok (.aload_n 0, 1) := by decide +kernel
theorem dX11_node_162 : decode cX11_node 162 = .ok (.getfield 172, 3) := by decide +kernel
theorem dX11_node_165 : decode cX11_node 165 = .ok (.iconst 1, 1) := by decide +kernel
theorem dX11_node_166 : decode cX11_node 166 = .ok (.isub, 1) := by decide +kernel
theorem dX11_node_167 : decode cX11_node 167 = .ok (.ireturn, 1) := by decide +kernel
theorem dX11_start_0 : decode cX11_start 0 = .ok (.aload_n 0, 1) := by decide +kernel
theorem dX11_start_1 : decode cX11_start 1 = .ok (.iload_n 1, 1) := by decide +kernel
theorem dX11_start_2 : decode cX11_start 2 = .ok (.invokevirtual 203, 3) := by decide +kernel
theorem dX11_start_5 : decode cX11_start 5 = .ok (.ifCond .eq 12, 3) := by decide +kernel
theorem dX11_start_8 : decode cX11_start 8 = .ok (.aload_n 0, 1) := by decide +kernel
theorem dX11_start_9 : decode cX11_start 9 = .ok (.getfield 27, 3) := by decide +kernel
theorem dX11_start_12 : decode cX11_start 12 = .ok (.iload_n 1, 1) := by decide +kernel
theorem dX11_start_13 : decode cX11_start 13 = .ok (.iaload, 1) := by decide +kernel
theorem dX11_start_14 : decode cX11_start 14 = .ok (.ifCond .eq 5, 3) := by decide +kernel
theorem dX11_start_17 : decode cX11_start 17 = .ok (.iconst 0, 1) := by decide +kernel
theorem dX11_start_18 : decode cX11_start 18 = .ok (.ireturn, 1) := by decide +kernel
theorem dX11_start_19 : decode cX11_start 19 = .ok (.aload_n 0, 1) := by decide +kernel
theorem dX11_start_20 : decode cX11_start 20 = .ok (.getfield 27, 3) := by decide +kernel
theorem dX11_start_23 : decode cX11_start 23 = .ok (.iload_n 1, 1) := by decide +kernel
theorem dX11_start_24 : decode cX11_start 24 = .ok (.iconst 1, 1) := by decide +kernel
theorem dX11_start_25 : decode cX11_start 25 = .ok (.iastore, 1) := by decide +kernel
theorem dX11_start_26 : decode cX11_start 26 = .ok (.aload_n 0, 1) := by decide +kernel
theorem dX11_start_27 : decode cX11_start 27 = .ok (.getfield 17, 3) := by decide +kernel
theorem dX11_start_30 : decode cX11_start 30 = .ok (.iload_n 1, 1) := by decide +kernel
theorem dX11_start_31 : decode cX11_start 31 = .ok (.aload_n 0, 1) := by decide +kernel
theorem dX11_start_32 : decode cX11_start 32 = .ok (.getfield 13, 3) := by decide +kernel
theorem dX11_start_35 : decode cX11_start 35 = .ok (.iload_n 1, 1) := by decide +kernel
theorem dX11_start_36 : decode cX11_start 36 = .ok (.iaload, 1) := by decide +kernel
theorem dX11_start_37 : decode cX11_start 37 = .ok (.iastore, 1) := by decide +kernel
theorem dX11_start_38 : decode cX11_start 38 = .ok (.aload_n 0, 1) := by decide +kernel
theorem dX11_start_39 : decode cX11_start 39 = .ok (.getfield 30, 3) := by decide +kernel
theorem dX11_start_42 : decode cX11_start 42 = .ok (.iload_n 1, 1) := by decide +kernel
theorem dX11_start_43 : decode cX11_start 43 = .ok (.iconst (-1), 1) := by decide +kernel
theorem dX11_start_44 : decode cX11_start 44 = .ok (.iastore, 1) := by decide +kernel
theorem dX11_start_45 : decode cX11_start 45 = .ok (.aload_n 0, 1) := by decide +kernel
theorem dX11_start_46 : decode cX11_start 46 = .ok (.iload_n 1, 1) := by decide +kernel
theorem dX11_start_47 : decode cX11_start 47 = .ok (.invokevirtual 207, 3) := by decide +kernel
theorem dX11_start_50 : decode cX11_start 50 = .ok (.iconst 1, 1) := by decide +kernel
theorem dX11_start_51 : decode cX11_start 51 = .ok (.ireturn, 1) := by decide +kernel
theorem dX11_stop_0 : decode cX11_stop 0 = .ok (.aload_n 0, 1) := by decide +kernel
theorem dX11_stop_1 : decode cX11_stop 1 = .ok (.iload_n 1, 1) := by decide +kernel
theorem dX11_stop_2 : decode cX11_stop 2 = .ok (.invokevirtual 203, 3) := by decide +kernel
theorem dX11_stop_5 : decode cX11_stop 5 = .ok (.ifCond .eq 12, 3) := by decide +kernel
theorem dX11_stop_8 : decode cX11_stop 8 = .ok (.aload_n 0, 1) := by decide +kernel
theorem dX11_stop_9 : decode cX11_stop 9 = .ok (.getfield 27, 3) := by decide +kernel
theorem dX11_stop_12 : decode cX11_stop 12 = .ok (.iload_n 1, 1) := by decide +kernel
theorem dX11_stop_13 : decode cX11_stop 13 = .ok (.iaload, 1) := by decide +kernel
theorem dX11_stop_14 : decode cX11_stop 14 = .ok (.ifCond .ne 5, 3) := by decide +kernel
theorem dX11_stop_17 : decode cX11_stop 17 = .ok (.iconst 0, 1) := by decide +kernel
theorem dX11_stop_18 : decode cX11_stop 18 = .ok (.ireturn, 1) := by decide +kernel
theorem dX11_stop_19 : decode cX11_stop 19 = .ok (.aload_n 0, 1) := by decide +kernel
theorem dX11_stop_20 : decode cX11_stop 20 = .ok (.iload_n 1, 1) := by decide +kernel
theorem dX11_stop_21 : decode cX11_stop 21 = .ok (.invokevirtual 210, 3) := by decide +kernel
theorem dX11_stop_24 : decode cX11_stop 24 = .ok (.aload_n 0, 1) := by decide +kernel
theorem dX11_stop_25 : decode cX11_stop 25 = .ok (.getfield 27, 3) := by decide +kernel
theorem dX11_stop_28 : decode cX11_stop 28 = .ok (.iload_n 1, 1) := by decide +kernel
theorem dX11_stop_29 : decode cX11_stop 29 = .ok (.iconst 0, 1) := by decide +kernel
theorem dX11_stop_30 : decode cX11_stop 30 = .ok (.iastore, 1) := by decide +kernel
theorem dX11_stop_31 : decode cX11_stop 31 = .ok (.aload_n 0, 1) := by decide +kernel
theorem dX11_stop_32 : decode cX11_stop 32 = .ok (.getfield 17, 3) := by decide +kernel
theorem dX11_stop_35 : decode cX11_stop 35 = .ok (.iload_n 1, 1) := by decide +kernel
theorem dX11_stop_36 : decode cX11_stop 36 = .ok (.aload_n 0, 1) := by decide +kernel
theorem dX11_stop_37 : decode cX11_stop 37 = .ok (.getfield 13, 3) := by decide +kernel
theorem dX11_stop_40 : decode cX11_stop 40 = .ok (.iload_n 1, 1) := by decide +kernel
theorem dX11_stop_41 : decode cX11_stop 41 = .ok (.iaload, 1) := by decide +kernel
theorem dX11_stop_42 : decode cX11_stop 42 = .ok (.iastore, 1) := by decide +kernel
theorem dX11_stop_43 : decode cX11_stop 43 = .ok (.iconst 0, 1) := by decide +kernel
theorem dX11_stop_44 : decode cX11_stop 44 = .ok (.istore_n 2, 1) := by decide +kernel
theorem dX11_stop_45 : decode cX11_stop 45 = .ok (.iload_n 2, 1) := by decide +kernel
theorem dX11_stop_46 : decode cX11_stop 46 = .ok (.sipush 256, 3) := by decide +kernel
theorem dX11_stop_49 : decode cX11_stop 49 = .ok (.if_icmp .ge 35, 3) := by decide +kernel
theorem dX11_stop_52 : decode cX11_stop 52 = .ok (.aload_n 0, 1) := by decide +kernel
theorem dX11_stop_53 : decode cX11_stop 53 = .ok (.getfield 33, 3) := by decide +kernel
theorem dX11_stop_56 : decode cX11_stop 56 = .ok (.sipush 256, 3) := by decide +kernel
theorem dX11_stop_59 : decode cX11_stop 59 = .ok (.iload_n 1, 1) := by decide +kernel
theorem dX11_stop_60 : decode cX11_stop 60 = .ok (.imul, 1) := by decide +kernel
theorem dX11_stop_61 : decode cX11_stop 61 = .ok (.iload_n 2, 1) := by decide +kernel
theorem dX11_stop_62 : decode cX11_stop 62 = .ok (.iadd, 1) := by decide +kernel
theorem dX11_stop_63 : decode cX11_stop 63 = .ok (.iconst (-1), 1) := by decide +kernel
theorem dX11_stop_64 : decode cX11_stop 64 = .ok (.iastore, 1) := by decide +kernel
theorem dX11_stop_65 : decode cX11_stop 65 = .ok (.aload_n 0, 1) := by decide +kernel
theorem dX11_stop_66 : decode cX11_stop 66 = .ok (.getfield 138, 3) := by decide +kernel
theorem dX11_stop_69 : decode cX11_stop 69 = .ok (.sipush 256, 3) := by decide +kernel
theorem dX11_stop_72 : decode cX11_stop 72 = .ok (.iload_n 1, 1) := by decide +kernel
theorem dX11_stop_73 : decode cX11_stop 73 = .ok (.imul, 1) := by decide +kernel
theorem dX11_stop_74 : decode cX11_stop 74 = .ok (.iload_n 2, 1) := by decide +kernel
theorem dX11_stop_75 : decode cX11_stop 75 = .ok (.iadd, 1) := by decide +kernel
theorem dX11_stop_76 : decode cX11_stop 76 = .ok (.iconst (-1), 1) := by decide +kernel
theorem dX11_stop_77 : decode cX11_stop 77 = .ok (.iastore, 1) := by decide +kernel
theorem dX11_stop_78 : decode cX11_stop 78 = .ok (.iinc 2 1, 3) := by decide +kernel
theorem dX11_stop_81 : decode cX11_stop 81 = .ok (.goto (-36), 3) := by decide +kernel
theorem dX11_stop_84 : decode cX11_stop 84 = .ok (.aload_n 0, 1) := by decide +kernel
theorem dX11_stop_85 : decode cX11_stop 85 = .ok (.iconst 1, 1) := by decide +kernel
theorem dX11_stop_86 : decode cX11_stop 86 = .ok (.putfield 213, 3) := by decide +kernel
theorem dX11_stop_89 : decode cX11_stop 89 = .ok (.iconst 1, 1) := by decide +kernel
theorem dX11_stop_90 : decode cX11_stop 90 = .ok (.ireturn, 1) := by decide +kernel
theorem dX11_request_0 : decode cX11_request 0 = .ok (.aload_n 0, 1) := by decide +kernel
theorem dX11_request_1 : decode cX11_request 1 = .ok (.iload_n 1, 1) := by decide +kernel
theorem dX11_request_2 : decode cX11_request 2 = .ok (.invokevirtual 203, 3) := by decide +kernel
theorem dX11_request_5 : decode cX11_request 5 = .ok (.ifCond .eq 31, 3) := by decide +kernel
theorem dX11_request_8 : decode cX11_request 8 = .ok (.aload_n 0, 1) := by decide +kernel
theorem dX11_request_9 : decode cX11_request 9 = .ok (.getfield 27, 3) := by decide +kernel
theorem dX11_request_12 : decode cX11_request 12 = .ok (.iload_n 1, 1) := by decide +kernel
theorem dX11_request_13 : decode cX11_request 13 = .ok (.iaload, 1) := by decide +kernel
theorem dX11_request_14 : decode cX11_request 14 = .ok (.iconst 2, 1) := by decide +kernel
theorem dX11_request_15 : decode cX11_request 15 = .ok (.if_icmp .ne 21, 3) := by decide +kernel
theorem dX11_request_18 : decode cX11_request 18 = .ok (.iload_n 2, 1) := by decide +kernel
theorem dX11_request_19 : decode cX11_request 19 = .ok (.iconst 0, 1) := by decide +kernel
theorem dX11_request_20 : decode cX11_request 20 = .ok (.sipush 253, 3) := by decide +kernel
theorem dX11_request_23 : decode cX11_request 23 = .ok (.invokestatic 175, 3) := by decide +kernel
theorem dX11_request_26 : decode cX11_request 26 = .ok (.ifCond .ne 12, 3) := by decide +kernel
theorem dX11_request_29 : decode cX11_request 29 = .ok (.iload_n 2, 1) := by decide +kernel
theorem dX11_request_30 : decode cX11_request 30 = .ok (.sipush 255, 3) := by decide +kernel
theorem dX11_request_33 : decode cX11_request 33 = .ok (.if_icmp .eq 5, 3) := by decide +kernel
theorem dX11_request_36 : decode cX11_request 36 = .ok (.iconst 0, 1) := by decide +kernel
theorem dX11_request_37 : decode cX11_request 37 = .ok (.ireturn, 1) := by decide +kernel
theorem dX11_request_38 : decode cX11_request 38 = .ok (.aload_n 0, 1) := by decide +kernel
theorem dX11_request_39 : decode cX11_request 39 = .ok (.iload_n 1, 1) := by decide +kernel
theorem dX11_request_40 : decode cX11_request 40 = .ok (.bipush 7, 2) := by decide +kernel
theorem dX11_request_42 : decode cX11_request 42 = .ok (.iconst 0, 1) := by decide +kernel
theorem dX11_request_43 : decode cX11_request 43 = .ok (.sipush 234, 3) := by decide +kernel
theorem dX11_request_46 : decode cX11_request 46 = .ok (.iload_n 2, 1) := by decide +kernel
theorem dX11_request_47 : decode cX11_request 47 = .ok (.aload_n 0, 1) := by decide +kernel
theorem dX11_request_48 : decode cX11_request 48 = .ok (.getfield 17, 3) := by decide +kernel
theorem dX11_request_51 : decode cX11_request 51 = .ok (.iload_n 1, 1) := by decide +kernel
theorem dX11_request_52 : decode cX11_request 52 = .ok (.iaload, 1) := by decide +kernel
theorem dX11_request_53 : decode cX11_request 53 = .ok (.invokestatic 186, 3) := by decide +kernel
theorem dX11_request_56 : decode cX11_request 56 = .ok (.iconst 0, 1) := by decide +kernel
theorem dX11_request_57 : decode cX11_request 57 = .ok (.sipush 238, 3) := by decide +kernel
theorem dX11_request_60 : decode cX11_request 60 = .ok (.iconst 0, 1) := by decide +kernel
theorem dX11_request_61 : decode cX11_request 61 = .ok (.sipush 255, 3) := by decide +kernel
theorem dX11_request_64 : decode cX11_request 64 = .ok (.invokestatic 190, 3) := by decide +kernel
theorem dX11_request_67 : decode cX11_request 67 = .ok (.iconst (-1), 1) := by decide +kernel
theorem dX11_request_68 : decode cX11_request 68 = .ok (.invokevirtual 193, 3) := by decide +kernel
theorem dX11_request_71 : decode cX11_request 71 = .ok (.iconst 1, 1) := by decide +kernel
theorem dX11_request_72 : decode cX11_request 72 = .ok (.ireturn, 1) := by decide +kernel
theorem dX11_canSend_0 : decode cX11_canSend 0 = .ok (.aload_n 0, 1) := by decide +kernel
theorem dX11_canSend_1 : decode cX11_canSend 1 = .ok (.iload_n 1, 1) := by decide +kernel
theorem dX11_canSend_2 : decode cX11_canSend 2 = .ok (.invokevirtual 203, 3) := by decide +kernel
theorem dX11_canSend_5 : decode cX11_canSend 5 = .ok (.ifCond .eq 27, 3) := by decide +kernel
theorem dX11_canSend_8 : decode cX11_canSend 8 = .ok (.aload_n 0, 1) := by decide +kernel
theorem dX11_canSend_9 : decode cX11_canSend 9 = .ok (.getfield 27, 3) := by decide +kernel
theorem dX11_canSend_12 : decode cX11_canSend 12 = .ok (.iload_n 1, 1) := by decide +kernel
theorem dX11_canSend_13 : decode cX11_canSend 13 = .ok (.iaload, 1) := by decide +kernel
theorem dX11_canSend_14 : decode cX11_canSend 14 = .ok (.iconst 2, 1) := by decide +kernel
theorem dX11_canSend_15 : decode cX11_canSend 15 = .ok (.if_icmp .ne 17, 3) := by decide +kernel
theorem dX11_canSend_18 : decode cX11_canSend 18 = .ok (.aload_n 0, 1) := by decide +kernel
theorem dX11_canSend_19 : decode cX11_canSend 19 = .ok (.getfield 65, 3) := by decide +kernel
theorem dX11_canSend_22 : decode cX11_canSend 22 = .ok (.iload_n 1, 1) := by decide +kernel
theorem dX11_canSend_23 : decode cX11_canSend 23 = .ok (.iaload, 1) := by decide +kernel
theorem dX11_canSend_24 : decode cX11_canSend 24 = .ok (.iconst 1, 1) := by decide +kernel
theorem dX11_canSend_25 : decode cX11_canSend 25 = .ok (.if_icmp .eq 7, 3) := by decide +kernel
theorem dX11_canSend_28 : decode cX11_canSend 28 = .ok (.iconst 1, 1) := by decide +kernel
theorem dX11_canSend_29 : decode cX11_canSend 29 = .ok (.goto 4, 3) := by decide +kernel
theorem dX11_canSend_32 : decode cX11_canSend 32 = .ok (.iconst 0, 1) := by decide +kernel
theorem dX11_canSend_33 : decode cX11_canSend 33 = .ok (.ireturn, 1) := by decide +kernel
theorem dX11_send_0 : decode cX11_send 0 = .ok (.aload_n 0, 1) := by decide +kernel
theorem dX11_send_1 : decode cX11_send 1 = .ok (.iload_n 1, 1) := by decide +kernel
theorem dX11_send_2 : decode cX11_send 2 = .ok (.invokevirtual 231, 3) := by decide +kernel
theorem dX11_send_5 : decode cX11_send 5 = .ok (.ifCond .eq 43, 3) := by decide +kernel
theorem dX11_send_8 : decode cX11_send 8 = .ok (.iload 4, 2) := by decide +kernel
theorem dX11_send_10 : decode cX11_send 10 = .ok (.iconst 1, 1) := by decide +kernel
theorem dX11_send_11 : decode cX11_send 11 = .ok (.sipush 1785, 3) := by decide +kernel
theorem dX11_send_14 : decode cX11_send 14 = .ok (.invokestatic 175, 3) := by decide +kernel
theorem dX11_send_17 : decode cX11_send 17 = .ok (.ifCond .eq 31, 3) := by decide +kernel
theorem dX11_send_20 : decode cX11_send 20 = .ok (.iload_n 3, 1) := by decide +kernel
theorem dX11_send_21 : decode cX11_send 21 = .ok (.iconst 0, 1) := by decide +kernel
theorem dX11_send_22 : decode cX11_send 22 = .ok (.ldc 234, 2) := by decide +kernel
theorem dX11_send_24 : decode cX11_send 24 = .ok (.invokestatic 175, 3) := by decide +kernel
theorem dX11_send_27 : decode cX11_send 27 = .ok (.ifCond .eq 21, 3) := by decide +kernel
theorem dX11_send_30 : decode cX11_send 30 = .ok (.iload_n 2, 1) := by decide +kernel
theorem dX11_send_31 : decode cX11_send 31 = .ok (.iconst 0, 1) := by decide +kernel
theorem dX11_send_32 : decode cX11_send 32 = .ok (.sipush 253, 3) := by decide +kernel
theorem dX11_send_35 : decode cX11_send 35 = .ok (.invokestatic 175, 3) := by decide +kernel
theorem dX11_send_38 : decode cX11_send 38 = .ok (.ifCond .ne 12, 3) := by decide +kernel
theorem dX11_send_41 : decode cX11_send 41 = .ok (.iload_n 2, 1) := by decide +kernel
theorem dX11_send_42 : decode cX11_send 42 = .ok (.sipush 255, 3) := by decide +kernel
theorem dX11_send_45 : decode cX11_send 45 = .ok (.if_icmp .eq 5, 3) := by decide +kernel
theorem dX11_send_48 : decode cX11_send 48 = .ok (.iconst 0, 1) := by decide +kernel
theorem dX11_send_49 : decode cX11_send 49 = .ok (.ireturn, 1) := by decide +kernel
theorem dX11_send_50 : decode cX11_send 50 = .ok (.iload_n 3, 1) := by decide +kernel
theorem dX11_send_51 : decode cX11_send 51 = .ok (.bipush 8, 2) := by decide +kernel
theorem dX11_send_53 : decode cX11_send 53 = .ok (.ishr, 1) := by decide +kernel
theorem dX11_send_54 : decode cX11_send 54 = .ok (.sipush 255, 3) := by decide +kernel
theorem dX11_send_57 : decode cX11_send 57 = .ok (.iand, 1) := by decide +kernel
theorem dX11_send_58 : decode cX11_send 58 = .ok (.istore 6, 2) := by decide +kernel
theorem dX11_send_60 : decode cX11_send 60 = .ok (.iload_n 3, 1) := by decide +kernel
theorem dX11_send_61 : decode cX11_send 61 = .ok (.bipush 16, 2) := by decide +kernel
theorem dX11_send_63 : decode cX11_send 63 = .ok (.ishr, 1) := by decide +kernel
theorem dX11_send_64 : decode cX11_send 64 = .ok (.ifCond .ne 29, 3) := by decide +kernel
theorem dX11_send_67 : decode cX11_send 67 = .ok (.iload 6, 2) := by decide +kernel
theorem dX11_send_69 : decode cX11_send 69 = .ok (.sipush 234, 3) := by decide +kernel
theorem dX11_send_72 : decode cX11_send 72 = .ok (.sipush 236, 3) := by decide +kernel
theorem dX11_send_75 : decode cX11_send 75 = .ok (.invokestatic 175, 3) := by decide +kernel
theorem dX11_send_78 : decode cX11_send 78 = .ok (.ifCond .ne 11, 3) := by decide +kernel
theorem dX11_send_81 : decode cX11_send 81 = .ok (.iload 6, 2) := by decide +kernel
theorem dX11_send_83 : decode cX11_send 83 = .ok (.sipush 238, 3) := by decide +kernel
theorem dX11_send_86 : decode cX11_send 86 = .ok (.if_icmp .ne 7, 3) := by decide +kernel
theorem dX11_send_89 : decode cX11_send 89 = .ok (.iconst 1, 1) := by decide +kernel
theorem dX11_send_90 : decode cX11_send 90 = .ok (.goto 4, 3) := by decide +kernel
theorem dX11_send_93 : decode cX11_send 93 = .ok (.iconst 0, 1) := by decide +kernel
theorem dX11_send_94 : decode cX11_send 94 = .ok (.istore 7, 2) := by decide +kernel
theorem dX11_send_96 : decode cX11_send 96 = .ok (.iload 6, 2) := by decide +kernel
theorem dX11_send_98 : decode cX11_send 98 = .ok (.sipush 240, 3) := by decide +kernel
theorem dX11_send_101 : decode cX11_send 101 = .ok (.if_icmp .ge 11, 3) := by decide +kernel
theorem dX11_send_104 : decode cX11_send 104 = .ok (.iload_n 3, 1) := by decide +kernel
theorem dX11_send_105 : decode cX11_send 105 = .ok (.sipush 255, 3) := by decide +kernel
theorem dX11_send_108 : decode cX11_send 108 = .ok (.iand, 1) := by decide +kernel
theorem dX11_send_109 : decode cX11_send 109 = .ok (.ifCond .ne 23, 3) := by decide +kernel
theorem dX11_send_112 : decode cX11_send 112 = .ok (.iload 7, 2) := by decide +kernel
theorem dX11_send_114 : decode cX11_send 114 = .ok (.ifCond .ne 18, 3) := by decide +kernel
theorem dX11_send_117 : decode cX11_send 117 = .ok (.iload 6, 2) := by decide +kernel
theorem dX11_send_119 : decode cX11_send 119 = .ok (.sipush 240, 3) := by decide +kernel
theorem dX11_send_122 : decode cX11_send 122 = .ok (.if_icmp .lt 12, 3) := by decide +kernel
theorem dX11_send_125 : decode cX11_send 125 = .ok (.iload_n 2, 1) := by decide +kernel
theorem dX11_send_126 : decode cX11_send 126 = .ok (.sipush 255, 3) := by decide +kernel
theorem dX11_send_129 : decode cX11_send 129 = .ok (.if_icmp .eq 5, 3) := by decide +kernel
theorem dX11_send_132 : decode cX11_send 132 = .ok (.iconst 0, 1) := by decide +kernel
theorem dX11_send_133 : decode cX11_send 133 = .ok (.ireturn, 1) := by decide +kernel
theorem dX11_send_134 : decode cX11_send 134 = .ok (.iconst 0, 1) := by decide +kernel
theorem dX11_send_135 : decode cX11_send 135 = .ok (.istore 8, 2) := by decide +kernel
theorem dX11_send_137 : decode cX11_send 137 = .ok (.iload 8, 2) := by decide +kernel
theorem dX11_send_139 : decode cX11_send 139 = .ok (.iload 4, 2) := by decide +kernel
theorem dX11_send_141 : decode cX11_send 141 = .ok (.if_icmp .ge 41, 3) := by decide +kernel
theorem dX11_send_144 : decode cX11_send 144 = .ok (.aload_n 0, 1) := by decide +kernel
theorem dX11_send_145 : decode cX11_send 145 = .ok (.getfield 83, 3) := by decide +kernel
theorem dX11_send_148 : decode cX11_send 148 = .ok (.sipush 1785, 3) := by decide +kernel
theorem dX11_send_151 : decode cX11_send 151 = .ok (.iload_n 1, 1) := by decide +kernel
theorem dX11_send_152 : decode cX11_send 152 = .ok (.imul, 1) := by decide +kernel
theorem dX11_send_153 : decode cX11_send 153 = .ok (.iload 8, 2) := by decide +kernel
theorem dX11_send_155 : decode cX11_send 155 = .ok (.iadd, 1) := by decide +kernel
theorem dX11_send_156 : decode cX11_send 156 = .ok (.iload 5, 2) := by decide +kernel
theorem dX11_send_158 : decode cX11_send 158 = .ok (.iload 8, 2) := by decide +kernel
theorem dX11_send_160 : decode cX11_send 160 = .ok (.iload 8, 2) := by decide +kernel
theorem dX11_send_162 : decode cX11_send 162 = .ok (.imul, 1) := by decide +kernel
theorem dX11_send_163 : decode cX11_send 163 = .ok (.iadd, 1) := by decide +kernel
theorem dX11_send_164 : decode cX11_send 164 = .ok (.iload 8, 2) := by decide +kernel
theorem dX11_send_166 : decode cX11_send 166 = .ok (.sipush 256, 3) := by decide +kernel
theorem dX11_send_169 : decode cX11_send 169 = .ok (.idiv, 1) := by decide +kernel
theorem dX11_send_170 : decode cX11_send 170 = .ok (.iadd, 1) := by decide +kernel
theorem dX11_send_171 : decode cX11_send 171 = .ok (.sipush 255, 3) := by decide +kernel
theorem dX11_send_174 : decode cX11_send 174 = .ok (.iand, 1) := by decide +kernel
theorem dX11_send_175 : decode cX11_send 175 = .ok (.iastore, 1) := by decide +kernel
theorem dX11_send_176 : decode cX11_send 176 = .ok (.iinc 8 1, 3) := by decide +kernel
theorem dX11_send_179 : decode cX11_send 179 = .ok (.goto (-42), 3) := by decide +kernel
theorem dX11_send_182 : decode cX11_send 182 = .ok (.aload_n 0, 1) := by decide +kernel
theorem dX11_send_183 : decode cX11_send 183 = .ok (.iload_n 1, 1) := by decide +kernel
theorem dX11_send_184 : decode cX11_send 184 = .ok (.iload_n 2, 1) := by decide +kernel
theorem dX11_send_185 : decode cX11_send 185 = .ok (.iload_n 3, 1) := by decide +kernel
theorem dX11_send_186 : decode cX11_send 186 = .ok (.iload 4, 2) := by decide +kernel
theorem dX11_send_188 : decode cX11_send 188 = .ok (.iload 5, 2) := by decide +kernel
theorem dX11_send_190 : decode cX11_send 190 = .ok (.iconst (-1), 1) := by decide +kernel
theorem dX11_send_191 : decode cX11_send 191 = .ok (.invokevirtual 235, 3) := by decide +kernel
theorem dX11_send_194 : decode cX11_send 194 = .ok (.iconst 1, 1) := by decide +kernel
theorem dX11_send_195 : decode cX11_send 195 = .ok (.ireturn, 1) := by decide +kernel
theorem dX11_trouble_0 : decode cX11_trouble 0 = .ok (.aload_n 0, 1) := by decide +kernel
theorem dX11_trouble_1 : decode cX11_trouble 1 = .ok (.iload_n 1, 1) := by decide +kernel
theorem dX11_trouble_2 : decode cX11_trouble 2 = .ok (.invokevirtual 203, 3) := by decide +kernel
theorem dX11_trouble_5 : decode cX11_trouble 5 = .ok (.ifCond .eq 45, 3) := by decide +kernel
theorem dX11_trouble_8 : decode cX11_trouble 8 = .ok (.iload_n 2, 1) := by decide +kernel
theorem dX11_trouble_9 : decode cX11_trouble 9 = .ok (.iconst 0, 1) := by decide +kernel
theorem dX11_trouble_10 : decode cX11_trouble 10 = .ok (.ldc 239, 2) := by decide +kernel
theorem dX11_trouble_12 : decode cX11_trouble 12 = .ok (.invokestatic 175, 3) := by decide +kernel
theorem dX11_trouble_15 : decode cX11_trouble 15 = .ok (.ifCond .eq 35, 3) := by decide +kernel
theorem dX11_trouble_18 : decode cX11_trouble 18 = .ok (.iload_n 3, 1) := by decide +kernel
theorem dX11_trouble_19 : decode cX11_trouble 19 = .ok (.iconst 0, 1) := by decide +kernel
theorem dX11_trouble_20 : decode cX11_trouble 20 = .ok (.bipush 31, 2) := by decide +kernel
theorem dX11_trouble_22 : decode cX11_trouble 22 = .ok (.invokestatic 175, 3) := by decide +kernel
theorem dX11_trouble_25 : decode cX11_trouble 25 = .ok (.ifCond .eq 25, 3) := by decide +kernel
theorem dX11_trouble_28 : decode cX11_trouble 28 = .ok (.iload 4, 2) := by decide +kernel
theorem dX11_trouble_30 : decode cX11_trouble 30 = .ok (.iconst 0, 1) := by decide +kernel
theorem dX11_trouble_31 : decode cX11_trouble 31 = .ok (.bipush 127, 2) := by decide +kernel
theorem dX11_trouble_33 : decode cX11_trouble 33 = .ok (.invokestatic 175, 3) := by decide +kernel
theorem dX11_trouble_36 : decode cX11_trouble 36 = .ok (.ifCond .eq 14, 3) := by decide +kernel
theorem dX11_trouble_39 : decode cX11_trouble 39 = .ok (.aload_n 0, 1) := by decide +kernel
theorem dX11_trouble_40 : decode cX11_trouble 40 = .ok (.getfield 132, 3) := by decide +kernel
theorem dX11_trouble_43 : decode cX11_trouble 43 = .ok (.iload_n 1, 1) := by decide +kernel
theorem dX11_trouble_44 : decode cX11_trouble 44 = .ok (.iaload, 1) := by decide +kernel
theorem dX11_trouble_45 : decode cX11_trouble 45 = .ok (.bipush 10, 2) := by decide +kernel
theorem dX11_trouble_47 : decode cX11_trouble 47 = .ok (.if_icmp .ne 5, 3) := by decide +kernel
theorem dX11_trouble_50 : decode cX11_trouble 50 = .ok (.iconst (-1), 1) := by decide +kernel
theorem dX11_trouble_51 : decode cX11_trouble 51 = .ok (.ireturn, 1) := by decide +kernel
theorem dX11_trouble_52 : decode cX11_trouble 52 = .ok (.iconst 3, 1) := by decide +kernel
theorem dX11_trouble_53 : decode cX11_trouble 53 = .ok (.bipush 10, 2) := by decide +kernel
theorem dX11_trouble_55 : decode cX11_trouble 55 = .ok (.iload_n 1, 1) := by decide +kernel
theorem dX11_trouble_56 : decode cX11_trouble 56 = .ok (.imul, 1) := by decide +kernel
theorem dX11_trouble_57 : decode cX11_trouble 57 = .ok (.aload_n 0, 1) := by decide +kernel
theorem dX11_trouble_58 : decode cX11_trouble 58 = .ok (.getfield 132, 3) := by decide +kernel
theorem dX11_trouble_61 : decode cX11_trouble 61 = .ok (.iload_n 1, 1) := by decide +kernel
theorem dX11_trouble_62 : decode cX11_trouble 62 = .ok (.iaload, 1) := by decide +kernel
theorem dX11_trouble_63 : decode cX11_trouble 63 = .ok (.iadd, 1) := by decide +kernel
theorem dX11_trouble_64 : decode cX11_trouble 64 = .ok (.imul, 1) := by decide +kernel
theorem dX11_trouble_65 : decode cX11_trouble 65 = .ok (.istore 5, 2) := by decide +kernel
theorem dX11_trouble_67 : decode cX11_trouble 67 = .ok (.aload_n 0, 1) := by decide +kernel
theorem dX11_trouble_68 : decode cX11_trouble 68 = .ok (.getfield 135, 3) := by decide +kernel
theorem dX11_trouble_71 : decode cX11_trouble 71 = .ok (.iload 5, 2) := by decide +kernel
theorem dX11_trouble_73 : decode cX11_trouble 73 = .ok (.iload_n 2, 1) := by decide +kernel
theorem dX11_trouble_74 : decode cX11_trouble 74 = .ok (.iastore, 1) := by decide +kernel
theorem dX11_trouble_75 : decode cX11_trouble 75 = .ok (.aload_n 0, 1) := by decide +kernel
theorem dX11_trouble_76 : decode cX11_trouble 76 = .ok (.getfield 135, 3) := by decide +kernel
theorem dX11_trouble_79 : decode cX11_trouble 79 = .ok (.iload 5, 2) := by decide +kernel
theorem dX11_trouble_81 : decode cX11_trouble 81 = .ok (.iconst 1, 1) := by decide +kernel
theorem dX11_trouble_82 : decode cX11_trouble 82 = .ok (.iadd, 1) := by decide +kernel
theorem dX11_trouble_83 : decode cX11_trouble 83 = .ok (.iload_n 3, 1) := by decide +kernel
theorem dX11_trouble_84 : decode cX11_trouble 84 = .ok (.iastore, 1) := by decide +kernel
theorem dX11_trouble_85 : decode cX11_trouble 85 = .ok (.aload_n 0, 1) := by decide +kernel
theorem dX11_trouble_86 : decode cX11_trouble 86 = .ok (.getfield 135, 3) := by decide +kernel
theorem dX11_trouble_89 : decode cX11_trouble 89 = .ok (.iload 5, 2) := by decide +kernel
theorem dX11_trouble_91 : decode cX11_trouble 91 = .ok (.iconst 2, 1) := by decide +kernel
theorem dX11_trouble_92 : decode cX11_trouble 92 = .ok (.iadd, 1) := by decide +kernel
theorem dX11_trouble_93 : decode cX11_trouble 93 = .ok (.iload 4, 2) := by decide +kernel
theorem dX11_trouble_95 : decode cX11_trouble 95 = .ok (.iastore, 1) := by decide +kernel
theorem dX11_trouble_96 : decode cX11_trouble 96 = .ok (.aload_n 0, 1) := by decide +kernel
theorem dX11_trouble_97 : decode cX11_trouble 97 = .ok (.getfield 132, 3) := by decide +kernel
theorem dX11_trouble_100 : decode cX11_trouble 100 = .ok (.iload_n 1, 1) := by decide +kernel
theorem dX11_trouble_101 : decode cX11_trouble 101 = .ok (.dup2, 1) := by decide +kernel
theorem dX11_trouble_102 : decode cX11_trouble 102 = .ok (.iaload, 1) := by decide +kernel
theorem dX11_trouble_103 : decode cX11_trouble 103 = .ok (.iconst 1, 1) := by decide +kernel
theorem dX11_trouble_104 : decode cX11_trouble 104 = .ok (.iadd, 1) := by decide +kernel
theorem dX11_trouble_105 : decode cX11_trouble 105 = .ok (.iastore, 1) := by decide +kernel
theorem dX11_trouble_106 : decode cX11_trouble 106 = .ok (.aload_n 0, 1) := by decide +kernel
theorem dX11_trouble_107 : decode cX11_trouble 107 = .ok (.getfield 132, 3) := by decide +kernel
theorem dX11_trouble_110 : decode cX11_trouble 110 = .ok (.iload_n 1, 1) := by decide +kernel
theorem dX11_trouble_111 : decode cX11_trouble 111 = .ok (.iaload, 1) := by decide +kernel
theorem dX11_trouble_112 : decode cX11_trouble 112 = .ok (.ireturn, 1) := by decide +kernel
theorem dX11_tell_0 : decode cX11_tell 0 = .ok (.aload_n 0, 1) := by decide +kernel
theorem dX11_tell_1 : decode cX11_tell 1 = .ok (.iload_n 1, 1) := by decide +kernel
theorem dX11_tell_2 : decode cX11_tell 2 = .ok (.invokevirtual 231, 3) := by decide +kernel
theorem dX11_tell_5 : decode cX11_tell 5 = .ok (.ifCond .ne 5, 3) := by decide +kernel
theorem dX11_tell_8 : decode cX11_tell 8 = .ok (.iconst 0, 1) := by decide +kernel
theorem dX11_tell_9 : decode cX11_tell 9 = .ok (.ireturn, 1) := by decide +kernel
theorem dX11_tell_10 : decode cX11_tell 10 = .ok (.sipush 1785, 3) := by decide +kernel
theorem dX11_tell_13 : decode cX11_tell 13 = .ok (.iload_n 1, 1) := by decide +kernel
theorem dX11_tell_14 : decode cX11_tell 14 = .ok (.imul, 1) := by decide +kernel
theorem dX11_tell_15 : decode cX11_tell 15 = .ok (.istore_n 2, 1) := by decide +kernel
theorem dX11_tell_16 : decode cX11_tell 16 = .ok (.aload_n 0, 1) := by decide +kernel
theorem dX11_tell_17 : decode cX11_tell 17 = .ok (.getfield 83, 3) := by decide +kernel
theorem dX11_tell_20 : decode cX11_tell 20 = .ok (.iload_n 2, 1) := by decide +kernel
theorem dX11_tell_21 : decode cX11_tell 21 = .ok (.aload_n 0, 1) := by decide +kernel
theorem dX11_tell_22 : decode cX11_tell 22 = .ok (.getfield 132, 3) := by decide +kernel
theorem dX11_tell_25 : decode cX11_tell 25 = .ok (.iload_n 1, 1) := by decide +kernel
theorem dX11_tell_26 : decode cX11_tell 26 = .ok (.iaload, 1) := by decide +kernel
theorem dX11_tell_27 : decode cX11_tell 27 = .ok (.ifCond .le 8, 3) := by decide +kernel
theorem dX11_tell_30 : decode cX11_tell 30 = .ok (.bipush 64, 2) := by decide +kernel
theorem dX11_tell_32 : decode cX11_tell 32 = .ok (.goto 4, 3) := by decide +kernel
theorem dX11_tell_35 : decode cX11_tell 35 = .ok (.iconst 0, 1) := by decide +kernel
theorem dX11_tell_36 : decode cX11_tell 36 = .ok (.iastore, 1) := by decide +kernel
theorem dX11_tell_37 : decode cX11_tell 37 = .ok (.aload_n 0, 1) := by decide +kernel
theorem dX11_tell_38 : decode cX11_tell 38 = .ok (.getfield 83, 3) := by decide +kernel
theorem dX11_tell_41 : decode cX11_tell 41 = .ok (.iload_n 2, 1) := by decide +kernel
theorem dX11_tell_42 : decode cX11_tell 42 = .ok (.iconst 1, 1) := by decide +kernel
theorem dX11_tell_43 : decode cX11_tell 43 = .ok (.iadd, 1) := by decide +kernel
theorem dX11_tell_44 : decode cX11_tell 44 = .ok (.sipush 255, 3) := by decide +kernel
theorem dX11_tell_47 : decode cX11_tell 47 = .ok (.iastore, 1) := by decide +kernel
theorem dX11_tell_48 : decode cX11_tell 48 = .ok (.iconst 0, 1) := by decide +kernel
theorem dX11_tell_49 : decode cX11_tell 49 = .ok (.istore_n 3, 1) := by decide +kernel
theorem dX11_tell_50 : decode cX11_tell 50 = .ok (.iload_n 3, 1) := by decide +kernel
theorem dX11_tell_51 : decode cX11_tell 51 = .ok (.aload_n 0, 1) := by decide +kernel
theorem dX11_tell_52 : decode cX11_tell 52 = .ok (.getfield 132, 3) := by decide +kernel
theorem dX11_tell_55 : decode cX11_tell 55 = .ok (.iload_n 1, 1) := by decide +kernel
theorem dX11_tell_56 : decode cX11_tell 56 = .ok (.iaload, 1) := by decide +kernel
theorem dX11_tell_57 : decode cX11_tell 57 = .ok (.if_icmp .ge 123, 3) := by decide +kernel
theorem dX11_tell_60 : decode cX11_tell 60 = .ok (.iconst 3, 1) := by decide +kernel
theorem dX11_tell_61 : decode cX11_tell 61 = .ok (.bipush 10, 2) := by decide +kernel
theorem dX11_tell_63 : decode cX11_tell 63 = .ok (.iload_n 1, 1) := by decide +kernel
theorem dX11_tell_64 : decode cX11_tell 64 = .ok (.imul, 1) := by decide +kernel
theorem dX11_tell_65 : decode cX11_tell 65 = .ok (.iload_n 3, 1) := by decide +kernel
theorem dX11_tell_66 : decode cX11_tell 66 = .ok (.iadd, 1) := by decide +kernel
theorem dX11_tell_67 : decode cX11_tell 67 = .ok (.imul, 1) := by decide +kernel
theorem dX11_tell_68 : decode cX11_tell 68 = .ok (.istore 4, 2) := by decide +kernel
theorem dX11_tell_70 : decode cX11_tell 70 = .ok (.aload_n 0, 1) := by decide +kernel
theorem dX11_tell_71 : decode cX11_tell 71 = .ok (.getfield 83, 3) := by decide +kernel
theorem dX11_tell_74 : decode cX11_tell 74 = .ok (.iload_n 2, 1) := by decide +kernel
theorem dX11_tell_75 : decode cX11_tell 75 = .ok (.iconst 2, 1) := by decide +kernel
theorem dX11_tell_76 : decode cX11_tell 76 = .ok (.iadd, 1) := by decide +kernel
theorem dX11_tell_77 : decode cX11_tell 77 = .ok (.iconst 4, 1) := by decide +kernel
theorem dX11_tell_78 : decode cX11_tell 78 = .ok (.iload_n 3, 1) := by decide +kernel
theorem dX11_tell_79 : decode cX11_tell 79 = .ok (.imul, 1) := by decide +kernel
theorem dX11_tell_80 : decode cX11_tell 80 = .ok (.iadd, 1) := by decide +kernel
theorem dX11_tell_81 : decode cX11_tell 81 = .ok (.aload_n 0, 1) := by decide +kernel
theorem dX11_tell_82 : decode cX11_tell 82 = .ok (.getfield 135, 3) := by decide +kernel
theorem dX11_tell_85 : decode cX11_tell 85 = .ok (.iload 4, 2) := by decide +kernel
theorem dX11_tell_87 : decode cX11_tell 87 = .ok (.iaload, 1) := by decide +kernel
theorem dX11_tell_88 : decode cX11_tell 88 = .ok (.sipush 255, 3) := by decide +kernel
theorem dX11_tell_91 : decode cX11_tell 91 = .ok (.iand, 1) := by decide +kernel
theorem dX11_tell_92 : decode cX11_tell 92 = .ok (.iastore, 1) := by decide +kernel
theorem dX11_tell_93 : decode cX11_tell 93 = .ok (.aload_n 0, 1) := by decide +kernel
theorem dX11_tell_94 : decode cX11_tell 94 = .ok (.getfield 83, 3) := by decide +kernel
theorem dX11_tell_97 : decode cX11_tell 97 = .ok (.iload_n 2, 1) := by decide +kernel
theorem dX11_tell_98 : decode cX11_tell 98 = .ok (.iconst 3, 1) := by decide +kernel
theorem dX11_tell_99 : decode cX11_tell 99 = .ok (.iadd, 1) := by decide +kernel
theorem dX11_tell_100 : decode cX11_tell 100 = .ok (.iconst 4, 1) := by decide +kernel
theorem dX11_tell_101 : decode cX11_tell 101 = .ok (.iload_n 3, 1) := by decide +kernel
theorem dX11_tell_102 : decode cX11_tell 102 = .ok (.imul, 1) := by decide +kernel
theorem dX11_tell_103 : decode cX11_tell 103 = .ok (.iadd, 1) := by decide +kernel
theorem dX11_tell_104 : decode cX11_tell 104 = .ok (.aload_n 0, 1) := by decide +kernel
theorem dX11_tell_105 : decode cX11_tell 105 = .ok (.getfield 135, 3) := by decide +kernel
theorem dX11_tell_108 : decode cX11_tell 108 = .ok (.iload 4, 2) := by decide +kernel
theorem dX11_tell_110 : decode cX11_tell 110 = .ok (.iaload, 1) := by decide +kernel
theorem dX11_tell_111 : decode cX11_tell 111 = .ok (.bipush 8, 2) := by decide +kernel
theorem dX11_tell_113 : decode cX11_tell 113 = .ok (.ishr, 1) := by decide +kernel
theorem dX11_tell_114 : decode cX11_tell 114 = .ok (.sipush 255, 3) := by decide +kernel
theorem dX11_tell_117 : decode cX11_tell 117 = .ok (.iand, 1) := by decide +kernel
theorem dX11_tell_118 : decode cX11_tell 118 = .ok (.iastore, 1) := by decide +kernel
theorem dX11_tell_119 : decode cX11_tell 119 = .ok (.aload_n 0, 1) := by decide +kernel
theorem dX11_tell_120 : decode cX11_tell 120 = .ok (.getfield 83, 3) := by decide +kernel
theorem dX11_tell_123 : decode cX11_tell 123 = .ok (.iload_n 2, 1) := by decide +kernel
theorem dX11_tell_124 : decode cX11_tell 124 = .ok (.iconst 4, 1) := by decide +kernel
theorem dX11_tell_125 : decode cX11_tell 125 = .ok (.iadd, 1) := by decide +kernel
theorem dX11_tell_126 : decode cX11_tell 126 = .ok (.iconst 4, 1) := by decide +kernel
theorem dX11_tell_127 : decode cX11_tell 127 = .ok (.iload_n 3, 1) := by decide +kernel
theorem dX11_tell_128 : decode cX11_tell 128 = .ok (.imul, 1) := by decide +kernel
theorem dX11_tell_129 : decode cX11_tell 129 = .ok (.iadd, 1) := by decide +kernel
theorem dX11_tell_130 : decode cX11_tell 130 = .ok (.aload_n 0, 1) := by decide +kernel
theorem dX11_tell_131 : decode cX11_tell 131 = .ok (.getfield 135, 3) := by decide +kernel
theorem dX11_tell_134 : decode cX11_tell 134 = .ok (.iload 4, 2) := by decide +kernel
theorem dX11_tell_136 : decode cX11_tell 136 = .ok (.iaload, 1) := by decide +kernel
theorem dX11_tell_137 : decode cX11_tell 137 = .ok (.bipush 16, 2) := by decide +kernel
theorem dX11_tell_139 : decode cX11_tell 139 = .ok (.ishr, 1) := by decide +kernel
theorem dX11_tell_140 : decode cX11_tell 140 = .ok (.iconst 5, 1) := by decide +kernel
theorem dX11_tell_141 : decode cX11_tell 141 = .ok (.ishl, 1) := by decide +kernel
theorem dX11_tell_142 : decode cX11_tell 142 = .ok (.aload_n 0, 1) := by decide +kernel
theorem dX11_tell_143 : decode cX11_tell 143 = .ok (.getfield 135, 3) := by decide +kernel
theorem dX11_tell_146 : decode cX11_tell 146 = .ok (.iload 4, 2) := by decide +kernel
theorem dX11_tell_148 : decode cX11_tell 148 = .ok (.iconst 1, 1) := by decide +kernel
theorem dX11_tell_149 : decode cX11_tell 149 = .ok (.iadd, 1) := by decide +kernel
theorem dX11_tell_150 : decode cX11_tell 150 = .ok (.iaload, 1) := by decide +kernel
theorem dX11_tell_151 : decode cX11_tell 151 = .ok (.ior, 1) := by decide +kernel
theorem dX11_tell_152 : decode cX11_tell 152 = .ok (.iastore, 1) := by decide +kernel
theorem dX11_tell_153 : decode cX11_tell 153 = .ok (.aload_n 0, 1) := by decide +kernel
theorem dX11_tell_154 : decode cX11_tell 154 = .ok (.getfield 83, 3) := by decide +kernel
theorem dX11_tell_157 : decode cX11_tell 157 = .ok (.iload_n 2, 1) := by decide +kernel
theorem dX11_tell_158 : decode cX11_tell 158 = .ok (.iconst 5, 1) := by decide +kernel
theorem dX11_tell_159 : decode cX11_tell 159 = .ok (.iadd, 1) := by decide +kernel
theorem dX11_tell_160 : decode cX11_tell 160 = .ok (.iconst 4, 1) := by decide +kernel
theorem dX11_tell_161 : decode cX11_tell 161 = .ok (.iload_n 3, 1) := by decide +kernel
theorem dX11_tell_162 : decode cX11_tell 162 = .ok (.imul, 1) := by decide +kernel
theorem dX11_tell_163 : decode cX11_tell 163 = .ok (.iadd, 1) := by decide +kernel
theorem dX11_tell_164 : decode cX11_tell 164 = .ok (.aload_n 0, 1) := by decide +kernel
theorem dX11_tell_165 : decode cX11_tell 165 = .ok (.getfield 135, 3) := by decide +kernel
theorem dX11_tell_168 : decode cX11_tell 168 = .ok (.iload 4, 2) := by decide +kernel
theorem dX11_tell_170 : decode cX11_tell 170 = .ok (.iconst 2, 1) := by decide +kernel
theorem dX11_tell_171 : decode cX11_tell 171 = .ok (.iadd, 1) := by decide +kernel
theorem dX11_tell_172 : decode cX11_tell 172 = .ok (.iaload, 1) := by decide +kernel
theorem dX11_tell_173 : decode cX11_tell 173 = .ok (.iastore, 1) := by decide +kernel
theorem dX11_tell_174 : decode cX11_tell 174 = .ok (.iinc 3 1, 3) := by decide +kernel
theorem dX11_tell_177 : decode cX11_tell 177 = .ok (.goto (-127), 3) := by decide +kernel
theorem dX11_tell_180 : decode cX11_tell 180 = .ok (.aload_n 0, 1) := by decide +kernel
theorem dX11_tell_181 : decode cX11_tell 181 = .ok (.iload_n 1, 1) := by decide +kernel
theorem dX11_tell_182 : decode cX11_tell 182 = .ok (.sipush 255, 3) := by decide +kernel
theorem dX11_tell_185 : decode cX11_tell 185 = .ok (.ldc 240, 2) := by decide +kernel
theorem dX11_tell_187 : decode cX11_tell 187 = .ok (.iconst 2, 1) := by decide +kernel
theorem dX11_tell_188 : decode cX11_tell 188 = .ok (.iconst 4, 1) := by decide +kernel
theorem dX11_tell_189 : decode cX11_tell 189 = .ok (.aload_n 0, 1) := by decide +kernel
theorem dX11_tell_190 : decode cX11_tell 190 = .ok (.getfield 132, 3) := by decide +kernel
theorem dX11_tell_193 : decode cX11_tell 193 = .ok (.iload_n 1, 1) := by decide +kernel
theorem dX11_tell_194 : decode cX11_tell 194 = .ok (.iaload, 1) := by decide +kernel
theorem dX11_tell_195 : decode cX11_tell 195 = .ok (.imul, 1) := by decide +kernel
theorem dX11_tell_196 : decode cX11_tell 196 = .ok (.iadd, 1) := by decide +kernel
theorem dX11_tell_197 : decode cX11_tell 197 = .ok (.iconst 0, 1) := by decide +kernel
theorem dX11_tell_198 : decode cX11_tell 198 = .ok (.aload_n 0, 1) := by decide +kernel
theorem dX11_tell_199 : decode cX11_tell 199 = .ok (.getfield 132, 3) := by decide +kernel
theorem dX11_tell_202 : decode cX11_tell 202 = .ok (.iload_n 1, 1) := by decide +kernel
theorem dX11_tell_203 : decode cX11_tell 203 = .ok (.iaload, 1) := by decide +kernel
theorem dX11_tell_204 : decode cX11_tell 204 = .ok (.invokevirtual 235, 3) := by decide +kernel
theorem dX11_tell_207 : decode cX11_tell 207 = .ok (.iconst 1, 1) := by decide +kernel
theorem dX11_tell_208 : decode cX11_tell 208 = .ok (.ireturn, 1) := by decide +kernel
theorem dX11_lose_0 : decode cX11_lose 0 = .ok (.aload_n 0, 1) := by decide +kernel
theorem dX11_lose_1 : decode cX11_lose 1 = .ok (.iload_n 1, 1) := by decide +kernel
theorem dX11_lose_2 : decode cX11_lose 2 = .ok (.invokevirtual 203, 3) := by decide +kernel
theorem dX11_lose_5 : decode cX11_lose 5 = .ok (.ifCond .eq 13, 3) := by decide +kernel
theorem dX11_lose_8 : decode cX11_lose 8 = .ok (.iload_n 2, 1) := by decide +kernel
theorem dX11_lose_9 : decode cX11_lose 9 = .ok (.iconst 0, 1) := by decide +kernel
theorem dX11_lose_10 : decode cX11_lose 10 = .ok (.bipush 50, 2) := by decide +kernel
theorem dX11_lose_12 : decode cX11_lose 12 = .ok (.invokestatic 175, 3) := by decide +kernel
theorem dX11_lose_15 : decode cX11_lose 15 = .ok (.ifCond .ne 5, 3) := by decide +kernel
theorem dX11_lose_18 : decode cX11_lose 18 = .ok (.iconst 0, 1) := by decide +kernel
theorem dX11_lose_19 : decode cX11_lose 19 = .ok (.ireturn, 1) := by decide +kernel
theorem dX11_lose_20 : decode cX11_lose 20 = .ok (.aload_n 0, 1) := by decide +kernel
theorem dX11_lose_21 : decode cX11_lose 21 = .ok (.getfield 126, 3) := by decide +kernel
theorem dX11_lose_24 : decode cX11_lose 24 = .ok (.iload_n 1, 1) := by decide +kernel
theorem dX11_lose_25 : decode cX11_lose 25 = .ok (.iload_n 2, 1) := by decide +kernel
theorem dX11_lose_26 : decode cX11_lose 26 = .ok (.iastore, 1) := by decide +kernel
theorem dX11_lose_27 : decode cX11_lose 27 = .ok (.iconst 1, 1) := by decide +kernel
theorem dX11_lose_28 : decode cX11_lose 28 = .ok (.ireturn, 1) := by decide +kernel
theorem dX11_carry_0 : decode cX11_carry 0 = .ok (.iconst (-1), 1) := by decide +kernel
theorem dX11_carry_1 : decode cX11_carry 1 = .ok (.istore_n 1, 1) := by decide +kernel
theorem dX11_carry_2 : decode cX11_carry 2 = .ok (.iconst 0, 1) := by decide +kernel
theorem dX11_carry_3 : decode cX11_carry 3 = .ok (.istore_n 2, 1) := by decide +kernel
theorem dX11_carry_4 : decode cX11_carry 4 = .ok (.iload_n 2, 1) := by decide +kernel
theorem dX11_carry_5 : decode cX11_carry 5 = .ok (.aload_n 0, 1) := by decide +kernel
theorem dX11_carry_6 : decode cX11_carry 6 = .ok (.getfield 172, 3) := by decide +kernel
theorem dX11_carry_9 : decode cX11_carry 9 = .ok (.if_icmp .ge 34, 3) := by decide +kernel
theorem dX11_carry_12 : decode cX11_carry 12 = .ok (.aload_n 0, 1) := by decide +kernel
theorem dX11_carry_13 : decode cX11_carry 13 = .ok (.getfield 42, 3) := by decide +kernel
theorem dX11_carry_16 : decode cX11_carry 16 = .ok (.iload_n 2, 1) := by decide +kernel
theorem dX11_carry_17 : decode cX11_carry 17 = .ok (.iaload, 1) := by decide +kernel
theorem dX11_carry_18 : decode cX11_carry 18 = .ok (.ifCond .le 19, 3) := by decide +kernel
theorem dX11_carry_21 : decode cX11_carry 21 = .ok (.iload_n 1, 1) := by decide +kernel
theorem dX11_carry_22 : decode cX11_carry 22 = .ok (.iconst (-1), 1) := by decide +kernel
theorem dX11_carry_23 : decode cX11_carry 23 = .ok (.if_icmp .eq 12, 3) := by decide +kernel
theorem dX11_carry_26 : decode cX11_carry 26 = .ok (.aload_n 0, 1) := by decide +kernel
theorem dX11_carry_27 : decode cX11_carry 27 = .ok (.iload_n 2, 1) := by decide +kernel
theorem dX11_carry_28 : decode cX11_carry 28 = .ok (.iload_n 1, 1) := by decide +kernel
theorem dX11_carry_29 : decode cX11_carry 29 = .ok (.invokevirtual 314, 3) := by decide +kernel
theorem dX11_carry_32 : decode cX11_carry 32 = .ok (.ifCond .eq 5, 3) := by decide +kernel
theorem dX11_carry_35 : decode cX11_carry 35 = .ok (.iload_n 2, 1) := by decide +kernel
theorem dX11_carry_36 : decode cX11_carry 36 = .ok (.istore_n 1, 1) := by decide +kernel
theorem dX11_carry_37 : decode cX11_carry 37 = .ok (.iinc 2 1, 3) := by decide +kernel
theorem dX11_carry_40 : decode cX11_carry 40 = .ok (.goto (-36), 3) := by decide +kernel
theorem dX11_carry_43 : decode cX11_carry 43 = .ok (.iload_n 1, 1) := by decide +kernel
theorem dX11_carry_44 : decode cX11_carry 44 = .ok (.iconst (-1), 1) := by decide +kernel
theorem dX11_carry_45 : decode cX11_carry 45 = .ok (.if_icmp .ne 4, 3) := by decide +kernel
theorem dX11_carry_48 : decode cX11_carry 48 = .ok (.return_, 1) := by decide +kernel
theorem dX11_carry_49 : decode cX11_carry 49 = .ok (.aload_n 0, 1) := by decide +kernel
theorem dX11_carry_50 : decode cX11_carry 50 = .ok (.getfield 36, 3) := by decide +kernel
theorem dX11_carry_53 : decode cX11_carry 53 = .ok (.iload_n 1, 1) := by decide +kernel
theorem dX11_carry_54 : decode cX11_carry 54 = .ok (.iaload, 1) := by decide +kernel
theorem dX11_carry_55 : decode cX11_carry 55 = .ok (.istore_n 2, 1) := by decide +kernel
theorem dX11_carry_56 : decode cX11_carry 56 = .ok (.aload_n 0, 1) := by decide +kernel
theorem dX11_carry_57 : decode cX11_carry 57 = .ok (.aload_n 0, 1) := by decide +kernel
theorem dX11_carry_58 : decode cX11_carry 58 = .ok (.getfield 46, 3) := by decide +kernel
theorem dX11_carry_61 : decode cX11_carry 61 = .ok (.iload_n 2, 1) := by decide +kernel
theorem dX11_carry_62 : decode cX11_carry 62 = .ok (.iaload, 1) := by decide +kernel
theorem dX11_carry_63 : decode cX11_carry 63 = .ok (.putfield 318, 3) := by decide +kernel
theorem dX11_carry_66 : decode cX11_carry 66 = .ok (.aload_n 0, 1) := by decide +kernel
theorem dX11_carry_67 : decode cX11_carry 67 = .ok (.aload_n 0, 1) := by decide +kernel
theorem dX11_carry_68 : decode cX11_carry 68 = .ok (.getfield 163, 3) := by decide +kernel
theorem dX11_carry_71 : decode cX11_carry 71 = .ok (.iload_n 2, 1) := by decide +kernel
theorem dX11_carry_72 : decode cX11_carry 72 = .ok (.iaload, 1) := by decide +kernel
theorem dX11_carry_73 : decode cX11_carry 73 = .ok (.putfield 258, 3) := by decide +kernel
theorem dX11_carry_76 : decode cX11_carry 76 = .ok (.aload_n 0, 1) := by decide +kernel
theorem dX11_carry_77 : decode cX11_carry 77 = .ok (.aload_n 0, 1) := by decide +kernel
theorem dX11_carry_78 : decode cX11_carry 78 = .ok (.getfield 49, 3) := by decide +kernel
theorem dX11_carry_81 : decode cX11_carry 81 = .ok (.iload_n 2, 1) := by decide +kernel
theorem dX11_carry_82 : decode cX11_carry 82 = .ok (.iaload, 1) := by decide +kernel
theorem dX11_carry_83 : decode cX11_carry 83 = .ok (.putfield 321, 3) := by decide +kernel
theorem dX11_carry_86 : decode cX11_carry 86 = .ok (.aload_n 0, 1) := by decide +kernel
theorem dX11_carry_87 : decode cX11_carry 87 = .ok (.aload_n 0, 1) := by decide +kernel
theorem dX11_carry_88 : decode cX11_carry 88 = .ok (.getfield 52, 3) := by decide +kernel
theorem dX11_carry_91 : decode cX11_carry 91 = .ok (.iload_n 2, 1) := by decide +kernel
theorem dX11_carry_92 : decode cX11_carry 92 = .ok (.iaload, 1) := by decide +kernel
theorem dX11_carry_93 : decode cX11_carry 93 = .ok (.putfield 324, 3) := by decide +kernel
theorem dX11_carry_96 : decode cX11_carry 96 = .ok (.aload_n 0, 1) := by decide +kernel
theorem dX11_carry_97 : decode cX11_carry 97 = .ok (.iload_n 1, 1) := by decide +kernel
theorem dX11_carry_98 : decode cX11_carry 98 = .ok (.putfield 145, 3) := by decide +kernel
theorem dX11_carry_101 : decode cX11_carry 101 = .ok (.aload_n 0, 1) := by decide +kernel
theorem dX11_carry_102 : decode cX11_carry 102 = .ok (.dup, 1) := by decide +kernel
theorem dX11_carry_103 : decode cX11_carry 103 = .ok (.getfield 327, 3) := by decide +kernel
theorem dX11_carry_106 : decode cX11_carry 106 = .ok (.iconst 1, 1) := by decide +kernel
theorem dX11_carry_107 : decode cX11_carry 107 = .ok (.iadd, 1) := by decide +kernel
theorem dX11_carry_108 : decode cX11_carry 108 = .ok (.putfield 327, 3) := by decide +kernel
theorem dX11_carry_111 : decode cX11_carry 111 = .ok (.aload_n 0, 1) := by decide +kernel
theorem dX11_carry_112 : decode cX11_carry 112 = .ok (.iload_n 1, 1) := by decide +kernel
theorem dX11_carry_113 : decode cX11_carry 113 = .ok (.invokevirtual 197, 3) := by decide +kernel
theorem dX11_carry_116 : decode cX11_carry 116 = .ok (.aload_n 0, 1) := by decide +kernel
theorem dX11_carry_117 : decode cX11_carry 117 = .ok (.getfield 318, 3) := by decide +kernel
theorem dX11_carry_120 : decode cX11_carry 120 = .ok (.bipush 16, 2) := by decide +kernel
theorem dX11_carry_122 : decode cX11_carry 122 = .ok (.ishr, 1) := by decide +kernel
theorem dX11_carry_123 : decode cX11_carry 123 = .ok (.sipush 1023, 3) := by decide +kernel
theorem dX11_carry_126 : decode cX11_carry 126 = .ok (.iand, 1) := by decide +kernel
theorem dX11_carry_127 : decode cX11_carry 127 = .ok (.sipush 238, 3) := by decide +kernel
theorem dX11_carry_130 : decode cX11_carry 130 = .ok (.if_icmp .ne 20, 3) := by decide +kernel
theorem dX11_carry_133 : decode cX11_carry 133 = .ok (.aload_n 0, 1) := by decide +kernel
theorem dX11_carry_134 : decode cX11_carry 134 = .ok (.getfield 30, 3) := by decide +kernel
theorem dX11_carry_137 : decode cX11_carry 137 = .ok (.iload_n 1, 1) := by decide +kernel
theorem dX11_carry_138 : decode cX11_carry 138 = .ok (.aload_n 0, 1) := by decide +kernel
theorem dX11_carry_139 : decode cX11_carry 139 = .ok (.getfield 220, 3) := by decide +kernel
theorem dX11_carry_142 : decode cX11_carry 142 = .ok (.iastore, 1) := by decide +kernel
theorem dX11_carry_143 : decode cX11_carry 143 = .ok (.aload_n 0, 1) := by decide +kernel
theorem dX11_carry_144 : decode cX11_carry 144 = .ok (.getfield 62, 3) := by decide +kernel
theorem dX11_carry_147 : decode cX11_carry 147 = .ok (.iload_n 1, 1) := by decide +kernel
theorem dX11_carry_148 : decode cX11_carry 148 = .ok (.iconst 0, 1) := by decide +kernel
theorem dX11_carry_149 : decode cX11_carry 149 = .ok (.bastore, 1) := by decide +kernel
theorem dX11_carry_150 : decode cX11_carry 150 = .ok (.aload_n 0, 1) := by decide +kernel
theorem dX11_carry_151 : decode cX11_carry 151 = .ok (.getfield 318, 3) := by decide +kernel
theorem dX11_carry_154 : decode cX11_carry 154 = .ok (.istore_n 3, 1) := by decide +kernel
theorem dX11_carry_155 : decode cX11_carry 155 = .ok (.iconst 0, 1) := by decide +kernel
theorem dX11_carry_156 : decode cX11_carry 156 = .ok (.istore 4, 2) := by decide +kernel
theorem dX11_carry_158 : decode cX11_carry 158 = .ok (.iload 4, 2) := by decide +kernel
theorem dX11_carry_160 : decode cX11_carry 160 = .ok (.aload_n 0, 1) := by decide +kernel
theorem dX11_carry_161 : decode cX11_carry 161 = .ok (.getfield 172, 3) := by decide +kernel
theorem dX11_carry_164 : decode cX11_carry 164 = .ok (.if_icmp .ge 81, 3) := by decide +kernel
theorem dX11_carry_167 : decode cX11_carry 167 = .ok (.iload 4, 2) := by decide +kernel
theorem dX11_carry_169 : decode cX11_carry 169 = .ok (.iload_n 1, 1) := by decide +kernel
theorem dX11_carry_170 : decode cX11_carry 170 = .ok (.if_icmp .eq 69, 3) := by decide +kernel
theorem dX11_carry_173 : decode cX11_carry 173 = .ok (.aload_n 0, 1) := by decide +kernel
theorem dX11_carry_174 : decode cX11_carry 174 = .ok (.getfield 27, 3) := by decide +kernel
theorem dX11_carry_177 : decode cX11_carry 177 = .ok (.iload 4, 2) := by decide +kernel
theorem dX11_carry_179 : decode cX11_carry 179 = .ok (.iaload, 1) := by decide +kernel
theorem dX11_carry_180 : decode cX11_carry 180 = .ok (.ifCond .eq 59, 3) := by decide +kernel
theorem dX11_carry_183 : decode cX11_carry 183 = .ok (.aload_n 0, 1) := by decide +kernel
theorem dX11_carry_184 : decode cX11_carry 184 = .ok (.getfield 126, 3) := by decide +kernel
theorem dX11_carry_187 : decode cX11_carry 187 = .ok (.iload 4, 2) := by decide +kernel
theorem dX11_carry_189 : decode cX11_carry 189 = .ok (.iaload, 1) := by decide +kernel
theorem dX11_carry_190 : decode cX11_carry 190 = .ok (.ifCond .le 33, 3) := by decide +kernel
theorem dX11_carry_193 : decode cX11_carry 193 = .ok (.aload_n 0, 1) := by decide +kernel
theorem dX11_carry_194 : decode cX11_carry 194 = .ok (.getfield 126, 3) := by decide +kernel
theorem dX11_carry_197 : decode cX11_carry 197 = .ok (.iload 4, 2) := by decide +kernel
theorem dX11_carry_199 : decode cX11_carry 199 = .ok (.dup2, 1) := by decide +kernel
theorem dX11_carry_200 : decode cX11_carry 200 = .ok (.iaload, 1) := by decide +kernel
theorem dX11_carry_201 : decode cX11_carry 201 = .ok (.iconst 1, 1) := by decide +kernel
theorem dX11_carry_202 : decode cX11_carry 202 = .ok (.isub, 1) := by decide +kernel
theorem dX11_carry_203 : decode cX11_carry 203 = .ok (.iastore, 1) := by decide +kernel
theorem dX11_carry_204 : decode cX11_carry 204 = .ok (.aload_n 0, 1) := by decide +kernel
theorem dX11_carry_205 : decode cX11_carry 205 = .ok (.getfield 129, 3) := by decide +kernel
theorem dX11_carry_208 : decode cX11_carry 208 = .ok (.iload 4, 2) := by decide +kernel
theorem dX11_carry_210 : decode cX11_carry 210 = .ok (.dup2, 1) := by decide +kernel
theorem dX11_carry_211 : decode cX11_carry 211 = .ok (.iaload, 1) := by decide +kernel
theorem dX11_carry_212 : decode cX11_carry 212 = .ok (.iconst 1, 1) := by decide +kernel
theorem dX11_carry_213 : decode cX11_carry 213 = .ok (.iadd, 1) := by decide +kernel
theorem dX11_carry_214 : decode cX11_carry 214 = .ok (.iastore, 1) := by decide +kernel
theorem dX11_carry_215 : decode cX11_carry 215 = .ok (.aload_n 0, 1) := by decide +kernel
theorem dX11_carry_216 : decode cX11_carry 216 = .ok (.iconst 1, 1) := by decide +kernel
theorem dX11_carry_217 : decode cX11_carry 217 = .ok (.putfield 213, 3) := by decide +kernel
theorem dX11_carry_220 : decode cX11_carry 220 = .ok (.goto 19, 3) := by decide +kernel
theorem dX11_carry_223 : decode cX11_carry 223 = .ok (.aload_n 0, 1) := by decide +kernel
theorem dX11_carry_224 : decode cX11_carry 224 = .ok (.iload 4, 2) := by decide +kernel
theorem dX11_carry_226 : decode cX11_carry 226 = .ok (.iload_n 1, 1) := by decide +kernel
theorem dX11_carry_227 : decode cX11_carry 227 = .ok (.iload_n 3, 1) := by decide +kernel
theorem dX11_carry_228 : decode cX11_carry 228 = .ok (.aload_n 0, 1) := by decide +kernel
theorem dX11_carry_229 : decode cX11_carry 229 = .ok (.getfield 321, 3) := by decide +kernel
theorem dX11_carry_232 : decode cX11_carry 232 = .ok (.aload_n 0, 1) := by decide +kernel
theorem dX11_carry_233 : decode cX11_carry 233 = .ok (.getfield 324, 3) := by decide +kernel
theorem dX11_carry_236 : decode cX11_carry 236 = .ok (.invokevirtual 330, 3) := by decide +kernel
theorem dX11_carry_239 : decode cX11_carry 239 = .ok (.iinc 4 1, 3) := by decide +kernel
theorem dX11_carry_242 : decode cX11_carry 242 = .ok (.goto (-84), 3) := by decide +kernel
theorem dX11_carry_245 : decode cX11_carry 245 = .ok (.return_, 1) := by decide +kernel
theorem dX11_pass_0 : decode cX11_pass 0 = .ok (.iload_n 1, 1) := by decide +kernel
theorem dX11_pass_1 : decode cX11_pass 1 = .ok (.iconst 1, 1) := by decide +kernel
theorem dX11_pass_2 : decode cX11_pass 2 = .ok (.sipush 5000, 3) := by decide +kernel
theorem dX11_pass_5 : decode cX11_pass 5 = .ok (.invokestatic 175, 3) := by decide +kernel
theorem dX11_pass_8 : decode cX11_pass 8 = .ok (.ifCond .ne 5, 3) := by decide +kernel
theorem dX11_pass_11 : decode cX11_pass 11 = .ok (.iconst (-1), 1) := by decide +kernel
theorem dX11_pass_12 : decode cX11_pass 12 = .ok (.ireturn, 1) := by decide +kernel
theorem dX11_pass_13 : decode cX11_pass 13 = .ok (.iconst 0, 1) := by decide +kernel
theorem dX11_pass_14 : decode cX11_pass 14 = .ok (.istore_n 2, 1) := by decide +kernel
theorem dX11_pass_15 : decode cX11_pass 15 = .ok (.iload_n 2, 1) := by decide +kernel
theorem dX11_pass_16 : decode cX11_pass 16 = .ok (.iload_n 1, 1) := by decide +kernel
theorem dX11_pass_17 : decode cX11_pass 17 = .ok (.if_icmp .ge 44, 3) := by decide +kernel
theorem dX11_pass_20 : decode cX11_pass 20 = .ok (.aload_n 0, 1) := by decide +kernel
theorem dX11_pass_21 : decode cX11_pass 21 = .ok (.dup, 1) := by decide +kernel
theorem dX11_pass_22 : decode cX11_pass 22 = .ok (.getfield 220, 3) := by decide +kernel
theorem dX11_pass_25 : decode cX11_pass 25 = .ok (.iconst 1, 1) := by decide +kernel
theorem dX11_pass_26 : decode cX11_pass 26 = .ok (.iadd, 1) := by decide +kernel
theorem dX11_pass_27 : decode cX11_pass 27 = .ok (.putfield 220, 3) := by decide +kernel
theorem dX11_pass_30 : decode cX11_pass 30 = .ok (.iconst 0, 1) := by decide +kernel
theorem dX11_pass_31 : decode cX11_pass 31 = .ok (.istore_n 3, 1) := by decide +kernel
theorem dX11_pass_32 : decode cX11_pass 32 = .ok (.iload_n 3, 1) := by decide +kernel
theorem dX11_pass_33 : decode cX11_pass 33 = .ok (.aload_n 0, 1) := by decide +kernel
theorem dX11_pass_34 : decode cX11_pass 34 = .ok (.getfield 172, 3) := by decide +kernel
theorem dX11_pass_37 : decode cX11_pass 37 = .ok (.if_icmp .ge 14, 3) := by decide +kernel
theorem dX11_pass_40 : decode cX11_pass 40 = .ok (.aload_n 0, 1) := by decide +kernel
theorem dX11_pass_41 : decode cX11_pass 41 = .ok (.iload_n 3, 1) := by decide +kernel
theorem dX11_pass_42 : decode cX11_pass 42 = .ok (.invokevirtual 333, 3) := by decide +kernel
theorem dX11_pass_45 : decode cX11_pass 45 = .ok (.iinc 3 1, 3) := by decide +kernel
theorem dX11_pass_48 : decode cX11_pass 48 = .ok (.goto (-16), 3) := by decide +kernel
theorem dX11_pass_51 : decode cX11_pass 51 = .ok (.aload_n 0, 1) := by decide +kernel
theorem dX11_pass_52 : decode cX11_pass 52 = .ok (.invokevirtual 336, 3) := by decide +kernel
theorem dX11_pass_55 : decode cX11_pass 55 = .ok (.iinc 2 1, 3) := by decide +kernel
theorem dX11_pass_58 : decode cX11_pass 58 = .ok (.goto (-43), 3) := by decide +kernel
theorem dX11_pass_61 : decode cX11_pass 61 = .ok (.aload_n 0, 1) := by decide +kernel
theorem dX11_pass_62 : decode cX11_pass 62 = .ok (.getfield 220, 3) := by decide +kernel
theorem dX11_pass_65 : decode cX11_pass 65 = .ok (.ireturn, 1) := by decide +kernel
theorem dX11_told_0 : decode cX11_told 0 = .ok (.aload_n 0, 1) := by decide +kernel
theorem dX11_told_1 : decode cX11_told 1 = .ok (.iload_n 1, 1) := by decide +kernel
theorem dX11_told_2 : decode cX11_told 2 = .ok (.invokevirtual 203, 3) := by decide +kernel
theorem dX11_told_5 : decode cX11_told 5 = .ok (.ifCond .ne 5, 3) := by decide +kernel
theorem dX11_told_8 : decode cX11_told 8 = .ok (.iconst (-1), 1) := by decide +kernel
theorem dX11_told_9 : decode cX11_told 9 = .ok (.ireturn, 1) := by decide +kernel
theorem dX11_told_10 : decode cX11_told 10 = .ok (.iconst 0, 1) := by decide +kernel
theorem dX11_told_11 : decode cX11_told 11 = .ok (.istore_n 3, 1) := by decide +kernel
theorem dX11_told_12 : decode cX11_told 12 = .ok (.bipush 40, 2) := by decide +kernel
theorem dX11_told_14 : decode cX11_told 14 = .ok (.iload_n 1, 1) := by decide +kernel
theorem dX11_told_15 : decode cX11_told 15 = .ok (.imul, 1) := by decide +kernel
theorem dX11_told_16 : decode cX11_told 16 = .ok (.istore 4, 2) := by decide +kernel
theorem dX11_told_18 : decode cX11_told 18 = .ok (.iload 4, 2) := by decide +kernel
theorem dX11_told_20 : decode cX11_told 20 = .ok (.bipush 40, 2) := by decide +kernel
theorem dX11_told_22 : decode cX11_told 22 = .ok (.iload_n 1, 1) := by decide +kernel
theorem dX11_told_23 : decode cX11_told 23 = .ok (.imul, 1) := by decide +kernel
theorem dX11_told_24 : decode cX11_told 24 = .ok (.bipush 40, 2) := by decide +kernel
theorem dX11_told_26 : decode cX11_told 26 = .ok (.iadd, 1) := by decide +kernel
theorem dX11_told_27 : decode cX11_told 27 = .ok (.if_icmp .ge 28, 3) := by decide +kernel
theorem dX11_told_30 : decode cX11_told 30 = .ok (.iload_n 3, 1) := by decide +kernel
theorem dX11_told_31 : decode cX11_told 31 = .ok (.aload_n 0, 1) := by decide +kernel
theorem dX11_told_32 : decode cX11_told 32 = .ok (.getfield 86, 3) := by decide +kernel
theorem dX11_told_35 : decode cX11_told 35 = .ok (.iload 4, 2) := by decide +kernel
theorem dX11_told_37 : decode cX11_told 37 = .ok (.iaload, 1) := by decide +kernel
theorem dX11_told_38 : decode cX11_told 38 = .ok (.iconst (-1), 1) := by decide +kernel
theorem dX11_told_39 : decode cX11_told 39 = .ok (.if_icmp .eq 7, 3) := by decide +kernel
theorem dX11_told_42 : decode cX11_told 42 = .ok (.iconst 1, 1) := by decide +kernel
theorem dX11_told_43 : decode cX11_told 43 = .ok (.goto 4, 3) := by decide +kernel
theorem dX11_told_46 : decode cX11_told 46 = .ok (.iconst 0, 1) := by decide +kernel
theorem dX11_told_47 : decode cX11_told 47 = .ok (.iadd, 1) := by decide +kernel
theorem dX11_told_48 : decode cX11_told 48 = .ok (.istore_n 3, 1) := by decide +kernel
theorem dX11_told_49 : decode cX11_told 49 = .ok (.iinc 4 1, 3) := by decide +kernel
theorem dX11_told_52 : decode cX11_told 52 = .ok (.goto (-34), 3) := by decide +kernel
theorem dX11_told_55 : decode cX11_told 55 = .ok (.iload_n 2, 1) := by decide +kernel
theorem dX11_told_56 : decode cX11_told 56 = .ok (.tableswitch 104 0 6 #[44, 51, 74, 81, 88, 95, 97], 44) := by decide +kernel
theorem dX11_told_100 : decode cX11_told 100 = .ok (.aload_n 0, 1) := by decide +kernel
theorem dX11_told_101 : decode cX11_told 101 = .ok (.getfield 27, 3) := by decide +kernel
theorem dX11_told_104 : decode cX11_told 104 = .ok (.iload_n 1, 1) := by decide +kernel
theorem dX11_told_105 : decode cX11_told 105 = .ok (.iaload, 1) := by decide +kernel
theorem dX11_told_106 : decode cX11_told 106 = .ok (.ireturn, 1) := by decide +kernel
theorem dX11_told_107 : decode cX11_told 107 = .ok (.aload_n 0, 1) := by decide +kernel
theorem dX11_told_108 : decode cX11_told 108 = .ok (.getfield 27, 3) := by decide +kernel
theorem dX11_told_111 : decode cX11_told 111 = .ok (.iload_n 1, 1) := by decide +kernel
theorem dX11_told_112 : decode cX11_told 112 = .ok (.iaload, 1) := by decide +kernel
theorem dX11_told_113 : decode cX11_told 113 = .ok (.iconst 3, 1) := by decide +kernel
theorem dX11_told_114 : decode cX11_told 114 = .ok (.if_icmp .ne 9, 3) := by decide +kernel
theorem dX11_told_117 : decode cX11_told 117 = .ok (.sipush 254, 3) := by decide +kernel
theorem dX11_told_120 : decode cX11_told 120 = .ok (.goto 9, 3) := by decide +kernel
theorem dX11_told_123 : decode cX11_told 123 = .ok (.aload_n 0, 1) := by decide +kernel
theorem dX11_told_124 : decode cX11_told 124 = .ok (.getfield 17, 3) := by decide +kernel
theorem dX11_told_127 : decode cX11_told 127 = .ok (.iload_n 1, 1) := by decide +kernel
theorem dX11_told_128 : decode cX11_told 128 = .ok (.iaload, 1) := by decide +kernel
theorem dX11_told_129 : decode cX11_told 129 = .ok (.ireturn, 1) := by decide +kernel
theorem dX11_told_130 : decode cX11_told 130 = .ok (.aload_n 0, 1) := by decide +kernel
theorem dX11_told_131 : decode cX11_told 131 = .ok (.getfield 42, 3) := by decide +kernel
theorem dX11_told_134 : decode cX11_told 134 = .ok (.iload_n 1, 1) := by decide +kernel
theorem dX11_told_135 : decode cX11_told 135 = .ok (.iaload, 1) := by decide +kernel
theorem dX11_told_136 : decode cX11_told 136 = .ok (.ireturn, 1) := by decide +kernel
theorem dX11_told_137 : decode cX11_told 137 = .ok (.aload_n 0, 1) := by decide +kernel
theorem dX11_told_138 : decode cX11_told 138 = .ok (.getfield 65, 3) := by decide +kernel
theorem dX11_told_141 : decode cX11_told 141 = .ok (.iload_n 1, 1) := by decide +kernel
theorem dX11_told_142 : decode cX11_told 142 = .ok (.iaload, 1) := by decide +kernel
theorem dX11_told_143 : decode cX11_told 143 = .ok (.ireturn, 1) := by decide +kernel
theorem dX11_told_144 : decode cX11_told 144 = .ok (.aload_n 0, 1) := by decide +kernel
theorem dX11_told_145 : decode cX11_told 145 = .ok (.getfield 120, 3) := by decide +kernel
theorem dX11_told_148 : decode cX11_told 148 = .ok (.iload_n 1, 1) := by decide +kernel
theorem dX11_told_149 : decode cX11_told 149 = .ok (.iaload, 1) := by decide +kernel
theorem dX11_told_150 : decode cX11_told 150 = .ok (.ireturn, 1) := by decide +kernel
theorem dX11_told_151 : decode cX11_told 151 = .ok (.iload_n 3, 1) := by decide +kernel
theorem dX11_told_152 : decode cX11_told 152 = .ok (.ireturn, 1) := by decide +kernel
theorem dX11_told_153 : decode cX11_told 153 = .ok (.aload_n 0, 1) := by decide +kernel
theorem dX11_told_154 : decode cX11_told 154 = .ok (.getfield 129, 3) := by decide +kernel
theorem dX11_told_157 : decode cX11_told 157 = .ok (.iload_n 1, 1) := by decide +kernel
theorem dX11_told_158 : decode cX11_told 158 = .ok (.iaload, 1) := by decide +kernel
theorem dX11_told_159 : decode cX11_told 159 = .ok (.ireturn, 1) := by decide +kernel
theorem dX11_told_160 : decode cX11_told 160 = .ok (.iconst (-1), 1) := by decide +kernel
theorem dX11_told_161 : decode cX11_told 161 = .ok (.ireturn, 1) := by decide +kernel
theorem dX11_table_0 : decode cX11_table 0 = .ok (.aload_n 0, 1) := by decide +kernel
theorem dX11_table_1 : decode cX11_table 1 = .ok (.iload_n 1, 1) := by decide +kernel
theorem dX11_table_2 : decode cX11_table 2 = .ok (.invokevirtual 203, 3) := by decide +kernel
theorem dX11_table_5 : decode cX11_table 5 = .ok (.ifCond .eq 29, 3) := by decide +kernel
theorem dX11_table_8 : decode cX11_table 8 = .ok (.iload_n 2, 1) := by decide +kernel
theorem dX11_table_9 : decode cX11_table 9 = .ok (.iconst 0, 1) := by decide +kernel
theorem dX11_table_10 : decode cX11_table 10 = .ok (.sipush 255, 3) := by decide +kernel
theorem dX11_table_13 : decode cX11_table 13 = .ok (.invokestatic 175, 3) := by decide +kernel
theorem dX11_table_16 : decode cX11_table 16 = .ok (.ifCond .eq 18, 3) := by decide +kernel
theorem dX11_table_19 : decode cX11_table 19 = .ok (.aload_n 0, 1) := by decide +kernel
theorem dX11_table_20 : decode cX11_table 20 = .ok (.getfield 33, 3) := by decide +kernel
theorem dX11_table_23 : decode cX11_table 23 = .ok (.sipush 256, 3) := by decide +kernel
theorem dX11_table_26 : decode cX11_table 26 = .ok (.iload_n 1, 1) := by decide +kernel
theorem dX11_table_27 : decode cX11_table 27 = .ok (.imul, 1) := by decide +kernel
theorem dX11_table_28 : decode cX11_table 28 = .ok (.iload_n 2, 1) := by decide +kernel
theorem dX11_table_29 : decode cX11_table 29 = .ok (.iadd, 1) := by decide +kernel
theorem dX11_table_30 : decode cX11_table 30 = .ok (.iaload, 1) := by decide +kernel
theorem dX11_table_31 : decode cX11_table 31 = .ok (.goto 4, 3) := by decide +kernel
theorem dX11_table_34 : decode cX11_table 34 = .ok (.iconst (-1), 1) := by decide +kernel
theorem dX11_table_35 : decode cX11_table 35 = .ok (.ireturn, 1) := by decide +kernel
theorem dX11_message_0 : decode cX11_message 0 = .ok (.aload_n 0, 1) := by decide +kernel
theorem dX11_message_1 : decode cX11_message 1 = .ok (.iload_n 1, 1) := by decide +kernel
theorem dX11_message_2 : decode cX11_message 2 = .ok (.invokevirtual 203, 3) := by decide +kernel
theorem dX11_message_5 : decode cX11_message 5 = .ok (.ifCond .eq 32, 3) := by decide +kernel
theorem dX11_message_8 : decode cX11_message 8 = .ok (.iload_n 2, 1) := by decide +kernel
theorem dX11_message_9 : decode cX11_message 9 = .ok (.iconst 0, 1) := by decide +kernel
theorem dX11_message_10 : decode cX11_message 10 = .ok (.bipush 19, 2) := by decide +kernel
theorem dX11_message_12 : decode cX11_message 12 = .ok (.invokestatic 175, 3) := by decide +kernel
theorem dX11_message_15 : decode cX11_message 15 = .ok (.ifCond .eq 22, 3) := by decide +kernel
theorem dX11_message_18 : decode cX11_message 18 = .ok (.iload_n 2, 1) := by decide +kernel
theorem dX11_message_19 : decode cX11_message 19 = .ok (.aload_n 0, 1) := by decide +kernel
theorem dX11_message_20 : decode cX11_message 20 = .ok (.getfield 120, 3) := by decide +kernel
theorem dX11_message_23 : decode cX11_message 23 = .ok (.iload_n 1, 1) := by decide +kernel
theorem dX11_message_24 : decode cX11_message 24 = .ok (.iaload, 1) := by decide +kernel
theorem dX11_message_25 : decode cX11_message 25 = .ok (.if_icmp .ge 12, 3) := by decide +kernel
theorem dX11_message_28 : decode cX11_message 28 = .ok (.iload_n 3, 1) := by decide +kernel
theorem dX11_message_29 : decode cX11_message 29 = .ok (.iconst 0, 1) := by decide +kernel
theorem dX11_message_30 : decode cX11_message 30 = .ok (.iconst 3, 1) := by decide +kernel
theorem dX11_message_31 : decode cX11_message 31 = .ok (.invokestatic 175, 3) := by decide +kernel
theorem dX11_message_34 : decode cX11_message 34 = .ok (.ifCond .ne 5, 3) := by decide +kernel
theorem dX11_message_37 : decode cX11_message 37 = .ok (.iconst (-1), 1) := by decide +kernel
theorem dX11_message_38 : decode cX11_message 38 = .ok (.ireturn, 1) := by decide +kernel
theorem dX11_message_39 : decode cX11_message 39 = .ok (.aload_n 0, 1) := by decide +kernel
theorem dX11_message_40 : decode cX11_message 40 = .ok (.getfield 123, 3) := by decide +kernel
theorem dX11_message_43 : decode cX11_message 43 = .ok (.iconst 4, 1) := by decide +kernel
theorem dX11_message_44 : decode cX11_message 44 = .ok (.bipush 20, 2) := by decide +kernel
theorem dX11_message_46 : decode cX11_message 46 = .ok (.iload_n 1, 1) := by decide +kernel
theorem dX11_message_47 : decode cX11_message 47 = .ok (.imul, 1) := by decide +kernel
theorem dX11_message_48 : decode cX11_message 48 = .ok (.iload_n 2, 1) := by decide +kernel
theorem dX11_message_49 : decode cX11_message 49 = .ok (.iadd, 1) := by decide +kernel
theorem dX11_message_50 : decode cX11_message 50 = .ok (.imul, 1) := by decide +kernel
theorem dX11_message_51 : decode cX11_message 51 = .ok (.iload_n 3, 1) := by decide +kernel
theorem dX11_message_52 : decode cX11_message 52 = .ok (.iadd, 1) := by decide +kernel
theorem dX11_message_53 : decode cX11_message 53 = .ok (.iaload, 1) := by decide +kernel
theorem dX11_message_54 : decode cX11_message 54 = .ok (.ireturn, 1) := by decide +kernel
theorem dX11_kept_0 : decode cX11_kept 0 = .ok (.aload_n 0, 1) := by decide +kernel
theorem dX11_kept_1 : decode cX11_kept 1 = .ok (.iload_n 1, 1) := by decide +kernel
theorem dX11_kept_2 : decode cX11_kept 2 = .ok (.invokevirtual 203, 3) := by decide +kernel
theorem dX11_kept_5 : decode cX11_kept 5 = .ok (.ifCond .eq 30, 3) := by decide +kernel
theorem dX11_kept_8 : decode cX11_kept 8 = .ok (.iload_n 2, 1) := by decide +kernel
theorem dX11_kept_9 : decode cX11_kept 9 = .ok (.iconst 0, 1) := by decide +kernel
theorem dX11_kept_10 : decode cX11_kept 10 = .ok (.sipush 255, 3) := by decide +kernel
theorem dX11_kept_13 : decode cX11_kept 13 = .ok (.invokestatic 175, 3) := by decide +kernel
theorem dX11_kept_16 : decode cX11_kept 16 = .ok (.ifCond .eq 19, 3) := by decide +kernel
theorem dX11_kept_19 : decode cX11_kept 19 = .ok (.aload_n 0, 1) := by decide +kernel
theorem dX11_kept_20 : decode cX11_kept 20 = .ok (.getfield 138, 3) := by decide +kernel
theorem dX11_kept_23 : decode cX11_kept 23 = .ok (.sipush 256, 3) := by decide +kernel
theorem dX11_kept_26 : decode cX11_kept 26 = .ok (.iload_n 1, 1) := by decide +kernel
theorem dX11_kept_27 : decode cX11_kept 27 = .ok (.imul, 1) := by decide +kernel
theorem dX11_kept_28 : decode cX11_kept 28 = .ok (.iload_n 2, 1) := by decide +kernel
theorem dX11_kept_29 : decode cX11_kept 29 = .ok (.iadd, 1) := by decide +kernel
theorem dX11_kept_30 : decode cX11_kept 30 = .ok (.iaload, 1) := by decide +kernel
theorem dX11_kept_31 : decode cX11_kept 31 = .ok (.iconst (-1), 1) := by decide +kernel
theorem dX11_kept_32 : decode cX11_kept 32 = .ok (.if_icmp .ne 5, 3) := by decide +kernel
theorem dX11_kept_35 : decode cX11_kept 35 = .ok (.iconst (-1), 1) := by decide +kernel
theorem dX11_kept_36 : decode cX11_kept 36 = .ok (.ireturn, 1) := by decide +kernel
theorem dX11_kept_37 : decode cX11_kept 37 = .ok (.aload_n 0, 1) := by decide +kernel
theorem dX11_kept_38 : decode cX11_kept 38 = .ok (.getfield 138, 3) := by decide +kernel
theorem dX11_kept_41 : decode cX11_kept 41 = .ok (.sipush 256, 3) := by decide +kernel
theorem dX11_kept_44 : decode cX11_kept 44 = .ok (.iload_n 1, 1) := by decide +kernel
theorem dX11_kept_45 : decode cX11_kept 45 = .ok (.imul, 1) := by decide +kernel
theorem dX11_kept_46 : decode cX11_kept 46 = .ok (.iload_n 2, 1) := by decide +kernel
theorem dX11_kept_47 : decode cX11_kept 47 = .ok (.iadd, 1) := by decide +kernel
theorem dX11_kept_48 : decode cX11_kept 48 = .ok (.iaload, 1) := by decide +kernel
theorem dX11_kept_49 : decode cX11_kept 49 = .ok (.istore 5, 2) := by decide +kernel
theorem dX11_kept_51 : decode cX11_kept 51 = .ok (.iload_n 3, 1) := by decide +kernel
theorem dX11_kept_52 : decode cX11_kept 52 = .ok (.iconst (-1), 1) := by decide +kernel
theorem dX11_kept_53 : decode cX11_kept 53 = .ok (.if_icmp .ne 6, 3) := by decide +kernel
theorem dX11_kept_56 : decode cX11_kept 56 = .ok (.iload 5, 2) := by decide +kernel
theorem dX11_kept_58 : decode cX11_kept 58 = .ok (.ireturn, 1) := by decide +kernel
theorem dX11_kept_59 : decode cX11_kept 59 = .ok (.iload_n 3, 1) := by decide +kernel
theorem dX11_kept_60 : decode cX11_kept 60 = .ok (.iconst 0, 1) := by decide +kernel
theorem dX11_kept_61 : decode cX11_kept 61 = .ok (.iload 5, 2) := by decide +kernel
theorem dX11_kept_63 : decode cX11_kept 63 = .ok (.iconst 1, 1) := by decide +kernel
theorem dX11_kept_64 : decode cX11_kept 64 = .ok (.isub, 1) := by decide +kernel
theorem dX11_kept_65 : decode cX11_kept 65 = .ok (.invokestatic 175, 3) := by decide +kernel
theorem dX11_kept_68 : decode cX11_kept 68 = .ok (.ifCond .eq 38, 3) := by decide +kernel
theorem dX11_kept_71 : decode cX11_kept 71 = .ok (.iload 4, 2) := by decide +kernel
theorem dX11_kept_73 : decode cX11_kept 73 = .ok (.iconst 0, 1) := by decide +kernel
theorem dX11_kept_74 : decode cX11_kept 74 = .ok (.iconst 2, 1) := by decide +kernel
theorem dX11_kept_75 : decode cX11_kept 75 = .ok (.invokestatic 175, 3) := by decide +kernel
theorem dX11_kept_78 : decode cX11_kept 78 = .ok (.ifCond .eq 28, 3) := by decide +kernel
theorem dX11_kept_81 : decode cX11_kept 81 = .ok (.aload_n 0, 1) := by decide +kernel
theorem dX11_kept_82 : decode cX11_kept 82 = .ok (.getfield 142, 3) := by decide +kernel
theorem dX11_kept_85 : decode cX11_kept 85 = .ok (.iconst 3, 1) := by decide +kernel
theorem dX11_kept_86 : decode cX11_kept 86 = .ok (.bipush 10, 2) := by decide +kernel
theorem dX11_kept_88 : decode cX11_kept 88 = .ok (.sipush 256, 3) := by decide +kernel
theorem dX11_kept_91 : decode cX11_kept 91 = .ok (.iload_n 1, 1) := by decide +kernel
theorem dX11_kept_92 : decode cX11_kept 92 = .ok (.imul, 1) := by decide +kernel
theorem dX11_kept_93 : decode cX11_kept 93 = .ok (.iload_n 2, 1) := by decide +kernel
theorem dX11_kept_94 : decode cX11_kept 94 = .ok (.iadd, 1) := by decide +kernel
theorem dX11_kept_95 : decode cX11_kept 95 = .ok (.imul, 1) := by decide +kernel
theorem dX11_kept_96 : decode cX11_kept 96 = .ok (.iload_n 3, 1) := by decide +kernel
theorem dX11_kept_97 : decode cX11_kept 97 = .ok (.iadd, 1) := by decide +kernel
theorem dX11_kept_98 : decode cX11_kept 98 = .ok (.imul, 1) := by decide +kernel
theorem dX11_kept_99 : decode cX11_kept 99 = .ok (.iload 4, 2) := by decide +kernel
theorem dX11_kept_101 : decode cX11_kept 101 = .ok (.iadd, 1) := by decide +kernel
theorem dX11_kept_102 : decode cX11_kept 102 = .ok (.iaload, 1) := by decide +kernel
theorem dX11_kept_103 : decode cX11_kept 103 = .ok (.goto 4, 3) := by decide +kernel
theorem dX11_kept_106 : decode cX11_kept 106 = .ok (.iconst (-1), 1) := by decide +kernel
theorem dX11_kept_107 : decode cX11_kept 107 = .ok (.ireturn, 1) := by decide +kernel
theorem dX11_carried_0 : decode cX11_carried 0 = .ok (.iload_n 1, 1) := by decide +kernel
theorem dX11_carried_1 : decode cX11_carried 1 = .ok (.ifCond .ne 10, 3) := by decide +kernel
theorem dX11_carried_4 : decode cX11_carried 4 = .ok (.aload_n 0, 1) := by decide +kernel
theorem dX11_carried_5 : decode cX11_carried 5 = .ok (.getfield 318, 3) := by decide +kernel
theorem dX11_carried_8 : decode cX11_carried 8 = .ok (.goto 40, 3) := by decide +kernel
theorem dX11_carried_11 : decode cX11_carried 11 = .ok (.iload_n 1, 1) := by decide +kernel
theorem dX11_carried_12 : decode cX11_carried 12 = .ok (.iconst 1, 1) := by decide +kernel
theorem dX11_carried_13 : decode cX11_carried 13 = .ok (.if_icmp .ne 10, 3) := by decide +kernel
theorem dX11_carried_16 : decode cX11_carried 16 = .ok (.aload_n 0, 1) := by decide +kernel
theorem dX11_carried_17 : decode cX11_carried 17 = .ok (.getfield 321, 3) := by decide +kernel
theorem dX11_carried_20 : decode cX11_carried 20 = .ok (.goto 28, 3) := by decide +kernel
theorem dX11_carried_23 : decode cX11_carried 23 = .ok (.iload_n 1, 1) := by decide +kernel
theorem dX11_carried_24 : decode cX11_carried 24 = .ok (.iconst 2, 1) := by decide +kernel
theorem dX11_carried_25 : decode cX11_carried 25 = .ok (.if_icmp .ne 10, 3) := by decide +kernel
theorem dX11_carried_28 : decode cX11_carried 28 = .ok (.aload_n 0, 1) := by decide +kernel
theorem dX11_carried_29 : decode cX11_carried 29 = .ok (.getfield 324, 3) := by decide +kernel
theorem dX11_carried_32 : decode cX11_carried 32 = .ok (.goto 16, 3) := by decide +kernel
theorem dX11_carried_35 : decode cX11_carried 35 = .ok (.iload_n 1, 1) := by decide +kernel
theorem dX11_carried_36 : decode cX11_carried 36 = .ok (.iconst 3, 1) := by decide +kernel
theorem dX11_carried_37 : decode cX11_carried 37 = .ok (.if_icmp .ne 10, 3) := by decide +kernel
theorem dX11_carried_40 : decode cX11_carried 40 = .ok (.aload_n 0, 1) := by decide +kernel
theorem dX11_carried_41 : decode cX11_carried 41 = .ok (.getfield 145, 3) := by decide +kernel
theorem dX11_carried_44 : decode cX11_carried 44 = .ok (.goto 4, 3) := by decide +kernel
theorem dX11_carried_47 : decode cX11_carried 47 = .ok (.iconst 0, 1) := by decide +kernel
theorem dX11_carried_48 : decode cX11_carried 48 = .ok (.ireturn, 1) := by decide +kernel
theorem dX11_sound_0 : decode cX11_sound 0 = .ok (.aload_n 0, 1) := by decide +kernel
theorem dX11_sound_1 : decode cX11_sound 1 = .ok (.getfield 213, 3) := by decide +kernel
theorem dX11_sound_4 : decode cX11_sound 4 = .ok (.ifCond .eq 5, 3) := by decide +kernel
theorem dX11_sound_7 : decode cX11_sound 7 = .ok (.iconst 1, 1) := by decide +kernel
theorem dX11_sound_8 : decode cX11_sound 8 = .ok (.ireturn, 1) := by decide +kernel
theorem dX11_sound_9 : decode cX11_sound 9 = .ok (.aload_n 0, 1) := by decide +kernel
theorem dX11_sound_10 : decode cX11_sound 10 = .ok (.getfield 279, 3) := by decide +kernel
theorem dX11_sound_13 : decode cX11_sound 13 = .ok (.ifCond .ne 7, 3) := by decide +kernel
theorem dX11_sound_16 : decode cX11_sound 16 = .ok (.iconst 1, 1) := by decide +kernel
theorem dX11_sound_17 : decode cX11_sound 17 = .ok (.goto 4, 3) := by decide +kernel
theorem dX11_sound_20 : decode cX11_sound 20 = .ok (.iconst 0, 1) := by decide +kernel
theorem dX11_sound_21 : decode cX11_sound 21 = .ok (.istore_n 1, 1) := by decide +kernel
theorem dX11_sound_22 : decode cX11_sound 22 = .ok (.iconst 0, 1) := by decide +kernel
theorem dX11_sound_23 : decode cX11_sound 23 = .ok (.istore_n 2, 1) := by decide +kernel
theorem dX11_sound_24 : decode cX11_sound 24 = .ok (.iload_n 2, 1) := by decide +kernel
theorem dX11_sound_25 : decode cX11_sound 25 = .ok (.aload_n 0, 1) := by decide +kernel
theorem dX11_sound_26 : decode cX11_sound 26 = .ok (.getfield 172, 3) := by decide +kernel
theorem dX11_sound_29 : decode cX11_sound 29 = .ok (.if_icmp .ge 67, 3) := by decide +kernel
theorem dX11_sound_32 : decode cX11_sound 32 = .ok (.iconst 0, 1) := by decide +kernel
theorem dX11_sound_33 : decode cX11_sound 33 = .ok (.istore_n 3, 1) := by decide +kernel
theorem dX11_sound_34 : decode cX11_sound 34 = .ok (.iload_n 3, 1) := by decide +kernel
theorem dX11_sound_35 : decode cX11_sound 35 = .ok (.iload_n 2, 1) := by decide +kernel
theorem dX11_sound_36 : decode cX11_sound 36 = .ok (.if_icmp .ge 54, 3) := by decide +kernel
theorem dX11_sound_39 : decode cX11_sound 39 = .ok (.iload_n 1, 1) := by decide +kernel
theorem dX11_sound_40 : decode cX11_sound 40 = .ok (.ifCond .eq 42, 3) := by decide +kernel
theorem dX11_sound_43 : decode cX11_sound 43 = .ok (.aload_n 0, 1) := by decide +kernel
theorem dX11_sound_44 : decode cX11_sound 44 = .ok (.getfield 27, 3) := by decide +kernel
theorem dX11_sound_47 : decode cX11_sound 47 = .ok (.iload_n 2, 1) := by decide +kernel
theorem dX11_sound_48 : decode cX11_sound 48 = .ok (.iaload, 1) := by decide +kernel
theorem dX11_sound_49 : decode cX11_sound 49 = .ok (.iconst 2, 1) := by decide +kernel
theorem dX11_sound_50 : decode cX11_sound 50 = .ok (.if_icmp .ne 28, 3) := by decide +kernel
theorem dX11_sound_53 : decode cX11_sound 53 = .ok (.aload_n 0, 1) := by decide +kernel
theorem dX11_sound_54 : decode cX11_sound 54 = .ok (.getfield 27, 3) := by decide +kernel
theorem dX11_sound_57 : decode cX11_sound 57 = .ok (.iload_n 3, 1) := by decide +kernel
theorem dX11_sound_58 : decode cX11_sound 58 = .ok (.iaload, 1) := by decide +kernel
theorem dX11_sound_59 : decode cX11_sound 59 = .ok (.iconst 2, 1) := by decide +kernel
theorem dX11_sound_60 : decode cX11_sound 60 = .ok (.if_icmp .ne 18, 3) := by decide +kernel
theorem dX11_sound_63 : decode cX11_sound 63 = .ok (.aload_n 0, 1) := by decide +kernel
theorem dX11_sound_64 : decode cX11_sound 64 = .ok (.getfield 17, 3) := by decide +kernel
theorem dX11_sound_67 : decode cX11_sound 67 = .ok (.iload_n 2, 1) := by decide +kernel
theorem dX11_sound_68 : decode cX11_sound 68 = .ok (.iaload, 1) := by decide +kernel
theorem dX11_sound_69 : decode cX11_sound 69 = .ok (.aload_n 0, 1) := by decide +kernel
theorem dX11_sound_70 : decode cX11_sound 70 = .ok (.getfield 17, 3) := by decide +kernel
theorem dX11_sound_73 : decode cX11_sound 73 = .ok (.iload_n 3, 1) := by decide +kernel
theorem dX11_sound_74 : decode cX11_sound 74 = .ok (.iaload, 1) := by decide +kernel
theorem dX11_sound_75 : decode cX11_sound 75 = .ok (.if_icmp .eq 7, 3) := by decide +kernel
theorem dX11_sound_78 : decode cX11_sound 78 = .ok (.iconst 1, 1) := by decide +kernel
theorem dX11_sound_79 : decode cX11_sound 79 = .ok (.goto 4, 3) := by decide +kernel
theorem dX11_sound_82 : decode cX11_sound 82 = .ok (.iconst 0, 1) := by decide +kernel
theorem dX11_sound_83 : decode cX11_sound 83 = .ok (.istore_n 1, 1) := by decide +kernel
theorem dX11_sound_84 : decode cX11_sound 84 = .ok (.iinc 3 1, 3) := by decide +kernel
theorem dX11_sound_87 : decode cX11_sound 87 = .ok (.goto (-53), 3) := by decide +kernel
theorem dX11_sound_90 : decode cX11_sound 90 = .ok (.iinc 2 1, 3) := by decide +kernel
theorem dX11_sound_93 : decode cX11_sound 93 = .ok (.goto (-69), 3) := by decide +kernel
theorem dX11_sound_96 : decode cX11_sound 96 = .ok (.iload_n 1, 1) := by decide +kernel
theorem dX11_sound_97 : decode cX11_sound 97 = .ok (.ireturn, 1) := by decide +kernel
theorem dX11_count_0 : decode cX11_count 0 = .ok (.iconst 0, 1) := by decide +kernel
theorem dX11_count_1 : decode cX11_count 1 = .ok (.istore_n 2, 1) := by decide +kernel
theorem dX11_count_2 : decode cX11_count 2 = .ok (.iconst 0, 1) := by decide +kernel
theorem dX11_count_3 : decode cX11_count 3 = .ok (.istore_n 3, 1) := by decide +kernel
theorem dX11_count_4 : decode cX11_count 4 = .ok (.iload_n 3, 1) := by decide +kernel
theorem dX11_count_5 : decode cX11_count 5 = .ok (.aload_n 0, 1) := by decide +kernel
theorem dX11_count_6 : decode cX11_count 6 = .ok (.getfield 172, 3) := by decide +kernel
theorem dX11_count_9 : decode cX11_count 9 = .ok (.if_icmp .ge 27, 3) := by decide +kernel
theorem dX11_count_12 : decode cX11_count 12 = .ok (.iload_n 2, 1) := by decide +kernel
theorem dX11_count_13 : decode cX11_count 13 = .ok (.aload_n 0, 1) := by decide +kernel
theorem dX11_count_14 : decode cX11_count 14 = .ok (.getfield 27, 3) := by decide +kernel
theorem dX11_count_17 : decode cX11_count 17 = .ok (.iload_n 3, 1) := by decide +kernel
theorem dX11_count_18 : decode cX11_count 18 = .ok (.iaload, 1) := by decide +kernel
theorem dX11_count_19 : decode cX11_count 19 = .ok (.iconst 2, 1) := by decide +kernel
theorem dX11_count_20 : decode cX11_count 20 = .ok (.if_icmp .ne 7, 3) := by decide +kernel
theorem dX11_count_23 : decode cX11_count 23 = .ok (.iconst 1, 1) := by decide +kernel
theorem dX11_count_24 : decode cX11_count 24 = .ok (.goto 4, 3) := by decide +kernel
theorem dX11_count_27 : decode cX11_count 27 = .ok (.iconst 0, 1) := by decide +kernel
theorem dX11_count_28 : decode cX11_count 28 = .ok (.iadd, 1) := by decide +kernel
theorem dX11_count_29 : decode cX11_count 29 = .ok (.istore_n 2, 1) := by decide +kernel
theorem dX11_count_30 : decode cX11_count 30 = .ok (.iinc 3 1, 3) := by decide +kernel
theorem dX11_count_33 : decode cX11_count 33 = .ok (.goto (-29), 3) := by decide +kernel
theorem dX11_count_36 : decode cX11_count 36 = .ok (.iload_n 1, 1) := by decide +kernel
theorem dX11_count_37 : decode cX11_count 37 = .ok (.ifCond .ne 10, 3) := by decide +kernel
theorem dX11_count_40 : decode cX11_count 40 = .ok (.aload_n 0, 1) := by decide +kernel
theorem dX11_count_41 : decode cX11_count 41 = .ok (.getfield 172, 3) := by decide +kernel
theorem dX11_count_44 : decode cX11_count 44 = .ok (.goto 37, 3) := by decide +kernel
theorem dX11_count_47 : decode cX11_count 47 = .ok (.iload_n 1, 1) := by decide +kernel
theorem dX11_count_48 : decode cX11_count 48 = .ok (.iconst 1, 1) := by decide +kernel
theorem dX11_count_49 : decode cX11_count 49 = .ok (.if_icmp .ne 10, 3) := by decide +kernel
theorem dX11_count_52 : decode cX11_count 52 = .ok (.aload_n 0, 1) := by decide +kernel
theorem dX11_count_53 : decode cX11_count 53 = .ok (.getfield 220, 3) := by decide +kernel
theorem dX11_count_56 : decode cX11_count 56 = .ok (.goto 25, 3) := by decide +kernel
theorem dX11_count_59 : decode cX11_count 59 = .ok (.iload_n 1, 1) := by decide +kernel
theorem dX11_count_60 : decode cX11_count 60 = .ok (.iconst 2, 1) := by decide +kernel
theorem dX11_count_61 : decode cX11_count 61 = .ok (.if_icmp .ne 10, 3) := by decide +kernel
theorem dX11_count_64 : decode cX11_count 64 = .ok (.aload_n 0, 1) := by decide +kernel
theorem dX11_count_65 : decode cX11_count 65 = .ok (.getfield 327, 3) := by decide +kernel
theorem dX11_count_68 : decode cX11_count 68 = .ok (.goto 13, 3) := by decide +kernel
theorem dX11_count_71 : decode cX11_count 71 = .ok (.iload_n 1, 1) := by decide +kernel
theorem dX11_count_72 : decode cX11_count 72 = .ok (.iconst 3, 1) := by decide +kernel
theorem dX11_count_73 : decode cX11_count 73 = .ok (.if_icmp .ne 7, 3) := by decide +kernel
theorem dX11_count_76 : decode cX11_count 76 = .ok (.iload_n 2, 1) := by decide +kernel
theorem dX11_count_77 : decode cX11_count 77 = .ok (.goto 4, 3) := by decide +kernel
theorem dX11_count_80 : decode cX11_count 80 = .ok (.iconst (-1), 1) := by decide +kernel
theorem dX11_count_81 : decode cX11_count 81 = .ok (.ireturn, 1) := by decide +kernel
theorem dJxa1e45_init_da8c8_0 : decode cJxa1e45_init_da8c8 0 = .ok (.aload_n 0, 1) := by decide +kernel
theorem dJxa1e45_init_da8c8_1 : decode cJxa1e45_init_da8c8 1 = .ok (.invokespecial 1, 3) := by decide +kernel
theorem dJxa1e45_init_da8c8_4 : decode cJxa1e45_init_da8c8 4 = .ok (.return_, 1) := by decide +kernel
theorem dJxc12de_init_da8c8_0 : decode cJxc12de_init_da8c8 0 = .ok (.aload_n 0, 1) := by decide +kernel
theorem dJxc12de_init_da8c8_1 : decode cJxc12de_init_da8c8 1 = .ok (.invokespecial 1, 3) := by decide +kernel
theorem dJxc12de_init_da8c8_4 : decode cJxc12de_init_da8c8 4 = .ok (.aload_n 0, 1) := by decide +kernel
theorem dJxc12de_init_da8c8_5 : decode cJxc12de_init_da8c8 5 = .ok (.iconst 0, 1) := by decide +kernel
theorem dJxc12de_init_da8c8_6 : decode cJxc12de_init_da8c8 6 = .ok (.putfield 7, 3) := by decide +kernel
theorem dJxc12de_init_da8c8_9 : decode cJxc12de_init_da8c8 9 = .ok (.return_, 1) := by decide +kernel
theorem dJx4a65c_init_da8c8_0 : decode cJx4a65c_init_da8c8 0 = .ok (.aload_n 0, 1) := by decide +kernel
theorem dJx4a65c_init_da8c8_1 : decode cJx4a65c_init_da8c8 1 = .ok (.invokespecial 1, 3) := by decide +kernel
theorem dJx4a65c_init_da8c8_4 : decode cJx4a65c_init_da8c8 4 = .ok (.aload_n 0, 1) := by decide +kernel
theorem dJx4a65c_init_da8c8_5 : decode cJx4a65c_init_da8c8 5 = .ok (.getstatic 39, 3) := by decide +kernel
theorem dJx4a65c_init_da8c8_8 : decode cJx4a65c_init_da8c8 8 = .ok (.putfield 9, 3) := by decide +kernel
theorem dJx4a65c_init_da8c8_11 : decode cJx4a65c_init_da8c8 11 = .ok (.return_, 1) := by decide +kernel
theorem dL_law_0 : decode cL_law 0 = .ok (.new 7, 3) := by decide +kernel
theorem dL_law_3 : decode cL_law 3 = .ok (.dup, 1) := by decide +kernel
theorem dL_law_4 : decode cL_law 4 = .ok (.invokespecial 9, 3) := by decide +kernel
theorem dL_law_7 : decode cL_law 7 = .ok (.astore_n 1, 1) := by decide +kernel
theorem dL_law_8 : decode cL_law 8 = .ok (.new 10, 3) := by decide +kernel
theorem dL_law_11 : decode cL_law 11 = .ok (.dup, 1) := by decide +kernel
theorem dL_law_12 : decode cL_law 12 = .ok (.invokespecial 12, 3) := by decide +kernel
theorem dL_law_15 : decode cL_law 15 = .ok (.astore_n 2, 1) := by decide +kernel
theorem dL_law_16 : decode cL_law 16 = .ok (.iconst 0, 1) := by decide +kernel
theorem dL_law_17 : decode cL_law 17 = .ok (.istore_n 3, 1) := by decide +kernel
theorem dL_law_18 : decode cL_law 18 = .ok (.iload_n 3, 1) := by decide +kernel
theorem dL_law_19 : decode cL_law 19 = .ok (.aload_n 0, 1) := by decide +kernel
theorem dL_law_20 : decode cL_law 20 = .ok (.arraylength, 1) := by decide +kernel
theorem dL_law_21 : decode cL_law 21 = .ok (.bipush 6, 2) := by decide +kernel
theorem dL_law_23 : decode cL_law 23 = .ok (.isub, 1) := by decide +kernel
theorem dL_law_24 : decode cL_law 24 = .ok (.if_icmp .gt 668, 3) := by decide +kernel
theorem dL_law_27 : decode cL_law 27 = .ok (.aload_n 0, 1) := by decide +kernel
theorem dL_law_28 : decode cL_law 28 = .ok (.iload_n 3, 1) := by decide +kernel
theorem dL_law_29 : decode cL_law 29 = .ok (.iaload, 1) := by decide +kernel
theorem dL_law_30 : decode cL_law 30 = .ok (.bipush 15, 2) := by decide +kernel
theorem dL_law_32 : decode cL_law 32 = .ok (.iand, 1) := by decide +kernel
theorem dL_law_33 : decode cL_law 33 = .ok (.tableswitch 653 0 15 #[79, 158, 181, 204, 237, 300, 353, 376, 409, 432, 465, 498, 541, 594, 617, 630], 79) := by decide +kernel
theorem dL_law_112 : decode cL_law 112 = .ok (.aload_n 1, 1) := by decide +kernel
theorem dL_law_113 : decode cL_law 113 = .ok (.aload_n 0, 1) := by decide +kernel
theorem dL_law_114 : decode cL_law 114 = .ok (.iload_n 3, 1) := by decide +kernel
theorem dL_law_115 : decode cL_law 115 = .ok (.iconst 1, 1) := by decide +kernel
theorem dL_law_116 : decode cL_law 116 = .ok (.iadd, 1) := by decide +kernel
theorem dL_law_117 : decode cL_law 117 = .ok (.iaload, 1) := by decide +kernel
theorem dL_law_118 : decode cL_law 118 = .ok (.aload_n 0, 1) := by decide +kernel
theorem dL_law_119 : decode cL_law 119 = .ok (.iload_n 3, 1) := by decide +kernel
theorem dL_law_120 : decode cL_law 120 = .ok (.iconst 2, 1) := by decide +kernel
theorem dL_law_121 : decode cL_law 121 = .ok (.iadd, 1) := by decide +kernel
theorem dL_law_122 : decode cL_law 122 = .ok (.iaload, 1) := by decide +kernel
theorem dL_law_123 : decode cL_law 123 = .ok (.aload_n 0, 1) := by decide +kernel
theorem dL_law_124 : decode cL_law 124 = .ok (.iload_n 3, 1) := by decide +kernel
theorem dL_law_125 : decode cL_law 125 = .ok (.iconst 3, 1) := by decide +kernel
theorem dL_law_126 : decode cL_law 126 = .ok (.iadd, 1) := by decide +kernel
theorem dL_law_127 : decode cL_law 127 = .ok (.iaload, 1) := by decide +kernel
theorem dL_law_128 : decode cL_law 128 = .ok (.aload_n 0, 1) := by decide +kernel
theorem dL_law_129 : decode cL_law 129 = .ok (.iload_n 3, 1) := by decide +kernel
theorem dL_law_130 : decode cL_law 130 = .ok (.iconst 4, 1) := by decide +kernel
theorem dL_law_131 : decode cL_law 131 = .ok (.iadd, 1) := by decide +kernel
theorem dL_law_132 : decode cL_law 132 = .ok (.iaload, 1) := by decide +kernel
theorem dL_law_133 : decode cL_law 133 = .ok (.ifCond .eq 7, 3) := by decide +kernel
theorem dL_law_136 : decode cL_law 136 = .ok (.iconst 1, 1) := by decide +kernel
theorem dL_law_137 : decode cL_law 137 = .ok (.goto 4, 3) := by decide +kernel
theorem dL_law_140 : decode cL_law 140 = .ok (.iconst 0, 1) := by decide +kernel
theorem dL_law_141 : decode cL_law 141 = .ok (.aload_n 0, 1) := by decide +kernel
theorem dL_law_142 : decode cL_law 142 = .ok (.iload_n 3, 1) := by decide +kernel
theorem dL_law_143 : decode cL_law 143 = .ok (.iconst 5, 1) := by decide +kernel
theorem dL_law_144 : decode cL_law 144 = .ok (.iadd, 1) := by decide +kernel
theorem dL_law_145 : decode cL_law 145 = .ok (.iaload, 1) := by decide +kernel
theorem dL_law_146 : decode cL_law 146 = .ok (.invokevirtual 13, 3) := by decide +kernel
theorem dL_law_149 : decode cL_law 149 = .ok (.aload_n 2, 1) := by decide +kernel
theorem dL_law_150 : decode cL_law 150 = .ok (.aload_n 0, 1) := by decide +kernel
theorem dL_law_151 : decode cL_law 151 = .ok (.iload_n 3, 1) := by decide +kernel
theorem dL_law_152 : decode cL_law 152 = .ok (.iconst 1, 1) := by decide +kernel
theorem dL_law_153 : decode cL_law 153 = .ok (.iadd, 1) := by decide +kernel
theorem dL_law_154 : decode cL_law 154 = .ok (.iaload, 1) := by decide +kernel
theorem dL_law_155 : decode cL_law 155 = .ok (.aload_n 0, 1) := by decide +kernel
theorem dL_law_156 : decode cL_law 156 = .ok (.iload_n 3, 1) := by decide +kernel
theorem dL_law_157 : decode cL_law 157 = .ok (.iconst 2, 1) := by decide +kernel
theorem dL_law_158 : decode cL_law 158 = .ok (.iadd, 1) := by decide +kernel
theorem dL_law_159 : decode cL_law 159 = .ok (.iaload, 1) := by decide +kernel
theorem dL_law_160 : decode cL_law 160 = .ok (.aload_n 0, 1) := by decide +kernel
theorem dL_law_161 : decode cL_law 161 = .ok (.iload_n 3, 1) := by decide +kernel
theorem dL_law_162 : decode cL_law 162 = .ok (.iconst 3, 1) := by decide +kernel
theorem dL_law_163 : decode cL_law 163 = .ok (.iadd, 1) := by decide +kernel
theorem dL_law_164 : decode cL_law 164 = .ok (.iaload, 1) := by decide +kernel
theorem dL_law_165 : decode cL_law 165 = .ok (.aload_n 0, 1) := by decide +kernel
theorem dL_law_166 : decode cL_law 166 = .ok (.iload_n 3, 1) := by decide +kernel
theorem dL_law_167 : decode cL_law 167 = .ok (.iconst 4, 1) := by decide +kernel
theorem dL_law_168 : decode cL_law 168 = .ok (.iadd, 1) := by decide +kernel
theorem dL_law_169 : decode cL_law 169 = .ok (.iaload, 1) := by decide +kernel
theorem dL_law_170 : decode cL_law 170 = .ok (.ifCond .eq 7, 3) := by decide +kernel
theorem dL_law_173 : decode cL_law 173 = .ok (.iconst 1, 1) := by decide +kernel
theorem dL_law_174 : decode cL_law 174 = .ok (.goto 4, 3) := by decide +kernel
theorem dL_law_177 : decode cL_law 177 = .ok (.iconst 0, 1) := by decide +kernel
theorem dL_law_178 : decode cL_law 178 = .ok (.aload_n 0, 1) := by decide +kernel
theorem dL_law_179 : decode cL_law 179 = .ok (.iload_n 3, 1) := by decide +kernel
theorem dL_law_180 : decode cL_law 180 = .ok (.iconst 5, 1) := by decide +kernel
theorem dL_law_181 : decode cL_law 181 = .ok (.iadd, 1) := by decide +kernel
theorem dL_law_182 : decode cL_law 182 = .ok (.iaload, 1) := by decide +kernel
theorem dL_law_183 : decode cL_law 183 = .ok (.invokevirtual 17, 3) := by decide +kernel
theorem dL_law_186 : decode cL_law 186 = .ok (.if_icmp .eq 500, 3) := by decide +kernel
theorem dL_law_189 : decode cL_law 189 = .ok (.iconst 0, 1) := by decide +kernel
theorem dL_law_190 : decode cL_law 190 = .ok (.ireturn, 1) := by decide +kernel
theorem dL_law_191 : decode cL_law 191 = .ok (.aload_n 1, 1) := by decide +kernel
theorem dL_law_192 : decode cL_law 192 = .ok (.aload_n 0, 1) := by decide +kernel
theorem dL_law_193 : decode cL_law 193 = .ok (.iload_n 3, 1) := by decide +kernel
theorem dL_law_194 : decode cL_law 194 = .ok (.iconst 1, 1) := by decide +kernel
theorem dL_law_195 : decode cL_law 195 = .ok (.iadd, 1) := by decide +kernel
theorem dL_law_196 : decode cL_law 196 = .ok (.iaload, 1) := by decide +kernel
theorem dL_law_197 : decode cL_law 197 = .ok (.invokevirtual 18, 3) := by decide +kernel
theorem dL_law_200 : decode cL_law 200 = .ok (.aload_n 2, 1) := by decide +kernel
theorem dL_law_201 : decode cL_law 201 = .ok (.aload_n 0, 1) := by decide +kernel
theorem dL_law_202 : decode cL_law 202 = .ok (.iload_n 3, 1) := by decide +kernel
theorem dL_law_203 : decode cL_law 203 = .ok (.iconst 1, 1) := by decide +kernel
theorem dL_law_204 : decode cL_law 204 = .ok (.iadd, 1) := by decide +kernel
theorem dL_law_205 : decode cL_law 205 = .ok (.iaload, 1) := by decide +kernel
theorem dL_law_206 : decode cL_law 206 = .ok (.invokevirtual 22, 3) := by decide +kernel
theorem dL_law_209 : decode cL_law 209 = .ok (.if_icmp .eq 477, 3) := by decide +kernel
theorem dL_law_212 : decode cL_law 212 = .ok (.iconst 0, 1) := by decide +kernel
theorem dL_law_213 : decode cL_law 213 = .ok (.ireturn, 1) := by decide +kernel
theorem dL_law_214 : decode cL_law 214 = .ok (.aload_n 1, 1) := by decide +kernel
theorem dL_law_215 : decode cL_law 215 = .ok (.aload_n 0, 1) := by decide +kernel
theorem dL_law_216 : decode cL_law 216 = .ok (.iload_n 3, 1) := by decide +kernel
theorem dL_law_217 : decode cL_law 217 = .ok (.iconst 1, 1) := by decide +kernel
theorem dL_law_218 : decode cL_law 218 = .ok (.iadd, 1) := by decide +kernel
theorem dL_law_219 : decode cL_law 219 = .ok (.iaload, 1) := by decide +kernel
theorem dL_law_220 : decode cL_law 220 = .ok (.invokevirtual 23, 3) := by decide +kernel
theorem dL_law_223 : decode cL_law 223 = .ok (.aload_n 2, 1) := by decide +kernel
theorem dL_law_224 : decode cL_law 224 = .ok (.aload_n 0, 1) := by decide +kernel
theorem dL_law_225 : decode cL_law 225 = .ok (.iload_n 3, 1) := by decide +kernel
theorem dL_law_226 : decode cL_law 226 = .ok (.iconst 1, 1) := by decide +kernel
theorem dL_law_227 : decode cL_law 227 = .ok (.iadd, 1) := by decide +kernel
theorem dL_law_228 : decode cL_law 228 = .ok (.iaload, 1) := by decide +kernel
theorem dL_law_229 : decode cL_law 229 = .ok (.invokevirtual 26, 3) := by decide +kernel
theorem dL_law_232 : decode cL_law 232 = .ok (.if_icmp .eq 454, 3) := by decide +kernel
theorem dL_law_235 : decode cL_law 235 = .ok (.iconst 0, 1) := by decide +kernel
theorem dL_law_236 : decode cL_law 236 = .ok (.ireturn, 1) := by decide +kernel
theorem dL_law_237 : decode cL_law 237 = .ok (.aload_n 1, 1) := by decide +kernel
theorem dL_law_238 : decode cL_law 238 = .ok (.aload_n 0, 1) := by decide +kernel
theorem dL_law_239 : decode cL_law 239 = .ok (.iload_n 3, 1) := by decide +kernel
theorem dL_law_240 : decode cL_law 240 = .ok (.iconst 1, 1) := by decide +kernel
theorem dL_law_241 : decode cL_law 241 = .ok (.iadd, 1) := by decide +kernel
theorem dL_law_242 : decode cL_law 242 = .ok (.iaload, 1) := by decide +kernel
theorem dL_law_243 : decode cL_law 243 = .ok (.aload_n 0, 1) := by decide +kernel
theorem dL_law_244 : decode cL_law 244 = .ok (.iload_n 3, 1) := by decide +kernel
theorem dL_law_245 : decode cL_law 245 = .ok (.iconst 2, 1) := by decide +kernel
theorem dL_law_246 : decode cL_law 246 = .ok (.iadd, 1) := by decide +kernel
theorem dL_law_247 : decode cL_law 247 = .ok (.iaload, 1) := by decide +kernel
theorem dL_law_248 : decode cL_law 248 = .ok (.invokevirtual 27, 3) := by decide +kernel
theorem dL_law_251 : decode cL_law 251 = .ok (.aload_n 2, 1) := by decide +kernel
theorem dL_law_252 : decode cL_law 252 = .ok (.aload_n 0, 1) := by decide +kernel
theorem dL_law_253 : decode cL_law 253 = .ok (.iload_n 3, 1) := by decide +kernel
theorem dL_law_254 : decode cL_law 254 = .ok (.iconst 1, 1) := by decide +kernel
