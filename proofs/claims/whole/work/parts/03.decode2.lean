theorem dX7_heard_0 : decode cX7_heard 0 = .ok (.aload_n 0, 1) := by decide +kernel
theorem dX7_heard_1 : decode cX7_heard 1 = .ok (.getfield 10, 3) := by decide +kernel
theorem dX7_heard_4 : decode cX7_heard 4 = .ok (.iload_n 1, 1) := by decide +kernel
theorem dX7_heard_5 : decode cX7_heard 5 = .ok (.iload_n 2, 1) := by decide +kernel
theorem dX7_heard_6 : decode cX7_heard 6 = .ok (.invokevirtual 173, 3) := by decide +kernel
theorem dX7_heard_9 : decode cX7_heard 9 = .ok (.ifCond .ne 6, 3) := by decide +kernel
theorem dX7_heard_12 : decode cX7_heard 12 = .ok (.ldc 142, 2) := by decide +kernel
theorem dX7_heard_14 : decode cX7_heard 14 = .ok (.ireturn, 1) := by decide +kernel
theorem dX7_heard_15 : decode cX7_heard 15 = .ok (.iload_n 3, 1) := by decide +kernel
theorem dX7_heard_16 : decode cX7_heard 16 = .ok (.tableswitch 138 0 4 #[36, 49, 66, 84, 94], 36) := by decide +kernel
theorem dX7_heard_52 : decode cX7_heard 52 = .ok (.aload_n 0, 1) := by decide +kernel
theorem dX7_heard_53 : decode cX7_heard 53 = .ok (.getfield 10, 3) := by decide +kernel
theorem dX7_heard_56 : decode cX7_heard 56 = .ok (.iload_n 1, 1) := by decide +kernel
theorem dX7_heard_57 : decode cX7_heard 57 = .ok (.iload_n 2, 1) := by decide +kernel
theorem dX7_heard_58 : decode cX7_heard 58 = .ok (.invokevirtual 177, 3) := by decide +kernel
theorem dX7_heard_61 : decode cX7_heard 61 = .ok (.ldc 152, 2) := by decide +kernel
theorem dX7_heard_63 : decode cX7_heard 63 = .ok (.iadd, 1) := by decide +kernel
theorem dX7_heard_64 : decode cX7_heard 64 = .ok (.ireturn, 1) := by decide +kernel
theorem dX7_heard_65 : decode cX7_heard 65 = .ok (.aload_n 0, 1) := by decide +kernel
theorem dX7_heard_66 : decode cX7_heard 66 = .ok (.getfield 10, 3) := by decide +kernel
theorem dX7_heard_69 : decode cX7_heard 69 = .ok (.getfield 181, 3) := by decide +kernel
theorem dX7_heard_72 : decode cX7_heard 72 = .ok (.iload_n 1, 1) := by decide +kernel
theorem dX7_heard_73 : decode cX7_heard 73 = .ok (.iload_n 2, 1) := by decide +kernel
theorem dX7_heard_74 : decode cX7_heard 74 = .ok (.invokestatic 184, 3) := by decide +kernel
theorem dX7_heard_77 : decode cX7_heard 77 = .ok (.iaload, 1) := by decide +kernel
theorem dX7_heard_78 : decode cX7_heard 78 = .ok (.bipush 20, 2) := by decide +kernel
theorem dX7_heard_80 : decode cX7_heard 80 = .ok (.iadd, 1) := by decide +kernel
theorem dX7_heard_81 : decode cX7_heard 81 = .ok (.ireturn, 1) := by decide +kernel
theorem dX7_heard_82 : decode cX7_heard 82 = .ok (.aload_n 0, 1) := by decide +kernel
theorem dX7_heard_83 : decode cX7_heard 83 = .ok (.getfield 10, 3) := by decide +kernel
theorem dX7_heard_86 : decode cX7_heard 86 = .ok (.getfield 187, 3) := by decide +kernel
theorem dX7_heard_89 : decode cX7_heard 89 = .ok (.iload_n 1, 1) := by decide +kernel
theorem dX7_heard_90 : decode cX7_heard 90 = .ok (.iload_n 2, 1) := by decide +kernel
theorem dX7_heard_91 : decode cX7_heard 91 = .ok (.invokestatic 184, 3) := by decide +kernel
theorem dX7_heard_94 : decode cX7_heard 94 = .ok (.iaload, 1) := by decide +kernel
theorem dX7_heard_95 : decode cX7_heard 95 = .ok (.sipush 9999, 3) := by decide +kernel
theorem dX7_heard_98 : decode cX7_heard 98 = .ok (.iadd, 1) := by decide +kernel
theorem dX7_heard_99 : decode cX7_heard 99 = .ok (.ireturn, 1) := by decide +kernel
theorem dX7_heard_100 : decode cX7_heard 100 = .ok (.aload_n 0, 1) := by decide +kernel
theorem dX7_heard_101 : decode cX7_heard 101 = .ok (.getfield 10, 3) := by decide +kernel
theorem dX7_heard_104 : decode cX7_heard 104 = .ok (.iload_n 1, 1) := by decide +kernel
theorem dX7_heard_105 : decode cX7_heard 105 = .ok (.iload_n 2, 1) := by decide +kernel
theorem dX7_heard_106 : decode cX7_heard 106 = .ok (.invokevirtual 190, 3) := by decide +kernel
theorem dX7_heard_109 : decode cX7_heard 109 = .ok (.ireturn, 1) := by decide +kernel
theorem dX7_heard_110 : decode cX7_heard 110 = .ok (.aload_n 0, 1) := by decide +kernel
theorem dX7_heard_111 : decode cX7_heard 111 = .ok (.getfield 10, 3) := by decide +kernel
theorem dX7_heard_114 : decode cX7_heard 114 = .ok (.iload_n 2, 1) := by decide +kernel
theorem dX7_heard_115 : decode cX7_heard 115 = .ok (.invokevirtual 162, 3) := by decide +kernel
theorem dX7_heard_118 : decode cX7_heard 118 = .ok (.ifCond .eq 34, 3) := by decide +kernel
theorem dX7_heard_121 : decode cX7_heard 121 = .ok (.aload_n 0, 1) := by decide +kernel
theorem dX7_heard_122 : decode cX7_heard 122 = .ok (.getfield 10, 3) := by decide +kernel
theorem dX7_heard_125 : decode cX7_heard 125 = .ok (.iload_n 1, 1) := by decide +kernel
theorem dX7_heard_126 : decode cX7_heard 126 = .ok (.invokevirtual 193, 3) := by decide +kernel
theorem dX7_heard_129 : decode cX7_heard 129 = .ok (.ifCond .eq 23, 3) := by decide +kernel
theorem dX7_heard_132 : decode cX7_heard 132 = .ok (.aload_n 0, 1) := by decide +kernel
theorem dX7_heard_133 : decode cX7_heard 133 = .ok (.getfield 29, 3) := by decide +kernel
theorem dX7_heard_136 : decode cX7_heard 136 = .ok (.aload_n 0, 1) := by decide +kernel
theorem dX7_heard_137 : decode cX7_heard 137 = .ok (.getfield 10, 3) := by decide +kernel
theorem dX7_heard_140 : decode cX7_heard 140 = .ok (.iload_n 1, 1) := by decide +kernel
theorem dX7_heard_141 : decode cX7_heard 141 = .ok (.iload_n 2, 1) := by decide +kernel
theorem dX7_heard_142 : decode cX7_heard 142 = .ok (.invokevirtual 196, 3) := by decide +kernel
theorem dX7_heard_145 : decode cX7_heard 145 = .ok (.sipush 9999, 3) := by decide +kernel
theorem dX7_heard_148 : decode cX7_heard 148 = .ok (.iadd, 1) := by decide +kernel
theorem dX7_heard_149 : decode cX7_heard 149 = .ok (.goto 4, 3) := by decide +kernel
theorem dX7_heard_152 : decode cX7_heard 152 = .ok (.iconst (-1), 1) := by decide +kernel
theorem dX7_heard_153 : decode cX7_heard 153 = .ok (.ireturn, 1) := by decide +kernel
theorem dX7_heard_154 : decode cX7_heard 154 = .ok (.ldc 70, 2) := by decide +kernel
theorem dX7_heard_156 : decode cX7_heard 156 = .ok (.ireturn, 1) := by decide +kernel
theorem dX7_alarmAt_0 : decode cX7_alarmAt 0 = .ok (.iload_n 1, 1) := by decide +kernel
theorem dX7_alarmAt_1 : decode cX7_alarmAt 1 = .ok (.iconst 0, 1) := by decide +kernel
theorem dX7_alarmAt_2 : decode cX7_alarmAt 2 = .ok (.aload_n 0, 1) := by decide +kernel
theorem dX7_alarmAt_3 : decode cX7_alarmAt 3 = .ok (.getfield 10, 3) := by decide +kernel
theorem dX7_alarmAt_6 : decode cX7_alarmAt 6 = .ok (.getfield 125, 3) := by decide +kernel
theorem dX7_alarmAt_9 : decode cX7_alarmAt 9 = .ok (.iconst 1, 1) := by decide +kernel
theorem dX7_alarmAt_10 : decode cX7_alarmAt 10 = .ok (.isub, 1) := by decide +kernel
theorem dX7_alarmAt_11 : decode cX7_alarmAt 11 = .ok (.invokestatic 66, 3) := by decide +kernel
theorem dX7_alarmAt_14 : decode cX7_alarmAt 14 = .ok (.ifCond .ne 6, 3) := by decide +kernel
theorem dX7_alarmAt_17 : decode cX7_alarmAt 17 = .ok (.ldc 142, 2) := by decide +kernel
theorem dX7_alarmAt_19 : decode cX7_alarmAt 19 = .ok (.ireturn, 1) := by decide +kernel
theorem dX7_alarmAt_20 : decode cX7_alarmAt 20 = .ok (.iload_n 2, 1) := by decide +kernel
theorem dX7_alarmAt_21 : decode cX7_alarmAt 21 = .ok (.tableswitch 59 0 2 #[27, 37, 47], 27) := by decide +kernel
theorem dX7_alarmAt_48 : decode cX7_alarmAt 48 = .ok (.aload_n 0, 1) := by decide +kernel
theorem dX7_alarmAt_49 : decode cX7_alarmAt 49 = .ok (.getfield 10, 3) := by decide +kernel
theorem dX7_alarmAt_52 : decode cX7_alarmAt 52 = .ok (.getfield 200, 3) := by decide +kernel
theorem dX7_alarmAt_55 : decode cX7_alarmAt 55 = .ok (.iload_n 1, 1) := by decide +kernel
theorem dX7_alarmAt_56 : decode cX7_alarmAt 56 = .ok (.iaload, 1) := by decide +kernel
theorem dX7_alarmAt_57 : decode cX7_alarmAt 57 = .ok (.ireturn, 1) := by decide +kernel
theorem dX7_alarmAt_58 : decode cX7_alarmAt 58 = .ok (.aload_n 0, 1) := by decide +kernel
theorem dX7_alarmAt_59 : decode cX7_alarmAt 59 = .ok (.getfield 10, 3) := by decide +kernel
theorem dX7_alarmAt_62 : decode cX7_alarmAt 62 = .ok (.getfield 203, 3) := by decide +kernel
theorem dX7_alarmAt_65 : decode cX7_alarmAt 65 = .ok (.iload_n 1, 1) := by decide +kernel
theorem dX7_alarmAt_66 : decode cX7_alarmAt 66 = .ok (.iaload, 1) := by decide +kernel
theorem dX7_alarmAt_67 : decode cX7_alarmAt 67 = .ok (.ireturn, 1) := by decide +kernel
theorem dX7_alarmAt_68 : decode cX7_alarmAt 68 = .ok (.aload_n 0, 1) := by decide +kernel
theorem dX7_alarmAt_69 : decode cX7_alarmAt 69 = .ok (.getfield 10, 3) := by decide +kernel
theorem dX7_alarmAt_72 : decode cX7_alarmAt 72 = .ok (.getfield 128, 3) := by decide +kernel
theorem dX7_alarmAt_75 : decode cX7_alarmAt 75 = .ok (.iload_n 1, 1) := by decide +kernel
theorem dX7_alarmAt_76 : decode cX7_alarmAt 76 = .ok (.ishr, 1) := by decide +kernel
theorem dX7_alarmAt_77 : decode cX7_alarmAt 77 = .ok (.iconst 1, 1) := by decide +kernel
theorem dX7_alarmAt_78 : decode cX7_alarmAt 78 = .ok (.iand, 1) := by decide +kernel
theorem dX7_alarmAt_79 : decode cX7_alarmAt 79 = .ok (.ireturn, 1) := by decide +kernel
theorem dX7_alarmAt_80 : decode cX7_alarmAt 80 = .ok (.ldc 70, 2) := by decide +kernel
theorem dX7_alarmAt_82 : decode cX7_alarmAt 82 = .ok (.ireturn, 1) := by decide +kernel
theorem dX7_tick_0 : decode cX7_tick 0 = .ok (.iload_n 1, 1) := by decide +kernel
theorem dX7_tick_1 : decode cX7_tick 1 = .ok (.iconst 1, 1) := by decide +kernel
theorem dX7_tick_2 : decode cX7_tick 2 = .ok (.bipush 20, 2) := by decide +kernel
theorem dX7_tick_4 : decode cX7_tick 4 = .ok (.invokestatic 66, 3) := by decide +kernel
theorem dX7_tick_7 : decode cX7_tick 7 = .ok (.ifCond .ne 6, 3) := by decide +kernel
theorem dX7_tick_10 : decode cX7_tick 10 = .ok (.ldc 70, 2) := by decide +kernel
theorem dX7_tick_12 : decode cX7_tick 12 = .ok (.ireturn, 1) := by decide +kernel
theorem dX7_tick_13 : decode cX7_tick 13 = .ok (.aload_n 0, 1) := by decide +kernel
theorem dX7_tick_14 : decode cX7_tick 14 = .ok (.getfield 36, 3) := by decide +kernel
theorem dX7_tick_17 : decode cX7_tick 17 = .ok (.aload_n 0, 1) := by decide +kernel
theorem dX7_tick_18 : decode cX7_tick 18 = .ok (.getfield 10, 3) := by decide +kernel
theorem dX7_tick_21 : decode cX7_tick 21 = .ok (.invokevirtual 206, 3) := by decide +kernel
theorem dX7_tick_24 : decode cX7_tick 24 = .ok (.iconst 0, 1) := by decide +kernel
theorem dX7_tick_25 : decode cX7_tick 25 = .ok (.istore_n 2, 1) := by decide +kernel
theorem dX7_tick_26 : decode cX7_tick 26 = .ok (.iconst 0, 1) := by decide +kernel
theorem dX7_tick_27 : decode cX7_tick 27 = .ok (.istore_n 3, 1) := by decide +kernel
theorem dX7_tick_28 : decode cX7_tick 28 = .ok (.iload_n 3, 1) := by decide +kernel
theorem dX7_tick_29 : decode cX7_tick 29 = .ok (.iload_n 1, 1) := by decide +kernel
theorem dX7_tick_30 : decode cX7_tick 30 = .ok (.if_icmp .ge 19, 3) := by decide +kernel
theorem dX7_tick_33 : decode cX7_tick 33 = .ok (.iload_n 2, 1) := by decide +kernel
theorem dX7_tick_34 : decode cX7_tick 34 = .ok (.aload_n 0, 1) := by decide +kernel
theorem dX7_tick_35 : decode cX7_tick 35 = .ok (.getfield 10, 3) := by decide +kernel
theorem dX7_tick_38 : decode cX7_tick 38 = .ok (.invokevirtual 209, 3) := by decide +kernel
theorem dX7_tick_41 : decode cX7_tick 41 = .ok (.ior, 1) := by decide +kernel
theorem dX7_tick_42 : decode cX7_tick 42 = .ok (.istore_n 2, 1) := by decide +kernel
theorem dX7_tick_43 : decode cX7_tick 43 = .ok (.iinc 3 1, 3) := by decide +kernel
theorem dX7_tick_46 : decode cX7_tick 46 = .ok (.goto (-18), 3) := by decide +kernel
theorem dX7_tick_49 : decode cX7_tick 49 = .ok (.iload_n 2, 1) := by decide +kernel
theorem dX7_tick_50 : decode cX7_tick 50 = .ok (.ireturn, 1) := by decide +kernel
theorem dX7_round_0 : decode cX7_round 0 = .ok (.aload_n 0, 1) := by decide +kernel
theorem dX7_round_1 : decode cX7_round 1 = .ok (.getfield 36, 3) := by decide +kernel
theorem dX7_round_4 : decode cX7_round 4 = .ok (.aload_n 0, 1) := by decide +kernel
theorem dX7_round_5 : decode cX7_round 5 = .ok (.getfield 10, 3) := by decide +kernel
theorem dX7_round_8 : decode cX7_round 8 = .ok (.invokevirtual 206, 3) := by decide +kernel
theorem dX7_round_11 : decode cX7_round 11 = .ok (.aload_n 0, 1) := by decide +kernel
theorem dX7_round_12 : decode cX7_round 12 = .ok (.getfield 29, 3) := by decide +kernel
theorem dX7_round_15 : decode cX7_round 15 = .ok (.aload_n 0, 1) := by decide +kernel
theorem dX7_round_16 : decode cX7_round 16 = .ok (.getfield 10, 3) := by decide +kernel
theorem dX7_round_19 : decode cX7_round 19 = .ok (.invokevirtual 212, 3) := by decide +kernel
theorem dX7_round_22 : decode cX7_round 22 = .ok (.aload_n 0, 1) := by decide +kernel
theorem dX7_round_23 : decode cX7_round 23 = .ok (.getfield 10, 3) := by decide +kernel
theorem dX7_round_26 : decode cX7_round 26 = .ok (.invokevirtual 116, 3) := by decide +kernel
theorem dX7_round_29 : decode cX7_round 29 = .ok (.ireturn, 1) := by decide +kernel
theorem dX7_lie_0 : decode cX7_lie 0 = .ok (.aload_n 0, 1) := by decide +kernel
theorem dX7_lie_1 : decode cX7_lie 1 = .ok (.getfield 10, 3) := by decide +kernel
theorem dX7_lie_4 : decode cX7_lie 4 = .ok (.iload_n 1, 1) := by decide +kernel
theorem dX7_lie_5 : decode cX7_lie 5 = .ok (.iload_n 2, 1) := by decide +kernel
theorem dX7_lie_6 : decode cX7_lie 6 = .ok (.invokevirtual 173, 3) := by decide +kernel
theorem dX7_lie_9 : decode cX7_lie 9 = .ok (.ifCond .ne 6, 3) := by decide +kernel
theorem dX7_lie_12 : decode cX7_lie 12 = .ok (.ldc 142, 2) := by decide +kernel
theorem dX7_lie_14 : decode cX7_lie 14 = .ok (.ireturn, 1) := by decide +kernel
theorem dX7_lie_15 : decode cX7_lie 15 = .ok (.iload_n 3, 1) := by decide +kernel
theorem dX7_lie_16 : decode cX7_lie 16 = .ok (.sipush (-9999), 3) := by decide +kernel
theorem dX7_lie_19 : decode cX7_lie 19 = .ok (.sipush 9999, 3) := by decide +kernel
theorem dX7_lie_22 : decode cX7_lie 22 = .ok (.invokestatic 66, 3) := by decide +kernel
theorem dX7_lie_25 : decode cX7_lie 25 = .ok (.ifCond .ne 6, 3) := by decide +kernel
theorem dX7_lie_28 : decode cX7_lie 28 = .ok (.ldc 70, 2) := by decide +kernel
theorem dX7_lie_30 : decode cX7_lie 30 = .ok (.ireturn, 1) := by decide +kernel
theorem dX7_lie_31 : decode cX7_lie 31 = .ok (.aload_n 0, 1) := by decide +kernel
theorem dX7_lie_32 : decode cX7_lie 32 = .ok (.getfield 36, 3) := by decide +kernel
theorem dX7_lie_35 : decode cX7_lie 35 = .ok (.aload_n 0, 1) := by decide +kernel
theorem dX7_lie_36 : decode cX7_lie 36 = .ok (.getfield 10, 3) := by decide +kernel
theorem dX7_lie_39 : decode cX7_lie 39 = .ok (.invokevirtual 206, 3) := by decide +kernel
theorem dX7_lie_42 : decode cX7_lie 42 = .ok (.aload_n 0, 1) := by decide +kernel
theorem dX7_lie_43 : decode cX7_lie 43 = .ok (.getfield 10, 3) := by decide +kernel
theorem dX7_lie_46 : decode cX7_lie 46 = .ok (.getfield 187, 3) := by decide +kernel
theorem dX7_lie_49 : decode cX7_lie 49 = .ok (.iload_n 1, 1) := by decide +kernel
theorem dX7_lie_50 : decode cX7_lie 50 = .ok (.iload_n 2, 1) := by decide +kernel
theorem dX7_lie_51 : decode cX7_lie 51 = .ok (.invokestatic 184, 3) := by decide +kernel
theorem dX7_lie_54 : decode cX7_lie 54 = .ok (.iaload, 1) := by decide +kernel
theorem dX7_lie_55 : decode cX7_lie 55 = .ok (.istore 4, 2) := by decide +kernel
theorem dX7_lie_57 : decode cX7_lie 57 = .ok (.aload_n 0, 1) := by decide +kernel
theorem dX7_lie_58 : decode cX7_lie 58 = .ok (.getfield 10, 3) := by decide +kernel
theorem dX7_lie_61 : decode cX7_lie 61 = .ok (.getfield 187, 3) := by decide +kernel
theorem dX7_lie_64 : decode cX7_lie 64 = .ok (.iload_n 1, 1) := by decide +kernel
theorem dX7_lie_65 : decode cX7_lie 65 = .ok (.iload_n 2, 1) := by decide +kernel
theorem dX7_lie_66 : decode cX7_lie 66 = .ok (.invokestatic 184, 3) := by decide +kernel
theorem dX7_lie_69 : decode cX7_lie 69 = .ok (.iload_n 3, 1) := by decide +kernel
theorem dX7_lie_70 : decode cX7_lie 70 = .ok (.iastore, 1) := by decide +kernel
theorem dX7_lie_71 : decode cX7_lie 71 = .ok (.iload 4, 2) := by decide +kernel
theorem dX7_lie_73 : decode cX7_lie 73 = .ok (.sipush 9999, 3) := by decide +kernel
theorem dX7_lie_76 : decode cX7_lie 76 = .ok (.iadd, 1) := by decide +kernel
theorem dX7_lie_77 : decode cX7_lie 77 = .ok (.ireturn, 1) := by decide +kernel
theorem dX7_error_0 : decode cX7_error 0 = .ok (.aload_n 0, 1) := by decide +kernel
theorem dX7_error_1 : decode cX7_error 1 = .ok (.getfield 10, 3) := by decide +kernel
theorem dX7_error_4 : decode cX7_error 4 = .ok (.iload_n 1, 1) := by decide +kernel
theorem dX7_error_5 : decode cX7_error 5 = .ok (.iload_n 2, 1) := by decide +kernel
theorem dX7_error_6 : decode cX7_error 6 = .ok (.invokevirtual 173, 3) := by decide +kernel
theorem dX7_error_9 : decode cX7_error 9 = .ok (.ifCond .ne 6, 3) := by decide +kernel
theorem dX7_error_12 : decode cX7_error 12 = .ok (.ldc 142, 2) := by decide +kernel
theorem dX7_error_14 : decode cX7_error 14 = .ok (.ireturn, 1) := by decide +kernel
theorem dX7_error_15 : decode cX7_error 15 = .ok (.iload_n 3, 1) := by decide +kernel
theorem dX7_error_16 : decode cX7_error 16 = .ok (.bipush (-20), 2) := by decide +kernel
theorem dX7_error_18 : decode cX7_error 18 = .ok (.bipush 20, 2) := by decide +kernel
theorem dX7_error_20 : decode cX7_error 20 = .ok (.invokestatic 66, 3) := by decide +kernel
theorem dX7_error_23 : decode cX7_error 23 = .ok (.ifCond .ne 6, 3) := by decide +kernel
theorem dX7_error_26 : decode cX7_error 26 = .ok (.ldc 70, 2) := by decide +kernel
theorem dX7_error_28 : decode cX7_error 28 = .ok (.ireturn, 1) := by decide +kernel
theorem dX7_error_29 : decode cX7_error 29 = .ok (.aload_n 0, 1) := by decide +kernel
theorem dX7_error_30 : decode cX7_error 30 = .ok (.getfield 36, 3) := by decide +kernel
theorem dX7_error_33 : decode cX7_error 33 = .ok (.aload_n 0, 1) := by decide +kernel
theorem dX7_error_34 : decode cX7_error 34 = .ok (.getfield 10, 3) := by decide +kernel
theorem dX7_error_37 : decode cX7_error 37 = .ok (.invokevirtual 206, 3) := by decide +kernel
theorem dX7_error_40 : decode cX7_error 40 = .ok (.aload_n 0, 1) := by decide +kernel
theorem dX7_error_41 : decode cX7_error 41 = .ok (.getfield 10, 3) := by decide +kernel
theorem dX7_error_44 : decode cX7_error 44 = .ok (.getfield 181, 3) := by decide +kernel
theorem dX7_error_47 : decode cX7_error 47 = .ok (.iload_n 1, 1) := by decide +kernel
theorem dX7_error_48 : decode cX7_error 48 = .ok (.iload_n 2, 1) := by decide +kernel
theorem dX7_error_49 : decode cX7_error 49 = .ok (.invokestatic 184, 3) := by decide +kernel
theorem dX7_error_52 : decode cX7_error 52 = .ok (.iaload, 1) := by decide +kernel
theorem dX7_error_53 : decode cX7_error 53 = .ok (.istore 4, 2) := by decide +kernel
theorem dX7_error_55 : decode cX7_error 55 = .ok (.aload_n 0, 1) := by decide +kernel
theorem dX7_error_56 : decode cX7_error 56 = .ok (.getfield 10, 3) := by decide +kernel
theorem dX7_error_59 : decode cX7_error 59 = .ok (.getfield 181, 3) := by decide +kernel
theorem dX7_error_62 : decode cX7_error 62 = .ok (.iload_n 1, 1) := by decide +kernel
theorem dX7_error_63 : decode cX7_error 63 = .ok (.iload_n 2, 1) := by decide +kernel
theorem dX7_error_64 : decode cX7_error 64 = .ok (.invokestatic 184, 3) := by decide +kernel
theorem dX7_error_67 : decode cX7_error 67 = .ok (.iload_n 3, 1) := by decide +kernel
theorem dX7_error_68 : decode cX7_error 68 = .ok (.iastore, 1) := by decide +kernel
theorem dX7_error_69 : decode cX7_error 69 = .ok (.iload 4, 2) := by decide +kernel
theorem dX7_error_71 : decode cX7_error 71 = .ok (.bipush 20, 2) := by decide +kernel
theorem dX7_error_73 : decode cX7_error 73 = .ok (.iadd, 1) := by decide +kernel
theorem dX7_error_74 : decode cX7_error 74 = .ok (.ireturn, 1) := by decide +kernel
theorem dX7_liar_0 : decode cX7_liar 0 = .ok (.aload_n 0, 1) := by decide +kernel
theorem dX7_liar_1 : decode cX7_liar 1 = .ok (.getfield 10, 3) := by decide +kernel
theorem dX7_liar_4 : decode cX7_liar 4 = .ok (.iload_n 1, 1) := by decide +kernel
theorem dX7_liar_5 : decode cX7_liar 5 = .ok (.invokevirtual 138, 3) := by decide +kernel
theorem dX7_liar_8 : decode cX7_liar 8 = .ok (.ifCond .ne 6, 3) := by decide +kernel
theorem dX7_liar_11 : decode cX7_liar 11 = .ok (.ldc 142, 2) := by decide +kernel
theorem dX7_liar_13 : decode cX7_liar 13 = .ok (.ireturn, 1) := by decide +kernel
theorem dX7_liar_14 : decode cX7_liar 14 = .ok (.aload_n 0, 1) := by decide +kernel
theorem dX7_liar_15 : decode cX7_liar 15 = .ok (.getfield 36, 3) := by decide +kernel
theorem dX7_liar_18 : decode cX7_liar 18 = .ok (.aload_n 0, 1) := by decide +kernel
theorem dX7_liar_19 : decode cX7_liar 19 = .ok (.getfield 10, 3) := by decide +kernel
theorem dX7_liar_22 : decode cX7_liar 22 = .ok (.invokevirtual 206, 3) := by decide +kernel
theorem dX7_liar_25 : decode cX7_liar 25 = .ok (.aload_n 0, 1) := by decide +kernel
theorem dX7_liar_26 : decode cX7_liar 26 = .ok (.getfield 10, 3) := by decide +kernel
theorem dX7_liar_29 : decode cX7_liar 29 = .ok (.iload_n 2, 1) := by decide +kernel
theorem dX7_liar_30 : decode cX7_liar 30 = .ok (.ifCond .eq 17, 3) := by decide +kernel
theorem dX7_liar_33 : decode cX7_liar 33 = .ok (.aload_n 0, 1) := by decide +kernel
theorem dX7_liar_34 : decode cX7_liar 34 = .ok (.getfield 10, 3) := by decide +kernel
theorem dX7_liar_37 : decode cX7_liar 37 = .ok (.getfield 106, 3) := by decide +kernel
theorem dX7_liar_40 : decode cX7_liar 40 = .ok (.iconst 1, 1) := by decide +kernel
theorem dX7_liar_41 : decode cX7_liar 41 = .ok (.iload_n 1, 1) := by decide +kernel
theorem dX7_liar_42 : decode cX7_liar 42 = .ok (.ishl, 1) := by decide +kernel
theorem dX7_liar_43 : decode cX7_liar 43 = .ok (.ior, 1) := by decide +kernel
theorem dX7_liar_44 : decode cX7_liar 44 = .ok (.goto 16, 3) := by decide +kernel
theorem dX7_liar_47 : decode cX7_liar 47 = .ok (.aload_n 0, 1) := by decide +kernel
theorem dX7_liar_48 : decode cX7_liar 48 = .ok (.getfield 10, 3) := by decide +kernel
theorem dX7_liar_51 : decode cX7_liar 51 = .ok (.getfield 106, 3) := by decide +kernel
theorem dX7_liar_54 : decode cX7_liar 54 = .ok (.iconst 1, 1) := by decide +kernel
theorem dX7_liar_55 : decode cX7_liar 55 = .ok (.iload_n 1, 1) := by decide +kernel
theorem dX7_liar_56 : decode cX7_liar 56 = .ok (.ishl, 1) := by decide +kernel
theorem dX7_liar_57 : decode cX7_liar 57 = .ok (.iconst (-1), 1) := by decide +kernel
theorem dX7_liar_58 : decode cX7_liar 58 = .ok (.ixor, 1) := by decide +kernel
theorem dX7_liar_59 : decode cX7_liar 59 = .ok (.iand, 1) := by decide +kernel
theorem dX7_liar_60 : decode cX7_liar 60 = .ok (.putfield 106, 3) := by decide +kernel
theorem dX7_liar_63 : decode cX7_liar 63 = .ok (.aload_n 0, 1) := by decide +kernel
theorem dX7_liar_64 : decode cX7_liar 64 = .ok (.getfield 10, 3) := by decide +kernel
theorem dX7_liar_67 : decode cX7_liar 67 = .ok (.getfield 106, 3) := by decide +kernel
theorem dX7_liar_70 : decode cX7_liar 70 = .ok (.invokestatic 215, 3) := by decide +kernel
theorem dX7_liar_73 : decode cX7_liar 73 = .ok (.ireturn, 1) := by decide +kernel
theorem dX7_stand_0 : decode cX7_stand 0 = .ok (.aload_n 0, 1) := by decide +kernel
theorem dX7_stand_1 : decode cX7_stand 1 = .ok (.getfield 10, 3) := by decide +kernel
theorem dX7_stand_4 : decode cX7_stand 4 = .ok (.iload_n 1, 1) := by decide +kernel
theorem dX7_stand_5 : decode cX7_stand 5 = .ok (.invokevirtual 138, 3) := by decide +kernel
theorem dX7_stand_8 : decode cX7_stand 8 = .ok (.ifCond .ne 6, 3) := by decide +kernel
theorem dX7_stand_11 : decode cX7_stand 11 = .ok (.ldc 142, 2) := by decide +kernel
theorem dX7_stand_13 : decode cX7_stand 13 = .ok (.ireturn, 1) := by decide +kernel
theorem dX7_stand_14 : decode cX7_stand 14 = .ok (.aload_n 0, 1) := by decide +kernel
theorem dX7_stand_15 : decode cX7_stand 15 = .ok (.getfield 10, 3) := by decide +kernel
theorem dX7_stand_18 : decode cX7_stand 18 = .ok (.iload_n 1, 1) := by decide +kernel
theorem dX7_stand_19 : decode cX7_stand 19 = .ok (.invokevirtual 159, 3) := by decide +kernel
theorem dX7_stand_22 : decode cX7_stand 22 = .ok (.ifCond .eq 6, 3) := by decide +kernel
theorem dX7_stand_25 : decode cX7_stand 25 = .ok (.ldc 220, 2) := by decide +kernel
theorem dX7_stand_27 : decode cX7_stand 27 = .ok (.ireturn, 1) := by decide +kernel
theorem dX7_stand_28 : decode cX7_stand 28 = .ok (.aload_n 0, 1) := by decide +kernel
theorem dX7_stand_29 : decode cX7_stand 29 = .ok (.getfield 36, 3) := by decide +kernel
theorem dX7_stand_32 : decode cX7_stand 32 = .ok (.aload_n 0, 1) := by decide +kernel
theorem dX7_stand_33 : decode cX7_stand 33 = .ok (.getfield 10, 3) := by decide +kernel
theorem dX7_stand_36 : decode cX7_stand 36 = .ok (.invokevirtual 206, 3) := by decide +kernel
theorem dX7_stand_39 : decode cX7_stand 39 = .ok (.aload_n 0, 1) := by decide +kernel
theorem dX7_stand_40 : decode cX7_stand 40 = .ok (.getfield 10, 3) := by decide +kernel
theorem dX7_stand_43 : decode cX7_stand 43 = .ok (.dup, 1) := by decide +kernel
theorem dX7_stand_44 : decode cX7_stand 44 = .ok (.getfield 109, 3) := by decide +kernel
theorem dX7_stand_47 : decode cX7_stand 47 = .ok (.iconst 1, 1) := by decide +kernel
theorem dX7_stand_48 : decode cX7_stand 48 = .ok (.iload_n 1, 1) := by decide +kernel
theorem dX7_stand_49 : decode cX7_stand 49 = .ok (.ishl, 1) := by decide +kernel
theorem dX7_stand_50 : decode cX7_stand 50 = .ok (.ior, 1) := by decide +kernel
theorem dX7_stand_51 : decode cX7_stand 51 = .ok (.putfield 109, 3) := by decide +kernel
theorem dX7_stand_54 : decode cX7_stand 54 = .ok (.aload_n 0, 1) := by decide +kernel
theorem dX7_stand_55 : decode cX7_stand 55 = .ok (.getfield 10, 3) := by decide +kernel
theorem dX7_stand_58 : decode cX7_stand 58 = .ok (.getfield 109, 3) := by decide +kernel
theorem dX7_stand_61 : decode cX7_stand 61 = .ok (.invokestatic 215, 3) := by decide +kernel
theorem dX7_stand_64 : decode cX7_stand 64 = .ok (.ireturn, 1) := by decide +kernel
theorem dX7_join_0 : decode cX7_join 0 = .ok (.aload_n 0, 1) := by decide +kernel
theorem dX7_join_1 : decode cX7_join 1 = .ok (.getfield 10, 3) := by decide +kernel
theorem dX7_join_4 : decode cX7_join 4 = .ok (.iload_n 1, 1) := by decide +kernel
theorem dX7_join_5 : decode cX7_join 5 = .ok (.invokevirtual 138, 3) := by decide +kernel
theorem dX7_join_8 : decode cX7_join 8 = .ok (.ifCond .ne 6, 3) := by decide +kernel
theorem dX7_join_11 : decode cX7_join 11 = .ok (.ldc 142, 2) := by decide +kernel
theorem dX7_join_13 : decode cX7_join 13 = .ok (.ireturn, 1) := by decide +kernel
theorem dX7_join_14 : decode cX7_join 14 = .ok (.aload_n 0, 1) := by decide +kernel
theorem dX7_join_15 : decode cX7_join 15 = .ok (.getfield 10, 3) := by decide +kernel
theorem dX7_join_18 : decode cX7_join 18 = .ok (.iload_n 1, 1) := by decide +kernel
theorem dX7_join_19 : decode cX7_join 19 = .ok (.invokevirtual 159, 3) := by decide +kernel
theorem dX7_join_22 : decode cX7_join 22 = .ok (.ifCond .eq 18, 3) := by decide +kernel
theorem dX7_join_25 : decode cX7_join 25 = .ok (.aload_n 0, 1) := by decide +kernel
theorem dX7_join_26 : decode cX7_join 26 = .ok (.getfield 29, 3) := by decide +kernel
theorem dX7_join_29 : decode cX7_join 29 = .ok (.aload_n 0, 1) := by decide +kernel
theorem dX7_join_30 : decode cX7_join 30 = .ok (.getfield 10, 3) := by decide +kernel
theorem dX7_join_33 : decode cX7_join 33 = .ok (.iload_n 1, 1) := by decide +kernel
theorem dX7_join_34 : decode cX7_join 34 = .ok (.invokevirtual 221, 3) := by decide +kernel
theorem dX7_join_37 : decode cX7_join 37 = .ok (.ifCond .ne 6, 3) := by decide +kernel
theorem dX7_join_40 : decode cX7_join 40 = .ok (.ldc 220, 2) := by decide +kernel
theorem dX7_join_42 : decode cX7_join 42 = .ok (.ireturn, 1) := by decide +kernel
theorem dX7_join_43 : decode cX7_join 43 = .ok (.aload_n 0, 1) := by decide +kernel
theorem dX7_join_44 : decode cX7_join 44 = .ok (.getfield 36, 3) := by decide +kernel
theorem dX7_join_47 : decode cX7_join 47 = .ok (.aload_n 0, 1) := by decide +kernel
theorem dX7_join_48 : decode cX7_join 48 = .ok (.getfield 10, 3) := by decide +kernel
theorem dX7_join_51 : decode cX7_join 51 = .ok (.invokevirtual 206, 3) := by decide +kernel
theorem dX7_join_54 : decode cX7_join 54 = .ok (.aload_n 0, 1) := by decide +kernel
theorem dX7_join_55 : decode cX7_join 55 = .ok (.getfield 29, 3) := by decide +kernel
theorem dX7_join_58 : decode cX7_join 58 = .ok (.aload_n 0, 1) := by decide +kernel
theorem dX7_join_59 : decode cX7_join 59 = .ok (.getfield 10, 3) := by decide +kernel
theorem dX7_join_62 : decode cX7_join 62 = .ok (.iload_n 1, 1) := by decide +kernel
theorem dX7_join_63 : decode cX7_join 63 = .ok (.invokevirtual 225, 3) := by decide +kernel
theorem dX7_join_66 : decode cX7_join 66 = .ok (.aload_n 0, 1) := by decide +kernel
theorem dX7_join_67 : decode cX7_join 67 = .ok (.getfield 10, 3) := by decide +kernel
theorem dX7_join_70 : decode cX7_join 70 = .ok (.getfield 143, 3) := by decide +kernel
theorem dX7_join_73 : decode cX7_join 73 = .ok (.iload_n 1, 1) := by decide +kernel
theorem dX7_join_74 : decode cX7_join 74 = .ok (.iaload, 1) := by decide +kernel
theorem dX7_join_75 : decode cX7_join 75 = .ok (.ireturn, 1) := by decide +kernel
theorem dX7_alarm_0 : decode cX7_alarm 0 = .ok (.aload_n 0, 1) := by decide +kernel
theorem dX7_alarm_1 : decode cX7_alarm 1 = .ok (.getfield 10, 3) := by decide +kernel
theorem dX7_alarm_4 : decode cX7_alarm 4 = .ok (.iload_n 1, 1) := by decide +kernel
theorem dX7_alarm_5 : decode cX7_alarm 5 = .ok (.invokevirtual 138, 3) := by decide +kernel
theorem dX7_alarm_8 : decode cX7_alarm 8 = .ok (.ifCond .ne 6, 3) := by decide +kernel
theorem dX7_alarm_11 : decode cX7_alarm 11 = .ok (.ldc 142, 2) := by decide +kernel
theorem dX7_alarm_13 : decode cX7_alarm 13 = .ok (.ireturn, 1) := by decide +kernel
theorem dX7_alarm_14 : decode cX7_alarm 14 = .ok (.iload_n 2, 1) := by decide +kernel
theorem dX7_alarm_15 : decode cX7_alarm 15 = .ok (.iconst 0, 1) := by decide +kernel
theorem dX7_alarm_16 : decode cX7_alarm 16 = .ok (.ldc 229, 2) := by decide +kernel
theorem dX7_alarm_18 : decode cX7_alarm 18 = .ok (.invokestatic 66, 3) := by decide +kernel
theorem dX7_alarm_21 : decode cX7_alarm 21 = .ok (.ifCond .ne 6, 3) := by decide +kernel
theorem dX7_alarm_24 : decode cX7_alarm 24 = .ok (.ldc 70, 2) := by decide +kernel
theorem dX7_alarm_26 : decode cX7_alarm 26 = .ok (.ireturn, 1) := by decide +kernel
theorem dX7_alarm_27 : decode cX7_alarm 27 = .ok (.aload_n 0, 1) := by decide +kernel
theorem dX7_alarm_28 : decode cX7_alarm 28 = .ok (.getfield 10, 3) := by decide +kernel
theorem dX7_alarm_31 : decode cX7_alarm 31 = .ok (.getfield 125, 3) := by decide +kernel
theorem dX7_alarm_34 : decode cX7_alarm 34 = .ok (.bipush 6, 2) := by decide +kernel
theorem dX7_alarm_36 : decode cX7_alarm 36 = .ok (.if_icmp .lt 6, 3) := by decide +kernel
theorem dX7_alarm_39 : decode cX7_alarm 39 = .ok (.ldc 75, 2) := by decide +kernel
theorem dX7_alarm_41 : decode cX7_alarm 41 = .ok (.ireturn, 1) := by decide +kernel
theorem dX7_alarm_42 : decode cX7_alarm 42 = .ok (.aload_n 0, 1) := by decide +kernel
theorem dX7_alarm_43 : decode cX7_alarm 43 = .ok (.getfield 36, 3) := by decide +kernel
theorem dX7_alarm_46 : decode cX7_alarm 46 = .ok (.aload_n 0, 1) := by decide +kernel
theorem dX7_alarm_47 : decode cX7_alarm 47 = .ok (.getfield 10, 3) := by decide +kernel
theorem dX7_alarm_50 : decode cX7_alarm 50 = .ok (.invokevirtual 206, 3) := by decide +kernel
theorem dX7_alarm_53 : decode cX7_alarm 53 = .ok (.aload_n 0, 1) := by decide +kernel
theorem dX7_alarm_54 : decode cX7_alarm 54 = .ok (.getfield 10, 3) := by decide +kernel
theorem dX7_alarm_57 : decode cX7_alarm 57 = .ok (.iload_n 1, 1) := by decide +kernel
theorem dX7_alarm_58 : decode cX7_alarm 58 = .ok (.iload_n 2, 1) := by decide +kernel
theorem dX7_alarm_59 : decode cX7_alarm 59 = .ok (.invokevirtual 230, 3) := by decide +kernel
theorem dX7_alarm_62 : decode cX7_alarm 62 = .ok (.ireturn, 1) := by decide +kernel
theorem dX7_drift_0 : decode cX7_drift 0 = .ok (.iload_n 1, 1) := by decide +kernel
theorem dX7_drift_1 : decode cX7_drift 1 = .ok (.iconst 1, 1) := by decide +kernel
theorem dX7_drift_2 : decode cX7_drift 2 = .ok (.bipush 16, 2) := by decide +kernel
theorem dX7_drift_4 : decode cX7_drift 4 = .ok (.invokestatic 66, 3) := by decide +kernel
theorem dX7_drift_7 : decode cX7_drift 7 = .ok (.ifCond .ne 6, 3) := by decide +kernel
theorem dX7_drift_10 : decode cX7_drift 10 = .ok (.ldc 70, 2) := by decide +kernel
theorem dX7_drift_12 : decode cX7_drift 12 = .ok (.ireturn, 1) := by decide +kernel
theorem dX7_drift_13 : decode cX7_drift 13 = .ok (.aload_n 0, 1) := by decide +kernel
theorem dX7_drift_14 : decode cX7_drift 14 = .ok (.getfield 10, 3) := by decide +kernel
theorem dX7_drift_17 : decode cX7_drift 17 = .ok (.getfield 94, 3) := by decide +kernel
theorem dX7_drift_20 : decode cX7_drift 20 = .ok (.ifCond .le 31, 3) := by decide +kernel
theorem dX7_drift_23 : decode cX7_drift 23 = .ok (.iconst 0, 1) := by decide +kernel
theorem dX7_drift_24 : decode cX7_drift 24 = .ok (.istore_n 2, 1) := by decide +kernel
theorem dX7_drift_25 : decode cX7_drift 25 = .ok (.iload_n 2, 1) := by decide +kernel
theorem dX7_drift_26 : decode cX7_drift 26 = .ok (.iload_n 1, 1) := by decide +kernel
theorem dX7_drift_27 : decode cX7_drift 27 = .ok (.if_icmp .ge 24, 3) := by decide +kernel
theorem dX7_drift_30 : decode cX7_drift 30 = .ok (.aload_n 0, 1) := by decide +kernel
theorem dX7_drift_31 : decode cX7_drift 31 = .ok (.getfield 36, 3) := by decide +kernel
theorem dX7_drift_34 : decode cX7_drift 34 = .ok (.aload_n 0, 1) := by decide +kernel
theorem dX7_drift_35 : decode cX7_drift 35 = .ok (.getfield 10, 3) := by decide +kernel
theorem dX7_drift_38 : decode cX7_drift 38 = .ok (.invokevirtual 206, 3) := by decide +kernel
theorem dX7_drift_41 : decode cX7_drift 41 = .ok (.aload_n 0, 1) := by decide +kernel
theorem dX7_drift_42 : decode cX7_drift 42 = .ok (.invokevirtual 233, 3) := by decide +kernel
theorem dX7_drift_45 : decode cX7_drift 45 = .ok (.iinc 2 1, 3) := by decide +kernel
theorem dX7_drift_48 : decode cX7_drift 48 = .ok (.goto (-23), 3) := by decide +kernel
theorem dX7_drift_51 : decode cX7_drift 51 = .ok (.aload_n 0, 1) := by decide +kernel
theorem dX7_drift_52 : decode cX7_drift 52 = .ok (.getfield 10, 3) := by decide +kernel
theorem dX7_drift_55 : decode cX7_drift 55 = .ok (.invokevirtual 116, 3) := by decide +kernel
theorem dX7_drift_58 : decode cX7_drift 58 = .ok (.ireturn, 1) := by decide +kernel
theorem dX7_undo_0 : decode cX7_undo 0 = .ok (.iload_n 1, 1) := by decide +kernel
theorem dX7_undo_1 : decode cX7_undo 1 = .ok (.iconst 1, 1) := by decide +kernel
theorem dX7_undo_2 : decode cX7_undo 2 = .ok (.bipush 16, 2) := by decide +kernel
theorem dX7_undo_4 : decode cX7_undo 4 = .ok (.invokestatic 66, 3) := by decide +kernel
theorem dX7_undo_7 : decode cX7_undo 7 = .ok (.ifCond .ne 6, 3) := by decide +kernel
theorem dX7_undo_10 : decode cX7_undo 10 = .ok (.ldc 70, 2) := by decide +kernel
theorem dX7_undo_12 : decode cX7_undo 12 = .ok (.ireturn, 1) := by decide +kernel
theorem dX7_undo_13 : decode cX7_undo 13 = .ok (.iload_n 1, 1) := by decide +kernel
theorem dX7_undo_14 : decode cX7_undo 14 = .ok (.aload_n 0, 1) := by decide +kernel
theorem dX7_undo_15 : decode cX7_undo 15 = .ok (.getfield 36, 3) := by decide +kernel
theorem dX7_undo_18 : decode cX7_undo 18 = .ok (.getfield 137, 3) := by decide +kernel
theorem dX7_undo_21 : decode cX7_undo 21 = .ok (.if_icmp .le 6, 3) := by decide +kernel
theorem dX7_undo_24 : decode cX7_undo 24 = .ok (.ldc 220, 2) := by decide +kernel
theorem dX7_undo_26 : decode cX7_undo 26 = .ok (.ireturn, 1) := by decide +kernel
theorem dX7_undo_27 : decode cX7_undo 27 = .ok (.aload_n 0, 1) := by decide +kernel
theorem dX7_undo_28 : decode cX7_undo 28 = .ok (.getfield 36, 3) := by decide +kernel
theorem dX7_undo_31 : decode cX7_undo 31 = .ok (.iload_n 1, 1) := by decide +kernel
theorem dX7_undo_32 : decode cX7_undo 32 = .ok (.aload_n 0, 1) := by decide +kernel
theorem dX7_undo_33 : decode cX7_undo 33 = .ok (.getfield 10, 3) := by decide +kernel
theorem dX7_undo_36 : decode cX7_undo 36 = .ok (.invokevirtual 236, 3) := by decide +kernel
theorem dX7_undo_39 : decode cX7_undo 39 = .ok (.aload_n 0, 1) := by decide +kernel
theorem dX7_undo_40 : decode cX7_undo 40 = .ok (.getfield 10, 3) := by decide +kernel
theorem dX7_undo_43 : decode cX7_undo 43 = .ok (.getfield 131, 3) := by decide +kernel
theorem dX7_undo_46 : decode cX7_undo 46 = .ok (.ireturn, 1) := by decide +kernel
theorem dX7_behind_0 : decode cX7_behind 0 = .ok (.iload_n 1, 1) := by decide +kernel
theorem dX7_behind_1 : decode cX7_behind 1 = .ok (.iconst 0, 1) := by decide +kernel
theorem dX7_behind_2 : decode cX7_behind 2 = .ok (.bipush 20, 2) := by decide +kernel
theorem dX7_behind_4 : decode cX7_behind 4 = .ok (.invokestatic 66, 3) := by decide +kernel
theorem dX7_behind_7 : decode cX7_behind 7 = .ok (.ifCond .ne 6, 3) := by decide +kernel
theorem dX7_behind_10 : decode cX7_behind 10 = .ok (.ldc 70, 2) := by decide +kernel
theorem dX7_behind_12 : decode cX7_behind 12 = .ok (.ireturn, 1) := by decide +kernel
theorem dX7_behind_13 : decode cX7_behind 13 = .ok (.aload_n 0, 1) := by decide +kernel
theorem dX7_behind_14 : decode cX7_behind 14 = .ok (.getfield 16, 3) := by decide +kernel
theorem dX7_behind_17 : decode cX7_behind 17 = .ok (.aload_n 0, 1) := by decide +kernel
theorem dX7_behind_18 : decode cX7_behind 18 = .ok (.getfield 10, 3) := by decide +kernel
theorem dX7_behind_21 : decode cX7_behind 21 = .ok (.invokevirtual 84, 3) := by decide +kernel
theorem dX7_behind_24 : decode cX7_behind 24 = .ok (.iconst 0, 1) := by decide +kernel
theorem dX7_behind_25 : decode cX7_behind 25 = .ok (.istore_n 2, 1) := by decide +kernel
theorem dX7_behind_26 : decode cX7_behind 26 = .ok (.iload_n 2, 1) := by decide +kernel
theorem dX7_behind_27 : decode cX7_behind 27 = .ok (.iload_n 1, 1) := by decide +kernel
theorem dX7_behind_28 : decode cX7_behind 28 = .ok (.if_icmp .ge 20, 3) := by decide +kernel
theorem dX7_behind_31 : decode cX7_behind 31 = .ok (.aload_n 0, 1) := by decide +kernel
theorem dX7_behind_32 : decode cX7_behind 32 = .ok (.getfield 29, 3) := by decide +kernel
theorem dX7_behind_35 : decode cX7_behind 35 = .ok (.aload_n 0, 1) := by decide +kernel
theorem dX7_behind_36 : decode cX7_behind 36 = .ok (.getfield 16, 3) := by decide +kernel
theorem dX7_behind_39 : decode cX7_behind 39 = .ok (.invokevirtual 212, 3) := by decide +kernel
theorem dX7_behind_42 : decode cX7_behind 42 = .ok (.iinc 2 1, 3) := by decide +kernel
theorem dX7_behind_45 : decode cX7_behind 45 = .ok (.goto (-19), 3) := by decide +kernel
theorem dX7_behind_48 : decode cX7_behind 48 = .ok (.aload_n 0, 1) := by decide +kernel
theorem dX7_behind_49 : decode cX7_behind 49 = .ok (.getfield 16, 3) := by decide +kernel
theorem dX7_behind_52 : decode cX7_behind 52 = .ok (.invokevirtual 116, 3) := by decide +kernel
theorem dX7_behind_55 : decode cX7_behind 55 = .ok (.ireturn, 1) := by decide +kernel
theorem dX7_within_0 : decode cX7_within 0 = .ok (.iload_n 1, 1) := by decide +kernel
theorem dX7_within_1 : decode cX7_within 1 = .ok (.iconst 0, 1) := by decide +kernel
theorem dX7_within_2 : decode cX7_within 2 = .ok (.sipush 9999, 3) := by decide +kernel
theorem dX7_within_5 : decode cX7_within 5 = .ok (.invokestatic 66, 3) := by decide +kernel
theorem dX7_within_8 : decode cX7_within 8 = .ok (.ifCond .ne 6, 3) := by decide +kernel
theorem dX7_within_11 : decode cX7_within 11 = .ok (.ldc 70, 2) := by decide +kernel
theorem dX7_within_13 : decode cX7_within 13 = .ok (.ireturn, 1) := by decide +kernel
theorem dX7_within_14 : decode cX7_within 14 = .ok (.aload_n 0, 1) := by decide +kernel
theorem dX7_within_15 : decode cX7_within 15 = .ok (.getfield 10, 3) := by decide +kernel
theorem dX7_within_18 : decode cX7_within 18 = .ok (.invokevirtual 112, 3) := by decide +kernel
theorem dX7_within_21 : decode cX7_within 21 = .ok (.ifCond .ne 5, 3) := by decide +kernel
theorem dX7_within_24 : decode cX7_within 24 = .ok (.iconst (-1), 1) := by decide +kernel
theorem dX7_within_25 : decode cX7_within 25 = .ok (.ireturn, 1) := by decide +kernel
theorem dX7_within_26 : decode cX7_within 26 = .ok (.aload_n 0, 1) := by decide +kernel
theorem dX7_within_27 : decode cX7_within 27 = .ok (.getfield 16, 3) := by decide +kernel
theorem dX7_within_30 : decode cX7_within 30 = .ok (.aload_n 0, 1) := by decide +kernel
theorem dX7_within_31 : decode cX7_within 31 = .ok (.getfield 10, 3) := by decide +kernel
theorem dX7_within_34 : decode cX7_within 34 = .ok (.invokevirtual 84, 3) := by decide +kernel
theorem dX7_within_37 : decode cX7_within 37 = .ok (.iconst 0, 1) := by decide +kernel
theorem dX7_within_38 : decode cX7_within 38 = .ok (.istore_n 2, 1) := by decide +kernel
theorem dX7_within_39 : decode cX7_within 39 = .ok (.iload_n 2, 1) := by decide +kernel
theorem dX7_within_40 : decode cX7_within 40 = .ok (.bipush 20, 2) := by decide +kernel
theorem dX7_within_42 : decode cX7_within 42 = .ok (.if_icmp .gt 33, 3) := by decide +kernel
theorem dX7_within_45 : decode cX7_within 45 = .ok (.aload_n 0, 1) := by decide +kernel
theorem dX7_within_46 : decode cX7_within 46 = .ok (.getfield 16, 3) := by decide +kernel
theorem dX7_within_49 : decode cX7_within 49 = .ok (.invokevirtual 116, 3) := by decide +kernel
theorem dX7_within_52 : decode cX7_within 52 = .ok (.iload_n 1, 1) := by decide +kernel
theorem dX7_within_53 : decode cX7_within 53 = .ok (.if_icmp .gt 5, 3) := by decide +kernel
theorem dX7_within_56 : decode cX7_within 56 = .ok (.iload_n 2, 1) := by decide +kernel
theorem dX7_within_57 : decode cX7_within 57 = .ok (.ireturn, 1) := by decide +kernel
theorem dX7_within_58 : decode cX7_within 58 = .ok (.aload_n 0, 1) := by decide +kernel
theorem dX7_within_59 : decode cX7_within 59 = .ok (.getfield 29, 3) := by decide +kernel
theorem dX7_within_62 : decode cX7_within 62 = .ok (.aload_n 0, 1) := by decide +kernel
theorem dX7_within_63 : decode cX7_within 63 = .ok (.getfield 16, 3) := by decide +kernel
theorem dX7_within_66 : decode cX7_within 66 = .ok (.invokevirtual 212, 3) := by decide +kernel
theorem dX7_within_69 : decode cX7_within 69 = .ok (.iinc 2 1, 3) := by decide +kernel
theorem dX7_within_72 : decode cX7_within 72 = .ok (.goto (-33), 3) := by decide +kernel
theorem dX7_within_75 : decode cX7_within 75 = .ok (.iconst (-1), 1) := by decide +kernel
theorem dX7_within_76 : decode cX7_within 76 = .ok (.ireturn, 1) := by decide +kernel
theorem dX7_write_0 : decode cX7_write 0 = .ok (.aload_n 0, 1) := by decide +kernel
theorem dX7_write_1 : decode cX7_write 1 = .ok (.getfield 10, 3) := by decide +kernel
theorem dX7_write_4 : decode cX7_write 4 = .ok (.iload_n 1, 1) := by decide +kernel
theorem dX7_write_5 : decode cX7_write 5 = .ok (.invokevirtual 138, 3) := by decide +kernel
theorem dX7_write_8 : decode cX7_write 8 = .ok (.ifCond .ne 6, 3) := by decide +kernel
theorem dX7_write_11 : decode cX7_write 11 = .ok (.ldc 142, 2) := by decide +kernel
theorem dX7_write_13 : decode cX7_write 13 = .ok (.ireturn, 1) := by decide +kernel
theorem dX7_write_14 : decode cX7_write 14 = .ok (.aload_n 0, 1) := by decide +kernel
theorem dX7_write_15 : decode cX7_write 15 = .ok (.getfield 43, 3) := by decide +kernel
theorem dX7_write_18 : decode cX7_write 18 = .ok (.getfield 91, 3) := by decide +kernel
theorem dX7_write_21 : decode cX7_write 21 = .ok (.bipush 20, 2) := by decide +kernel
theorem dX7_write_23 : decode cX7_write 23 = .ok (.if_icmp .lt 6, 3) := by decide +kernel
theorem dX7_write_26 : decode cX7_write 26 = .ok (.ldc 75, 2) := by decide +kernel
theorem dX7_write_28 : decode cX7_write 28 = .ok (.ireturn, 1) := by decide +kernel
theorem dX7_write_29 : decode cX7_write 29 = .ok (.aload_n 0, 1) := by decide +kernel
theorem dX7_write_30 : decode cX7_write 30 = .ok (.getfield 43, 3) := by decide +kernel
theorem dX7_write_33 : decode cX7_write 33 = .ok (.iload_n 1, 1) := by decide +kernel
theorem dX7_write_34 : decode cX7_write 34 = .ok (.iload_n 2, 1) := by decide +kernel
theorem dX7_write_35 : decode cX7_write 35 = .ok (.invokevirtual 240, 3) := by decide +kernel
theorem dX7_write_38 : decode cX7_write 38 = .ok (.ireturn, 1) := by decide +kernel
theorem dX7_tear_0 : decode cX7_tear 0 = .ok (.aload_n 0, 1) := by decide +kernel
theorem dX7_tear_1 : decode cX7_tear 1 = .ok (.getfield 43, 3) := by decide +kernel
theorem dX7_tear_4 : decode cX7_tear 4 = .ok (.getfield 91, 3) := by decide +kernel
theorem dX7_tear_7 : decode cX7_tear 7 = .ok (.istore_n 1, 1) := by decide +kernel
theorem dX7_tear_8 : decode cX7_tear 8 = .ok (.aload_n 0, 1) := by decide +kernel
theorem dX7_tear_9 : decode cX7_tear 9 = .ok (.getfield 43, 3) := by decide +kernel
theorem dX7_tear_12 : decode cX7_tear 12 = .ok (.iconst 0, 1) := by decide +kernel
theorem dX7_tear_13 : decode cX7_tear 13 = .ok (.putfield 91, 3) := by decide +kernel
theorem dX7_tear_16 : decode cX7_tear 16 = .ok (.iload_n 1, 1) := by decide +kernel
theorem dX7_tear_17 : decode cX7_tear 17 = .ok (.ireturn, 1) := by decide +kernel
theorem dX7_seed_0 : decode cX7_seed 0 = .ok (.iload_n 1, 1) := by decide +kernel
theorem dX7_seed_1 : decode cX7_seed 1 = .ok (.ifCond .ge 6, 3) := by decide +kernel
theorem dX7_seed_4 : decode cX7_seed 4 = .ok (.ldc 70, 2) := by decide +kernel
theorem dX7_seed_6 : decode cX7_seed 6 = .ok (.ireturn, 1) := by decide +kernel
theorem dX7_seed_7 : decode cX7_seed 7 = .ok (.aload_n 0, 1) := by decide +kernel
theorem dX7_seed_8 : decode cX7_seed 8 = .ok (.getfield 50, 3) := by decide +kernel
theorem dX7_seed_11 : decode cX7_seed 11 = .ok (.getfield 242, 3) := by decide +kernel
theorem dX7_seed_14 : decode cX7_seed 14 = .ok (.istore_n 2, 1) := by decide +kernel
theorem dX7_seed_15 : decode cX7_seed 15 = .ok (.aload_n 0, 1) := by decide +kernel
theorem dX7_seed_16 : decode cX7_seed 16 = .ok (.getfield 50, 3) := by decide +kernel
theorem dX7_seed_19 : decode cX7_seed 19 = .ok (.iload_n 1, 1) := by decide +kernel
theorem dX7_seed_20 : decode cX7_seed 20 = .ok (.putfield 242, 3) := by decide +kernel
theorem dX7_seed_23 : decode cX7_seed 23 = .ok (.iload_n 2, 1) := by decide +kernel
theorem dX7_seed_24 : decode cX7_seed 24 = .ok (.ireturn, 1) := by decide +kernel
theorem dX7_keep_0 : decode cX7_keep 0 = .ok (.iload_n 1, 1) := by decide +kernel
theorem dX7_keep_1 : decode cX7_keep 1 = .ok (.iconst 0, 1) := by decide +kernel
theorem dX7_keep_2 : decode cX7_keep 2 = .ok (.iconst 1, 1) := by decide +kernel
theorem dX7_keep_3 : decode cX7_keep 3 = .ok (.invokestatic 66, 3) := by decide +kernel
theorem dX7_keep_6 : decode cX7_keep 6 = .ok (.ifCond .ne 6, 3) := by decide +kernel
theorem dX7_keep_9 : decode cX7_keep 9 = .ok (.ldc 142, 2) := by decide +kernel
theorem dX7_keep_11 : decode cX7_keep 11 = .ok (.ireturn, 1) := by decide +kernel
theorem dX7_keep_12 : decode cX7_keep 12 = .ok (.aload_n 0, 1) := by decide +kernel
theorem dX7_keep_13 : decode cX7_keep 13 = .ok (.getfield 54, 3) := by decide +kernel
theorem dX7_keep_16 : decode cX7_keep 16 = .ok (.iload_n 1, 1) := by decide +kernel
theorem dX7_keep_17 : decode cX7_keep 17 = .ok (.aaload, 1) := by decide +kernel
theorem dX7_keep_18 : decode cX7_keep 18 = .ok (.aload_n 0, 1) := by decide +kernel
theorem dX7_keep_19 : decode cX7_keep 19 = .ok (.getfield 10, 3) := by decide +kernel
theorem dX7_keep_22 : decode cX7_keep 22 = .ok (.invokevirtual 84, 3) := by decide +kernel
theorem dX7_keep_25 : decode cX7_keep 25 = .ok (.aload_n 0, 1) := by decide +kernel
theorem dX7_keep_26 : decode cX7_keep 26 = .ok (.getfield 58, 3) := by decide +kernel
theorem dX7_keep_29 : decode cX7_keep 29 = .ok (.iload_n 1, 1) := by decide +kernel
theorem dX7_keep_30 : decode cX7_keep 30 = .ok (.aload_n 0, 1) := by decide +kernel
theorem dX7_keep_31 : decode cX7_keep 31 = .ok (.getfield 50, 3) := by decide +kernel
theorem dX7_keep_34 : decode cX7_keep 34 = .ok (.getfield 242, 3) := by decide +kernel
theorem dX7_keep_37 : decode cX7_keep 37 = .ok (.iastore, 1) := by decide +kernel
theorem dX7_keep_38 : decode cX7_keep 38 = .ok (.aload_n 0, 1) := by decide +kernel
theorem dX7_keep_39 : decode cX7_keep 39 = .ok (.getfield 62, 3) := by decide +kernel
theorem dX7_keep_42 : decode cX7_keep 42 = .ok (.iload_n 1, 1) := by decide +kernel
theorem dX7_keep_43 : decode cX7_keep 43 = .ok (.iconst 1, 1) := by decide +kernel
theorem dX7_keep_44 : decode cX7_keep 44 = .ok (.bastore, 1) := by decide +kernel
theorem dX7_keep_45 : decode cX7_keep 45 = .ok (.aload_n 0, 1) := by decide +kernel
theorem dX7_keep_46 : decode cX7_keep 46 = .ok (.getfield 36, 3) := by decide +kernel
theorem dX7_keep_49 : decode cX7_keep 49 = .ok (.invokevirtual 88, 3) := by decide +kernel
theorem dX7_keep_52 : decode cX7_keep 52 = .ok (.iconst 1, 1) := by decide +kernel
theorem dX7_keep_53 : decode cX7_keep 53 = .ok (.ireturn, 1) := by decide +kernel
theorem dX7_goBack_0 : decode cX7_goBack 0 = .ok (.iload_n 1, 1) := by decide +kernel
theorem dX7_goBack_1 : decode cX7_goBack 1 = .ok (.iconst 0, 1) := by decide +kernel
theorem dX7_goBack_2 : decode cX7_goBack 2 = .ok (.iconst 1, 1) := by decide +kernel
theorem dX7_goBack_3 : decode cX7_goBack 3 = .ok (.invokestatic 66, 3) := by decide +kernel
theorem dX7_goBack_6 : decode cX7_goBack 6 = .ok (.ifCond .ne 6, 3) := by decide +kernel
theorem dX7_goBack_9 : decode cX7_goBack 9 = .ok (.ldc 142, 2) := by decide +kernel
theorem dX7_goBack_11 : decode cX7_goBack 11 = .ok (.ireturn, 1) := by decide +kernel
theorem dX7_goBack_12 : decode cX7_goBack 12 = .ok (.aload_n 0, 1) := by decide +kernel
theorem dX7_goBack_13 : decode cX7_goBack 13 = .ok (.getfield 62, 3) := by decide +kernel
theorem dX7_goBack_16 : decode cX7_goBack 16 = .ok (.iload_n 1, 1) := by decide +kernel
theorem dX7_goBack_17 : decode cX7_goBack 17 = .ok (.baload, 1) := by decide +kernel
theorem dX7_goBack_18 : decode cX7_goBack 18 = .ok (.ifCond .ne 6, 3) := by decide +kernel
theorem dX7_goBack_21 : decode cX7_goBack 21 = .ok (.ldc 220, 2) := by decide +kernel
theorem dX7_goBack_23 : decode cX7_goBack 23 = .ok (.ireturn, 1) := by decide +kernel
theorem dX7_goBack_24 : decode cX7_goBack 24 = .ok (.aload_n 0, 1) := by decide +kernel
theorem dX7_goBack_25 : decode cX7_goBack 25 = .ok (.getfield 10, 3) := by decide +kernel
theorem dX7_goBack_28 : decode cX7_goBack 28 = .ok (.aload_n 0, 1) := by decide +kernel
theorem dX7_goBack_29 : decode cX7_goBack 29 = .ok (.getfield 54, 3) := by decide +kernel
theorem dX7_goBack_32 : decode cX7_goBack 32 = .ok (.iload_n 1, 1) := by decide +kernel
theorem dX7_goBack_33 : decode cX7_goBack 33 = .ok (.aaload, 1) := by decide +kernel
theorem dX7_goBack_34 : decode cX7_goBack 34 = .ok (.invokevirtual 84, 3) := by decide +kernel
theorem dX7_goBack_37 : decode cX7_goBack 37 = .ok (.aload_n 0, 1) := by decide +kernel
theorem dX7_goBack_38 : decode cX7_goBack 38 = .ok (.getfield 50, 3) := by decide +kernel
theorem dX7_goBack_41 : decode cX7_goBack 41 = .ok (.aload_n 0, 1) := by decide +kernel
theorem dX7_goBack_42 : decode cX7_goBack 42 = .ok (.getfield 58, 3) := by decide +kernel
theorem dX7_goBack_45 : decode cX7_goBack 45 = .ok (.iload_n 1, 1) := by decide +kernel
theorem dX7_goBack_46 : decode cX7_goBack 46 = .ok (.iaload, 1) := by decide +kernel
theorem dX7_goBack_47 : decode cX7_goBack 47 = .ok (.putfield 242, 3) := by decide +kernel
theorem dX7_goBack_50 : decode cX7_goBack 50 = .ok (.aload_n 0, 1) := by decide +kernel
theorem dX7_goBack_51 : decode cX7_goBack 51 = .ok (.getfield 36, 3) := by decide +kernel
theorem dX7_goBack_54 : decode cX7_goBack 54 = .ok (.invokevirtual 88, 3) := by decide +kernel
theorem dX7_goBack_57 : decode cX7_goBack 57 = .ok (.iconst 1, 1) := by decide +kernel
theorem dX7_goBack_58 : decode cX7_goBack 58 = .ok (.ireturn, 1) := by decide +kernel
theorem dX7_between_0 : decode cX7_between 0 = .ok (.iload_n 0, 1) := by decide +kernel
theorem dX7_between_1 : decode cX7_between 1 = .ok (.iload_n 1, 1) := by decide +kernel
theorem dX7_between_2 : decode cX7_between 2 = .ok (.if_icmp .lt 12, 3) := by decide +kernel
theorem dX7_between_5 : decode cX7_between 5 = .ok (.iload_n 0, 1) := by decide +kernel
theorem dX7_between_6 : decode cX7_between 6 = .ok (.iload_n 2, 1) := by decide +kernel
theorem dX7_between_7 : decode cX7_between 7 = .ok (.if_icmp .gt 7, 3) := by decide +kernel
theorem dX7_between_10 : decode cX7_between 10 = .ok (.iconst 1, 1) := by decide +kernel
theorem dX7_between_11 : decode cX7_between 11 = .ok (.goto 4, 3) := by decide +kernel
theorem dX7_between_14 : decode cX7_between 14 = .ok (.iconst 0, 1) := by decide +kernel
theorem dX7_between_15 : decode cX7_between 15 = .ok (.ireturn, 1) := by decide +kernel
theorem dX7_driftOnce_0 : decode cX7_driftOnce 0 = .ok (.aload_n 0, 1) := by decide +kernel
theorem dX7_driftOnce_1 : decode cX7_driftOnce 1 = .ok (.getfield 50, 3) := by decide +kernel
theorem dX7_driftOnce_4 : decode cX7_driftOnce 4 = .ok (.aload_n 0, 1) := by decide +kernel
theorem dX7_driftOnce_5 : decode cX7_driftOnce 5 = .ok (.getfield 10, 3) := by decide +kernel
theorem dX7_driftOnce_8 : decode cX7_driftOnce 8 = .ok (.getfield 94, 3) := by decide +kernel
theorem dX7_driftOnce_11 : decode cX7_driftOnce 11 = .ok (.invokevirtual 245, 3) := by decide +kernel
theorem dX7_driftOnce_14 : decode cX7_driftOnce 14 = .ok (.istore_n 1, 1) := by decide +kernel
theorem dX7_driftOnce_15 : decode cX7_driftOnce 15 = .ok (.aload_n 0, 1) := by decide +kernel
theorem dX7_driftOnce_16 : decode cX7_driftOnce 16 = .ok (.getfield 50, 3) := by decide +kernel
theorem dX7_driftOnce_19 : decode cX7_driftOnce 19 = .ok (.aload_n 0, 1) := by decide +kernel
theorem dX7_driftOnce_20 : decode cX7_driftOnce 20 = .ok (.getfield 10, 3) := by decide +kernel
theorem dX7_driftOnce_23 : decode cX7_driftOnce 23 = .ok (.getfield 94, 3) := by decide +kernel
theorem dX7_driftOnce_26 : decode cX7_driftOnce 26 = .ok (.invokevirtual 245, 3) := by decide +kernel
theorem dX7_driftOnce_29 : decode cX7_driftOnce 29 = .ok (.istore_n 2, 1) := by decide +kernel
theorem dX7_driftOnce_30 : decode cX7_driftOnce 30 = .ok (.aload_n 0, 1) := by decide +kernel
theorem dX7_driftOnce_31 : decode cX7_driftOnce 31 = .ok (.getfield 50, 3) := by decide +kernel
theorem dX7_driftOnce_34 : decode cX7_driftOnce 34 = .ok (.sipush 2001, 3) := by decide +kernel
theorem dX7_driftOnce_37 : decode cX7_driftOnce 37 = .ok (.invokevirtual 245, 3) := by decide +kernel
theorem dX7_driftOnce_40 : decode cX7_driftOnce 40 = .ok (.sipush 1000, 3) := by decide +kernel
theorem dX7_driftOnce_43 : decode cX7_driftOnce 43 = .ok (.isub, 1) := by decide +kernel
theorem dX7_driftOnce_44 : decode cX7_driftOnce 44 = .ok (.istore_n 3, 1) := by decide +kernel
theorem dX7_driftOnce_45 : decode cX7_driftOnce 45 = .ok (.aload_n 0, 1) := by decide +kernel
theorem dX7_driftOnce_46 : decode cX7_driftOnce 46 = .ok (.getfield 50, 3) := by decide +kernel
theorem dX7_driftOnce_49 : decode cX7_driftOnce 49 = .ok (.bipush 41, 2) := by decide +kernel
theorem dX7_driftOnce_51 : decode cX7_driftOnce 51 = .ok (.invokevirtual 245, 3) := by decide +kernel
theorem dX7_driftOnce_54 : decode cX7_driftOnce 54 = .ok (.bipush 20, 2) := by decide +kernel
theorem dX7_driftOnce_56 : decode cX7_driftOnce 56 = .ok (.isub, 1) := by decide +kernel
theorem dX7_driftOnce_57 : decode cX7_driftOnce 57 = .ok (.istore 4, 2) := by decide +kernel
theorem dX7_driftOnce_59 : decode cX7_driftOnce 59 = .ok (.aload_n 0, 1) := by decide +kernel
theorem dX7_driftOnce_60 : decode cX7_driftOnce 60 = .ok (.getfield 50, 3) := by decide +kernel
theorem dX7_driftOnce_63 : decode cX7_driftOnce 63 = .ok (.iconst 3, 1) := by decide +kernel
theorem dX7_driftOnce_64 : decode cX7_driftOnce 64 = .ok (.invokevirtual 245, 3) := by decide +kernel
theorem dX7_driftOnce_67 : decode cX7_driftOnce 67 = .ok (.istore 5, 2) := by decide +kernel
theorem dX7_driftOnce_69 : decode cX7_driftOnce 69 = .ok (.aload_n 0, 1) := by decide +kernel
theorem dX7_driftOnce_70 : decode cX7_driftOnce 70 = .ok (.getfield 10, 3) := by decide +kernel
theorem dX7_driftOnce_73 : decode cX7_driftOnce 73 = .ok (.iload_n 1, 1) := by decide +kernel
theorem dX7_driftOnce_74 : decode cX7_driftOnce 74 = .ok (.iload_n 2, 1) := by decide +kernel
theorem dX7_driftOnce_75 : decode cX7_driftOnce 75 = .ok (.invokevirtual 173, 3) := by decide +kernel
theorem dX7_driftOnce_78 : decode cX7_driftOnce 78 = .ok (.ifCond .eq 32, 3) := by decide +kernel
theorem dX7_driftOnce_81 : decode cX7_driftOnce 81 = .ok (.aload_n 0, 1) := by decide +kernel
theorem dX7_driftOnce_82 : decode cX7_driftOnce 82 = .ok (.getfield 10, 3) := by decide +kernel
theorem dX7_driftOnce_85 : decode cX7_driftOnce 85 = .ok (.getfield 187, 3) := by decide +kernel
theorem dX7_driftOnce_88 : decode cX7_driftOnce 88 = .ok (.iload_n 1, 1) := by decide +kernel
theorem dX7_driftOnce_89 : decode cX7_driftOnce 89 = .ok (.iload_n 2, 1) := by decide +kernel
theorem dX7_driftOnce_90 : decode cX7_driftOnce 90 = .ok (.invokestatic 184, 3) := by decide +kernel
theorem dX7_driftOnce_93 : decode cX7_driftOnce 93 = .ok (.iload_n 3, 1) := by decide +kernel
theorem dX7_driftOnce_94 : decode cX7_driftOnce 94 = .ok (.iastore, 1) := by decide +kernel
theorem dX7_driftOnce_95 : decode cX7_driftOnce 95 = .ok (.aload_n 0, 1) := by decide +kernel
theorem dX7_driftOnce_96 : decode cX7_driftOnce 96 = .ok (.getfield 10, 3) := by decide +kernel
theorem dX7_driftOnce_99 : decode cX7_driftOnce 99 = .ok (.getfield 181, 3) := by decide +kernel
theorem dX7_driftOnce_102 : decode cX7_driftOnce 102 = .ok (.iload_n 1, 1) := by decide +kernel
theorem dX7_driftOnce_103 : decode cX7_driftOnce 103 = .ok (.iload_n 2, 1) := by decide +kernel
theorem dX7_driftOnce_104 : decode cX7_driftOnce 104 = .ok (.invokestatic 184, 3) := by decide +kernel
theorem dX7_driftOnce_107 : decode cX7_driftOnce 107 = .ok (.iload 4, 2) := by decide +kernel
theorem dX7_driftOnce_109 : decode cX7_driftOnce 109 = .ok (.iastore, 1) := by decide +kernel
theorem dX7_driftOnce_110 : decode cX7_driftOnce 110 = .ok (.iload 5, 2) := by decide +kernel
theorem dX7_driftOnce_112 : decode cX7_driftOnce 112 = .ok (.ifCond .ne 17, 3) := by decide +kernel
theorem dX7_driftOnce_115 : decode cX7_driftOnce 115 = .ok (.aload_n 0, 1) := by decide +kernel
theorem dX7_driftOnce_116 : decode cX7_driftOnce 116 = .ok (.getfield 29, 3) := by decide +kernel
theorem dX7_driftOnce_119 : decode cX7_driftOnce 119 = .ok (.aload_n 0, 1) := by decide +kernel
theorem dX7_driftOnce_120 : decode cX7_driftOnce 120 = .ok (.getfield 10, 3) := by decide +kernel
theorem dX7_driftOnce_123 : decode cX7_driftOnce 123 = .ok (.invokevirtual 212, 3) := by decide +kernel
theorem dX7_driftOnce_126 : decode cX7_driftOnce 126 = .ok (.goto 11, 3) := by decide +kernel
theorem dX7_driftOnce_129 : decode cX7_driftOnce 129 = .ok (.aload_n 0, 1) := by decide +kernel
theorem dX7_driftOnce_130 : decode cX7_driftOnce 130 = .ok (.getfield 10, 3) := by decide +kernel
theorem dX7_driftOnce_133 : decode cX7_driftOnce 133 = .ok (.invokevirtual 209, 3) := by decide +kernel
theorem dX7_driftOnce_136 : decode cX7_driftOnce 136 = .ok (.pop, 1) := by decide +kernel
theorem dX7_driftOnce_137 : decode cX7_driftOnce 137 = .ok (.return_, 1) := by decide +kernel
theorem dX8_init_0 : decode cX8_init 0 = .ok (.aload_n 0, 1) := by decide +kernel
theorem dX8_init_1 : decode cX8_init 1 = .ok (.invokespecial 1, 3) := by decide +kernel
theorem dX8_init_4 : decode cX8_init 4 = .ok (.aload_n 0, 1) := by decide +kernel
theorem dX8_init_5 : decode cX8_init 5 = .ok (.sipush 3840, 3) := by decide +kernel
theorem dX8_init_8 : decode cX8_init 8 = .ok (.newarray .int, 2) := by decide +kernel
theorem dX8_init_10 : decode cX8_init 10 = .ok (.putfield 7, 3) := by decide +kernel
theorem dX8_init_13 : decode cX8_init 13 = .ok (.aload_n 0, 1) := by decide +kernel
theorem dX8_init_14 : decode cX8_init 14 = .ok (.sipush 200, 3) := by decide +kernel
theorem dX8_init_17 : decode cX8_init 17 = .ok (.newarray .int, 2) := by decide +kernel
theorem dX8_init_19 : decode cX8_init 19 = .ok (.putfield 13, 3) := by decide +kernel
theorem dX8_init_22 : decode cX8_init 22 = .ok (.aload_n 0, 1) := by decide +kernel
theorem dX8_init_23 : decode cX8_init 23 = .ok (.iconst (-1), 1) := by decide +kernel
theorem dX8_init_24 : decode cX8_init 24 = .ok (.putfield 16, 3) := by decide +kernel
theorem dX8_init_27 : decode cX8_init 27 = .ok (.aload_n 0, 1) := by decide +kernel
theorem dX8_init_28 : decode cX8_init 28 = .ok (.bipush 20, 2) := by decide +kernel
theorem dX8_init_30 : decode cX8_init 30 = .ok (.newarray .int, 2) := by decide +kernel
theorem dX8_init_32 : decode cX8_init 32 = .ok (.putfield 20, 3) := by decide +kernel
theorem dX8_init_35 : decode cX8_init 35 = .ok (.aload_n 0, 1) := by decide +kernel
theorem dX8_init_36 : decode cX8_init 36 = .ok (.bipush 20, 2) := by decide +kernel
theorem dX8_init_38 : decode cX8_init 38 = .ok (.newarray .int, 2) := by decide +kernel
theorem dX8_init_40 : decode cX8_init 40 = .ok (.putfield 23, 3) := by decide +kernel
theorem dX8_init_43 : decode cX8_init 43 = .ok (.aload_n 0, 1) := by decide +kernel
theorem dX8_init_44 : decode cX8_init 44 = .ok (.bipush 8, 2) := by decide +kernel
theorem dX8_init_46 : decode cX8_init 46 = .ok (.newarray .int, 2) := by decide +kernel
theorem dX8_init_48 : decode cX8_init 48 = .ok (.putfield 26, 3) := by decide +kernel
theorem dX8_init_51 : decode cX8_init 51 = .ok (.aload_n 0, 1) := by decide +kernel
theorem dX8_init_52 : decode cX8_init 52 = .ok (.bipush 8, 2) := by decide +kernel
theorem dX8_init_54 : decode cX8_init 54 = .ok (.newarray .int, 2) := by decide +kernel
theorem dX8_init_56 : decode cX8_init 56 = .ok (.putfield 29, 3) := by decide +kernel
theorem dX8_init_59 : decode cX8_init 59 = .ok (.aload_n 0, 1) := by decide +kernel
theorem dX8_init_60 : decode cX8_init 60 = .ok (.getfield 7, 3) := by decide +kernel
theorem dX8_init_63 : decode cX8_init 63 = .ok (.iconst 2, 1) := by decide +kernel
theorem dX8_init_64 : decode cX8_init 64 = .ok (.bipush 10, 2) := by decide +kernel
theorem dX8_init_66 : decode cX8_init 66 = .ok (.iastore, 1) := by decide +kernel
theorem dX8_init_67 : decode cX8_init 67 = .ok (.return_, 1) := by decide +kernel
theorem dX8_in_0 : decode cX8_in 0 = .ok (.iload_n 0, 1) := by decide +kernel
theorem dX8_in_1 : decode cX8_in 1 = .ok (.iload_n 1, 1) := by decide +kernel
theorem dX8_in_2 : decode cX8_in 2 = .ok (.if_icmp .lt 12, 3) := by decide +kernel
theorem dX8_in_5 : decode cX8_in 5 = .ok (.iload_n 0, 1) := by decide +kernel
theorem dX8_in_6 : decode cX8_in 6 = .ok (.iload_n 2, 1) := by decide +kernel
theorem dX8_in_7 : decode cX8_in 7 = .ok (.if_icmp .gt 7, 3) := by decide +kernel
theorem dX8_in_10 : decode cX8_in 10 = .ok (.iconst 1, 1) := by decide +kernel
theorem dX8_in_11 : decode cX8_in 11 = .ok (.goto 4, 3) := by decide +kernel
theorem dX8_in_14 : decode cX8_in 14 = .ok (.iconst 0, 1) := by decide +kernel
theorem dX8_in_15 : decode cX8_in 15 = .ok (.ireturn, 1) := by decide +kernel
theorem dX8_has_0 : decode cX8_has 0 = .ok (.iload_n 0, 1) := by decide +kernel
theorem dX8_has_1 : decode cX8_has 1 = .ok (.iload_n 1, 1) := by decide +kernel
theorem dX8_has_2 : decode cX8_has 2 = .ok (.ishr, 1) := by decide +kernel
theorem dX8_has_3 : decode cX8_has 3 = .ok (.iconst 1, 1) := by decide +kernel
theorem dX8_has_4 : decode cX8_has 4 = .ok (.iand, 1) := by decide +kernel
theorem dX8_has_5 : decode cX8_has 5 = .ok (.iconst 1, 1) := by decide +kernel
theorem dX8_has_6 : decode cX8_has 6 = .ok (.if_icmp .ne 7, 3) := by decide +kernel
theorem dX8_has_9 : decode cX8_has 9 = .ok (.iconst 1, 1) := by decide +kernel
theorem dX8_has_10 : decode cX8_has 10 = .ok (.goto 4, 3) := by decide +kernel
theorem dX8_has_13 : decode cX8_has 13 = .ok (.iconst 0, 1) := by decide +kernel
theorem dX8_has_14 : decode cX8_has 14 = .ok (.ireturn, 1) := by decide +kernel
theorem dX8_copyRow_0 : decode cX8_copyRow 0 = .ok (.iconst 0, 1) := by decide +kernel
theorem dX8_copyRow_1 : decode cX8_copyRow 1 = .ok (.istore_n 3, 1) := by decide +kernel
theorem dX8_copyRow_2 : decode cX8_copyRow 2 = .ok (.iload_n 3, 1) := by decide +kernel
theorem dX8_copyRow_3 : decode cX8_copyRow 3 = .ok (.sipush 192, 3) := by decide +kernel
theorem dX8_copyRow_6 : decode cX8_copyRow 6 = .ok (.if_icmp .ge 25, 3) := by decide +kernel
theorem dX8_copyRow_9 : decode cX8_copyRow 9 = .ok (.aload_n 0, 1) := by decide +kernel
theorem dX8_copyRow_10 : decode cX8_copyRow 10 = .ok (.getfield 7, 3) := by decide +kernel
theorem dX8_copyRow_13 : decode cX8_copyRow 13 = .ok (.iload_n 2, 1) := by decide +kernel
theorem dX8_copyRow_14 : decode cX8_copyRow 14 = .ok (.iload_n 3, 1) := by decide +kernel
theorem dX8_copyRow_15 : decode cX8_copyRow 15 = .ok (.iadd, 1) := by decide +kernel
theorem dX8_copyRow_16 : decode cX8_copyRow 16 = .ok (.aload_n 0, 1) := by decide +kernel
theorem dX8_copyRow_17 : decode cX8_copyRow 17 = .ok (.getfield 7, 3) := by decide +kernel
theorem dX8_copyRow_20 : decode cX8_copyRow 20 = .ok (.iload_n 1, 1) := by decide +kernel
theorem dX8_copyRow_21 : decode cX8_copyRow 21 = .ok (.iload_n 3, 1) := by decide +kernel
theorem dX8_copyRow_22 : decode cX8_copyRow 22 = .ok (.iadd, 1) := by decide +kernel
theorem dX8_copyRow_23 : decode cX8_copyRow 23 = .ok (.iaload, 1) := by decide +kernel
theorem dX8_copyRow_24 : decode cX8_copyRow 24 = .ok (.iastore, 1) := by decide +kernel
theorem dX8_copyRow_25 : decode cX8_copyRow 25 = .ok (.iinc 3 1, 3) := by decide +kernel
theorem dX8_copyRow_28 : decode cX8_copyRow 28 = .ok (.goto (-26), 3) := by decide +kernel
theorem dX8_copyRow_31 : decode cX8_copyRow 31 = .ok (.return_, 1) := by decide +kernel
theorem dX8_isClock_0 : decode cX8_isClock 0 = .ok (.iload_n 1, 1) := by decide +kernel
theorem dX8_isClock_1 : decode cX8_isClock 1 = .ok (.iconst 0, 1) := by decide +kernel
theorem dX8_isClock_2 : decode cX8_isClock 2 = .ok (.aload_n 0, 1) := by decide +kernel
theorem dX8_isClock_3 : decode cX8_isClock 3 = .ok (.getfield 7, 3) := by decide +kernel
theorem dX8_isClock_6 : decode cX8_isClock 6 = .ok (.iconst 0, 1) := by decide +kernel
theorem dX8_isClock_7 : decode cX8_isClock 7 = .ok (.iaload, 1) := by decide +kernel
theorem dX8_isClock_8 : decode cX8_isClock 8 = .ok (.iconst 1, 1) := by decide +kernel
theorem dX8_isClock_9 : decode cX8_isClock 9 = .ok (.isub, 1) := by decide +kernel
theorem dX8_isClock_10 : decode cX8_isClock 10 = .ok (.invokestatic 32, 3) := by decide +kernel
theorem dX8_isClock_13 : decode cX8_isClock 13 = .ok (.ireturn, 1) := by decide +kernel
theorem dX8_aim_0 : decode cX8_aim 0 = .ok (.aload_n 0, 1) := by decide +kernel
theorem dX8_aim_1 : decode cX8_aim 1 = .ok (.getfield 7, 3) := by decide +kernel
theorem dX8_aim_4 : decode cX8_aim 4 = .ok (.iload_n 1, 1) := by decide +kernel
theorem dX8_aim_5 : decode cX8_aim 5 = .ok (.iconst 3, 1) := by decide +kernel
theorem dX8_aim_6 : decode cX8_aim 6 = .ok (.iadd, 1) := by decide +kernel
theorem dX8_aim_7 : decode cX8_aim 7 = .ok (.iload_n 2, 1) := by decide +kernel
theorem dX8_aim_8 : decode cX8_aim 8 = .ok (.iadd, 1) := by decide +kernel
theorem dX8_aim_9 : decode cX8_aim 9 = .ok (.iaload, 1) := by decide +kernel
theorem dX8_aim_10 : decode cX8_aim 10 = .ok (.aload_n 0, 1) := by decide +kernel
theorem dX8_aim_11 : decode cX8_aim 11 = .ok (.getfield 7, 3) := by decide +kernel
theorem dX8_aim_14 : decode cX8_aim 14 = .ok (.iload_n 1, 1) := by decide +kernel
theorem dX8_aim_15 : decode cX8_aim 15 = .ok (.bipush 19, 2) := by decide +kernel
theorem dX8_aim_17 : decode cX8_aim 17 = .ok (.iadd, 1) := by decide +kernel
theorem dX8_aim_18 : decode cX8_aim 18 = .ok (.iload_n 2, 1) := by decide +kernel
theorem dX8_aim_19 : decode cX8_aim 19 = .ok (.iadd, 1) := by decide +kernel
theorem dX8_aim_20 : decode cX8_aim 20 = .ok (.iaload, 1) := by decide +kernel
theorem dX8_aim_21 : decode cX8_aim 21 = .ok (.iadd, 1) := by decide +kernel
theorem dX8_aim_22 : decode cX8_aim 22 = .ok (.ireturn, 1) := by decide +kernel
theorem dX8_isTrue_0 : decode cX8_isTrue 0 = .ok (.aload_n 0, 1) := by decide +kernel
theorem dX8_isTrue_1 : decode cX8_isTrue 1 = .ok (.getfield 7, 3) := by decide +kernel
theorem dX8_isTrue_4 : decode cX8_isTrue 4 = .ok (.iload_n 1, 1) := by decide +kernel
theorem dX8_isTrue_5 : decode cX8_isTrue 5 = .ok (.bipush 27, 2) := by decide +kernel
theorem dX8_isTrue_7 : decode cX8_isTrue 7 = .ok (.iadd, 1) := by decide +kernel
theorem dX8_isTrue_8 : decode cX8_isTrue 8 = .ok (.iload_n 2, 1) := by decide +kernel
theorem dX8_isTrue_9 : decode cX8_isTrue 9 = .ok (.iadd, 1) := by decide +kernel
theorem dX8_isTrue_10 : decode cX8_isTrue 10 = .ok (.iaload, 1) := by decide +kernel
theorem dX8_isTrue_11 : decode cX8_isTrue 11 = .ok (.ifCond .ne 21, 3) := by decide +kernel
theorem dX8_isTrue_14 : decode cX8_isTrue 14 = .ok (.aload_n 0, 1) := by decide +kernel
theorem dX8_isTrue_15 : decode cX8_isTrue 15 = .ok (.getfield 7, 3) := by decide +kernel
theorem dX8_isTrue_18 : decode cX8_isTrue 18 = .ok (.iload_n 1, 1) := by decide +kernel
theorem dX8_isTrue_19 : decode cX8_isTrue 19 = .ok (.bipush 35, 2) := by decide +kernel
theorem dX8_isTrue_21 : decode cX8_isTrue 21 = .ok (.iadd, 1) := by decide +kernel
theorem dX8_isTrue_22 : decode cX8_isTrue 22 = .ok (.iload_n 2, 1) := by decide +kernel
theorem dX8_isTrue_23 : decode cX8_isTrue 23 = .ok (.iadd, 1) := by decide +kernel
theorem dX8_isTrue_24 : decode cX8_isTrue 24 = .ok (.iaload, 1) := by decide +kernel
theorem dX8_isTrue_25 : decode cX8_isTrue 25 = .ok (.ifCond .ne 7, 3) := by decide +kernel
theorem dX8_isTrue_28 : decode cX8_isTrue 28 = .ok (.iconst 1, 1) := by decide +kernel
theorem dX8_isTrue_29 : decode cX8_isTrue 29 = .ok (.goto 4, 3) := by decide +kernel
theorem dX8_isTrue_32 : decode cX8_isTrue 32 = .ok (.iconst 0, 1) := by decide +kernel
theorem dX8_isTrue_33 : decode cX8_isTrue 33 = .ok (.ireturn, 1) := by decide +kernel
theorem dX8_isLiar_0 : decode cX8_isLiar 0 = .ok (.aload_n 0, 1) := by decide +kernel
theorem dX8_isLiar_1 : decode cX8_isLiar 1 = .ok (.getfield 7, 3) := by decide +kernel
theorem dX8_isLiar_4 : decode cX8_isLiar 4 = .ok (.iload_n 1, 1) := by decide +kernel
theorem dX8_isLiar_5 : decode cX8_isLiar 5 = .ok (.bipush 27, 2) := by decide +kernel
theorem dX8_isLiar_7 : decode cX8_isLiar 7 = .ok (.iadd, 1) := by decide +kernel
theorem dX8_isLiar_8 : decode cX8_isLiar 8 = .ok (.iload_n 2, 1) := by decide +kernel
theorem dX8_isLiar_9 : decode cX8_isLiar 9 = .ok (.iadd, 1) := by decide +kernel
theorem dX8_isLiar_10 : decode cX8_isLiar 10 = .ok (.iaload, 1) := by decide +kernel
theorem dX8_isLiar_11 : decode cX8_isLiar 11 = .ok (.iconst 1, 1) := by decide +kernel
theorem dX8_isLiar_12 : decode cX8_isLiar 12 = .ok (.if_icmp .ne 21, 3) := by decide +kernel
theorem dX8_isLiar_15 : decode cX8_isLiar 15 = .ok (.aload_n 0, 1) := by decide +kernel
theorem dX8_isLiar_16 : decode cX8_isLiar 16 = .ok (.getfield 7, 3) := by decide +kernel
theorem dX8_isLiar_19 : decode cX8_isLiar 19 = .ok (.iload_n 1, 1) := by decide +kernel
theorem dX8_isLiar_20 : decode cX8_isLiar 20 = .ok (.bipush 35, 2) := by decide +kernel
theorem dX8_isLiar_22 : decode cX8_isLiar 22 = .ok (.iadd, 1) := by decide +kernel
theorem dX8_isLiar_23 : decode cX8_isLiar 23 = .ok (.iload_n 2, 1) := by decide +kernel
theorem dX8_isLiar_24 : decode cX8_isLiar 24 = .ok (.iadd, 1) := by decide +kernel
theorem dX8_isLiar_25 : decode cX8_isLiar 25 = .ok (.iaload, 1) := by decide +kernel
theorem dX8_isLiar_26 : decode cX8_isLiar 26 = .ok (.ifCond .ne 7, 3) := by decide +kernel
theorem dX8_isLiar_29 : decode cX8_isLiar 29 = .ok (.iconst 1, 1) := by decide +kernel
theorem dX8_isLiar_30 : decode cX8_isLiar 30 = .ok (.goto 4, 3) := by decide +kernel
theorem dX8_isLiar_33 : decode cX8_isLiar 33 = .ok (.iconst 0, 1) := by decide +kernel
theorem dX8_isLiar_34 : decode cX8_isLiar 34 = .ok (.ireturn, 1) := by decide +kernel
theorem dX8_feed_0 : decode cX8_feed 0 = .ok (.iload_n 1, 1) := by decide +kernel
theorem dX8_feed_1 : decode cX8_feed 1 = .ok (.iconst 0, 1) := by decide +kernel
theorem dX8_feed_2 : decode cX8_feed 2 = .ok (.sipush 255, 3) := by decide +kernel
theorem dX8_feed_5 : decode cX8_feed 5 = .ok (.invokestatic 32, 3) := by decide +kernel
theorem dX8_feed_8 : decode cX8_feed 8 = .ok (.ifCond .ne 6, 3) := by decide +kernel
theorem dX8_feed_11 : decode cX8_feed 11 = .ok (.ldc 36, 2) := by decide +kernel
theorem dX8_feed_13 : decode cX8_feed 13 = .ok (.ireturn, 1) := by decide +kernel
theorem dX8_feed_14 : decode cX8_feed 14 = .ok (.aload_n 0, 1) := by decide +kernel
theorem dX8_feed_15 : decode cX8_feed 15 = .ok (.getfield 37, 3) := by decide +kernel
theorem dX8_feed_18 : decode cX8_feed 18 = .ok (.sipush 200, 3) := by decide +kernel
theorem dX8_feed_21 : decode cX8_feed 21 = .ok (.if_icmp .ne 6, 3) := by decide +kernel
theorem dX8_feed_24 : decode cX8_feed 24 = .ok (.ldc 40, 2) := by decide +kernel
theorem dX8_feed_26 : decode cX8_feed 26 = .ok (.ireturn, 1) := by decide +kernel
theorem dX8_feed_27 : decode cX8_feed 27 = .ok (.aload_n 0, 1) := by decide +kernel
theorem dX8_feed_28 : decode cX8_feed 28 = .ok (.getfield 13, 3) := by decide +kernel
theorem dX8_feed_31 : decode cX8_feed 31 = .ok (.aload_n 0, 1) := by decide +kernel
theorem dX8_feed_32 : decode cX8_feed 32 = .ok (.getfield 37, 3) := by decide +kernel
theorem dX8_feed_35 : decode cX8_feed 35 = .ok (.iload_n 1, 1) := by decide +kernel
theorem dX8_feed_36 : decode cX8_feed 36 = .ok (.iastore, 1) := by decide +kernel
theorem dX8_feed_37 : decode cX8_feed 37 = .ok (.aload_n 0, 1) := by decide +kernel
theorem dX8_feed_38 : decode cX8_feed 38 = .ok (.dup, 1) := by decide +kernel
theorem dX8_feed_39 : decode cX8_feed 39 = .ok (.getfield 37, 3) := by decide +kernel
theorem dX8_feed_42 : decode cX8_feed 42 = .ok (.iconst 1, 1) := by decide +kernel
theorem dX8_feed_43 : decode cX8_feed 43 = .ok (.iadd, 1) := by decide +kernel
theorem dX8_feed_44 : decode cX8_feed 44 = .ok (.putfield 37, 3) := by decide +kernel
theorem dX8_feed_47 : decode cX8_feed 47 = .ok (.aload_n 0, 1) := by decide +kernel
theorem dX8_feed_48 : decode cX8_feed 48 = .ok (.getfield 37, 3) := by decide +kernel
theorem dX8_feed_51 : decode cX8_feed 51 = .ok (.ireturn, 1) := by decide +kernel
theorem dX8_fine_0 : decode cX8_fine 0 = .ok (.aload_n 0, 1) := by decide +kernel
theorem dX8_fine_1 : decode cX8_fine 1 = .ok (.getfield 41, 3) := by decide +kernel
theorem dX8_fine_4 : decode cX8_fine 4 = .ok (.ifCond .ne 7, 3) := by decide +kernel
theorem dX8_fine_7 : decode cX8_fine 7 = .ok (.iconst 1, 1) := by decide +kernel
theorem dX8_fine_8 : decode cX8_fine 8 = .ok (.goto 4, 3) := by decide +kernel
theorem dX8_fine_11 : decode cX8_fine 11 = .ok (.iconst 0, 1) := by decide +kernel
theorem dX8_fine_12 : decode cX8_fine 12 = .ok (.ireturn, 1) := by decide +kernel
theorem dX8_fail_0 : decode cX8_fail 0 = .ok (.aload_n 0, 1) := by decide +kernel
theorem dX8_fail_1 : decode cX8_fail 1 = .ok (.invokevirtual 44, 3) := by decide +kernel
theorem dX8_fail_4 : decode cX8_fail 4 = .ok (.ifCond .eq 13, 3) := by decide +kernel
theorem dX8_fail_7 : decode cX8_fail 7 = .ok (.aload_n 0, 1) := by decide +kernel
theorem dX8_fail_8 : decode cX8_fail 8 = .ok (.iload_n 1, 1) := by decide +kernel
theorem dX8_fail_9 : decode cX8_fail 9 = .ok (.putfield 41, 3) := by decide +kernel
theorem dX8_fail_12 : decode cX8_fail 12 = .ok (.aload_n 0, 1) := by decide +kernel
theorem dX8_fail_13 : decode cX8_fail 13 = .ok (.iload_n 2, 1) := by decide +kernel
theorem dX8_fail_14 : decode cX8_fail 14 = .ok (.putfield 48, 3) := by decide +kernel
theorem dX8_fail_17 : decode cX8_fail 17 = .ok (.return_, 1) := by decide +kernel
theorem dX8_here_0 : decode cX8_here 0 = .ok (.aload_n 0, 1) := by decide +kernel
theorem dX8_here_1 : decode cX8_here 1 = .ok (.getfield 51, 3) := by decide +kernel
theorem dX8_here_4 : decode cX8_here 4 = .ok (.aload_n 0, 1) := by decide +kernel
theorem dX8_here_5 : decode cX8_here 5 = .ok (.getfield 37, 3) := by decide +kernel
theorem dX8_here_8 : decode cX8_here 8 = .ok (.if_icmp .ge 30, 3) := by decide +kernel
theorem dX8_here_11 : decode cX8_here 11 = .ok (.aload_n 0, 1) := by decide +kernel
theorem dX8_here_12 : decode cX8_here 12 = .ok (.getfield 13, 3) := by decide +kernel
theorem dX8_here_15 : decode cX8_here 15 = .ok (.aload_n 0, 1) := by decide +kernel
theorem dX8_here_16 : decode cX8_here 16 = .ok (.getfield 51, 3) := by decide +kernel
theorem dX8_here_19 : decode cX8_here 19 = .ok (.iaload, 1) := by decide +kernel
theorem dX8_here_20 : decode cX8_here 20 = .ok (.bipush 32, 2) := by decide +kernel
theorem dX8_here_22 : decode cX8_here 22 = .ok (.if_icmp .ne 16, 3) := by decide +kernel
theorem dX8_here_25 : decode cX8_here 25 = .ok (.aload_n 0, 1) := by decide +kernel
theorem dX8_here_26 : decode cX8_here 26 = .ok (.dup, 1) := by decide +kernel
theorem dX8_here_27 : decode cX8_here 27 = .ok (.getfield 51, 3) := by decide +kernel
theorem dX8_here_30 : decode cX8_here 30 = .ok (.iconst 1, 1) := by decide +kernel
theorem dX8_here_31 : decode cX8_here 31 = .ok (.iadd, 1) := by decide +kernel
theorem dX8_here_32 : decode cX8_here 32 = .ok (.putfield 51, 3) := by decide +kernel
theorem dX8_here_35 : decode cX8_here 35 = .ok (.goto (-35), 3) := by decide +kernel
theorem dX8_here_38 : decode cX8_here 38 = .ok (.aload_n 0, 1) := by decide +kernel
theorem dX8_here_39 : decode cX8_here 39 = .ok (.getfield 51, 3) := by decide +kernel
theorem dX8_here_42 : decode cX8_here 42 = .ok (.aload_n 0, 1) := by decide +kernel
theorem dX8_here_43 : decode cX8_here 43 = .ok (.getfield 37, 3) := by decide +kernel
theorem dX8_here_46 : decode cX8_here 46 = .ok (.if_icmp .ge 15, 3) := by decide +kernel
theorem dX8_here_49 : decode cX8_here 49 = .ok (.aload_n 0, 1) := by decide +kernel
theorem dX8_here_50 : decode cX8_here 50 = .ok (.getfield 13, 3) := by decide +kernel
theorem dX8_here_53 : decode cX8_here 53 = .ok (.aload_n 0, 1) := by decide +kernel
theorem dX8_here_54 : decode cX8_here 54 = .ok (.getfield 51, 3) := by decide +kernel
theorem dX8_here_57 : decode cX8_here 57 = .ok (.iaload, 1) := by decide +kernel
theorem dX8_here_58 : decode cX8_here 58 = .ok (.goto 4, 3) := by decide +kernel
theorem dX8_here_61 : decode cX8_here 61 = .ok (.iconst 0, 1) := by decide +kernel
theorem dX8_here_62 : decode cX8_here 62 = .ok (.ireturn, 1) := by decide +kernel
theorem dX8_number_0 : decode cX8_number 0 = .ok (.aload_n 0, 1) := by decide +kernel
theorem dX8_number_1 : decode cX8_number 1 = .ok (.invokevirtual 44, 3) := by decide +kernel
theorem dX8_number_4 : decode cX8_number 4 = .ok (.ifCond .ne 5, 3) := by decide +kernel
theorem dX8_number_7 : decode cX8_number 7 = .ok (.iload_n 1, 1) := by decide +kernel
theorem dX8_number_8 : decode cX8_number 8 = .ok (.ireturn, 1) := by decide +kernel
theorem dX8_number_9 : decode cX8_number 9 = .ok (.aload_n 0, 1) := by decide +kernel
theorem dX8_number_10 : decode cX8_number 10 = .ok (.invokevirtual 54, 3) := by decide +kernel
theorem dX8_number_13 : decode cX8_number 13 = .ok (.istore_n 3, 1) := by decide +kernel
theorem dX8_number_14 : decode cX8_number 14 = .ok (.aload_n 0, 1) := by decide +kernel
theorem dX8_number_15 : decode cX8_number 15 = .ok (.aload_n 0, 1) := by decide +kernel
theorem dX8_number_16 : decode cX8_number 16 = .ok (.getfield 51, 3) := by decide +kernel
theorem dX8_number_19 : decode cX8_number 19 = .ok (.putfield 58, 3) := by decide +kernel
theorem dX8_number_22 : decode cX8_number 22 = .ok (.iconst 0, 1) := by decide +kernel
theorem dX8_number_23 : decode cX8_number 23 = .ok (.istore 4, 2) := by decide +kernel
theorem dX8_number_25 : decode cX8_number 25 = .ok (.aload_n 0, 1) := by decide +kernel
theorem dX8_number_26 : decode cX8_number 26 = .ok (.getfield 51, 3) := by decide +kernel
theorem dX8_number_29 : decode cX8_number 29 = .ok (.aload_n 0, 1) := by decide +kernel
theorem dX8_number_30 : decode cX8_number 30 = .ok (.getfield 37, 3) := by decide +kernel
theorem dX8_number_33 : decode cX8_number 33 = .ok (.if_icmp .ge 73, 3) := by decide +kernel
theorem dX8_number_36 : decode cX8_number 36 = .ok (.aload_n 0, 1) := by decide +kernel
theorem dX8_number_37 : decode cX8_number 37 = .ok (.getfield 13, 3) := by decide +kernel
theorem dX8_number_40 : decode cX8_number 40 = .ok (.aload_n 0, 1) := by decide +kernel
theorem dX8_number_41 : decode cX8_number 41 = .ok (.getfield 51, 3) := by decide +kernel
theorem dX8_number_44 : decode cX8_number 44 = .ok (.iaload, 1) := by decide +kernel
theorem dX8_number_45 : decode cX8_number 45 = .ok (.bipush 48, 2) := by decide +kernel
theorem dX8_number_47 : decode cX8_number 47 = .ok (.bipush 57, 2) := by decide +kernel
theorem dX8_number_49 : decode cX8_number 49 = .ok (.invokestatic 32, 3) := by decide +kernel
theorem dX8_number_52 : decode cX8_number 52 = .ok (.ifCond .eq 54, 3) := by decide +kernel
theorem dX8_number_55 : decode cX8_number 55 = .ok (.aload_n 0, 1) := by decide +kernel
theorem dX8_number_56 : decode cX8_number 56 = .ok (.getfield 51, 3) := by decide +kernel
theorem dX8_number_59 : decode cX8_number 59 = .ok (.aload_n 0, 1) := by decide +kernel
theorem dX8_number_60 : decode cX8_number 60 = .ok (.getfield 58, 3) := by decide +kernel
theorem dX8_number_63 : decode cX8_number 63 = .ok (.isub, 1) := by decide +kernel
theorem dX8_number_64 : decode cX8_number 64 = .ok (.iconst 4, 1) := by decide +kernel
theorem dX8_number_65 : decode cX8_number 65 = .ok (.if_icmp .ge 24, 3) := by decide +kernel
theorem dX8_number_68 : decode cX8_number 68 = .ok (.bipush 10, 2) := by decide +kernel
theorem dX8_number_70 : decode cX8_number 70 = .ok (.iload 4, 2) := by decide +kernel
theorem dX8_number_72 : decode cX8_number 72 = .ok (.imul, 1) := by decide +kernel
theorem dX8_number_73 : decode cX8_number 73 = .ok (.aload_n 0, 1) := by decide +kernel
theorem dX8_number_74 : decode cX8_number 74 = .ok (.getfield 13, 3) := by decide +kernel
theorem dX8_number_77 : decode cX8_number 77 = .ok (.aload_n 0, 1) := by decide +kernel
theorem dX8_number_78 : decode cX8_number 78 = .ok (.getfield 51, 3) := by decide +kernel
theorem dX8_number_81 : decode cX8_number 81 = .ok (.iaload, 1) := by decide +kernel
theorem dX8_number_82 : decode cX8_number 82 = .ok (.iadd, 1) := by decide +kernel
theorem dX8_number_83 : decode cX8_number 83 = .ok (.bipush 48, 2) := by decide +kernel
theorem dX8_number_85 : decode cX8_number 85 = .ok (.isub, 1) := by decide +kernel
theorem dX8_number_86 : decode cX8_number 86 = .ok (.goto 5, 3) := by decide +kernel
theorem dX8_number_89 : decode cX8_number 89 = .ok (.iload 4, 2) := by decide +kernel
theorem dX8_number_91 : decode cX8_number 91 = .ok (.istore 4, 2) := by decide +kernel
theorem dX8_number_93 : decode cX8_number 93 = .ok (.aload_n 0, 1) := by decide +kernel
theorem dX8_number_94 : decode cX8_number 94 = .ok (.dup, 1) := by decide +kernel
theorem dX8_number_95 : decode cX8_number 95 = .ok (.getfield 51, 3) := by decide +kernel
theorem dX8_number_98 : decode cX8_number 98 = .ok (.iconst 1, 1) := by decide +kernel
theorem dX8_number_99 : decode cX8_number 99 = .ok (.iadd, 1) := by decide +kernel
theorem dX8_number_100 : decode cX8_number 100 = .ok (.putfield 51, 3) := by decide +kernel
theorem dX8_number_103 : decode cX8_number 103 = .ok (.goto (-78), 3) := by decide +kernel
theorem dX8_number_106 : decode cX8_number 106 = .ok (.iload_n 3, 1) := by decide +kernel
theorem dX8_number_107 : decode cX8_number 107 = .ok (.bipush 48, 2) := by decide +kernel
theorem dX8_number_109 : decode cX8_number 109 = .ok (.bipush 57, 2) := by decide +kernel
theorem dX8_number_111 : decode cX8_number 111 = .ok (.invokestatic 32, 3) := by decide +kernel
theorem dX8_number_114 : decode cX8_number 114 = .ok (.ifCond .ne 15, 3) := by decide +kernel
theorem dX8_number_117 : decode cX8_number 117 = .ok (.aload_n 0, 1) := by decide +kernel
theorem dX8_number_118 : decode cX8_number 118 = .ok (.iconst 1, 1) := by decide +kernel
theorem dX8_number_119 : decode cX8_number 119 = .ok (.aload_n 0, 1) := by decide +kernel
theorem dX8_number_120 : decode cX8_number 120 = .ok (.getfield 58, 3) := by decide +kernel
theorem dX8_number_123 : decode cX8_number 123 = .ok (.invokevirtual 61, 3) := by decide +kernel
theorem dX8_number_126 : decode cX8_number 126 = .ok (.goto 35, 3) := by decide +kernel
theorem dX8_number_129 : decode cX8_number 129 = .ok (.aload_n 0, 1) := by decide +kernel
theorem dX8_number_130 : decode cX8_number 130 = .ok (.getfield 51, 3) := by decide +kernel
theorem dX8_number_133 : decode cX8_number 133 = .ok (.aload_n 0, 1) := by decide +kernel
theorem dX8_number_134 : decode cX8_number 134 = .ok (.getfield 58, 3) := by decide +kernel
theorem dX8_number_137 : decode cX8_number 137 = .ok (.isub, 1) := by decide +kernel
theorem dX8_number_138 : decode cX8_number 138 = .ok (.iconst 4, 1) := by decide +kernel
theorem dX8_number_139 : decode cX8_number 139 = .ok (.if_icmp .gt 13, 3) := by decide +kernel
theorem dX8_number_142 : decode cX8_number 142 = .ok (.iload 4, 2) := by decide +kernel
theorem dX8_number_144 : decode cX8_number 144 = .ok (.iload_n 1, 1) := by decide +kernel
theorem dX8_number_145 : decode cX8_number 145 = .ok (.iload_n 2, 1) := by decide +kernel
theorem dX8_number_146 : decode cX8_number 146 = .ok (.invokestatic 32, 3) := by decide +kernel
theorem dX8_number_149 : decode cX8_number 149 = .ok (.ifCond .ne 12, 3) := by decide +kernel
theorem dX8_number_152 : decode cX8_number 152 = .ok (.aload_n 0, 1) := by decide +kernel
theorem dX8_number_153 : decode cX8_number 153 = .ok (.iconst 2, 1) := by decide +kernel
theorem dX8_number_154 : decode cX8_number 154 = .ok (.aload_n 0, 1) := by decide +kernel
theorem dX8_number_155 : decode cX8_number 155 = .ok (.getfield 58, 3) := by decide +kernel
theorem dX8_number_158 : decode cX8_number 158 = .ok (.invokevirtual 61, 3) := by decide +kernel
theorem dX8_number_161 : decode cX8_number 161 = .ok (.iload 4, 2) := by decide +kernel
theorem dX8_number_163 : decode cX8_number 163 = .ok (.ireturn, 1) := by decide +kernel
