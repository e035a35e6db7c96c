theorem dX8_mayLie_0 : decode cX8_mayLie 0 = .ok (.iconst 0, 1) := by decide +kernel
theorem dX8_mayLie_1 : decode cX8_mayLie 1 = .ok (.istore_n 1, 1) := by decide +kernel
theorem dX8_mayLie_2 : decode cX8_mayLie 2 = .ok (.iconst 0, 1) := by decide +kernel
theorem dX8_mayLie_3 : decode cX8_mayLie 3 = .ok (.istore_n 2, 1) := by decide +kernel
theorem dX8_mayLie_4 : decode cX8_mayLie 4 = .ok (.iload_n 2, 1) := by decide +kernel
theorem dX8_mayLie_5 : decode cX8_mayLie 5 = .ok (.aload_n 0, 1) := by decide +kernel
theorem dX8_mayLie_6 : decode cX8_mayLie 6 = .ok (.getfield 7, 3) := by decide +kernel
theorem dX8_mayLie_9 : decode cX8_mayLie 9 = .ok (.iconst 0, 1) := by decide +kernel
theorem dX8_mayLie_10 : decode cX8_mayLie 10 = .ok (.iaload, 1) := by decide +kernel
theorem dX8_mayLie_11 : decode cX8_mayLie 11 = .ok (.if_icmp .ge 29, 3) := by decide +kernel
theorem dX8_mayLie_14 : decode cX8_mayLie 14 = .ok (.iload_n 1, 1) := by decide +kernel
theorem dX8_mayLie_15 : decode cX8_mayLie 15 = .ok (.aload_n 0, 1) := by decide +kernel
theorem dX8_mayLie_16 : decode cX8_mayLie 16 = .ok (.getfield 7, 3) := by decide +kernel
theorem dX8_mayLie_19 : decode cX8_mayLie 19 = .ok (.bipush 35, 2) := by decide +kernel
theorem dX8_mayLie_21 : decode cX8_mayLie 21 = .ok (.iload_n 2, 1) := by decide +kernel
theorem dX8_mayLie_22 : decode cX8_mayLie 22 = .ok (.iadd, 1) := by decide +kernel
theorem dX8_mayLie_23 : decode cX8_mayLie 23 = .ok (.iaload, 1) := by decide +kernel
theorem dX8_mayLie_24 : decode cX8_mayLie 24 = .ok (.ifCond .ne 7, 3) := by decide +kernel
theorem dX8_mayLie_27 : decode cX8_mayLie 27 = .ok (.iconst 1, 1) := by decide +kernel
theorem dX8_mayLie_28 : decode cX8_mayLie 28 = .ok (.goto 4, 3) := by decide +kernel
theorem dX8_mayLie_31 : decode cX8_mayLie 31 = .ok (.iconst 0, 1) := by decide +kernel
theorem dX8_mayLie_32 : decode cX8_mayLie 32 = .ok (.iadd, 1) := by decide +kernel
theorem dX8_mayLie_33 : decode cX8_mayLie 33 = .ok (.istore_n 1, 1) := by decide +kernel
theorem dX8_mayLie_34 : decode cX8_mayLie 34 = .ok (.iinc 2 1, 3) := by decide +kernel
theorem dX8_mayLie_37 : decode cX8_mayLie 37 = .ok (.goto (-33), 3) := by decide +kernel
theorem dX8_mayLie_40 : decode cX8_mayLie 40 = .ok (.iload_n 1, 1) := by decide +kernel
theorem dX8_mayLie_41 : decode cX8_mayLie 41 = .ok (.iconst 1, 1) := by decide +kernel
theorem dX8_mayLie_42 : decode cX8_mayLie 42 = .ok (.isub, 1) := by decide +kernel
theorem dX8_mayLie_43 : decode cX8_mayLie 43 = .ok (.iconst 3, 1) := by decide +kernel
theorem dX8_mayLie_44 : decode cX8_mayLie 44 = .ok (.idiv, 1) := by decide +kernel
theorem dX8_mayLie_45 : decode cX8_mayLie 45 = .ok (.istore_n 2, 1) := by decide +kernel
theorem dX8_mayLie_46 : decode cX8_mayLie 46 = .ok (.iload_n 1, 1) := by decide +kernel
theorem dX8_mayLie_47 : decode cX8_mayLie 47 = .ok (.ifCond .ne 7, 3) := by decide +kernel
theorem dX8_mayLie_50 : decode cX8_mayLie 50 = .ok (.iconst (-1), 1) := by decide +kernel
theorem dX8_mayLie_51 : decode cX8_mayLie 51 = .ok (.goto 23, 3) := by decide +kernel
theorem dX8_mayLie_54 : decode cX8_mayLie 54 = .ok (.iload_n 2, 1) := by decide +kernel
theorem dX8_mayLie_55 : decode cX8_mayLie 55 = .ok (.aload_n 0, 1) := by decide +kernel
theorem dX8_mayLie_56 : decode cX8_mayLie 56 = .ok (.getfield 7, 3) := by decide +kernel
theorem dX8_mayLie_59 : decode cX8_mayLie 59 = .ok (.iconst 1, 1) := by decide +kernel
theorem dX8_mayLie_60 : decode cX8_mayLie 60 = .ok (.iaload, 1) := by decide +kernel
theorem dX8_mayLie_61 : decode cX8_mayLie 61 = .ok (.if_icmp .ge 7, 3) := by decide +kernel
theorem dX8_mayLie_64 : decode cX8_mayLie 64 = .ok (.iload_n 2, 1) := by decide +kernel
theorem dX8_mayLie_65 : decode cX8_mayLie 65 = .ok (.goto 9, 3) := by decide +kernel
theorem dX8_mayLie_68 : decode cX8_mayLie 68 = .ok (.aload_n 0, 1) := by decide +kernel
theorem dX8_mayLie_69 : decode cX8_mayLie 69 = .ok (.getfield 7, 3) := by decide +kernel
theorem dX8_mayLie_72 : decode cX8_mayLie 72 = .ok (.iconst 1, 1) := by decide +kernel
theorem dX8_mayLie_73 : decode cX8_mayLie 73 = .ok (.iaload, 1) := by decide +kernel
theorem dX8_mayLie_74 : decode cX8_mayLie 74 = .ok (.ireturn, 1) := by decide +kernel
theorem dX8_rank_0 : decode cX8_rank 0 = .ok (.aload_n 0, 1) := by decide +kernel
theorem dX8_rank_1 : decode cX8_rank 1 = .ok (.iconst 0, 1) := by decide +kernel
theorem dX8_rank_2 : decode cX8_rank 2 = .ok (.iload_n 1, 1) := by decide +kernel
theorem dX8_rank_3 : decode cX8_rank 3 = .ok (.iload_n 2, 1) := by decide +kernel
theorem dX8_rank_4 : decode cX8_rank 4 = .ok (.invokevirtual 104, 3) := by decide +kernel
theorem dX8_rank_7 : decode cX8_rank 7 = .ok (.istore_n 3, 1) := by decide +kernel
theorem dX8_rank_8 : decode cX8_rank 8 = .ok (.iconst 0, 1) := by decide +kernel
theorem dX8_rank_9 : decode cX8_rank 9 = .ok (.istore 4, 2) := by decide +kernel
theorem dX8_rank_11 : decode cX8_rank 11 = .ok (.iconst 0, 1) := by decide +kernel
theorem dX8_rank_12 : decode cX8_rank 12 = .ok (.istore 5, 2) := by decide +kernel
theorem dX8_rank_14 : decode cX8_rank 14 = .ok (.iload 5, 2) := by decide +kernel
theorem dX8_rank_16 : decode cX8_rank 16 = .ok (.aload_n 0, 1) := by decide +kernel
theorem dX8_rank_17 : decode cX8_rank 17 = .ok (.getfield 7, 3) := by decide +kernel
theorem dX8_rank_20 : decode cX8_rank 20 = .ok (.iconst 0, 1) := by decide +kernel
theorem dX8_rank_21 : decode cX8_rank 21 = .ok (.iaload, 1) := by decide +kernel
theorem dX8_rank_22 : decode cX8_rank 22 = .ok (.if_icmp .ge 47, 3) := by decide +kernel
theorem dX8_rank_25 : decode cX8_rank 25 = .ok (.aload_n 0, 1) := by decide +kernel
theorem dX8_rank_26 : decode cX8_rank 26 = .ok (.iconst 0, 1) := by decide +kernel
theorem dX8_rank_27 : decode cX8_rank 27 = .ok (.iload 5, 2) := by decide +kernel
theorem dX8_rank_29 : decode cX8_rank 29 = .ok (.iload_n 2, 1) := by decide +kernel
theorem dX8_rank_30 : decode cX8_rank 30 = .ok (.invokevirtual 104, 3) := by decide +kernel
theorem dX8_rank_33 : decode cX8_rank 33 = .ok (.istore 6, 2) := by decide +kernel
theorem dX8_rank_35 : decode cX8_rank 35 = .ok (.iload 4, 2) := by decide +kernel
theorem dX8_rank_37 : decode cX8_rank 37 = .ok (.iload 6, 2) := by decide +kernel
theorem dX8_rank_39 : decode cX8_rank 39 = .ok (.iload_n 3, 1) := by decide +kernel
theorem dX8_rank_40 : decode cX8_rank 40 = .ok (.if_icmp .lt 15, 3) := by decide +kernel
theorem dX8_rank_43 : decode cX8_rank 43 = .ok (.iload 6, 2) := by decide +kernel
theorem dX8_rank_45 : decode cX8_rank 45 = .ok (.iload_n 3, 1) := by decide +kernel
theorem dX8_rank_46 : decode cX8_rank 46 = .ok (.if_icmp .ne 13, 3) := by decide +kernel
theorem dX8_rank_49 : decode cX8_rank 49 = .ok (.iload 5, 2) := by decide +kernel
theorem dX8_rank_51 : decode cX8_rank 51 = .ok (.iload_n 1, 1) := by decide +kernel
theorem dX8_rank_52 : decode cX8_rank 52 = .ok (.if_icmp .ge 7, 3) := by decide +kernel
theorem dX8_rank_55 : decode cX8_rank 55 = .ok (.iconst 1, 1) := by decide +kernel
theorem dX8_rank_56 : decode cX8_rank 56 = .ok (.goto 4, 3) := by decide +kernel
theorem dX8_rank_59 : decode cX8_rank 59 = .ok (.iconst 0, 1) := by decide +kernel
theorem dX8_rank_60 : decode cX8_rank 60 = .ok (.iadd, 1) := by decide +kernel
theorem dX8_rank_61 : decode cX8_rank 61 = .ok (.istore 4, 2) := by decide +kernel
theorem dX8_rank_63 : decode cX8_rank 63 = .ok (.iinc 5 1, 3) := by decide +kernel
theorem dX8_rank_66 : decode cX8_rank 66 = .ok (.goto (-52), 3) := by decide +kernel
theorem dX8_rank_69 : decode cX8_rank 69 = .ok (.iload 4, 2) := by decide +kernel
theorem dX8_rank_71 : decode cX8_rank 71 = .ok (.ireturn, 1) := by decide +kernel
theorem dX8_farthest_0 : decode cX8_farthest 0 = .ok (.aload_n 0, 1) := by decide +kernel
theorem dX8_farthest_1 : decode cX8_farthest 1 = .ok (.iconst 0, 1) := by decide +kernel
theorem dX8_farthest_2 : decode cX8_farthest 2 = .ok (.iload_n 2, 1) := by decide +kernel
theorem dX8_farthest_3 : decode cX8_farthest 3 = .ok (.invokevirtual 114, 3) := by decide +kernel
theorem dX8_farthest_6 : decode cX8_farthest 6 = .ok (.ifCond .eq 12, 3) := by decide +kernel
theorem dX8_farthest_9 : decode cX8_farthest 9 = .ok (.aload_n 0, 1) := by decide +kernel
theorem dX8_farthest_10 : decode cX8_farthest 10 = .ok (.iconst 0, 1) := by decide +kernel
theorem dX8_farthest_11 : decode cX8_farthest 11 = .ok (.iload_n 1, 1) := by decide +kernel
theorem dX8_farthest_12 : decode cX8_farthest 12 = .ok (.invokevirtual 120, 3) := by decide +kernel
theorem dX8_farthest_15 : decode cX8_farthest 15 = .ok (.ifCond .ne 5, 3) := by decide +kernel
theorem dX8_farthest_18 : decode cX8_farthest 18 = .ok (.iconst (-1), 1) := by decide +kernel
theorem dX8_farthest_19 : decode cX8_farthest 19 = .ok (.ireturn, 1) := by decide +kernel
theorem dX8_farthest_20 : decode cX8_farthest 20 = .ok (.bipush 107, 2) := by decide +kernel
theorem dX8_farthest_22 : decode cX8_farthest 22 = .ok (.bipush 8, 2) := by decide +kernel
theorem dX8_farthest_24 : decode cX8_farthest 24 = .ok (.iload_n 1, 1) := by decide +kernel
theorem dX8_farthest_25 : decode cX8_farthest 25 = .ok (.imul, 1) := by decide +kernel
theorem dX8_farthest_26 : decode cX8_farthest 26 = .ok (.iadd, 1) := by decide +kernel
theorem dX8_farthest_27 : decode cX8_farthest 27 = .ok (.iload_n 2, 1) := by decide +kernel
theorem dX8_farthest_28 : decode cX8_farthest 28 = .ok (.iadd, 1) := by decide +kernel
theorem dX8_farthest_29 : decode cX8_farthest 29 = .ok (.istore_n 3, 1) := by decide +kernel
theorem dX8_farthest_30 : decode cX8_farthest 30 = .ok (.aload_n 0, 1) := by decide +kernel
theorem dX8_farthest_31 : decode cX8_farthest 31 = .ok (.getfield 7, 3) := by decide +kernel
theorem dX8_farthest_34 : decode cX8_farthest 34 = .ok (.iload_n 3, 1) := by decide +kernel
theorem dX8_farthest_35 : decode cX8_farthest 35 = .ok (.iaload, 1) := by decide +kernel
theorem dX8_farthest_36 : decode cX8_farthest 36 = .ok (.istore 4, 2) := by decide +kernel
theorem dX8_farthest_38 : decode cX8_farthest 38 = .ok (.iconst 0, 1) := by decide +kernel
theorem dX8_farthest_39 : decode cX8_farthest 39 = .ok (.istore 5, 2) := by decide +kernel
theorem dX8_farthest_41 : decode cX8_farthest 41 = .ok (.iconst (-1), 1) := by decide +kernel
theorem dX8_farthest_42 : decode cX8_farthest 42 = .ok (.istore 6, 2) := by decide +kernel
theorem dX8_farthest_44 : decode cX8_farthest 44 = .ok (.iconst 0, 1) := by decide +kernel
theorem dX8_farthest_45 : decode cX8_farthest 45 = .ok (.istore 7, 2) := by decide +kernel
theorem dX8_farthest_47 : decode cX8_farthest 47 = .ok (.iload 7, 2) := by decide +kernel
theorem dX8_farthest_49 : decode cX8_farthest 49 = .ok (.iconst 3, 1) := by decide +kernel
theorem dX8_farthest_50 : decode cX8_farthest 50 = .ok (.if_icmp .ge 93, 3) := by decide +kernel
theorem dX8_farthest_53 : decode cX8_farthest 53 = .ok (.aload_n 0, 1) := by decide +kernel
theorem dX8_farthest_54 : decode cX8_farthest 54 = .ok (.getfield 7, 3) := by decide +kernel
theorem dX8_farthest_57 : decode cX8_farthest 57 = .ok (.iload_n 3, 1) := by decide +kernel
theorem dX8_farthest_58 : decode cX8_farthest 58 = .ok (.sipush 9999, 3) := by decide +kernel
theorem dX8_farthest_61 : decode cX8_farthest 61 = .ok (.iload 7, 2) := by decide +kernel
theorem dX8_farthest_63 : decode cX8_farthest 63 = .ok (.iconst 1, 1) := by decide +kernel
theorem dX8_farthest_64 : decode cX8_farthest 64 = .ok (.isub, 1) := by decide +kernel
theorem dX8_farthest_65 : decode cX8_farthest 65 = .ok (.imul, 1) := by decide +kernel
theorem dX8_farthest_66 : decode cX8_farthest 66 = .ok (.iastore, 1) := by decide +kernel
theorem dX8_farthest_67 : decode cX8_farthest 67 = .ok (.aload_n 0, 1) := by decide +kernel
theorem dX8_farthest_68 : decode cX8_farthest 68 = .ok (.iconst 0, 1) := by decide +kernel
theorem dX8_farthest_69 : decode cX8_farthest 69 = .ok (.iload_n 2, 1) := by decide +kernel
theorem dX8_farthest_70 : decode cX8_farthest 70 = .ok (.invokevirtual 117, 3) := by decide +kernel
theorem dX8_farthest_73 : decode cX8_farthest 73 = .ok (.aload_n 0, 1) := by decide +kernel
theorem dX8_farthest_74 : decode cX8_farthest 74 = .ok (.iconst 0, 1) := by decide +kernel
theorem dX8_farthest_75 : decode cX8_farthest 75 = .ok (.iload_n 2, 1) := by decide +kernel
theorem dX8_farthest_76 : decode cX8_farthest 76 = .ok (.invokevirtual 97, 3) := by decide +kernel
theorem dX8_farthest_79 : decode cX8_farthest 79 = .ok (.isub, 1) := by decide +kernel
theorem dX8_farthest_80 : decode cX8_farthest 80 = .ok (.istore 8, 2) := by decide +kernel
theorem dX8_farthest_82 : decode cX8_farthest 82 = .ok (.iload 8, 2) := by decide +kernel
theorem dX8_farthest_84 : decode cX8_farthest 84 = .ok (.ifCond .ge 9, 3) := by decide +kernel
theorem dX8_farthest_87 : decode cX8_farthest 87 = .ok (.iload 8, 2) := by decide +kernel
theorem dX8_farthest_89 : decode cX8_farthest 89 = .ok (.ineg, 1) := by decide +kernel
theorem dX8_farthest_90 : decode cX8_farthest 90 = .ok (.goto 5, 3) := by decide +kernel
theorem dX8_farthest_93 : decode cX8_farthest 93 = .ok (.iload 8, 2) := by decide +kernel
theorem dX8_farthest_95 : decode cX8_farthest 95 = .ok (.istore 8, 2) := by decide +kernel
theorem dX8_farthest_97 : decode cX8_farthest 97 = .ok (.iload 8, 2) := by decide +kernel
theorem dX8_farthest_99 : decode cX8_farthest 99 = .ok (.iload 6, 2) := by decide +kernel
theorem dX8_farthest_101 : decode cX8_farthest 101 = .ok (.if_icmp .le 16, 3) := by decide +kernel
theorem dX8_farthest_104 : decode cX8_farthest 104 = .ok (.aload_n 0, 1) := by decide +kernel
theorem dX8_farthest_105 : decode cX8_farthest 105 = .ok (.getfield 7, 3) := by decide +kernel
theorem dX8_farthest_108 : decode cX8_farthest 108 = .ok (.iload_n 3, 1) := by decide +kernel
theorem dX8_farthest_109 : decode cX8_farthest 109 = .ok (.iaload, 1) := by decide +kernel
theorem dX8_farthest_110 : decode cX8_farthest 110 = .ok (.sipush 9999, 3) := by decide +kernel
theorem dX8_farthest_113 : decode cX8_farthest 113 = .ok (.iadd, 1) := by decide +kernel
theorem dX8_farthest_114 : decode cX8_farthest 114 = .ok (.goto 5, 3) := by decide +kernel
theorem dX8_farthest_117 : decode cX8_farthest 117 = .ok (.iload 5, 2) := by decide +kernel
theorem dX8_farthest_119 : decode cX8_farthest 119 = .ok (.istore 5, 2) := by decide +kernel
theorem dX8_farthest_121 : decode cX8_farthest 121 = .ok (.iload 8, 2) := by decide +kernel
theorem dX8_farthest_123 : decode cX8_farthest 123 = .ok (.iload 6, 2) := by decide +kernel
theorem dX8_farthest_125 : decode cX8_farthest 125 = .ok (.if_icmp .le 8, 3) := by decide +kernel
theorem dX8_farthest_128 : decode cX8_farthest 128 = .ok (.iload 8, 2) := by decide +kernel
theorem dX8_farthest_130 : decode cX8_farthest 130 = .ok (.goto 5, 3) := by decide +kernel
theorem dX8_farthest_133 : decode cX8_farthest 133 = .ok (.iload 6, 2) := by decide +kernel
theorem dX8_farthest_135 : decode cX8_farthest 135 = .ok (.istore 6, 2) := by decide +kernel
theorem dX8_farthest_137 : decode cX8_farthest 137 = .ok (.iinc 7 1, 3) := by decide +kernel
theorem dX8_farthest_140 : decode cX8_farthest 140 = .ok (.goto (-93), 3) := by decide +kernel
theorem dX8_farthest_143 : decode cX8_farthest 143 = .ok (.aload_n 0, 1) := by decide +kernel
theorem dX8_farthest_144 : decode cX8_farthest 144 = .ok (.getfield 7, 3) := by decide +kernel
theorem dX8_farthest_147 : decode cX8_farthest 147 = .ok (.iload_n 3, 1) := by decide +kernel
theorem dX8_farthest_148 : decode cX8_farthest 148 = .ok (.iload 4, 2) := by decide +kernel
theorem dX8_farthest_150 : decode cX8_farthest 150 = .ok (.iastore, 1) := by decide +kernel
theorem dX8_farthest_151 : decode cX8_farthest 151 = .ok (.iload 5, 2) := by decide +kernel
theorem dX8_farthest_153 : decode cX8_farthest 153 = .ok (.ireturn, 1) := by decide +kernel
theorem dX8_setOf_0 : decode cX8_setOf 0 = .ok (.iconst 0, 1) := by decide +kernel
theorem dX8_setOf_1 : decode cX8_setOf 1 = .ok (.istore_n 2, 1) := by decide +kernel
theorem dX8_setOf_2 : decode cX8_setOf 2 = .ok (.iconst 0, 1) := by decide +kernel
theorem dX8_setOf_3 : decode cX8_setOf 3 = .ok (.istore_n 3, 1) := by decide +kernel
theorem dX8_setOf_4 : decode cX8_setOf 4 = .ok (.iload_n 3, 1) := by decide +kernel
theorem dX8_setOf_5 : decode cX8_setOf 5 = .ok (.aload_n 0, 1) := by decide +kernel
theorem dX8_setOf_6 : decode cX8_setOf 6 = .ok (.getfield 7, 3) := by decide +kernel
theorem dX8_setOf_9 : decode cX8_setOf 9 = .ok (.iconst 0, 1) := by decide +kernel
theorem dX8_setOf_10 : decode cX8_setOf 10 = .ok (.iaload, 1) := by decide +kernel
theorem dX8_setOf_11 : decode cX8_setOf 11 = .ok (.if_icmp .ge 84, 3) := by decide +kernel
theorem dX8_setOf_14 : decode cX8_setOf 14 = .ok (.iload_n 1, 1) := by decide +kernel
theorem dX8_setOf_15 : decode cX8_setOf 15 = .ok (.iconst 4, 1) := by decide +kernel
theorem dX8_setOf_16 : decode cX8_setOf 16 = .ok (.if_icmp .ne 24, 3) := by decide +kernel
theorem dX8_setOf_19 : decode cX8_setOf 19 = .ok (.aload_n 0, 1) := by decide +kernel
theorem dX8_setOf_20 : decode cX8_setOf 20 = .ok (.getfield 7, 3) := by decide +kernel
theorem dX8_setOf_23 : decode cX8_setOf 23 = .ok (.bipush 27, 2) := by decide +kernel
theorem dX8_setOf_25 : decode cX8_setOf 25 = .ok (.iload_n 3, 1) := by decide +kernel
theorem dX8_setOf_26 : decode cX8_setOf 26 = .ok (.iadd, 1) := by decide +kernel
theorem dX8_setOf_27 : decode cX8_setOf 27 = .ok (.iaload, 1) := by decide +kernel
theorem dX8_setOf_28 : decode cX8_setOf 28 = .ok (.iconst 1, 1) := by decide +kernel
theorem dX8_setOf_29 : decode cX8_setOf 29 = .ok (.if_icmp .ne 7, 3) := by decide +kernel
theorem dX8_setOf_32 : decode cX8_setOf 32 = .ok (.iconst 1, 1) := by decide +kernel
theorem dX8_setOf_33 : decode cX8_setOf 33 = .ok (.goto 39, 3) := by decide +kernel
theorem dX8_setOf_36 : decode cX8_setOf 36 = .ok (.iconst 0, 1) := by decide +kernel
theorem dX8_setOf_37 : decode cX8_setOf 37 = .ok (.goto 35, 3) := by decide +kernel
theorem dX8_setOf_40 : decode cX8_setOf 40 = .ok (.iload_n 1, 1) := by decide +kernel
theorem dX8_setOf_41 : decode cX8_setOf 41 = .ok (.iconst 5, 1) := by decide +kernel
theorem dX8_setOf_42 : decode cX8_setOf 42 = .ok (.if_icmp .ne 24, 3) := by decide +kernel
theorem dX8_setOf_45 : decode cX8_setOf 45 = .ok (.aload_n 0, 1) := by decide +kernel
theorem dX8_setOf_46 : decode cX8_setOf 46 = .ok (.getfield 7, 3) := by decide +kernel
theorem dX8_setOf_49 : decode cX8_setOf 49 = .ok (.bipush 35, 2) := by decide +kernel
theorem dX8_setOf_51 : decode cX8_setOf 51 = .ok (.iload_n 3, 1) := by decide +kernel
theorem dX8_setOf_52 : decode cX8_setOf 52 = .ok (.iadd, 1) := by decide +kernel
theorem dX8_setOf_53 : decode cX8_setOf 53 = .ok (.iaload, 1) := by decide +kernel
theorem dX8_setOf_54 : decode cX8_setOf 54 = .ok (.iconst 1, 1) := by decide +kernel
theorem dX8_setOf_55 : decode cX8_setOf 55 = .ok (.if_icmp .ne 7, 3) := by decide +kernel
theorem dX8_setOf_58 : decode cX8_setOf 58 = .ok (.iconst 1, 1) := by decide +kernel
theorem dX8_setOf_59 : decode cX8_setOf 59 = .ok (.goto 13, 3) := by decide +kernel
theorem dX8_setOf_62 : decode cX8_setOf 62 = .ok (.iconst 0, 1) := by decide +kernel
theorem dX8_setOf_63 : decode cX8_setOf 63 = .ok (.goto 9, 3) := by decide +kernel
theorem dX8_setOf_66 : decode cX8_setOf 66 = .ok (.aload_n 0, 1) := by decide +kernel
theorem dX8_setOf_67 : decode cX8_setOf 67 = .ok (.iconst 0, 1) := by decide +kernel
theorem dX8_setOf_68 : decode cX8_setOf 68 = .ok (.iload_n 3, 1) := by decide +kernel
theorem dX8_setOf_69 : decode cX8_setOf 69 = .ok (.invokevirtual 114, 3) := by decide +kernel
theorem dX8_setOf_72 : decode cX8_setOf 72 = .ok (.istore 4, 2) := by decide +kernel
theorem dX8_setOf_74 : decode cX8_setOf 74 = .ok (.iload_n 2, 1) := by decide +kernel
theorem dX8_setOf_75 : decode cX8_setOf 75 = .ok (.iload 4, 2) := by decide +kernel
theorem dX8_setOf_77 : decode cX8_setOf 77 = .ok (.ifCond .eq 9, 3) := by decide +kernel
theorem dX8_setOf_80 : decode cX8_setOf 80 = .ok (.iconst 1, 1) := by decide +kernel
theorem dX8_setOf_81 : decode cX8_setOf 81 = .ok (.iload_n 3, 1) := by decide +kernel
theorem dX8_setOf_82 : decode cX8_setOf 82 = .ok (.ishl, 1) := by decide +kernel
theorem dX8_setOf_83 : decode cX8_setOf 83 = .ok (.goto 4, 3) := by decide +kernel
theorem dX8_setOf_86 : decode cX8_setOf 86 = .ok (.iconst 0, 1) := by decide +kernel
theorem dX8_setOf_87 : decode cX8_setOf 87 = .ok (.ior, 1) := by decide +kernel
theorem dX8_setOf_88 : decode cX8_setOf 88 = .ok (.istore_n 2, 1) := by decide +kernel
theorem dX8_setOf_89 : decode cX8_setOf 89 = .ok (.iinc 3 1, 3) := by decide +kernel
theorem dX8_setOf_92 : decode cX8_setOf 92 = .ok (.goto (-88), 3) := by decide +kernel
theorem dX8_setOf_95 : decode cX8_setOf 95 = .ok (.iload_n 2, 1) := by decide +kernel
theorem dX8_setOf_96 : decode cX8_setOf 96 = .ok (.ireturn, 1) := by decide +kernel
theorem dX8_rungSet_0 : decode cX8_rungSet 0 = .ok (.iconst 0, 1) := by decide +kernel
theorem dX8_rungSet_1 : decode cX8_rungSet 1 = .ok (.istore_n 1, 1) := by decide +kernel
theorem dX8_rungSet_2 : decode cX8_rungSet 2 = .ok (.iconst 0, 1) := by decide +kernel
theorem dX8_rungSet_3 : decode cX8_rungSet 3 = .ok (.istore_n 2, 1) := by decide +kernel
theorem dX8_rungSet_4 : decode cX8_rungSet 4 = .ok (.iload_n 2, 1) := by decide +kernel
theorem dX8_rungSet_5 : decode cX8_rungSet 5 = .ok (.aload_n 0, 1) := by decide +kernel
theorem dX8_rungSet_6 : decode cX8_rungSet 6 = .ok (.getfield 7, 3) := by decide +kernel
theorem dX8_rungSet_9 : decode cX8_rungSet 9 = .ok (.sipush 171, 3) := by decide +kernel
theorem dX8_rungSet_12 : decode cX8_rungSet 12 = .ok (.iaload, 1) := by decide +kernel
theorem dX8_rungSet_13 : decode cX8_rungSet 13 = .ok (.if_icmp .ge 24, 3) := by decide +kernel
theorem dX8_rungSet_16 : decode cX8_rungSet 16 = .ok (.iload_n 1, 1) := by decide +kernel
theorem dX8_rungSet_17 : decode cX8_rungSet 17 = .ok (.aload_n 0, 1) := by decide +kernel
theorem dX8_rungSet_18 : decode cX8_rungSet 18 = .ok (.getfield 7, 3) := by decide +kernel
theorem dX8_rungSet_21 : decode cX8_rungSet 21 = .ok (.sipush 184, 3) := by decide +kernel
theorem dX8_rungSet_24 : decode cX8_rungSet 24 = .ok (.iload_n 2, 1) := by decide +kernel
theorem dX8_rungSet_25 : decode cX8_rungSet 25 = .ok (.iadd, 1) := by decide +kernel
theorem dX8_rungSet_26 : decode cX8_rungSet 26 = .ok (.iaload, 1) := by decide +kernel
theorem dX8_rungSet_27 : decode cX8_rungSet 27 = .ok (.iload_n 2, 1) := by decide +kernel
theorem dX8_rungSet_28 : decode cX8_rungSet 28 = .ok (.ishl, 1) := by decide +kernel
theorem dX8_rungSet_29 : decode cX8_rungSet 29 = .ok (.ior, 1) := by decide +kernel
theorem dX8_rungSet_30 : decode cX8_rungSet 30 = .ok (.istore_n 1, 1) := by decide +kernel
theorem dX8_rungSet_31 : decode cX8_rungSet 31 = .ok (.iinc 2 1, 3) := by decide +kernel
theorem dX8_rungSet_34 : decode cX8_rungSet 34 = .ok (.goto (-30), 3) := by decide +kernel
theorem dX8_rungSet_37 : decode cX8_rungSet 37 = .ok (.iload_n 1, 1) := by decide +kernel
theorem dX8_rungSet_38 : decode cX8_rungSet 38 = .ok (.ireturn, 1) := by decide +kernel
theorem dX8_wrongEntry_0 : decode cX8_wrongEntry 0 = .ok (.iconst 0, 1) := by decide +kernel
theorem dX8_wrongEntry_1 : decode cX8_wrongEntry 1 = .ok (.istore_n 1, 1) := by decide +kernel
theorem dX8_wrongEntry_2 : decode cX8_wrongEntry 2 = .ok (.iload_n 1, 1) := by decide +kernel
theorem dX8_wrongEntry_3 : decode cX8_wrongEntry 3 = .ok (.aload_n 0, 1) := by decide +kernel
theorem dX8_wrongEntry_4 : decode cX8_wrongEntry 4 = .ok (.getfield 94, 3) := by decide +kernel
theorem dX8_wrongEntry_7 : decode cX8_wrongEntry 7 = .ok (.if_icmp .ge 44, 3) := by decide +kernel
theorem dX8_wrongEntry_10 : decode cX8_wrongEntry 10 = .ok (.aload_n 0, 1) := by decide +kernel
theorem dX8_wrongEntry_11 : decode cX8_wrongEntry 11 = .ok (.aload_n 0, 1) := by decide +kernel
theorem dX8_wrongEntry_12 : decode cX8_wrongEntry 12 = .ok (.getfield 20, 3) := by decide +kernel
theorem dX8_wrongEntry_15 : decode cX8_wrongEntry 15 = .ok (.iload_n 1, 1) := by decide +kernel
theorem dX8_wrongEntry_16 : decode cX8_wrongEntry 16 = .ok (.iaload, 1) := by decide +kernel
theorem dX8_wrongEntry_17 : decode cX8_wrongEntry 17 = .ok (.invokevirtual 136, 3) := by decide +kernel
theorem dX8_wrongEntry_20 : decode cX8_wrongEntry 20 = .ok (.ifCond .eq 23, 3) := by decide +kernel
theorem dX8_wrongEntry_23 : decode cX8_wrongEntry 23 = .ok (.aload_n 0, 1) := by decide +kernel
theorem dX8_wrongEntry_24 : decode cX8_wrongEntry 24 = .ok (.iconst 0, 1) := by decide +kernel
theorem dX8_wrongEntry_25 : decode cX8_wrongEntry 25 = .ok (.aload_n 0, 1) := by decide +kernel
theorem dX8_wrongEntry_26 : decode cX8_wrongEntry 26 = .ok (.getfield 20, 3) := by decide +kernel
theorem dX8_wrongEntry_29 : decode cX8_wrongEntry 29 = .ok (.iload_n 1, 1) := by decide +kernel
theorem dX8_wrongEntry_30 : decode cX8_wrongEntry 30 = .ok (.iaload, 1) := by decide +kernel
theorem dX8_wrongEntry_31 : decode cX8_wrongEntry 31 = .ok (.invokevirtual 97, 3) := by decide +kernel
theorem dX8_wrongEntry_34 : decode cX8_wrongEntry 34 = .ok (.aload_n 0, 1) := by decide +kernel
theorem dX8_wrongEntry_35 : decode cX8_wrongEntry 35 = .ok (.getfield 23, 3) := by decide +kernel
theorem dX8_wrongEntry_38 : decode cX8_wrongEntry 38 = .ok (.iload_n 1, 1) := by decide +kernel
theorem dX8_wrongEntry_39 : decode cX8_wrongEntry 39 = .ok (.iaload, 1) := by decide +kernel
theorem dX8_wrongEntry_40 : decode cX8_wrongEntry 40 = .ok (.if_icmp .eq 5, 3) := by decide +kernel
theorem dX8_wrongEntry_43 : decode cX8_wrongEntry 43 = .ok (.iload_n 1, 1) := by decide +kernel
theorem dX8_wrongEntry_44 : decode cX8_wrongEntry 44 = .ok (.ireturn, 1) := by decide +kernel
theorem dX8_wrongEntry_45 : decode cX8_wrongEntry 45 = .ok (.iinc 1 1, 3) := by decide +kernel
theorem dX8_wrongEntry_48 : decode cX8_wrongEntry 48 = .ok (.goto (-46), 3) := by decide +kernel
theorem dX8_wrongEntry_51 : decode cX8_wrongEntry 51 = .ok (.iconst (-1), 1) := by decide +kernel
theorem dX8_wrongEntry_52 : decode cX8_wrongEntry 52 = .ok (.ireturn, 1) := by decide +kernel
theorem dX8_told_0 : decode cX8_told 0 = .ok (.iload_n 1, 1) := by decide +kernel
theorem dX8_told_1 : decode cX8_told 1 = .ok (.tableswitch 165 0 15 #[79, 86, 93, 100, 105, 105, 105, 111, 117, 122, 127, 136, 141, 150, 155, 160], 79) := by decide +kernel
theorem dX8_told_80 : decode cX8_told 80 = .ok (.aload_n 0, 1) := by decide +kernel
theorem dX8_told_81 : decode cX8_told 81 = .ok (.getfield 7, 3) := by decide +kernel
theorem dX8_told_84 : decode cX8_told 84 = .ok (.iconst 0, 1) := by decide +kernel
theorem dX8_told_85 : decode cX8_told 85 = .ok (.iaload, 1) := by decide +kernel
theorem dX8_told_86 : decode cX8_told 86 = .ok (.ireturn, 1) := by decide +kernel
theorem dX8_told_87 : decode cX8_told 87 = .ok (.aload_n 0, 1) := by decide +kernel
theorem dX8_told_88 : decode cX8_told 88 = .ok (.getfield 7, 3) := by decide +kernel
theorem dX8_told_91 : decode cX8_told 91 = .ok (.iconst 1, 1) := by decide +kernel
theorem dX8_told_92 : decode cX8_told 92 = .ok (.iaload, 1) := by decide +kernel
theorem dX8_told_93 : decode cX8_told 93 = .ok (.ireturn, 1) := by decide +kernel
theorem dX8_told_94 : decode cX8_told 94 = .ok (.aload_n 0, 1) := by decide +kernel
theorem dX8_told_95 : decode cX8_told 95 = .ok (.getfield 7, 3) := by decide +kernel
theorem dX8_told_98 : decode cX8_told 98 = .ok (.iconst 2, 1) := by decide +kernel
theorem dX8_told_99 : decode cX8_told 99 = .ok (.iaload, 1) := by decide +kernel
theorem dX8_told_100 : decode cX8_told 100 = .ok (.ireturn, 1) := by decide +kernel
theorem dX8_told_101 : decode cX8_told 101 = .ok (.aload_n 0, 1) := by decide +kernel
theorem dX8_told_102 : decode cX8_told 102 = .ok (.getfield 37, 3) := by decide +kernel
theorem dX8_told_105 : decode cX8_told 105 = .ok (.ireturn, 1) := by decide +kernel
theorem dX8_told_106 : decode cX8_told 106 = .ok (.aload_n 0, 1) := by decide +kernel
theorem dX8_told_107 : decode cX8_told 107 = .ok (.iload_n 1, 1) := by decide +kernel
theorem dX8_told_108 : decode cX8_told 108 = .ok (.invokevirtual 140, 3) := by decide +kernel
theorem dX8_told_111 : decode cX8_told 111 = .ok (.ireturn, 1) := by decide +kernel
theorem dX8_told_112 : decode cX8_told 112 = .ok (.aload_n 0, 1) := by decide +kernel
theorem dX8_told_113 : decode cX8_told 113 = .ok (.iconst 0, 1) := by decide +kernel
theorem dX8_told_114 : decode cX8_told 114 = .ok (.invokevirtual 123, 3) := by decide +kernel
theorem dX8_told_117 : decode cX8_told 117 = .ok (.ireturn, 1) := by decide +kernel
theorem dX8_told_118 : decode cX8_told 118 = .ok (.aload_n 0, 1) := by decide +kernel
theorem dX8_told_119 : decode cX8_told 119 = .ok (.invokevirtual 143, 3) := by decide +kernel
theorem dX8_told_122 : decode cX8_told 122 = .ok (.ireturn, 1) := by decide +kernel
theorem dX8_told_123 : decode cX8_told 123 = .ok (.aload_n 0, 1) := by decide +kernel
theorem dX8_told_124 : decode cX8_told 124 = .ok (.invokevirtual 146, 3) := by decide +kernel
theorem dX8_told_127 : decode cX8_told 127 = .ok (.ireturn, 1) := by decide +kernel
theorem dX8_told_128 : decode cX8_told 128 = .ok (.aload_n 0, 1) := by decide +kernel
theorem dX8_told_129 : decode cX8_told 129 = .ok (.getfield 7, 3) := by decide +kernel
theorem dX8_told_132 : decode cX8_told 132 = .ok (.sipush 171, 3) := by decide +kernel
theorem dX8_told_135 : decode cX8_told 135 = .ok (.iaload, 1) := by decide +kernel
theorem dX8_told_136 : decode cX8_told 136 = .ok (.ireturn, 1) := by decide +kernel
theorem dX8_told_137 : decode cX8_told 137 = .ok (.aload_n 0, 1) := by decide +kernel
theorem dX8_told_138 : decode cX8_told 138 = .ok (.invokevirtual 149, 3) := by decide +kernel
theorem dX8_told_141 : decode cX8_told 141 = .ok (.ireturn, 1) := by decide +kernel
theorem dX8_told_142 : decode cX8_told 142 = .ok (.aload_n 0, 1) := by decide +kernel
theorem dX8_told_143 : decode cX8_told 143 = .ok (.getfield 7, 3) := by decide +kernel
theorem dX8_told_146 : decode cX8_told 146 = .ok (.sipush 190, 3) := by decide +kernel
theorem dX8_told_149 : decode cX8_told 149 = .ok (.iaload, 1) := by decide +kernel
theorem dX8_told_150 : decode cX8_told 150 = .ok (.ireturn, 1) := by decide +kernel
theorem dX8_told_151 : decode cX8_told 151 = .ok (.aload_n 0, 1) := by decide +kernel
theorem dX8_told_152 : decode cX8_told 152 = .ok (.getfield 94, 3) := by decide +kernel
theorem dX8_told_155 : decode cX8_told 155 = .ok (.ireturn, 1) := by decide +kernel
theorem dX8_told_156 : decode cX8_told 156 = .ok (.aload_n 0, 1) := by decide +kernel
theorem dX8_told_157 : decode cX8_told 157 = .ok (.invokevirtual 152, 3) := by decide +kernel
theorem dX8_told_160 : decode cX8_told 160 = .ok (.ireturn, 1) := by decide +kernel
theorem dX8_told_161 : decode cX8_told 161 = .ok (.aload_n 0, 1) := by decide +kernel
theorem dX8_told_162 : decode cX8_told 162 = .ok (.getfield 88, 3) := by decide +kernel
theorem dX8_told_165 : decode cX8_told 165 = .ok (.ireturn, 1) := by decide +kernel
theorem dX8_told_166 : decode cX8_told 166 = .ok (.ldc 36, 2) := by decide +kernel
theorem dX8_told_168 : decode cX8_told 168 = .ok (.ireturn, 1) := by decide +kernel
theorem dX8_clock_0 : decode cX8_clock 0 = .ok (.aload_n 0, 1) := by decide +kernel
theorem dX8_clock_1 : decode cX8_clock 1 = .ok (.iload_n 1, 1) := by decide +kernel
theorem dX8_clock_2 : decode cX8_clock 2 = .ok (.invokevirtual 136, 3) := by decide +kernel
theorem dX8_clock_5 : decode cX8_clock 5 = .ok (.ifCond .ne 6, 3) := by decide +kernel
theorem dX8_clock_8 : decode cX8_clock 8 = .ok (.ldc 155, 2) := by decide +kernel
theorem dX8_clock_10 : decode cX8_clock 10 = .ok (.ireturn, 1) := by decide +kernel
theorem dX8_clock_11 : decode cX8_clock 11 = .ok (.iload_n 2, 1) := by decide +kernel
theorem dX8_clock_12 : decode cX8_clock 12 = .ok (.tableswitch 143 0 6 #[44, 53, 63, 76, 86, 96, 106], 44) := by decide +kernel
theorem dX8_clock_56 : decode cX8_clock 56 = .ok (.aload_n 0, 1) := by decide +kernel
theorem dX8_clock_57 : decode cX8_clock 57 = .ok (.getfield 7, 3) := by decide +kernel
theorem dX8_clock_60 : decode cX8_clock 60 = .ok (.iconst 3, 1) := by decide +kernel
theorem dX8_clock_61 : decode cX8_clock 61 = .ok (.iload_n 1, 1) := by decide +kernel
theorem dX8_clock_62 : decode cX8_clock 62 = .ok (.iadd, 1) := by decide +kernel
theorem dX8_clock_63 : decode cX8_clock 63 = .ok (.iaload, 1) := by decide +kernel
theorem dX8_clock_64 : decode cX8_clock 64 = .ok (.ireturn, 1) := by decide +kernel
theorem dX8_clock_65 : decode cX8_clock 65 = .ok (.aload_n 0, 1) := by decide +kernel
theorem dX8_clock_66 : decode cX8_clock 66 = .ok (.getfield 7, 3) := by decide +kernel
theorem dX8_clock_69 : decode cX8_clock 69 = .ok (.bipush 11, 2) := by decide +kernel
theorem dX8_clock_71 : decode cX8_clock 71 = .ok (.iload_n 1, 1) := by decide +kernel
theorem dX8_clock_72 : decode cX8_clock 72 = .ok (.iadd, 1) := by decide +kernel
theorem dX8_clock_73 : decode cX8_clock 73 = .ok (.iaload, 1) := by decide +kernel
theorem dX8_clock_74 : decode cX8_clock 74 = .ok (.ireturn, 1) := by decide +kernel
theorem dX8_clock_75 : decode cX8_clock 75 = .ok (.aload_n 0, 1) := by decide +kernel
theorem dX8_clock_76 : decode cX8_clock 76 = .ok (.getfield 7, 3) := by decide +kernel
theorem dX8_clock_79 : decode cX8_clock 79 = .ok (.bipush 19, 2) := by decide +kernel
theorem dX8_clock_81 : decode cX8_clock 81 = .ok (.iload_n 1, 1) := by decide +kernel
theorem dX8_clock_82 : decode cX8_clock 82 = .ok (.iadd, 1) := by decide +kernel
theorem dX8_clock_83 : decode cX8_clock 83 = .ok (.iaload, 1) := by decide +kernel
theorem dX8_clock_84 : decode cX8_clock 84 = .ok (.ldc 156, 2) := by decide +kernel
theorem dX8_clock_86 : decode cX8_clock 86 = .ok (.iadd, 1) := by decide +kernel
theorem dX8_clock_87 : decode cX8_clock 87 = .ok (.ireturn, 1) := by decide +kernel
theorem dX8_clock_88 : decode cX8_clock 88 = .ok (.aload_n 0, 1) := by decide +kernel
theorem dX8_clock_89 : decode cX8_clock 89 = .ok (.iconst 0, 1) := by decide +kernel
theorem dX8_clock_90 : decode cX8_clock 90 = .ok (.iload_n 1, 1) := by decide +kernel
theorem dX8_clock_91 : decode cX8_clock 91 = .ok (.invokevirtual 97, 3) := by decide +kernel
theorem dX8_clock_94 : decode cX8_clock 94 = .ok (.ldc 156, 2) := by decide +kernel
theorem dX8_clock_96 : decode cX8_clock 96 = .ok (.iadd, 1) := by decide +kernel
theorem dX8_clock_97 : decode cX8_clock 97 = .ok (.ireturn, 1) := by decide +kernel
theorem dX8_clock_98 : decode cX8_clock 98 = .ok (.aload_n 0, 1) := by decide +kernel
theorem dX8_clock_99 : decode cX8_clock 99 = .ok (.getfield 7, 3) := by decide +kernel
theorem dX8_clock_102 : decode cX8_clock 102 = .ok (.bipush 27, 2) := by decide +kernel
theorem dX8_clock_104 : decode cX8_clock 104 = .ok (.iload_n 1, 1) := by decide +kernel
theorem dX8_clock_105 : decode cX8_clock 105 = .ok (.iadd, 1) := by decide +kernel
theorem dX8_clock_106 : decode cX8_clock 106 = .ok (.iaload, 1) := by decide +kernel
theorem dX8_clock_107 : decode cX8_clock 107 = .ok (.ireturn, 1) := by decide +kernel
theorem dX8_clock_108 : decode cX8_clock 108 = .ok (.aload_n 0, 1) := by decide +kernel
theorem dX8_clock_109 : decode cX8_clock 109 = .ok (.getfield 7, 3) := by decide +kernel
theorem dX8_clock_112 : decode cX8_clock 112 = .ok (.bipush 35, 2) := by decide +kernel
theorem dX8_clock_114 : decode cX8_clock 114 = .ok (.iload_n 1, 1) := by decide +kernel
theorem dX8_clock_115 : decode cX8_clock 115 = .ok (.iadd, 1) := by decide +kernel
theorem dX8_clock_116 : decode cX8_clock 116 = .ok (.iaload, 1) := by decide +kernel
theorem dX8_clock_117 : decode cX8_clock 117 = .ok (.ireturn, 1) := by decide +kernel
theorem dX8_clock_118 : decode cX8_clock 118 = .ok (.aload_n 0, 1) := by decide +kernel
theorem dX8_clock_119 : decode cX8_clock 119 = .ok (.iconst 0, 1) := by decide +kernel
theorem dX8_clock_120 : decode cX8_clock 120 = .ok (.iload_n 1, 1) := by decide +kernel
theorem dX8_clock_121 : decode cX8_clock 121 = .ok (.invokevirtual 114, 3) := by decide +kernel
theorem dX8_clock_124 : decode cX8_clock 124 = .ok (.ifCond .eq 17, 3) := by decide +kernel
theorem dX8_clock_127 : decode cX8_clock 127 = .ok (.aload_n 0, 1) := by decide +kernel
theorem dX8_clock_128 : decode cX8_clock 128 = .ok (.iconst 0, 1) := by decide +kernel
theorem dX8_clock_129 : decode cX8_clock 129 = .ok (.aload_n 0, 1) := by decide +kernel
theorem dX8_clock_130 : decode cX8_clock 130 = .ok (.getfield 7, 3) := by decide +kernel
theorem dX8_clock_133 : decode cX8_clock 133 = .ok (.iconst 0, 1) := by decide +kernel
theorem dX8_clock_134 : decode cX8_clock 134 = .ok (.iaload, 1) := by decide +kernel
theorem dX8_clock_135 : decode cX8_clock 135 = .ok (.invokevirtual 100, 3) := by decide +kernel
theorem dX8_clock_138 : decode cX8_clock 138 = .ok (.ifCond .eq 7, 3) := by decide +kernel
theorem dX8_clock_141 : decode cX8_clock 141 = .ok (.iconst (-1), 1) := by decide +kernel
theorem dX8_clock_142 : decode cX8_clock 142 = .ok (.goto 12, 3) := by decide +kernel
theorem dX8_clock_145 : decode cX8_clock 145 = .ok (.aload_n 0, 1) := by decide +kernel
theorem dX8_clock_146 : decode cX8_clock 146 = .ok (.iconst 0, 1) := by decide +kernel
theorem dX8_clock_147 : decode cX8_clock 147 = .ok (.iload_n 1, 1) := by decide +kernel
theorem dX8_clock_148 : decode cX8_clock 148 = .ok (.invokevirtual 117, 3) := by decide +kernel
theorem dX8_clock_151 : decode cX8_clock 151 = .ok (.ldc 156, 2) := by decide +kernel
theorem dX8_clock_153 : decode cX8_clock 153 = .ok (.iadd, 1) := by decide +kernel
theorem dX8_clock_154 : decode cX8_clock 154 = .ok (.ireturn, 1) := by decide +kernel
theorem dX8_clock_155 : decode cX8_clock 155 = .ok (.ldc 36, 2) := by decide +kernel
theorem dX8_clock_157 : decode cX8_clock 157 = .ok (.ireturn, 1) := by decide +kernel
theorem dX8_arePair_0 : decode cX8_arePair 0 = .ok (.aload_n 0, 1) := by decide +kernel
theorem dX8_arePair_1 : decode cX8_arePair 1 = .ok (.iload_n 1, 1) := by decide +kernel
theorem dX8_arePair_2 : decode cX8_arePair 2 = .ok (.invokevirtual 136, 3) := by decide +kernel
theorem dX8_arePair_5 : decode cX8_arePair 5 = .ok (.ifCond .eq 20, 3) := by decide +kernel
theorem dX8_arePair_8 : decode cX8_arePair 8 = .ok (.aload_n 0, 1) := by decide +kernel
theorem dX8_arePair_9 : decode cX8_arePair 9 = .ok (.iload_n 2, 1) := by decide +kernel
theorem dX8_arePair_10 : decode cX8_arePair 10 = .ok (.invokevirtual 136, 3) := by decide +kernel
theorem dX8_arePair_13 : decode cX8_arePair 13 = .ok (.ifCond .eq 12, 3) := by decide +kernel
theorem dX8_arePair_16 : decode cX8_arePair 16 = .ok (.iload_n 1, 1) := by decide +kernel
theorem dX8_arePair_17 : decode cX8_arePair 17 = .ok (.iload_n 2, 1) := by decide +kernel
theorem dX8_arePair_18 : decode cX8_arePair 18 = .ok (.if_icmp .eq 7, 3) := by decide +kernel
theorem dX8_arePair_21 : decode cX8_arePair 21 = .ok (.iconst 1, 1) := by decide +kernel
theorem dX8_arePair_22 : decode cX8_arePair 22 = .ok (.goto 4, 3) := by decide +kernel
theorem dX8_arePair_25 : decode cX8_arePair 25 = .ok (.iconst 0, 1) := by decide +kernel
theorem dX8_arePair_26 : decode cX8_arePair 26 = .ok (.ireturn, 1) := by decide +kernel
theorem dX8_heard_0 : decode cX8_heard 0 = .ok (.aload_n 0, 1) := by decide +kernel
theorem dX8_heard_1 : decode cX8_heard 1 = .ok (.iload_n 1, 1) := by decide +kernel
theorem dX8_heard_2 : decode cX8_heard 2 = .ok (.iload_n 2, 1) := by decide +kernel
theorem dX8_heard_3 : decode cX8_heard 3 = .ok (.invokevirtual 157, 3) := by decide +kernel
theorem dX8_heard_6 : decode cX8_heard 6 = .ok (.ifCond .ne 6, 3) := by decide +kernel
theorem dX8_heard_9 : decode cX8_heard 9 = .ok (.ldc 155, 2) := by decide +kernel
theorem dX8_heard_11 : decode cX8_heard 11 = .ok (.ireturn, 1) := by decide +kernel
theorem dX8_heard_12 : decode cX8_heard 12 = .ok (.iload_n 3, 1) := by decide +kernel
theorem dX8_heard_13 : decode cX8_heard 13 = .ok (.tableswitch 97 0 4 #[35, 46, 64, 83, 90], 35) := by decide +kernel
theorem dX8_heard_48 : decode cX8_heard 48 = .ok (.aload_n 0, 1) := by decide +kernel
theorem dX8_heard_49 : decode cX8_heard 49 = .ok (.iconst 0, 1) := by decide +kernel
theorem dX8_heard_50 : decode cX8_heard 50 = .ok (.iload_n 1, 1) := by decide +kernel
theorem dX8_heard_51 : decode cX8_heard 51 = .ok (.iload_n 2, 1) := by decide +kernel
theorem dX8_heard_52 : decode cX8_heard 52 = .ok (.invokevirtual 104, 3) := by decide +kernel
theorem dX8_heard_55 : decode cX8_heard 55 = .ok (.ldc 156, 2) := by decide +kernel
theorem dX8_heard_57 : decode cX8_heard 57 = .ok (.iadd, 1) := by decide +kernel
theorem dX8_heard_58 : decode cX8_heard 58 = .ok (.ireturn, 1) := by decide +kernel
theorem dX8_heard_59 : decode cX8_heard 59 = .ok (.aload_n 0, 1) := by decide +kernel
theorem dX8_heard_60 : decode cX8_heard 60 = .ok (.getfield 7, 3) := by decide +kernel
theorem dX8_heard_63 : decode cX8_heard 63 = .ok (.bipush 43, 2) := by decide +kernel
theorem dX8_heard_65 : decode cX8_heard 65 = .ok (.bipush 8, 2) := by decide +kernel
theorem dX8_heard_67 : decode cX8_heard 67 = .ok (.iload_n 1, 1) := by decide +kernel
theorem dX8_heard_68 : decode cX8_heard 68 = .ok (.imul, 1) := by decide +kernel
theorem dX8_heard_69 : decode cX8_heard 69 = .ok (.iadd, 1) := by decide +kernel
theorem dX8_heard_70 : decode cX8_heard 70 = .ok (.iload_n 2, 1) := by decide +kernel
theorem dX8_heard_71 : decode cX8_heard 71 = .ok (.iadd, 1) := by decide +kernel
theorem dX8_heard_72 : decode cX8_heard 72 = .ok (.iaload, 1) := by decide +kernel
theorem dX8_heard_73 : decode cX8_heard 73 = .ok (.bipush 20, 2) := by decide +kernel
theorem dX8_heard_75 : decode cX8_heard 75 = .ok (.iadd, 1) := by decide +kernel
theorem dX8_heard_76 : decode cX8_heard 76 = .ok (.ireturn, 1) := by decide +kernel
theorem dX8_heard_77 : decode cX8_heard 77 = .ok (.aload_n 0, 1) := by decide +kernel
theorem dX8_heard_78 : decode cX8_heard 78 = .ok (.getfield 7, 3) := by decide +kernel
theorem dX8_heard_81 : decode cX8_heard 81 = .ok (.bipush 107, 2) := by decide +kernel
theorem dX8_heard_83 : decode cX8_heard 83 = .ok (.bipush 8, 2) := by decide +kernel
theorem dX8_heard_85 : decode cX8_heard 85 = .ok (.iload_n 1, 1) := by decide +kernel
theorem dX8_heard_86 : decode cX8_heard 86 = .ok (.imul, 1) := by decide +kernel
theorem dX8_heard_87 : decode cX8_heard 87 = .ok (.iadd, 1) := by decide +kernel
theorem dX8_heard_88 : decode cX8_heard 88 = .ok (.iload_n 2, 1) := by decide +kernel
theorem dX8_heard_89 : decode cX8_heard 89 = .ok (.iadd, 1) := by decide +kernel
theorem dX8_heard_90 : decode cX8_heard 90 = .ok (.iaload, 1) := by decide +kernel
theorem dX8_heard_91 : decode cX8_heard 91 = .ok (.sipush 9999, 3) := by decide +kernel
theorem dX8_heard_94 : decode cX8_heard 94 = .ok (.iadd, 1) := by decide +kernel
theorem dX8_heard_95 : decode cX8_heard 95 = .ok (.ireturn, 1) := by decide +kernel
theorem dX8_heard_96 : decode cX8_heard 96 = .ok (.aload_n 0, 1) := by decide +kernel
theorem dX8_heard_97 : decode cX8_heard 97 = .ok (.iload_n 1, 1) := by decide +kernel
theorem dX8_heard_98 : decode cX8_heard 98 = .ok (.iload_n 2, 1) := by decide +kernel
theorem dX8_heard_99 : decode cX8_heard 99 = .ok (.invokevirtual 160, 3) := by decide +kernel
theorem dX8_heard_102 : decode cX8_heard 102 = .ok (.ireturn, 1) := by decide +kernel
theorem dX8_heard_103 : decode cX8_heard 103 = .ok (.aload_n 0, 1) := by decide +kernel
theorem dX8_heard_104 : decode cX8_heard 104 = .ok (.iload_n 1, 1) := by decide +kernel
theorem dX8_heard_105 : decode cX8_heard 105 = .ok (.iload_n 2, 1) := by decide +kernel
theorem dX8_heard_106 : decode cX8_heard 106 = .ok (.invokevirtual 163, 3) := by decide +kernel
theorem dX8_heard_109 : decode cX8_heard 109 = .ok (.ireturn, 1) := by decide +kernel
theorem dX8_heard_110 : decode cX8_heard 110 = .ok (.ldc 36, 2) := by decide +kernel
theorem dX8_heard_112 : decode cX8_heard 112 = .ok (.ireturn, 1) := by decide +kernel
theorem dX8_alarmAt_0 : decode cX8_alarmAt 0 = .ok (.iload_n 1, 1) := by decide +kernel
theorem dX8_alarmAt_1 : decode cX8_alarmAt 1 = .ok (.iconst 0, 1) := by decide +kernel
theorem dX8_alarmAt_2 : decode cX8_alarmAt 2 = .ok (.aload_n 0, 1) := by decide +kernel
theorem dX8_alarmAt_3 : decode cX8_alarmAt 3 = .ok (.getfield 7, 3) := by decide +kernel
theorem dX8_alarmAt_6 : decode cX8_alarmAt 6 = .ok (.sipush 171, 3) := by decide +kernel
theorem dX8_alarmAt_9 : decode cX8_alarmAt 9 = .ok (.iaload, 1) := by decide +kernel
theorem dX8_alarmAt_10 : decode cX8_alarmAt 10 = .ok (.iconst 1, 1) := by decide +kernel
theorem dX8_alarmAt_11 : decode cX8_alarmAt 11 = .ok (.isub, 1) := by decide +kernel
theorem dX8_alarmAt_12 : decode cX8_alarmAt 12 = .ok (.invokestatic 32, 3) := by decide +kernel
theorem dX8_alarmAt_15 : decode cX8_alarmAt 15 = .ok (.ifCond .ne 6, 3) := by decide +kernel
theorem dX8_alarmAt_18 : decode cX8_alarmAt 18 = .ok (.ldc 155, 2) := by decide +kernel
theorem dX8_alarmAt_20 : decode cX8_alarmAt 20 = .ok (.ireturn, 1) := by decide +kernel
theorem dX8_alarmAt_21 : decode cX8_alarmAt 21 = .ok (.iload_n 2, 1) := by decide +kernel
theorem dX8_alarmAt_22 : decode cX8_alarmAt 22 = .ok (.tableswitch 59 0 2 #[26, 37, 48], 26) := by decide +kernel
theorem dX8_alarmAt_48 : decode cX8_alarmAt 48 = .ok (.aload_n 0, 1) := by decide +kernel
theorem dX8_alarmAt_49 : decode cX8_alarmAt 49 = .ok (.getfield 7, 3) := by decide +kernel
theorem dX8_alarmAt_52 : decode cX8_alarmAt 52 = .ok (.sipush 172, 3) := by decide +kernel
theorem dX8_alarmAt_55 : decode cX8_alarmAt 55 = .ok (.iload_n 1, 1) := by decide +kernel
theorem dX8_alarmAt_56 : decode cX8_alarmAt 56 = .ok (.iadd, 1) := by decide +kernel
theorem dX8_alarmAt_57 : decode cX8_alarmAt 57 = .ok (.iaload, 1) := by decide +kernel
theorem dX8_alarmAt_58 : decode cX8_alarmAt 58 = .ok (.ireturn, 1) := by decide +kernel
theorem dX8_alarmAt_59 : decode cX8_alarmAt 59 = .ok (.aload_n 0, 1) := by decide +kernel
theorem dX8_alarmAt_60 : decode cX8_alarmAt 60 = .ok (.getfield 7, 3) := by decide +kernel
theorem dX8_alarmAt_63 : decode cX8_alarmAt 63 = .ok (.sipush 178, 3) := by decide +kernel
theorem dX8_alarmAt_66 : decode cX8_alarmAt 66 = .ok (.iload_n 1, 1) := by decide +kernel
theorem dX8_alarmAt_67 : decode cX8_alarmAt 67 = .ok (.iadd, 1) := by decide +kernel
theorem dX8_alarmAt_68 : decode cX8_alarmAt 68 = .ok (.iaload, 1) := by decide +kernel
theorem dX8_alarmAt_69 : decode cX8_alarmAt 69 = .ok (.ireturn, 1) := by decide +kernel
theorem dX8_alarmAt_70 : decode cX8_alarmAt 70 = .ok (.aload_n 0, 1) := by decide +kernel
theorem dX8_alarmAt_71 : decode cX8_alarmAt 71 = .ok (.getfield 7, 3) := by decide +kernel
theorem dX8_alarmAt_74 : decode cX8_alarmAt 74 = .ok (.sipush 184, 3) := by decide +kernel
theorem dX8_alarmAt_77 : decode cX8_alarmAt 77 = .ok (.iload_n 1, 1) := by decide +kernel
theorem dX8_alarmAt_78 : decode cX8_alarmAt 78 = .ok (.iadd, 1) := by decide +kernel
theorem dX8_alarmAt_79 : decode cX8_alarmAt 79 = .ok (.iaload, 1) := by decide +kernel
theorem dX8_alarmAt_80 : decode cX8_alarmAt 80 = .ok (.ireturn, 1) := by decide +kernel
theorem dX8_alarmAt_81 : decode cX8_alarmAt 81 = .ok (.ldc 36, 2) := by decide +kernel
theorem dX8_alarmAt_83 : decode cX8_alarmAt 83 = .ok (.ireturn, 1) := by decide +kernel
theorem dX8_remember_0 : decode cX8_remember 0 = .ok (.aload_n 0, 1) := by decide +kernel
theorem dX8_remember_1 : decode cX8_remember 1 = .ok (.getfield 88, 3) := by decide +kernel
theorem dX8_remember_4 : decode cX8_remember 4 = .ok (.bipush 16, 2) := by decide +kernel
theorem dX8_remember_6 : decode cX8_remember 6 = .ok (.if_icmp .ne 43, 3) := by decide +kernel
theorem dX8_remember_9 : decode cX8_remember 9 = .ok (.iconst 1, 1) := by decide +kernel
theorem dX8_remember_10 : decode cX8_remember 10 = .ok (.istore_n 1, 1) := by decide +kernel
theorem dX8_remember_11 : decode cX8_remember 11 = .ok (.iload_n 1, 1) := by decide +kernel
theorem dX8_remember_12 : decode cX8_remember 12 = .ok (.bipush 16, 2) := by decide +kernel
theorem dX8_remember_14 : decode cX8_remember 14 = .ok (.if_icmp .ge 25, 3) := by decide +kernel
theorem dX8_remember_17 : decode cX8_remember 17 = .ok (.aload_n 0, 1) := by decide +kernel
theorem dX8_remember_18 : decode cX8_remember 18 = .ok (.sipush 192, 3) := by decide +kernel
theorem dX8_remember_21 : decode cX8_remember 21 = .ok (.iload_n 1, 1) := by decide +kernel
theorem dX8_remember_22 : decode cX8_remember 22 = .ok (.iconst 1, 1) := by decide +kernel
theorem dX8_remember_23 : decode cX8_remember 23 = .ok (.iadd, 1) := by decide +kernel
theorem dX8_remember_24 : decode cX8_remember 24 = .ok (.imul, 1) := by decide +kernel
theorem dX8_remember_25 : decode cX8_remember 25 = .ok (.sipush 192, 3) := by decide +kernel
theorem dX8_remember_28 : decode cX8_remember 28 = .ok (.iload_n 1, 1) := by decide +kernel
theorem dX8_remember_29 : decode cX8_remember 29 = .ok (.imul, 1) := by decide +kernel
theorem dX8_remember_30 : decode cX8_remember 30 = .ok (.invokevirtual 85, 3) := by decide +kernel
theorem dX8_remember_33 : decode cX8_remember 33 = .ok (.iinc 1 1, 3) := by decide +kernel
theorem dX8_remember_36 : decode cX8_remember 36 = .ok (.goto (-25), 3) := by decide +kernel
theorem dX8_remember_39 : decode cX8_remember 39 = .ok (.aload_n 0, 1) := by decide +kernel
theorem dX8_remember_40 : decode cX8_remember 40 = .ok (.dup, 1) := by decide +kernel
theorem dX8_remember_41 : decode cX8_remember 41 = .ok (.getfield 88, 3) := by decide +kernel
theorem dX8_remember_44 : decode cX8_remember 44 = .ok (.iconst 1, 1) := by decide +kernel
theorem dX8_remember_45 : decode cX8_remember 45 = .ok (.isub, 1) := by decide +kernel
theorem dX8_remember_46 : decode cX8_remember 46 = .ok (.putfield 88, 3) := by decide +kernel
theorem dX8_remember_49 : decode cX8_remember 49 = .ok (.aload_n 0, 1) := by decide +kernel
theorem dX8_remember_50 : decode cX8_remember 50 = .ok (.iconst 0, 1) := by decide +kernel
theorem dX8_remember_51 : decode cX8_remember 51 = .ok (.sipush 192, 3) := by decide +kernel
theorem dX8_remember_54 : decode cX8_remember 54 = .ok (.aload_n 0, 1) := by decide +kernel
theorem dX8_remember_55 : decode cX8_remember 55 = .ok (.getfield 88, 3) := by decide +kernel
theorem dX8_remember_58 : decode cX8_remember 58 = .ok (.iconst 1, 1) := by decide +kernel
theorem dX8_remember_59 : decode cX8_remember 59 = .ok (.iadd, 1) := by decide +kernel
theorem dX8_remember_60 : decode cX8_remember 60 = .ok (.imul, 1) := by decide +kernel
theorem dX8_remember_61 : decode cX8_remember 61 = .ok (.invokevirtual 85, 3) := by decide +kernel
theorem dX8_remember_64 : decode cX8_remember 64 = .ok (.aload_n 0, 1) := by decide +kernel
theorem dX8_remember_65 : decode cX8_remember 65 = .ok (.dup, 1) := by decide +kernel
theorem dX8_remember_66 : decode cX8_remember 66 = .ok (.getfield 88, 3) := by decide +kernel
theorem dX8_remember_69 : decode cX8_remember 69 = .ok (.iconst 1, 1) := by decide +kernel
theorem dX8_remember_70 : decode cX8_remember 70 = .ok (.iadd, 1) := by decide +kernel
theorem dX8_remember_71 : decode cX8_remember 71 = .ok (.putfield 88, 3) := by decide +kernel
theorem dX8_remember_74 : decode cX8_remember 74 = .ok (.return_, 1) := by decide +kernel
theorem dX8_tick_0 : decode cX8_tick 0 = .ok (.iload_n 1, 1) := by decide +kernel
theorem dX8_tick_1 : decode cX8_tick 1 = .ok (.iconst 1, 1) := by decide +kernel
theorem dX8_tick_2 : decode cX8_tick 2 = .ok (.bipush 20, 2) := by decide +kernel
theorem dX8_tick_4 : decode cX8_tick 4 = .ok (.invokestatic 32, 3) := by decide +kernel
theorem dX8_tick_7 : decode cX8_tick 7 = .ok (.ifCond .ne 6, 3) := by decide +kernel
theorem dX8_tick_10 : decode cX8_tick 10 = .ok (.ldc 36, 2) := by decide +kernel
theorem dX8_tick_12 : decode cX8_tick 12 = .ok (.ireturn, 1) := by decide +kernel
theorem dX8_tick_13 : decode cX8_tick 13 = .ok (.aload_n 0, 1) := by decide +kernel
theorem dX8_tick_14 : decode cX8_tick 14 = .ok (.invokevirtual 166, 3) := by decide +kernel
theorem dX8_tick_17 : decode cX8_tick 17 = .ok (.aload_n 0, 1) := by decide +kernel
theorem dX8_tick_18 : decode cX8_tick 18 = .ok (.invokevirtual 149, 3) := by decide +kernel
theorem dX8_tick_21 : decode cX8_tick 21 = .ok (.istore_n 2, 1) := by decide +kernel
theorem dX8_tick_22 : decode cX8_tick 22 = .ok (.iconst 0, 1) := by decide +kernel
theorem dX8_tick_23 : decode cX8_tick 23 = .ok (.istore_n 3, 1) := by decide +kernel
theorem dX8_tick_24 : decode cX8_tick 24 = .ok (.iload_n 3, 1) := by decide +kernel
theorem dX8_tick_25 : decode cX8_tick 25 = .ok (.iload_n 1, 1) := by decide +kernel
theorem dX8_tick_26 : decode cX8_tick 26 = .ok (.if_icmp .ge 13, 3) := by decide +kernel
theorem dX8_tick_29 : decode cX8_tick 29 = .ok (.aload_n 0, 1) := by decide +kernel
theorem dX8_tick_30 : decode cX8_tick 30 = .ok (.invokevirtual 169, 3) := by decide +kernel
theorem dX8_tick_33 : decode cX8_tick 33 = .ok (.iinc 3 1, 3) := by decide +kernel
theorem dX8_tick_36 : decode cX8_tick 36 = .ok (.goto (-12), 3) := by decide +kernel
theorem dX8_tick_39 : decode cX8_tick 39 = .ok (.aload_n 0, 1) := by decide +kernel
theorem dX8_tick_40 : decode cX8_tick 40 = .ok (.invokevirtual 149, 3) := by decide +kernel
theorem dX8_tick_43 : decode cX8_tick 43 = .ok (.iload_n 2, 1) := by decide +kernel
theorem dX8_tick_44 : decode cX8_tick 44 = .ok (.iconst (-1), 1) := by decide +kernel
theorem dX8_tick_45 : decode cX8_tick 45 = .ok (.ixor, 1) := by decide +kernel
theorem dX8_tick_46 : decode cX8_tick 46 = .ok (.iand, 1) := by decide +kernel
theorem dX8_tick_47 : decode cX8_tick 47 = .ok (.ireturn, 1) := by decide +kernel
theorem dX8_round_0 : decode cX8_round 0 = .ok (.aload_n 0, 1) := by decide +kernel
theorem dX8_round_1 : decode cX8_round 1 = .ok (.invokevirtual 166, 3) := by decide +kernel
theorem dX8_round_4 : decode cX8_round 4 = .ok (.aload_n 0, 1) := by decide +kernel
theorem dX8_round_5 : decode cX8_round 5 = .ok (.iconst 0, 1) := by decide +kernel
theorem dX8_round_6 : decode cX8_round 6 = .ok (.invokevirtual 172, 3) := by decide +kernel
theorem dX8_round_9 : decode cX8_round 9 = .ok (.aload_n 0, 1) := by decide +kernel
theorem dX8_round_10 : decode cX8_round 10 = .ok (.iconst 0, 1) := by decide +kernel
theorem dX8_round_11 : decode cX8_round 11 = .ok (.invokevirtual 123, 3) := by decide +kernel
theorem dX8_round_14 : decode cX8_round 14 = .ok (.ireturn, 1) := by decide +kernel
theorem dX8_lie_0 : decode cX8_lie 0 = .ok (.aload_n 0, 1) := by decide +kernel
theorem dX8_lie_1 : decode cX8_lie 1 = .ok (.iload_n 1, 1) := by decide +kernel
theorem dX8_lie_2 : decode cX8_lie 2 = .ok (.iload_n 2, 1) := by decide +kernel
theorem dX8_lie_3 : decode cX8_lie 3 = .ok (.invokevirtual 157, 3) := by decide +kernel
theorem dX8_lie_6 : decode cX8_lie 6 = .ok (.ifCond .ne 6, 3) := by decide +kernel
theorem dX8_lie_9 : decode cX8_lie 9 = .ok (.ldc 155, 2) := by decide +kernel
theorem dX8_lie_11 : decode cX8_lie 11 = .ok (.ireturn, 1) := by decide +kernel
theorem dX8_lie_12 : decode cX8_lie 12 = .ok (.iload_n 3, 1) := by decide +kernel
theorem dX8_lie_13 : decode cX8_lie 13 = .ok (.sipush (-9999), 3) := by decide +kernel
theorem dX8_lie_16 : decode cX8_lie 16 = .ok (.sipush 9999, 3) := by decide +kernel
theorem dX8_lie_19 : decode cX8_lie 19 = .ok (.invokestatic 32, 3) := by decide +kernel
theorem dX8_lie_22 : decode cX8_lie 22 = .ok (.ifCond .ne 6, 3) := by decide +kernel
theorem dX8_lie_25 : decode cX8_lie 25 = .ok (.ldc 36, 2) := by decide +kernel
theorem dX8_lie_27 : decode cX8_lie 27 = .ok (.ireturn, 1) := by decide +kernel
theorem dX8_lie_28 : decode cX8_lie 28 = .ok (.aload_n 0, 1) := by decide +kernel
theorem dX8_lie_29 : decode cX8_lie 29 = .ok (.invokevirtual 166, 3) := by decide +kernel
theorem dX8_lie_32 : decode cX8_lie 32 = .ok (.aload_n 0, 1) := by decide +kernel
theorem dX8_lie_33 : decode cX8_lie 33 = .ok (.getfield 7, 3) := by decide +kernel
theorem dX8_lie_36 : decode cX8_lie 36 = .ok (.bipush 107, 2) := by decide +kernel
theorem dX8_lie_38 : decode cX8_lie 38 = .ok (.bipush 8, 2) := by decide +kernel
theorem dX8_lie_40 : decode cX8_lie 40 = .ok (.iload_n 1, 1) := by decide +kernel
theorem dX8_lie_41 : decode cX8_lie 41 = .ok (.imul, 1) := by decide +kernel
theorem dX8_lie_42 : decode cX8_lie 42 = .ok (.iadd, 1) := by decide +kernel
theorem dX8_lie_43 : decode cX8_lie 43 = .ok (.iload_n 2, 1) := by decide +kernel
theorem dX8_lie_44 : decode cX8_lie 44 = .ok (.iadd, 1) := by decide +kernel
theorem dX8_lie_45 : decode cX8_lie 45 = .ok (.iaload, 1) := by decide +kernel
theorem dX8_lie_46 : decode cX8_lie 46 = .ok (.sipush 9999, 3) := by decide +kernel
theorem dX8_lie_49 : decode cX8_lie 49 = .ok (.iadd, 1) := by decide +kernel
theorem dX8_lie_50 : decode cX8_lie 50 = .ok (.istore 4, 2) := by decide +kernel
theorem dX8_lie_52 : decode cX8_lie 52 = .ok (.aload_n 0, 1) := by decide +kernel
theorem dX8_lie_53 : decode cX8_lie 53 = .ok (.getfield 7, 3) := by decide +kernel
theorem dX8_lie_56 : decode cX8_lie 56 = .ok (.bipush 107, 2) := by decide +kernel
theorem dX8_lie_58 : decode cX8_lie 58 = .ok (.bipush 8, 2) := by decide +kernel
theorem dX8_lie_60 : decode cX8_lie 60 = .ok (.iload_n 1, 1) := by decide +kernel
theorem dX8_lie_61 : decode cX8_lie 61 = .ok (.imul, 1) := by decide +kernel
theorem dX8_lie_62 : decode cX8_lie 62 = .ok (.iadd, 1) := by decide +kernel
theorem dX8_lie_63 : decode cX8_lie 63 = .ok (.iload_n 2, 1) := by decide +kernel
theorem dX8_lie_64 : decode cX8_lie 64 = .ok (.iadd, 1) := by decide +kernel
theorem dX8_lie_65 : decode cX8_lie 65 = .ok (.iload_n 3, 1) := by decide +kernel
theorem dX8_lie_66 : decode cX8_lie 66 = .ok (.iastore, 1) := by decide +kernel
theorem dX8_lie_67 : decode cX8_lie 67 = .ok (.iload 4, 2) := by decide +kernel
theorem dX8_lie_69 : decode cX8_lie 69 = .ok (.ireturn, 1) := by decide +kernel
theorem dX8_error_0 : decode cX8_error 0 = .ok (.aload_n 0, 1) := by decide +kernel
theorem dX8_error_1 : decode cX8_error 1 = .ok (.iload_n 1, 1) := by decide +kernel
theorem dX8_error_2 : decode cX8_error 2 = .ok (.iload_n 2, 1) := by decide +kernel
theorem dX8_error_3 : decode cX8_error 3 = .ok (.invokevirtual 157, 3) := by decide +kernel
theorem dX8_error_6 : decode cX8_error 6 = .ok (.ifCond .ne 6, 3) := by decide +kernel
theorem dX8_error_9 : decode cX8_error 9 = .ok (.ldc 155, 2) := by decide +kernel
theorem dX8_error_11 : decode cX8_error 11 = .ok (.ireturn, 1) := by decide +kernel
theorem dX8_error_12 : decode cX8_error 12 = .ok (.iload_n 3, 1) := by decide +kernel
theorem dX8_error_13 : decode cX8_error 13 = .ok (.bipush (-20), 2) := by decide +kernel
theorem dX8_error_15 : decode cX8_error 15 = .ok (.bipush 20, 2) := by decide +kernel
theorem dX8_error_17 : decode cX8_error 17 = .ok (.invokestatic 32, 3) := by decide +kernel
theorem dX8_error_20 : decode cX8_error 20 = .ok (.ifCond .ne 6, 3) := by decide +kernel
theorem dX8_error_23 : decode cX8_error 23 = .ok (.ldc 36, 2) := by decide +kernel
theorem dX8_error_25 : decode cX8_error 25 = .ok (.ireturn, 1) := by decide +kernel
theorem dX8_error_26 : decode cX8_error 26 = .ok (.aload_n 0, 1) := by decide +kernel
theorem dX8_error_27 : decode cX8_error 27 = .ok (.invokevirtual 166, 3) := by decide +kernel
theorem dX8_error_30 : decode cX8_error 30 = .ok (.aload_n 0, 1) := by decide +kernel
theorem dX8_error_31 : decode cX8_error 31 = .ok (.getfield 7, 3) := by decide +kernel
theorem dX8_error_34 : decode cX8_error 34 = .ok (.bipush 43, 2) := by decide +kernel
theorem dX8_error_36 : decode cX8_error 36 = .ok (.bipush 8, 2) := by decide +kernel
theorem dX8_error_38 : decode cX8_error 38 = .ok (.iload_n 1, 1) := by decide +kernel
theorem dX8_error_39 : decode cX8_error 39 = .ok (.imul, 1) := by decide +kernel
theorem dX8_error_40 : decode cX8_error 40 = .ok (.iadd, 1) := by decide +kernel
theorem dX8_error_41 : decode cX8_error 41 = .ok (.iload_n 2, 1) := by decide +kernel
theorem dX8_error_42 : decode cX8_error 42 = .ok (.iadd, 1) := by decide +kernel
theorem dX8_error_43 : decode cX8_error 43 = .ok (.iaload, 1) := by decide +kernel
theorem dX8_error_44 : decode cX8_error 44 = .ok (.bipush 20, 2) := by decide +kernel
theorem dX8_error_46 : decode cX8_error 46 = .ok (.iadd, 1) := by decide +kernel
theorem dX8_error_47 : decode cX8_error 47 = .ok (.istore 4, 2) := by decide +kernel
theorem dX8_error_49 : decode cX8_error 49 = .ok (.aload_n 0, 1) := by decide +kernel
theorem dX8_error_50 : decode cX8_error 50 = .ok (.getfield 7, 3) := by decide +kernel
theorem dX8_error_53 : decode cX8_error 53 = .ok (.bipush 43, 2) := by decide +kernel
theorem dX8_error_55 : decode cX8_error 55 = .ok (.bipush 8, 2) := by decide +kernel
theorem dX8_error_57 : decode cX8_error 57 = .ok (.iload_n 1, 1) := by decide +kernel
theorem dX8_error_58 : decode cX8_error 58 = .ok (.imul, 1) := by decide +kernel
theorem dX8_error_59 : decode cX8_error 59 = .ok (.iadd, 1) := by decide +kernel
theorem dX8_error_60 : decode cX8_error 60 = .ok (.iload_n 2, 1) := by decide +kernel
theorem dX8_error_61 : decode cX8_error 61 = .ok (.iadd, 1) := by decide +kernel
theorem dX8_error_62 : decode cX8_error 62 = .ok (.iload_n 3, 1) := by decide +kernel
theorem dX8_error_63 : decode cX8_error 63 = .ok (.iastore, 1) := by decide +kernel
theorem dX8_error_64 : decode cX8_error 64 = .ok (.iload 4, 2) := by decide +kernel
theorem dX8_error_66 : decode cX8_error 66 = .ok (.ireturn, 1) := by decide +kernel
theorem dX8_manyOf_0 : decode cX8_manyOf 0 = .ok (.iconst 0, 1) := by decide +kernel
theorem dX8_manyOf_1 : decode cX8_manyOf 1 = .ok (.istore_n 2, 1) := by decide +kernel
theorem dX8_manyOf_2 : decode cX8_manyOf 2 = .ok (.iconst 0, 1) := by decide +kernel
theorem dX8_manyOf_3 : decode cX8_manyOf 3 = .ok (.istore_n 3, 1) := by decide +kernel
theorem dX8_manyOf_4 : decode cX8_manyOf 4 = .ok (.iload_n 3, 1) := by decide +kernel
theorem dX8_manyOf_5 : decode cX8_manyOf 5 = .ok (.aload_n 0, 1) := by decide +kernel
theorem dX8_manyOf_6 : decode cX8_manyOf 6 = .ok (.getfield 7, 3) := by decide +kernel
theorem dX8_manyOf_9 : decode cX8_manyOf 9 = .ok (.iconst 0, 1) := by decide +kernel
theorem dX8_manyOf_10 : decode cX8_manyOf 10 = .ok (.iaload, 1) := by decide +kernel
theorem dX8_manyOf_11 : decode cX8_manyOf 11 = .ok (.if_icmp .ge 20, 3) := by decide +kernel
theorem dX8_manyOf_14 : decode cX8_manyOf 14 = .ok (.iload_n 2, 1) := by decide +kernel
theorem dX8_manyOf_15 : decode cX8_manyOf 15 = .ok (.aload_n 0, 1) := by decide +kernel
theorem dX8_manyOf_16 : decode cX8_manyOf 16 = .ok (.getfield 7, 3) := by decide +kernel
theorem dX8_manyOf_19 : decode cX8_manyOf 19 = .ok (.iload_n 1, 1) := by decide +kernel
theorem dX8_manyOf_20 : decode cX8_manyOf 20 = .ok (.iload_n 3, 1) := by decide +kernel
theorem dX8_manyOf_21 : decode cX8_manyOf 21 = .ok (.iadd, 1) := by decide +kernel
theorem dX8_manyOf_22 : decode cX8_manyOf 22 = .ok (.iaload, 1) := by decide +kernel
theorem dX8_manyOf_23 : decode cX8_manyOf 23 = .ok (.iadd, 1) := by decide +kernel
theorem dX8_manyOf_24 : decode cX8_manyOf 24 = .ok (.istore_n 2, 1) := by decide +kernel
theorem dX8_manyOf_25 : decode cX8_manyOf 25 = .ok (.iinc 3 1, 3) := by decide +kernel
theorem dX8_manyOf_28 : decode cX8_manyOf 28 = .ok (.goto (-24), 3) := by decide +kernel
theorem dX8_manyOf_31 : decode cX8_manyOf 31 = .ok (.iload_n 2, 1) := by decide +kernel
theorem dX8_manyOf_32 : decode cX8_manyOf 32 = .ok (.ireturn, 1) := by decide +kernel
theorem dX8_liar_0 : decode cX8_liar 0 = .ok (.aload_n 0, 1) := by decide +kernel
theorem dX8_liar_1 : decode cX8_liar 1 = .ok (.iload_n 1, 1) := by decide +kernel
theorem dX8_liar_2 : decode cX8_liar 2 = .ok (.invokevirtual 136, 3) := by decide +kernel
theorem dX8_liar_5 : decode cX8_liar 5 = .ok (.ifCond .ne 6, 3) := by decide +kernel
theorem dX8_liar_8 : decode cX8_liar 8 = .ok (.ldc 155, 2) := by decide +kernel
theorem dX8_liar_10 : decode cX8_liar 10 = .ok (.ireturn, 1) := by decide +kernel
theorem dX8_liar_11 : decode cX8_liar 11 = .ok (.aload_n 0, 1) := by decide +kernel
theorem dX8_liar_12 : decode cX8_liar 12 = .ok (.invokevirtual 166, 3) := by decide +kernel
theorem dX8_liar_15 : decode cX8_liar 15 = .ok (.aload_n 0, 1) := by decide +kernel
theorem dX8_liar_16 : decode cX8_liar 16 = .ok (.getfield 7, 3) := by decide +kernel
theorem dX8_liar_19 : decode cX8_liar 19 = .ok (.bipush 27, 2) := by decide +kernel
theorem dX8_liar_21 : decode cX8_liar 21 = .ok (.iload_n 1, 1) := by decide +kernel
theorem dX8_liar_22 : decode cX8_liar 22 = .ok (.iadd, 1) := by decide +kernel
theorem dX8_liar_23 : decode cX8_liar 23 = .ok (.iload_n 2, 1) := by decide +kernel
theorem dX8_liar_24 : decode cX8_liar 24 = .ok (.ifCond .eq 7, 3) := by decide +kernel
theorem dX8_liar_27 : decode cX8_liar 27 = .ok (.iconst 1, 1) := by decide +kernel
theorem dX8_liar_28 : decode cX8_liar 28 = .ok (.goto 4, 3) := by decide +kernel
theorem dX8_liar_31 : decode cX8_liar 31 = .ok (.iconst 0, 1) := by decide +kernel
theorem dX8_liar_32 : decode cX8_liar 32 = .ok (.iastore, 1) := by decide +kernel
theorem dX8_liar_33 : decode cX8_liar 33 = .ok (.aload_n 0, 1) := by decide +kernel
theorem dX8_liar_34 : decode cX8_liar 34 = .ok (.bipush 27, 2) := by decide +kernel
theorem dX8_liar_36 : decode cX8_liar 36 = .ok (.invokevirtual 175, 3) := by decide +kernel
theorem dX8_liar_39 : decode cX8_liar 39 = .ok (.ireturn, 1) := by decide +kernel
theorem dX8_stand_0 : decode cX8_stand 0 = .ok (.aload_n 0, 1) := by decide +kernel
theorem dX8_stand_1 : decode cX8_stand 1 = .ok (.iload_n 1, 1) := by decide +kernel
theorem dX8_stand_2 : decode cX8_stand 2 = .ok (.invokevirtual 136, 3) := by decide +kernel
theorem dX8_stand_5 : decode cX8_stand 5 = .ok (.ifCond .ne 6, 3) := by decide +kernel
theorem dX8_stand_8 : decode cX8_stand 8 = .ok (.ldc 155, 2) := by decide +kernel
theorem dX8_stand_10 : decode cX8_stand 10 = .ok (.ireturn, 1) := by decide +kernel
theorem dX8_stand_11 : decode cX8_stand 11 = .ok (.aload_n 0, 1) := by decide +kernel
theorem dX8_stand_12 : decode cX8_stand 12 = .ok (.getfield 7, 3) := by decide +kernel
theorem dX8_stand_15 : decode cX8_stand 15 = .ok (.bipush 35, 2) := by decide +kernel
theorem dX8_stand_17 : decode cX8_stand 17 = .ok (.iload_n 1, 1) := by decide +kernel
theorem dX8_stand_18 : decode cX8_stand 18 = .ok (.iadd, 1) := by decide +kernel
theorem dX8_stand_19 : decode cX8_stand 19 = .ok (.iaload, 1) := by decide +kernel
theorem dX8_stand_20 : decode cX8_stand 20 = .ok (.iconst 1, 1) := by decide +kernel
theorem dX8_stand_21 : decode cX8_stand 21 = .ok (.if_icmp .ne 6, 3) := by decide +kernel
theorem dX8_stand_24 : decode cX8_stand 24 = .ok (.ldc 178, 2) := by decide +kernel
theorem dX8_stand_26 : decode cX8_stand 26 = .ok (.ireturn, 1) := by decide +kernel
theorem dX8_stand_27 : decode cX8_stand 27 = .ok (.aload_n 0, 1) := by decide +kernel
theorem dX8_stand_28 : decode cX8_stand 28 = .ok (.invokevirtual 166, 3) := by decide +kernel
theorem dX8_stand_31 : decode cX8_stand 31 = .ok (.aload_n 0, 1) := by decide +kernel
theorem dX8_stand_32 : decode cX8_stand 32 = .ok (.getfield 7, 3) := by decide +kernel
theorem dX8_stand_35 : decode cX8_stand 35 = .ok (.bipush 35, 2) := by decide +kernel
theorem dX8_stand_37 : decode cX8_stand 37 = .ok (.iload_n 1, 1) := by decide +kernel
theorem dX8_stand_38 : decode cX8_stand 38 = .ok (.iadd, 1) := by decide +kernel
theorem dX8_stand_39 : decode cX8_stand 39 = .ok (.iconst 1, 1) := by decide +kernel
theorem dX8_stand_40 : decode cX8_stand 40 = .ok (.iastore, 1) := by decide +kernel
theorem dX8_stand_41 : decode cX8_stand 41 = .ok (.aload_n 0, 1) := by decide +kernel
theorem dX8_stand_42 : decode cX8_stand 42 = .ok (.bipush 35, 2) := by decide +kernel
theorem dX8_stand_44 : decode cX8_stand 44 = .ok (.invokevirtual 175, 3) := by decide +kernel
theorem dX8_stand_47 : decode cX8_stand 47 = .ok (.ireturn, 1) := by decide +kernel
theorem dX8_join_0 : decode cX8_join 0 = .ok (.aload_n 0, 1) := by decide +kernel
theorem dX8_join_1 : decode cX8_join 1 = .ok (.iload_n 1, 1) := by decide +kernel
theorem dX8_join_2 : decode cX8_join 2 = .ok (.invokevirtual 136, 3) := by decide +kernel
theorem dX8_join_5 : decode cX8_join 5 = .ok (.ifCond .ne 6, 3) := by decide +kernel
theorem dX8_join_8 : decode cX8_join 8 = .ok (.ldc 155, 2) := by decide +kernel
theorem dX8_join_10 : decode cX8_join 10 = .ok (.ireturn, 1) := by decide +kernel
theorem dX8_join_11 : decode cX8_join 11 = .ok (.iconst 0, 1) := by decide +kernel
theorem dX8_join_12 : decode cX8_join 12 = .ok (.istore_n 2, 1) := by decide +kernel
theorem dX8_join_13 : decode cX8_join 13 = .ok (.iconst 0, 1) := by decide +kernel
theorem dX8_join_14 : decode cX8_join 14 = .ok (.istore_n 3, 1) := by decide +kernel
theorem dX8_join_15 : decode cX8_join 15 = .ok (.iload_n 3, 1) := by decide +kernel
theorem dX8_join_16 : decode cX8_join 16 = .ok (.aload_n 0, 1) := by decide +kernel
theorem dX8_join_17 : decode cX8_join 17 = .ok (.getfield 7, 3) := by decide +kernel
theorem dX8_join_20 : decode cX8_join 20 = .ok (.iconst 0, 1) := by decide +kernel
theorem dX8_join_21 : decode cX8_join 21 = .ok (.iaload, 1) := by decide +kernel
theorem dX8_join_22 : decode cX8_join 22 = .ok (.if_icmp .ge 36, 3) := by decide +kernel
theorem dX8_join_25 : decode cX8_join 25 = .ok (.aload_n 0, 1) := by decide +kernel
theorem dX8_join_26 : decode cX8_join 26 = .ok (.getfield 7, 3) := by decide +kernel
theorem dX8_join_29 : decode cX8_join 29 = .ok (.bipush 35, 2) := by decide +kernel
theorem dX8_join_31 : decode cX8_join 31 = .ok (.iload_n 3, 1) := by decide +kernel
theorem dX8_join_32 : decode cX8_join 32 = .ok (.iadd, 1) := by decide +kernel
theorem dX8_join_33 : decode cX8_join 33 = .ok (.iaload, 1) := by decide +kernel
theorem dX8_join_34 : decode cX8_join 34 = .ok (.ifCond .ne 18, 3) := by decide +kernel
theorem dX8_join_37 : decode cX8_join 37 = .ok (.aload_n 0, 1) := by decide +kernel
theorem dX8_join_38 : decode cX8_join 38 = .ok (.iload_n 2, 1) := by decide +kernel
theorem dX8_join_39 : decode cX8_join 39 = .ok (.aload_n 0, 1) := by decide +kernel
theorem dX8_join_40 : decode cX8_join 40 = .ok (.iconst 0, 1) := by decide +kernel
theorem dX8_join_41 : decode cX8_join 41 = .ok (.iload_n 3, 1) := by decide +kernel
theorem dX8_join_42 : decode cX8_join 42 = .ok (.iload_n 1, 1) := by decide +kernel
theorem dX8_join_43 : decode cX8_join 43 = .ok (.invokevirtual 104, 3) := by decide +kernel
theorem dX8_join_46 : decode cX8_join 46 = .ok (.invokevirtual 108, 3) := by decide +kernel
theorem dX8_join_49 : decode cX8_join 49 = .ok (.iinc 2 1, 3) := by decide +kernel
theorem dX8_join_52 : decode cX8_join 52 = .ok (.iinc 3 1, 3) := by decide +kernel
theorem dX8_join_55 : decode cX8_join 55 = .ok (.goto (-40), 3) := by decide +kernel
theorem dX8_join_58 : decode cX8_join 58 = .ok (.aload_n 0, 1) := by decide +kernel
theorem dX8_join_59 : decode cX8_join 59 = .ok (.getfield 7, 3) := by decide +kernel
theorem dX8_join_62 : decode cX8_join 62 = .ok (.bipush 35, 2) := by decide +kernel
theorem dX8_join_64 : decode cX8_join 64 = .ok (.iload_n 1, 1) := by decide +kernel
theorem dX8_join_65 : decode cX8_join 65 = .ok (.iadd, 1) := by decide +kernel
theorem dX8_join_66 : decode cX8_join 66 = .ok (.iaload, 1) := by decide +kernel
theorem dX8_join_67 : decode cX8_join 67 = .ok (.ifCond .eq 17, 3) := by decide +kernel
theorem dX8_join_70 : decode cX8_join 70 = .ok (.iload_n 2, 1) := by decide +kernel
theorem dX8_join_71 : decode cX8_join 71 = .ok (.iconst 2, 1) := by decide +kernel
theorem dX8_join_72 : decode cX8_join 72 = .ok (.aload_n 0, 1) := by decide +kernel
theorem dX8_join_73 : decode cX8_join 73 = .ok (.getfield 7, 3) := by decide +kernel
theorem dX8_join_76 : decode cX8_join 76 = .ok (.iconst 1, 1) := by decide +kernel
theorem dX8_join_77 : decode cX8_join 77 = .ok (.iaload, 1) := by decide +kernel
theorem dX8_join_78 : decode cX8_join 78 = .ok (.imul, 1) := by decide +kernel
theorem dX8_join_79 : decode cX8_join 79 = .ok (.iconst 1, 1) := by decide +kernel
theorem dX8_join_80 : decode cX8_join 80 = .ok (.iadd, 1) := by decide +kernel
theorem dX8_join_81 : decode cX8_join 81 = .ok (.if_icmp .ge 6, 3) := by decide +kernel
theorem dX8_join_84 : decode cX8_join 84 = .ok (.ldc 178, 2) := by decide +kernel
theorem dX8_join_86 : decode cX8_join 86 = .ok (.ireturn, 1) := by decide +kernel
theorem dX8_join_87 : decode cX8_join 87 = .ok (.aload_n 0, 1) := by decide +kernel
theorem dX8_join_88 : decode cX8_join 88 = .ok (.invokevirtual 166, 3) := by decide +kernel
theorem dX8_join_91 : decode cX8_join 91 = .ok (.aload_n 0, 1) := by decide +kernel
theorem dX8_join_92 : decode cX8_join 92 = .ok (.getfield 7, 3) := by decide +kernel
theorem dX8_join_95 : decode cX8_join 95 = .ok (.iconst 3, 1) := by decide +kernel
theorem dX8_join_96 : decode cX8_join 96 = .ok (.iload_n 1, 1) := by decide +kernel
theorem dX8_join_97 : decode cX8_join 97 = .ok (.iadd, 1) := by decide +kernel
theorem dX8_join_98 : decode cX8_join 98 = .ok (.aload_n 0, 1) := by decide +kernel
theorem dX8_join_99 : decode cX8_join 99 = .ok (.iconst 0, 1) := by decide +kernel
theorem dX8_join_100 : decode cX8_join 100 = .ok (.iload_n 2, 1) := by decide +kernel
theorem dX8_join_101 : decode cX8_join 101 = .ok (.invokevirtual 111, 3) := by decide +kernel
theorem dX8_join_104 : decode cX8_join 104 = .ok (.iastore, 1) := by decide +kernel
theorem dX8_join_105 : decode cX8_join 105 = .ok (.aload_n 0, 1) := by decide +kernel
theorem dX8_join_106 : decode cX8_join 106 = .ok (.getfield 7, 3) := by decide +kernel
theorem dX8_join_109 : decode cX8_join 109 = .ok (.bipush 19, 2) := by decide +kernel
theorem dX8_join_111 : decode cX8_join 111 = .ok (.iload_n 1, 1) := by decide +kernel
theorem dX8_join_112 : decode cX8_join 112 = .ok (.iadd, 1) := by decide +kernel
theorem dX8_join_113 : decode cX8_join 113 = .ok (.iconst 0, 1) := by decide +kernel
theorem dX8_join_114 : decode cX8_join 114 = .ok (.iastore, 1) := by decide +kernel
theorem dX8_join_115 : decode cX8_join 115 = .ok (.aload_n 0, 1) := by decide +kernel
theorem dX8_join_116 : decode cX8_join 116 = .ok (.getfield 7, 3) := by decide +kernel
theorem dX8_join_119 : decode cX8_join 119 = .ok (.bipush 35, 2) := by decide +kernel
theorem dX8_join_121 : decode cX8_join 121 = .ok (.iload_n 1, 1) := by decide +kernel
theorem dX8_join_122 : decode cX8_join 122 = .ok (.iadd, 1) := by decide +kernel
theorem dX8_join_123 : decode cX8_join 123 = .ok (.iconst 0, 1) := by decide +kernel
theorem dX8_join_124 : decode cX8_join 124 = .ok (.iastore, 1) := by decide +kernel
theorem dX8_join_125 : decode cX8_join 125 = .ok (.iconst 0, 1) := by decide +kernel
theorem dX8_join_126 : decode cX8_join 126 = .ok (.istore_n 3, 1) := by decide +kernel
theorem dX8_join_127 : decode cX8_join 127 = .ok (.iload_n 3, 1) := by decide +kernel
theorem dX8_join_128 : decode cX8_join 128 = .ok (.aload_n 0, 1) := by decide +kernel
theorem dX8_join_129 : decode cX8_join 129 = .ok (.getfield 7, 3) := by decide +kernel
theorem dX8_join_132 : decode cX8_join 132 = .ok (.sipush 171, 3) := by decide +kernel
theorem dX8_join_135 : decode cX8_join 135 = .ok (.iaload, 1) := by decide +kernel
theorem dX8_join_136 : decode cX8_join 136 = .ok (.if_icmp .ge 80, 3) := by decide +kernel
theorem dX8_join_139 : decode cX8_join 139 = .ok (.aload_n 0, 1) := by decide +kernel
theorem dX8_join_140 : decode cX8_join 140 = .ok (.getfield 7, 3) := by decide +kernel
theorem dX8_join_143 : decode cX8_join 143 = .ok (.sipush 172, 3) := by decide +kernel
theorem dX8_join_146 : decode cX8_join 146 = .ok (.iload_n 3, 1) := by decide +kernel
theorem dX8_join_147 : decode cX8_join 147 = .ok (.iadd, 1) := by decide +kernel
theorem dX8_join_148 : decode cX8_join 148 = .ok (.iaload, 1) := by decide +kernel
theorem dX8_join_149 : decode cX8_join 149 = .ok (.iload_n 1, 1) := by decide +kernel
theorem dX8_join_150 : decode cX8_join 150 = .ok (.if_icmp .ne 28, 3) := by decide +kernel
theorem dX8_join_153 : decode cX8_join 153 = .ok (.aload_n 0, 1) := by decide +kernel
theorem dX8_join_154 : decode cX8_join 154 = .ok (.getfield 7, 3) := by decide +kernel
theorem dX8_join_157 : decode cX8_join 157 = .ok (.iconst 3, 1) := by decide +kernel
theorem dX8_join_158 : decode cX8_join 158 = .ok (.iload_n 1, 1) := by decide +kernel
theorem dX8_join_159 : decode cX8_join 159 = .ok (.iadd, 1) := by decide +kernel
theorem dX8_join_160 : decode cX8_join 160 = .ok (.iaload, 1) := by decide +kernel
theorem dX8_join_161 : decode cX8_join 161 = .ok (.aload_n 0, 1) := by decide +kernel
theorem dX8_join_162 : decode cX8_join 162 = .ok (.getfield 7, 3) := by decide +kernel
theorem dX8_join_165 : decode cX8_join 165 = .ok (.sipush 178, 3) := by decide +kernel
theorem dX8_join_168 : decode cX8_join 168 = .ok (.iload_n 3, 1) := by decide +kernel
theorem dX8_join_169 : decode cX8_join 169 = .ok (.iadd, 1) := by decide +kernel
theorem dX8_join_170 : decode cX8_join 170 = .ok (.iaload, 1) := by decide +kernel
theorem dX8_join_171 : decode cX8_join 171 = .ok (.if_icmp .lt 7, 3) := by decide +kernel
theorem dX8_join_174 : decode cX8_join 174 = .ok (.iconst 1, 1) := by decide +kernel
theorem dX8_join_175 : decode cX8_join 175 = .ok (.goto 4, 3) := by decide +kernel
theorem dX8_join_178 : decode cX8_join 178 = .ok (.iconst 0, 1) := by decide +kernel
theorem dX8_join_179 : decode cX8_join 179 = .ok (.istore 4, 2) := by decide +kernel
theorem dX8_join_181 : decode cX8_join 181 = .ok (.aload_n 0, 1) := by decide +kernel
theorem dX8_join_182 : decode cX8_join 182 = .ok (.getfield 7, 3) := by decide +kernel
theorem dX8_join_185 : decode cX8_join 185 = .ok (.sipush 184, 3) := by decide +kernel
theorem dX8_join_188 : decode cX8_join 188 = .ok (.iload_n 3, 1) := by decide +kernel
theorem dX8_join_189 : decode cX8_join 189 = .ok (.iadd, 1) := by decide +kernel
theorem dX8_join_190 : decode cX8_join 190 = .ok (.iload 4, 2) := by decide +kernel
theorem dX8_join_192 : decode cX8_join 192 = .ok (.ifCond .eq 7, 3) := by decide +kernel
theorem dX8_join_195 : decode cX8_join 195 = .ok (.iconst 1, 1) := by decide +kernel
theorem dX8_join_196 : decode cX8_join 196 = .ok (.goto 13, 3) := by decide +kernel
theorem dX8_join_199 : decode cX8_join 199 = .ok (.aload_n 0, 1) := by decide +kernel
theorem dX8_join_200 : decode cX8_join 200 = .ok (.getfield 7, 3) := by decide +kernel
theorem dX8_join_203 : decode cX8_join 203 = .ok (.sipush 184, 3) := by decide +kernel
theorem dX8_join_206 : decode cX8_join 206 = .ok (.iload_n 3, 1) := by decide +kernel
theorem dX8_join_207 : decode cX8_join 207 = .ok (.iadd, 1) := by decide +kernel
theorem dX8_join_208 : decode cX8_join 208 = .ok (.iaload, 1) := by decide +kernel
theorem dX8_join_209 : decode cX8_join 209 = .ok (.iastore, 1) := by decide +kernel
theorem dX8_join_210 : decode cX8_join 210 = .ok (.iinc 3 1, 3) := by decide +kernel
theorem dX8_join_213 : decode cX8_join 213 = .ok (.goto (-86), 3) := by decide +kernel
theorem dX8_join_216 : decode cX8_join 216 = .ok (.aload_n 0, 1) := by decide +kernel
theorem dX8_join_217 : decode cX8_join 217 = .ok (.getfield 7, 3) := by decide +kernel
theorem dX8_join_220 : decode cX8_join 220 = .ok (.iconst 3, 1) := by decide +kernel
theorem dX8_join_221 : decode cX8_join 221 = .ok (.iload_n 1, 1) := by decide +kernel
theorem dX8_join_222 : decode cX8_join 222 = .ok (.iadd, 1) := by decide +kernel
theorem dX8_join_223 : decode cX8_join 223 = .ok (.iaload, 1) := by decide +kernel
theorem dX8_join_224 : decode cX8_join 224 = .ok (.ireturn, 1) := by decide +kernel
