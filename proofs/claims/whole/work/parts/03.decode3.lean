theorem dX8_readClock_0 : decode cX8_readClock 0 = .ok (.aload_n 0, 1) := by decide +kernel
theorem dX8_readClock_1 : decode cX8_readClock 1 = .ok (.getfield 7, 3) := by decide +kernel
theorem dX8_readClock_4 : decode cX8_readClock 4 = .ok (.sipush 3648, 3) := by decide +kernel
theorem dX8_readClock_7 : decode cX8_readClock 7 = .ok (.iaload, 1) := by decide +kernel
theorem dX8_readClock_8 : decode cX8_readClock 8 = .ok (.istore_n 2, 1) := by decide +kernel
theorem dX8_readClock_9 : decode cX8_readClock 9 = .ok (.iload_n 2, 1) := by decide +kernel
theorem dX8_readClock_10 : decode cX8_readClock 10 = .ok (.bipush 8, 2) := by decide +kernel
theorem dX8_readClock_12 : decode cX8_readClock 12 = .ok (.if_icmp .ne 10, 3) := by decide +kernel
theorem dX8_readClock_15 : decode cX8_readClock 15 = .ok (.aload_n 0, 1) := by decide +kernel
theorem dX8_readClock_16 : decode cX8_readClock 16 = .ok (.iconst 3, 1) := by decide +kernel
theorem dX8_readClock_17 : decode cX8_readClock 17 = .ok (.iload_n 1, 1) := by decide +kernel
theorem dX8_readClock_18 : decode cX8_readClock 18 = .ok (.invokevirtual 61, 3) := by decide +kernel
theorem dX8_readClock_21 : decode cX8_readClock 21 = .ok (.return_, 1) := by decide +kernel
theorem dX8_readClock_22 : decode cX8_readClock 22 = .ok (.aload_n 0, 1) := by decide +kernel
theorem dX8_readClock_23 : decode cX8_readClock 23 = .ok (.getfield 7, 3) := by decide +kernel
theorem dX8_readClock_26 : decode cX8_readClock 26 = .ok (.sipush 3651, 3) := by decide +kernel
theorem dX8_readClock_29 : decode cX8_readClock 29 = .ok (.iload_n 2, 1) := by decide +kernel
theorem dX8_readClock_30 : decode cX8_readClock 30 = .ok (.iadd, 1) := by decide +kernel
theorem dX8_readClock_31 : decode cX8_readClock 31 = .ok (.aload_n 0, 1) := by decide +kernel
theorem dX8_readClock_32 : decode cX8_readClock 32 = .ok (.iconst 0, 1) := by decide +kernel
theorem dX8_readClock_33 : decode cX8_readClock 33 = .ok (.sipush 9999, 3) := by decide +kernel
theorem dX8_readClock_36 : decode cX8_readClock 36 = .ok (.invokevirtual 65, 3) := by decide +kernel
theorem dX8_readClock_39 : decode cX8_readClock 39 = .ok (.iastore, 1) := by decide +kernel
theorem dX8_readClock_40 : decode cX8_readClock 40 = .ok (.aload_n 0, 1) := by decide +kernel
theorem dX8_readClock_41 : decode cX8_readClock 41 = .ok (.getfield 7, 3) := by decide +kernel
theorem dX8_readClock_44 : decode cX8_readClock 44 = .ok (.sipush 3659, 3) := by decide +kernel
theorem dX8_readClock_47 : decode cX8_readClock 47 = .ok (.iload_n 2, 1) := by decide +kernel
theorem dX8_readClock_48 : decode cX8_readClock 48 = .ok (.iadd, 1) := by decide +kernel
theorem dX8_readClock_49 : decode cX8_readClock 49 = .ok (.aload_n 0, 1) := by decide +kernel
theorem dX8_readClock_50 : decode cX8_readClock 50 = .ok (.bipush 90, 2) := by decide +kernel
theorem dX8_readClock_52 : decode cX8_readClock 52 = .ok (.bipush 110, 2) := by decide +kernel
theorem dX8_readClock_54 : decode cX8_readClock 54 = .ok (.invokevirtual 65, 3) := by decide +kernel
theorem dX8_readClock_57 : decode cX8_readClock 57 = .ok (.iastore, 1) := by decide +kernel
theorem dX8_readClock_58 : decode cX8_readClock 58 = .ok (.aload_n 0, 1) := by decide +kernel
theorem dX8_readClock_59 : decode cX8_readClock 59 = .ok (.getfield 7, 3) := by decide +kernel
theorem dX8_readClock_62 : decode cX8_readClock 62 = .ok (.sipush 3648, 3) := by decide +kernel
theorem dX8_readClock_65 : decode cX8_readClock 65 = .ok (.dup2, 1) := by decide +kernel
theorem dX8_readClock_66 : decode cX8_readClock 66 = .ok (.iaload, 1) := by decide +kernel
theorem dX8_readClock_67 : decode cX8_readClock 67 = .ok (.iconst 1, 1) := by decide +kernel
theorem dX8_readClock_68 : decode cX8_readClock 68 = .ok (.iadd, 1) := by decide +kernel
theorem dX8_readClock_69 : decode cX8_readClock 69 = .ok (.iastore, 1) := by decide +kernel
theorem dX8_readClock_70 : decode cX8_readClock 70 = .ok (.return_, 1) := by decide +kernel
theorem dX8_readOther_0 : decode cX8_readOther 0 = .ok (.iload_n 1, 1) := by decide +kernel
theorem dX8_readOther_1 : decode cX8_readOther 1 = .ok (.bipush 102, 2) := by decide +kernel
theorem dX8_readOther_3 : decode cX8_readOther 3 = .ok (.if_icmp .ne 11, 3) := by decide +kernel
theorem dX8_readOther_6 : decode cX8_readOther 6 = .ok (.aload_n 0, 1) := by decide +kernel
theorem dX8_readOther_7 : decode cX8_readOther 7 = .ok (.getfield 69, 3) := by decide +kernel
theorem dX8_readOther_10 : decode cX8_readOther 10 = .ok (.iconst 1, 1) := by decide +kernel
theorem dX8_readOther_11 : decode cX8_readOther 11 = .ok (.if_icmp .eq 17, 3) := by decide +kernel
theorem dX8_readOther_14 : decode cX8_readOther 14 = .ok (.iload_n 1, 1) := by decide +kernel
theorem dX8_readOther_15 : decode cX8_readOther 15 = .ok (.bipush 115, 2) := by decide +kernel
theorem dX8_readOther_17 : decode cX8_readOther 17 = .ok (.if_icmp .ne 15, 3) := by decide +kernel
theorem dX8_readOther_20 : decode cX8_readOther 20 = .ok (.aload_n 0, 1) := by decide +kernel
theorem dX8_readOther_21 : decode cX8_readOther 21 = .ok (.getfield 72, 3) := by decide +kernel
theorem dX8_readOther_24 : decode cX8_readOther 24 = .ok (.iconst 1, 1) := by decide +kernel
theorem dX8_readOther_25 : decode cX8_readOther 25 = .ok (.if_icmp .ne 7, 3) := by decide +kernel
theorem dX8_readOther_28 : decode cX8_readOther 28 = .ok (.iconst 1, 1) := by decide +kernel
theorem dX8_readOther_29 : decode cX8_readOther 29 = .ok (.goto 4, 3) := by decide +kernel
theorem dX8_readOther_32 : decode cX8_readOther 32 = .ok (.iconst 0, 1) := by decide +kernel
theorem dX8_readOther_33 : decode cX8_readOther 33 = .ok (.istore_n 3, 1) := by decide +kernel
theorem dX8_readOther_34 : decode cX8_readOther 34 = .ok (.iload_n 3, 1) := by decide +kernel
theorem dX8_readOther_35 : decode cX8_readOther 35 = .ok (.ifCond .eq 12, 3) := by decide +kernel
theorem dX8_readOther_38 : decode cX8_readOther 38 = .ok (.aload_n 0, 1) := by decide +kernel
theorem dX8_readOther_39 : decode cX8_readOther 39 = .ok (.iconst 4, 1) := by decide +kernel
theorem dX8_readOther_40 : decode cX8_readOther 40 = .ok (.iload_n 2, 1) := by decide +kernel
theorem dX8_readOther_41 : decode cX8_readOther 41 = .ok (.invokevirtual 61, 3) := by decide +kernel
theorem dX8_readOther_44 : decode cX8_readOther 44 = .ok (.goto 142, 3) := by decide +kernel
theorem dX8_readOther_47 : decode cX8_readOther 47 = .ok (.iload_n 1, 1) := by decide +kernel
theorem dX8_readOther_48 : decode cX8_readOther 48 = .ok (.bipush 102, 2) := by decide +kernel
theorem dX8_readOther_50 : decode cX8_readOther 50 = .ok (.if_icmp .ne 25, 3) := by decide +kernel
theorem dX8_readOther_53 : decode cX8_readOther 53 = .ok (.aload_n 0, 1) := by decide +kernel
theorem dX8_readOther_54 : decode cX8_readOther 54 = .ok (.iconst 1, 1) := by decide +kernel
theorem dX8_readOther_55 : decode cX8_readOther 55 = .ok (.putfield 69, 3) := by decide +kernel
theorem dX8_readOther_58 : decode cX8_readOther 58 = .ok (.aload_n 0, 1) := by decide +kernel
theorem dX8_readOther_59 : decode cX8_readOther 59 = .ok (.getfield 7, 3) := by decide +kernel
theorem dX8_readOther_62 : decode cX8_readOther 62 = .ok (.sipush 3649, 3) := by decide +kernel
theorem dX8_readOther_65 : decode cX8_readOther 65 = .ok (.aload_n 0, 1) := by decide +kernel
theorem dX8_readOther_66 : decode cX8_readOther 66 = .ok (.iconst 0, 1) := by decide +kernel
theorem dX8_readOther_67 : decode cX8_readOther 67 = .ok (.iconst 3, 1) := by decide +kernel
theorem dX8_readOther_68 : decode cX8_readOther 68 = .ok (.invokevirtual 65, 3) := by decide +kernel
theorem dX8_readOther_71 : decode cX8_readOther 71 = .ok (.iastore, 1) := by decide +kernel
theorem dX8_readOther_72 : decode cX8_readOther 72 = .ok (.goto 114, 3) := by decide +kernel
theorem dX8_readOther_75 : decode cX8_readOther 75 = .ok (.iload_n 1, 1) := by decide +kernel
theorem dX8_readOther_76 : decode cX8_readOther 76 = .ok (.bipush 115, 2) := by decide +kernel
theorem dX8_readOther_78 : decode cX8_readOther 78 = .ok (.if_icmp .ne 26, 3) := by decide +kernel
theorem dX8_readOther_81 : decode cX8_readOther 81 = .ok (.aload_n 0, 1) := by decide +kernel
theorem dX8_readOther_82 : decode cX8_readOther 82 = .ok (.iconst 1, 1) := by decide +kernel
theorem dX8_readOther_83 : decode cX8_readOther 83 = .ok (.putfield 72, 3) := by decide +kernel
theorem dX8_readOther_86 : decode cX8_readOther 86 = .ok (.aload_n 0, 1) := by decide +kernel
theorem dX8_readOther_87 : decode cX8_readOther 87 = .ok (.getfield 7, 3) := by decide +kernel
theorem dX8_readOther_90 : decode cX8_readOther 90 = .ok (.sipush 3650, 3) := by decide +kernel
theorem dX8_readOther_93 : decode cX8_readOther 93 = .ok (.aload_n 0, 1) := by decide +kernel
theorem dX8_readOther_94 : decode cX8_readOther 94 = .ok (.iconst 0, 1) := by decide +kernel
theorem dX8_readOther_95 : decode cX8_readOther 95 = .ok (.bipush 80, 2) := by decide +kernel
theorem dX8_readOther_97 : decode cX8_readOther 97 = .ok (.invokevirtual 65, 3) := by decide +kernel
theorem dX8_readOther_100 : decode cX8_readOther 100 = .ok (.iastore, 1) := by decide +kernel
theorem dX8_readOther_101 : decode cX8_readOther 101 = .ok (.goto 85, 3) := by decide +kernel
theorem dX8_readOther_104 : decode cX8_readOther 104 = .ok (.iload_n 1, 1) := by decide +kernel
theorem dX8_readOther_105 : decode cX8_readOther 105 = .ok (.bipush 108, 2) := by decide +kernel
theorem dX8_readOther_107 : decode cX8_readOther 107 = .ok (.if_icmp .ne 73, 3) := by decide +kernel
theorem dX8_readOther_110 : decode cX8_readOther 110 = .ok (.aload_n 0, 1) := by decide +kernel
theorem dX8_readOther_111 : decode cX8_readOther 111 = .ok (.iconst 0, 1) := by decide +kernel
theorem dX8_readOther_112 : decode cX8_readOther 112 = .ok (.aload_n 0, 1) := by decide +kernel
theorem dX8_readOther_113 : decode cX8_readOther 113 = .ok (.getfield 7, 3) := by decide +kernel
theorem dX8_readOther_116 : decode cX8_readOther 116 = .ok (.sipush 3648, 3) := by decide +kernel
theorem dX8_readOther_119 : decode cX8_readOther 119 = .ok (.iaload, 1) := by decide +kernel
theorem dX8_readOther_120 : decode cX8_readOther 120 = .ok (.iconst 1, 1) := by decide +kernel
theorem dX8_readOther_121 : decode cX8_readOther 121 = .ok (.isub, 1) := by decide +kernel
theorem dX8_readOther_122 : decode cX8_readOther 122 = .ok (.invokevirtual 65, 3) := by decide +kernel
theorem dX8_readOther_125 : decode cX8_readOther 125 = .ok (.istore 4, 2) := by decide +kernel
theorem dX8_readOther_127 : decode cX8_readOther 127 = .ok (.aload_n 0, 1) := by decide +kernel
theorem dX8_readOther_128 : decode cX8_readOther 128 = .ok (.invokevirtual 44, 3) := by decide +kernel
theorem dX8_readOther_131 : decode cX8_readOther 131 = .ok (.ifCond .eq 27, 3) := by decide +kernel
theorem dX8_readOther_134 : decode cX8_readOther 134 = .ok (.aload_n 0, 1) := by decide +kernel
theorem dX8_readOther_135 : decode cX8_readOther 135 = .ok (.getfield 7, 3) := by decide +kernel
theorem dX8_readOther_138 : decode cX8_readOther 138 = .ok (.sipush 3675, 3) := by decide +kernel
theorem dX8_readOther_141 : decode cX8_readOther 141 = .ok (.iload 4, 2) := by decide +kernel
theorem dX8_readOther_143 : decode cX8_readOther 143 = .ok (.iadd, 1) := by decide +kernel
theorem dX8_readOther_144 : decode cX8_readOther 144 = .ok (.iaload, 1) := by decide +kernel
theorem dX8_readOther_145 : decode cX8_readOther 145 = .ok (.iconst 1, 1) := by decide +kernel
theorem dX8_readOther_146 : decode cX8_readOther 146 = .ok (.if_icmp .ne 12, 3) := by decide +kernel
theorem dX8_readOther_149 : decode cX8_readOther 149 = .ok (.aload_n 0, 1) := by decide +kernel
theorem dX8_readOther_150 : decode cX8_readOther 150 = .ok (.iconst 4, 1) := by decide +kernel
theorem dX8_readOther_151 : decode cX8_readOther 151 = .ok (.aload_n 0, 1) := by decide +kernel
theorem dX8_readOther_152 : decode cX8_readOther 152 = .ok (.getfield 58, 3) := by decide +kernel
theorem dX8_readOther_155 : decode cX8_readOther 155 = .ok (.invokevirtual 61, 3) := by decide +kernel
theorem dX8_readOther_158 : decode cX8_readOther 158 = .ok (.aload_n 0, 1) := by decide +kernel
theorem dX8_readOther_159 : decode cX8_readOther 159 = .ok (.invokevirtual 44, 3) := by decide +kernel
theorem dX8_readOther_162 : decode cX8_readOther 162 = .ok (.ifCond .eq 15, 3) := by decide +kernel
theorem dX8_readOther_165 : decode cX8_readOther 165 = .ok (.aload_n 0, 1) := by decide +kernel
theorem dX8_readOther_166 : decode cX8_readOther 166 = .ok (.getfield 7, 3) := by decide +kernel
theorem dX8_readOther_169 : decode cX8_readOther 169 = .ok (.sipush 3675, 3) := by decide +kernel
theorem dX8_readOther_172 : decode cX8_readOther 172 = .ok (.iload 4, 2) := by decide +kernel
theorem dX8_readOther_174 : decode cX8_readOther 174 = .ok (.iadd, 1) := by decide +kernel
theorem dX8_readOther_175 : decode cX8_readOther 175 = .ok (.iconst 1, 1) := by decide +kernel
theorem dX8_readOther_176 : decode cX8_readOther 176 = .ok (.iastore, 1) := by decide +kernel
theorem dX8_readOther_177 : decode cX8_readOther 177 = .ok (.goto 9, 3) := by decide +kernel
theorem dX8_readOther_180 : decode cX8_readOther 180 = .ok (.aload_n 0, 1) := by decide +kernel
theorem dX8_readOther_181 : decode cX8_readOther 181 = .ok (.iconst 1, 1) := by decide +kernel
theorem dX8_readOther_182 : decode cX8_readOther 182 = .ok (.iload_n 2, 1) := by decide +kernel
theorem dX8_readOther_183 : decode cX8_readOther 183 = .ok (.invokevirtual 61, 3) := by decide +kernel
theorem dX8_readOther_186 : decode cX8_readOther 186 = .ok (.return_, 1) := by decide +kernel
theorem dX8_readClause_0 : decode cX8_readClause 0 = .ok (.aload_n 0, 1) := by decide +kernel
theorem dX8_readClause_1 : decode cX8_readClause 1 = .ok (.invokevirtual 54, 3) := by decide +kernel
theorem dX8_readClause_4 : decode cX8_readClause 4 = .ok (.istore_n 1, 1) := by decide +kernel
theorem dX8_readClause_5 : decode cX8_readClause 5 = .ok (.aload_n 0, 1) := by decide +kernel
theorem dX8_readClause_6 : decode cX8_readClause 6 = .ok (.getfield 51, 3) := by decide +kernel
theorem dX8_readClause_9 : decode cX8_readClause 9 = .ok (.istore_n 2, 1) := by decide +kernel
theorem dX8_readClause_10 : decode cX8_readClause 10 = .ok (.aload_n 0, 1) := by decide +kernel
theorem dX8_readClause_11 : decode cX8_readClause 11 = .ok (.dup, 1) := by decide +kernel
theorem dX8_readClause_12 : decode cX8_readClause 12 = .ok (.getfield 51, 3) := by decide +kernel
theorem dX8_readClause_15 : decode cX8_readClause 15 = .ok (.iconst 1, 1) := by decide +kernel
theorem dX8_readClause_16 : decode cX8_readClause 16 = .ok (.iadd, 1) := by decide +kernel
theorem dX8_readClause_17 : decode cX8_readClause 17 = .ok (.putfield 51, 3) := by decide +kernel
theorem dX8_readClause_20 : decode cX8_readClause 20 = .ok (.iload_n 1, 1) := by decide +kernel
theorem dX8_readClause_21 : decode cX8_readClause 21 = .ok (.bipush 107, 2) := by decide +kernel
theorem dX8_readClause_23 : decode cX8_readClause 23 = .ok (.if_icmp .ne 11, 3) := by decide +kernel
theorem dX8_readClause_26 : decode cX8_readClause 26 = .ok (.aload_n 0, 1) := by decide +kernel
theorem dX8_readClause_27 : decode cX8_readClause 27 = .ok (.iload_n 2, 1) := by decide +kernel
theorem dX8_readClause_28 : decode cX8_readClause 28 = .ok (.invokevirtual 75, 3) := by decide +kernel
theorem dX8_readClause_31 : decode cX8_readClause 31 = .ok (.goto 9, 3) := by decide +kernel
theorem dX8_readClause_34 : decode cX8_readClause 34 = .ok (.aload_n 0, 1) := by decide +kernel
theorem dX8_readClause_35 : decode cX8_readClause 35 = .ok (.iload_n 1, 1) := by decide +kernel
theorem dX8_readClause_36 : decode cX8_readClause 36 = .ok (.iload_n 2, 1) := by decide +kernel
theorem dX8_readClause_37 : decode cX8_readClause 37 = .ok (.invokevirtual 79, 3) := by decide +kernel
theorem dX8_readClause_40 : decode cX8_readClause 40 = .ok (.aload_n 0, 1) := by decide +kernel
theorem dX8_readClause_41 : decode cX8_readClause 41 = .ok (.invokevirtual 44, 3) := by decide +kernel
theorem dX8_readClause_44 : decode cX8_readClause 44 = .ok (.ifCond .eq 31, 3) := by decide +kernel
theorem dX8_readClause_47 : decode cX8_readClause 47 = .ok (.aload_n 0, 1) := by decide +kernel
theorem dX8_readClause_48 : decode cX8_readClause 48 = .ok (.invokevirtual 54, 3) := by decide +kernel
theorem dX8_readClause_51 : decode cX8_readClause 51 = .ok (.bipush 59, 2) := by decide +kernel
theorem dX8_readClause_53 : decode cX8_readClause 53 = .ok (.if_icmp .eq 12, 3) := by decide +kernel
theorem dX8_readClause_56 : decode cX8_readClause 56 = .ok (.aload_n 0, 1) := by decide +kernel
theorem dX8_readClause_57 : decode cX8_readClause 57 = .ok (.iconst 1, 1) := by decide +kernel
theorem dX8_readClause_58 : decode cX8_readClause 58 = .ok (.aload_n 0, 1) := by decide +kernel
theorem dX8_readClause_59 : decode cX8_readClause 59 = .ok (.getfield 51, 3) := by decide +kernel
theorem dX8_readClause_62 : decode cX8_readClause 62 = .ok (.invokevirtual 61, 3) := by decide +kernel
theorem dX8_readClause_65 : decode cX8_readClause 65 = .ok (.aload_n 0, 1) := by decide +kernel
theorem dX8_readClause_66 : decode cX8_readClause 66 = .ok (.dup, 1) := by decide +kernel
theorem dX8_readClause_67 : decode cX8_readClause 67 = .ok (.getfield 51, 3) := by decide +kernel
theorem dX8_readClause_70 : decode cX8_readClause 70 = .ok (.iconst 1, 1) := by decide +kernel
theorem dX8_readClause_71 : decode cX8_readClause 71 = .ok (.iadd, 1) := by decide +kernel
theorem dX8_readClause_72 : decode cX8_readClause 72 = .ok (.putfield 51, 3) := by decide +kernel
theorem dX8_readClause_75 : decode cX8_readClause 75 = .ok (.return_, 1) := by decide +kernel
theorem dX8_clocks_0 : decode cX8_clocks 0 = .ok (.aload_n 0, 1) := by decide +kernel
theorem dX8_clocks_1 : decode cX8_clocks 1 = .ok (.iconst 0, 1) := by decide +kernel
theorem dX8_clocks_2 : decode cX8_clocks 2 = .ok (.putfield 51, 3) := by decide +kernel
theorem dX8_clocks_5 : decode cX8_clocks 5 = .ok (.aload_n 0, 1) := by decide +kernel
theorem dX8_clocks_6 : decode cX8_clocks 6 = .ok (.iconst 0, 1) := by decide +kernel
theorem dX8_clocks_7 : decode cX8_clocks 7 = .ok (.putfield 41, 3) := by decide +kernel
theorem dX8_clocks_10 : decode cX8_clocks 10 = .ok (.aload_n 0, 1) := by decide +kernel
theorem dX8_clocks_11 : decode cX8_clocks 11 = .ok (.iconst (-1), 1) := by decide +kernel
theorem dX8_clocks_12 : decode cX8_clocks 12 = .ok (.putfield 16, 3) := by decide +kernel
theorem dX8_clocks_15 : decode cX8_clocks 15 = .ok (.aload_n 0, 1) := by decide +kernel
theorem dX8_clocks_16 : decode cX8_clocks 16 = .ok (.iconst 0, 1) := by decide +kernel
theorem dX8_clocks_17 : decode cX8_clocks 17 = .ok (.putfield 69, 3) := by decide +kernel
theorem dX8_clocks_20 : decode cX8_clocks 20 = .ok (.aload_n 0, 1) := by decide +kernel
theorem dX8_clocks_21 : decode cX8_clocks 21 = .ok (.iconst 0, 1) := by decide +kernel
theorem dX8_clocks_22 : decode cX8_clocks 22 = .ok (.putfield 72, 3) := by decide +kernel
theorem dX8_clocks_25 : decode cX8_clocks 25 = .ok (.iconst 0, 1) := by decide +kernel
theorem dX8_clocks_26 : decode cX8_clocks 26 = .ok (.istore_n 1, 1) := by decide +kernel
theorem dX8_clocks_27 : decode cX8_clocks 27 = .ok (.iload_n 1, 1) := by decide +kernel
theorem dX8_clocks_28 : decode cX8_clocks 28 = .ok (.sipush 192, 3) := by decide +kernel
theorem dX8_clocks_31 : decode cX8_clocks 31 = .ok (.if_icmp .ge 20, 3) := by decide +kernel
theorem dX8_clocks_34 : decode cX8_clocks 34 = .ok (.aload_n 0, 1) := by decide +kernel
theorem dX8_clocks_35 : decode cX8_clocks 35 = .ok (.getfield 7, 3) := by decide +kernel
theorem dX8_clocks_38 : decode cX8_clocks 38 = .ok (.sipush 3648, 3) := by decide +kernel
theorem dX8_clocks_41 : decode cX8_clocks 41 = .ok (.iload_n 1, 1) := by decide +kernel
theorem dX8_clocks_42 : decode cX8_clocks 42 = .ok (.iadd, 1) := by decide +kernel
theorem dX8_clocks_43 : decode cX8_clocks 43 = .ok (.iconst 0, 1) := by decide +kernel
theorem dX8_clocks_44 : decode cX8_clocks 44 = .ok (.iastore, 1) := by decide +kernel
theorem dX8_clocks_45 : decode cX8_clocks 45 = .ok (.iinc 1 1, 3) := by decide +kernel
theorem dX8_clocks_48 : decode cX8_clocks 48 = .ok (.goto (-21), 3) := by decide +kernel
theorem dX8_clocks_51 : decode cX8_clocks 51 = .ok (.aload_n 0, 1) := by decide +kernel
theorem dX8_clocks_52 : decode cX8_clocks 52 = .ok (.getfield 7, 3) := by decide +kernel
theorem dX8_clocks_55 : decode cX8_clocks 55 = .ok (.sipush 3650, 3) := by decide +kernel
theorem dX8_clocks_58 : decode cX8_clocks 58 = .ok (.bipush 10, 2) := by decide +kernel
theorem dX8_clocks_60 : decode cX8_clocks 60 = .ok (.iastore, 1) := by decide +kernel
theorem dX8_clocks_61 : decode cX8_clocks 61 = .ok (.aload_n 0, 1) := by decide +kernel
theorem dX8_clocks_62 : decode cX8_clocks 62 = .ok (.invokevirtual 54, 3) := by decide +kernel
theorem dX8_clocks_65 : decode cX8_clocks 65 = .ok (.istore_n 1, 1) := by decide +kernel
theorem dX8_clocks_66 : decode cX8_clocks 66 = .ok (.aload_n 0, 1) := by decide +kernel
theorem dX8_clocks_67 : decode cX8_clocks 67 = .ok (.invokevirtual 44, 3) := by decide +kernel
theorem dX8_clocks_70 : decode cX8_clocks 70 = .ok (.ifCond .eq 26, 3) := by decide +kernel
theorem dX8_clocks_73 : decode cX8_clocks 73 = .ok (.aload_n 0, 1) := by decide +kernel
theorem dX8_clocks_74 : decode cX8_clocks 74 = .ok (.getfield 51, 3) := by decide +kernel
theorem dX8_clocks_77 : decode cX8_clocks 77 = .ok (.aload_n 0, 1) := by decide +kernel
theorem dX8_clocks_78 : decode cX8_clocks 78 = .ok (.getfield 37, 3) := by decide +kernel
theorem dX8_clocks_81 : decode cX8_clocks 81 = .ok (.if_icmp .ge 15, 3) := by decide +kernel
theorem dX8_clocks_84 : decode cX8_clocks 84 = .ok (.aload_n 0, 1) := by decide +kernel
theorem dX8_clocks_85 : decode cX8_clocks 85 = .ok (.invokevirtual 82, 3) := by decide +kernel
theorem dX8_clocks_88 : decode cX8_clocks 88 = .ok (.aload_n 0, 1) := by decide +kernel
theorem dX8_clocks_89 : decode cX8_clocks 89 = .ok (.invokevirtual 54, 3) := by decide +kernel
theorem dX8_clocks_92 : decode cX8_clocks 92 = .ok (.istore_n 1, 1) := by decide +kernel
theorem dX8_clocks_93 : decode cX8_clocks 93 = .ok (.goto (-27), 3) := by decide +kernel
theorem dX8_clocks_96 : decode cX8_clocks 96 = .ok (.aload_n 0, 1) := by decide +kernel
theorem dX8_clocks_97 : decode cX8_clocks 97 = .ok (.iconst 0, 1) := by decide +kernel
theorem dX8_clocks_98 : decode cX8_clocks 98 = .ok (.putfield 37, 3) := by decide +kernel
theorem dX8_clocks_101 : decode cX8_clocks 101 = .ok (.aload_n 0, 1) := by decide +kernel
theorem dX8_clocks_102 : decode cX8_clocks 102 = .ok (.invokevirtual 44, 3) := by decide +kernel
theorem dX8_clocks_105 : decode cX8_clocks 105 = .ok (.ifCond .ne 19, 3) := by decide +kernel
theorem dX8_clocks_108 : decode cX8_clocks 108 = .ok (.aload_n 0, 1) := by decide +kernel
theorem dX8_clocks_109 : decode cX8_clocks 109 = .ok (.aload_n 0, 1) := by decide +kernel
theorem dX8_clocks_110 : decode cX8_clocks 110 = .ok (.getfield 48, 3) := by decide +kernel
theorem dX8_clocks_113 : decode cX8_clocks 113 = .ok (.putfield 16, 3) := by decide +kernel
theorem dX8_clocks_116 : decode cX8_clocks 116 = .ok (.bipush (-10), 2) := by decide +kernel
theorem dX8_clocks_118 : decode cX8_clocks 118 = .ok (.aload_n 0, 1) := by decide +kernel
theorem dX8_clocks_119 : decode cX8_clocks 119 = .ok (.getfield 41, 3) := by decide +kernel
theorem dX8_clocks_122 : decode cX8_clocks 122 = .ok (.isub, 1) := by decide +kernel
theorem dX8_clocks_123 : decode cX8_clocks 123 = .ok (.ireturn, 1) := by decide +kernel
theorem dX8_clocks_124 : decode cX8_clocks 124 = .ok (.aload_n 0, 1) := by decide +kernel
theorem dX8_clocks_125 : decode cX8_clocks 125 = .ok (.getfield 7, 3) := by decide +kernel
theorem dX8_clocks_128 : decode cX8_clocks 128 = .ok (.sipush 3839, 3) := by decide +kernel
theorem dX8_clocks_131 : decode cX8_clocks 131 = .ok (.aload_n 0, 1) := by decide +kernel
theorem dX8_clocks_132 : decode cX8_clocks 132 = .ok (.getfield 7, 3) := by decide +kernel
theorem dX8_clocks_135 : decode cX8_clocks 135 = .ok (.sipush 191, 3) := by decide +kernel
theorem dX8_clocks_138 : decode cX8_clocks 138 = .ok (.iaload, 1) := by decide +kernel
theorem dX8_clocks_139 : decode cX8_clocks 139 = .ok (.iastore, 1) := by decide +kernel
theorem dX8_clocks_140 : decode cX8_clocks 140 = .ok (.aload_n 0, 1) := by decide +kernel
theorem dX8_clocks_141 : decode cX8_clocks 141 = .ok (.sipush 3648, 3) := by decide +kernel
theorem dX8_clocks_144 : decode cX8_clocks 144 = .ok (.iconst 0, 1) := by decide +kernel
theorem dX8_clocks_145 : decode cX8_clocks 145 = .ok (.invokevirtual 85, 3) := by decide +kernel
theorem dX8_clocks_148 : decode cX8_clocks 148 = .ok (.aload_n 0, 1) := by decide +kernel
theorem dX8_clocks_149 : decode cX8_clocks 149 = .ok (.iconst 0, 1) := by decide +kernel
theorem dX8_clocks_150 : decode cX8_clocks 150 = .ok (.putfield 88, 3) := by decide +kernel
theorem dX8_clocks_153 : decode cX8_clocks 153 = .ok (.aload_n 0, 1) := by decide +kernel
theorem dX8_clocks_154 : decode cX8_clocks 154 = .ok (.iconst 0, 1) := by decide +kernel
theorem dX8_clocks_155 : decode cX8_clocks 155 = .ok (.putfield 91, 3) := by decide +kernel
theorem dX8_clocks_158 : decode cX8_clocks 158 = .ok (.aload_n 0, 1) := by decide +kernel
theorem dX8_clocks_159 : decode cX8_clocks 159 = .ok (.iconst 0, 1) := by decide +kernel
theorem dX8_clocks_160 : decode cX8_clocks 160 = .ok (.putfield 94, 3) := by decide +kernel
theorem dX8_clocks_163 : decode cX8_clocks 163 = .ok (.aload_n 0, 1) := by decide +kernel
theorem dX8_clocks_164 : decode cX8_clocks 164 = .ok (.getfield 7, 3) := by decide +kernel
theorem dX8_clocks_167 : decode cX8_clocks 167 = .ok (.iconst 0, 1) := by decide +kernel
theorem dX8_clocks_168 : decode cX8_clocks 168 = .ok (.iaload, 1) := by decide +kernel
theorem dX8_clocks_169 : decode cX8_clocks 169 = .ok (.ireturn, 1) := by decide +kernel
theorem dX8_fault_0 : decode cX8_fault 0 = .ok (.aload_n 0, 1) := by decide +kernel
theorem dX8_fault_1 : decode cX8_fault 1 = .ok (.getfield 16, 3) := by decide +kernel
theorem dX8_fault_4 : decode cX8_fault 4 = .ok (.ireturn, 1) := by decide +kernel
theorem dX8_heardOf_0 : decode cX8_heardOf 0 = .ok (.iload_n 2, 1) := by decide +kernel
theorem dX8_heardOf_1 : decode cX8_heardOf 1 = .ok (.iload_n 3, 1) := by decide +kernel
theorem dX8_heardOf_2 : decode cX8_heardOf 2 = .ok (.if_icmp .eq 18, 3) := by decide +kernel
theorem dX8_heardOf_5 : decode cX8_heardOf 5 = .ok (.aload_n 0, 1) := by decide +kernel
theorem dX8_heardOf_6 : decode cX8_heardOf 6 = .ok (.getfield 7, 3) := by decide +kernel
theorem dX8_heardOf_9 : decode cX8_heardOf 9 = .ok (.iload_n 1, 1) := by decide +kernel
theorem dX8_heardOf_10 : decode cX8_heardOf 10 = .ok (.bipush 35, 2) := by decide +kernel
theorem dX8_heardOf_12 : decode cX8_heardOf 12 = .ok (.iadd, 1) := by decide +kernel
theorem dX8_heardOf_13 : decode cX8_heardOf 13 = .ok (.iload_n 2, 1) := by decide +kernel
theorem dX8_heardOf_14 : decode cX8_heardOf 14 = .ok (.iadd, 1) := by decide +kernel
theorem dX8_heardOf_15 : decode cX8_heardOf 15 = .ok (.iaload, 1) := by decide +kernel
theorem dX8_heardOf_16 : decode cX8_heardOf 16 = .ok (.iconst 1, 1) := by decide +kernel
theorem dX8_heardOf_17 : decode cX8_heardOf 17 = .ok (.if_icmp .ne 10, 3) := by decide +kernel
theorem dX8_heardOf_20 : decode cX8_heardOf 20 = .ok (.aload_n 0, 1) := by decide +kernel
theorem dX8_heardOf_21 : decode cX8_heardOf 21 = .ok (.iload_n 1, 1) := by decide +kernel
theorem dX8_heardOf_22 : decode cX8_heardOf 22 = .ok (.iload_n 3, 1) := by decide +kernel
theorem dX8_heardOf_23 : decode cX8_heardOf 23 = .ok (.invokevirtual 97, 3) := by decide +kernel
theorem dX8_heardOf_26 : decode cX8_heardOf 26 = .ok (.ireturn, 1) := by decide +kernel
theorem dX8_heardOf_27 : decode cX8_heardOf 27 = .ok (.bipush 8, 2) := by decide +kernel
theorem dX8_heardOf_29 : decode cX8_heardOf 29 = .ok (.iload_n 2, 1) := by decide +kernel
theorem dX8_heardOf_30 : decode cX8_heardOf 30 = .ok (.imul, 1) := by decide +kernel
theorem dX8_heardOf_31 : decode cX8_heardOf 31 = .ok (.iload_n 3, 1) := by decide +kernel
theorem dX8_heardOf_32 : decode cX8_heardOf 32 = .ok (.iadd, 1) := by decide +kernel
theorem dX8_heardOf_33 : decode cX8_heardOf 33 = .ok (.istore 4, 2) := by decide +kernel
theorem dX8_heardOf_35 : decode cX8_heardOf 35 = .ok (.aload_n 0, 1) := by decide +kernel
theorem dX8_heardOf_36 : decode cX8_heardOf 36 = .ok (.getfield 7, 3) := by decide +kernel
theorem dX8_heardOf_39 : decode cX8_heardOf 39 = .ok (.iload_n 1, 1) := by decide +kernel
theorem dX8_heardOf_40 : decode cX8_heardOf 40 = .ok (.bipush 27, 2) := by decide +kernel
theorem dX8_heardOf_42 : decode cX8_heardOf 42 = .ok (.iadd, 1) := by decide +kernel
theorem dX8_heardOf_43 : decode cX8_heardOf 43 = .ok (.iload_n 2, 1) := by decide +kernel
theorem dX8_heardOf_44 : decode cX8_heardOf 44 = .ok (.iadd, 1) := by decide +kernel
theorem dX8_heardOf_45 : decode cX8_heardOf 45 = .ok (.iaload, 1) := by decide +kernel
theorem dX8_heardOf_46 : decode cX8_heardOf 46 = .ok (.iconst 1, 1) := by decide +kernel
theorem dX8_heardOf_47 : decode cX8_heardOf 47 = .ok (.if_icmp .ne 25, 3) := by decide +kernel
theorem dX8_heardOf_50 : decode cX8_heardOf 50 = .ok (.aload_n 0, 1) := by decide +kernel
theorem dX8_heardOf_51 : decode cX8_heardOf 51 = .ok (.iload_n 1, 1) := by decide +kernel
theorem dX8_heardOf_52 : decode cX8_heardOf 52 = .ok (.iload_n 3, 1) := by decide +kernel
theorem dX8_heardOf_53 : decode cX8_heardOf 53 = .ok (.invokevirtual 97, 3) := by decide +kernel
theorem dX8_heardOf_56 : decode cX8_heardOf 56 = .ok (.aload_n 0, 1) := by decide +kernel
theorem dX8_heardOf_57 : decode cX8_heardOf 57 = .ok (.getfield 7, 3) := by decide +kernel
theorem dX8_heardOf_60 : decode cX8_heardOf 60 = .ok (.iload_n 1, 1) := by decide +kernel
theorem dX8_heardOf_61 : decode cX8_heardOf 61 = .ok (.bipush 107, 2) := by decide +kernel
theorem dX8_heardOf_63 : decode cX8_heardOf 63 = .ok (.iadd, 1) := by decide +kernel
theorem dX8_heardOf_64 : decode cX8_heardOf 64 = .ok (.iload 4, 2) := by decide +kernel
theorem dX8_heardOf_66 : decode cX8_heardOf 66 = .ok (.iadd, 1) := by decide +kernel
theorem dX8_heardOf_67 : decode cX8_heardOf 67 = .ok (.iaload, 1) := by decide +kernel
theorem dX8_heardOf_68 : decode cX8_heardOf 68 = .ok (.iadd, 1) := by decide +kernel
theorem dX8_heardOf_69 : decode cX8_heardOf 69 = .ok (.goto 22, 3) := by decide +kernel
theorem dX8_heardOf_72 : decode cX8_heardOf 72 = .ok (.aload_n 0, 1) := by decide +kernel
theorem dX8_heardOf_73 : decode cX8_heardOf 73 = .ok (.iload_n 1, 1) := by decide +kernel
theorem dX8_heardOf_74 : decode cX8_heardOf 74 = .ok (.iload_n 2, 1) := by decide +kernel
theorem dX8_heardOf_75 : decode cX8_heardOf 75 = .ok (.invokevirtual 97, 3) := by decide +kernel
theorem dX8_heardOf_78 : decode cX8_heardOf 78 = .ok (.aload_n 0, 1) := by decide +kernel
theorem dX8_heardOf_79 : decode cX8_heardOf 79 = .ok (.getfield 7, 3) := by decide +kernel
theorem dX8_heardOf_82 : decode cX8_heardOf 82 = .ok (.iload_n 1, 1) := by decide +kernel
theorem dX8_heardOf_83 : decode cX8_heardOf 83 = .ok (.bipush 43, 2) := by decide +kernel
theorem dX8_heardOf_85 : decode cX8_heardOf 85 = .ok (.iadd, 1) := by decide +kernel
theorem dX8_heardOf_86 : decode cX8_heardOf 86 = .ok (.iload 4, 2) := by decide +kernel
theorem dX8_heardOf_88 : decode cX8_heardOf 88 = .ok (.iadd, 1) := by decide +kernel
theorem dX8_heardOf_89 : decode cX8_heardOf 89 = .ok (.iaload, 1) := by decide +kernel
theorem dX8_heardOf_90 : decode cX8_heardOf 90 = .ok (.iadd, 1) := by decide +kernel
theorem dX8_heardOf_91 : decode cX8_heardOf 91 = .ok (.ireturn, 1) := by decide +kernel
theorem dX8_put_0 : decode cX8_put 0 = .ok (.iload_n 1, 1) := by decide +kernel
theorem dX8_put_1 : decode cX8_put 1 = .ok (.istore_n 3, 1) := by decide +kernel
theorem dX8_put_2 : decode cX8_put 2 = .ok (.iload_n 3, 1) := by decide +kernel
theorem dX8_put_3 : decode cX8_put 3 = .ok (.ifCond .le 35, 3) := by decide +kernel
theorem dX8_put_6 : decode cX8_put 6 = .ok (.aload_n 0, 1) := by decide +kernel
theorem dX8_put_7 : decode cX8_put 7 = .ok (.getfield 26, 3) := by decide +kernel
theorem dX8_put_10 : decode cX8_put 10 = .ok (.iload_n 3, 1) := by decide +kernel
theorem dX8_put_11 : decode cX8_put 11 = .ok (.iconst 1, 1) := by decide +kernel
theorem dX8_put_12 : decode cX8_put 12 = .ok (.isub, 1) := by decide +kernel
theorem dX8_put_13 : decode cX8_put 13 = .ok (.iaload, 1) := by decide +kernel
theorem dX8_put_14 : decode cX8_put 14 = .ok (.iload_n 2, 1) := by decide +kernel
theorem dX8_put_15 : decode cX8_put 15 = .ok (.if_icmp .le 23, 3) := by decide +kernel
theorem dX8_put_18 : decode cX8_put 18 = .ok (.aload_n 0, 1) := by decide +kernel
theorem dX8_put_19 : decode cX8_put 19 = .ok (.getfield 26, 3) := by decide +kernel
theorem dX8_put_22 : decode cX8_put 22 = .ok (.iload_n 3, 1) := by decide +kernel
theorem dX8_put_23 : decode cX8_put 23 = .ok (.aload_n 0, 1) := by decide +kernel
theorem dX8_put_24 : decode cX8_put 24 = .ok (.getfield 26, 3) := by decide +kernel
theorem dX8_put_27 : decode cX8_put 27 = .ok (.iload_n 3, 1) := by decide +kernel
theorem dX8_put_28 : decode cX8_put 28 = .ok (.iconst 1, 1) := by decide +kernel
theorem dX8_put_29 : decode cX8_put 29 = .ok (.isub, 1) := by decide +kernel
theorem dX8_put_30 : decode cX8_put 30 = .ok (.iaload, 1) := by decide +kernel
theorem dX8_put_31 : decode cX8_put 31 = .ok (.iastore, 1) := by decide +kernel
theorem dX8_put_32 : decode cX8_put 32 = .ok (.iinc 3 (-1), 3) := by decide +kernel
theorem dX8_put_35 : decode cX8_put 35 = .ok (.goto (-33), 3) := by decide +kernel
theorem dX8_put_38 : decode cX8_put 38 = .ok (.aload_n 0, 1) := by decide +kernel
theorem dX8_put_39 : decode cX8_put 39 = .ok (.getfield 26, 3) := by decide +kernel
theorem dX8_put_42 : decode cX8_put 42 = .ok (.iload_n 3, 1) := by decide +kernel
theorem dX8_put_43 : decode cX8_put 43 = .ok (.iload_n 2, 1) := by decide +kernel
theorem dX8_put_44 : decode cX8_put 44 = .ok (.iastore, 1) := by decide +kernel
theorem dX8_put_45 : decode cX8_put 45 = .ok (.return_, 1) := by decide +kernel
theorem dX8_allStruck_0 : decode cX8_allStruck 0 = .ok (.iconst 2, 1) := by decide +kernel
theorem dX8_allStruck_1 : decode cX8_allStruck 1 = .ok (.aload_n 0, 1) := by decide +kernel
theorem dX8_allStruck_2 : decode cX8_allStruck 2 = .ok (.getfield 7, 3) := by decide +kernel
theorem dX8_allStruck_5 : decode cX8_allStruck 5 = .ok (.iload_n 1, 1) := by decide +kernel
theorem dX8_allStruck_6 : decode cX8_allStruck 6 = .ok (.iconst 1, 1) := by decide +kernel
theorem dX8_allStruck_7 : decode cX8_allStruck 7 = .ok (.iadd, 1) := by decide +kernel
theorem dX8_allStruck_8 : decode cX8_allStruck 8 = .ok (.iaload, 1) := by decide +kernel
theorem dX8_allStruck_9 : decode cX8_allStruck 9 = .ok (.imul, 1) := by decide +kernel
theorem dX8_allStruck_10 : decode cX8_allStruck 10 = .ok (.iload_n 2, 1) := by decide +kernel
theorem dX8_allStruck_11 : decode cX8_allStruck 11 = .ok (.if_icmp .lt 7, 3) := by decide +kernel
theorem dX8_allStruck_14 : decode cX8_allStruck 14 = .ok (.iconst 1, 1) := by decide +kernel
theorem dX8_allStruck_15 : decode cX8_allStruck 15 = .ok (.goto 4, 3) := by decide +kernel
theorem dX8_allStruck_18 : decode cX8_allStruck 18 = .ok (.iconst 0, 1) := by decide +kernel
theorem dX8_allStruck_19 : decode cX8_allStruck 19 = .ok (.ireturn, 1) := by decide +kernel
theorem dX8_middle_0 : decode cX8_middle 0 = .ok (.aload_n 0, 1) := by decide +kernel
theorem dX8_middle_1 : decode cX8_middle 1 = .ok (.getfield 26, 3) := by decide +kernel
theorem dX8_middle_4 : decode cX8_middle 4 = .ok (.aload_n 0, 1) := by decide +kernel
theorem dX8_middle_5 : decode cX8_middle 5 = .ok (.getfield 7, 3) := by decide +kernel
theorem dX8_middle_8 : decode cX8_middle 8 = .ok (.iload_n 1, 1) := by decide +kernel
theorem dX8_middle_9 : decode cX8_middle 9 = .ok (.iconst 1, 1) := by decide +kernel
theorem dX8_middle_10 : decode cX8_middle 10 = .ok (.iadd, 1) := by decide +kernel
theorem dX8_middle_11 : decode cX8_middle 11 = .ok (.iaload, 1) := by decide +kernel
theorem dX8_middle_12 : decode cX8_middle 12 = .ok (.iaload, 1) := by decide +kernel
theorem dX8_middle_13 : decode cX8_middle 13 = .ok (.aload_n 0, 1) := by decide +kernel
theorem dX8_middle_14 : decode cX8_middle 14 = .ok (.getfield 26, 3) := by decide +kernel
theorem dX8_middle_17 : decode cX8_middle 17 = .ok (.iload_n 2, 1) := by decide +kernel
theorem dX8_middle_18 : decode cX8_middle 18 = .ok (.iconst 1, 1) := by decide +kernel
theorem dX8_middle_19 : decode cX8_middle 19 = .ok (.isub, 1) := by decide +kernel
theorem dX8_middle_20 : decode cX8_middle 20 = .ok (.aload_n 0, 1) := by decide +kernel
theorem dX8_middle_21 : decode cX8_middle 21 = .ok (.getfield 7, 3) := by decide +kernel
theorem dX8_middle_24 : decode cX8_middle 24 = .ok (.iload_n 1, 1) := by decide +kernel
theorem dX8_middle_25 : decode cX8_middle 25 = .ok (.iconst 1, 1) := by decide +kernel
theorem dX8_middle_26 : decode cX8_middle 26 = .ok (.iadd, 1) := by decide +kernel
theorem dX8_middle_27 : decode cX8_middle 27 = .ok (.iaload, 1) := by decide +kernel
theorem dX8_middle_28 : decode cX8_middle 28 = .ok (.isub, 1) := by decide +kernel
theorem dX8_middle_29 : decode cX8_middle 29 = .ok (.iaload, 1) := by decide +kernel
theorem dX8_middle_30 : decode cX8_middle 30 = .ok (.iadd, 1) := by decide +kernel
theorem dX8_middle_31 : decode cX8_middle 31 = .ok (.istore_n 3, 1) := by decide +kernel
theorem dX8_middle_32 : decode cX8_middle 32 = .ok (.iload_n 3, 1) := by decide +kernel
theorem dX8_middle_33 : decode cX8_middle 33 = .ok (.ifCond .lt 9, 3) := by decide +kernel
theorem dX8_middle_36 : decode cX8_middle 36 = .ok (.iload_n 3, 1) := by decide +kernel
theorem dX8_middle_37 : decode cX8_middle 37 = .ok (.iconst 2, 1) := by decide +kernel
theorem dX8_middle_38 : decode cX8_middle 38 = .ok (.idiv, 1) := by decide +kernel
theorem dX8_middle_39 : decode cX8_middle 39 = .ok (.goto 9, 3) := by decide +kernel
theorem dX8_middle_42 : decode cX8_middle 42 = .ok (.iconst 1, 1) := by decide +kernel
theorem dX8_middle_43 : decode cX8_middle 43 = .ok (.iload_n 3, 1) := by decide +kernel
theorem dX8_middle_44 : decode cX8_middle 44 = .ok (.isub, 1) := by decide +kernel
theorem dX8_middle_45 : decode cX8_middle 45 = .ok (.iconst 2, 1) := by decide +kernel
theorem dX8_middle_46 : decode cX8_middle 46 = .ok (.idiv, 1) := by decide +kernel
theorem dX8_middle_47 : decode cX8_middle 47 = .ok (.ineg, 1) := by decide +kernel
theorem dX8_middle_48 : decode cX8_middle 48 = .ok (.ireturn, 1) := by decide +kernel
theorem dX8_middleOf_0 : decode cX8_middleOf 0 = .ok (.aload_n 0, 1) := by decide +kernel
theorem dX8_middleOf_1 : decode cX8_middleOf 1 = .ok (.iload_n 1, 1) := by decide +kernel
theorem dX8_middleOf_2 : decode cX8_middleOf 2 = .ok (.aload_n 0, 1) := by decide +kernel
theorem dX8_middleOf_3 : decode cX8_middleOf 3 = .ok (.getfield 7, 3) := by decide +kernel
theorem dX8_middleOf_6 : decode cX8_middleOf 6 = .ok (.iload_n 1, 1) := by decide +kernel
theorem dX8_middleOf_7 : decode cX8_middleOf 7 = .ok (.iaload, 1) := by decide +kernel
theorem dX8_middleOf_8 : decode cX8_middleOf 8 = .ok (.invokevirtual 100, 3) := by decide +kernel
theorem dX8_middleOf_11 : decode cX8_middleOf 11 = .ok (.ifCond .eq 10, 3) := by decide +kernel
theorem dX8_middleOf_14 : decode cX8_middleOf 14 = .ok (.aload_n 0, 1) := by decide +kernel
theorem dX8_middleOf_15 : decode cX8_middleOf 15 = .ok (.iload_n 1, 1) := by decide +kernel
theorem dX8_middleOf_16 : decode cX8_middleOf 16 = .ok (.iload_n 2, 1) := by decide +kernel
theorem dX8_middleOf_17 : decode cX8_middleOf 17 = .ok (.invokevirtual 97, 3) := by decide +kernel
theorem dX8_middleOf_20 : decode cX8_middleOf 20 = .ok (.ireturn, 1) := by decide +kernel
theorem dX8_middleOf_21 : decode cX8_middleOf 21 = .ok (.iconst 0, 1) := by decide +kernel
theorem dX8_middleOf_22 : decode cX8_middleOf 22 = .ok (.istore_n 3, 1) := by decide +kernel
theorem dX8_middleOf_23 : decode cX8_middleOf 23 = .ok (.iload_n 3, 1) := by decide +kernel
theorem dX8_middleOf_24 : decode cX8_middleOf 24 = .ok (.aload_n 0, 1) := by decide +kernel
theorem dX8_middleOf_25 : decode cX8_middleOf 25 = .ok (.getfield 7, 3) := by decide +kernel
theorem dX8_middleOf_28 : decode cX8_middleOf 28 = .ok (.iload_n 1, 1) := by decide +kernel
theorem dX8_middleOf_29 : decode cX8_middleOf 29 = .ok (.iaload, 1) := by decide +kernel
theorem dX8_middleOf_30 : decode cX8_middleOf 30 = .ok (.if_icmp .ge 21, 3) := by decide +kernel
theorem dX8_middleOf_33 : decode cX8_middleOf 33 = .ok (.aload_n 0, 1) := by decide +kernel
theorem dX8_middleOf_34 : decode cX8_middleOf 34 = .ok (.iload_n 3, 1) := by decide +kernel
theorem dX8_middleOf_35 : decode cX8_middleOf 35 = .ok (.aload_n 0, 1) := by decide +kernel
theorem dX8_middleOf_36 : decode cX8_middleOf 36 = .ok (.iload_n 1, 1) := by decide +kernel
theorem dX8_middleOf_37 : decode cX8_middleOf 37 = .ok (.iload_n 3, 1) := by decide +kernel
theorem dX8_middleOf_38 : decode cX8_middleOf 38 = .ok (.iload_n 2, 1) := by decide +kernel
theorem dX8_middleOf_39 : decode cX8_middleOf 39 = .ok (.invokevirtual 104, 3) := by decide +kernel
theorem dX8_middleOf_42 : decode cX8_middleOf 42 = .ok (.invokevirtual 108, 3) := by decide +kernel
theorem dX8_middleOf_45 : decode cX8_middleOf 45 = .ok (.iinc 3 1, 3) := by decide +kernel
theorem dX8_middleOf_48 : decode cX8_middleOf 48 = .ok (.goto (-25), 3) := by decide +kernel
theorem dX8_middleOf_51 : decode cX8_middleOf 51 = .ok (.aload_n 0, 1) := by decide +kernel
theorem dX8_middleOf_52 : decode cX8_middleOf 52 = .ok (.iload_n 1, 1) := by decide +kernel
theorem dX8_middleOf_53 : decode cX8_middleOf 53 = .ok (.aload_n 0, 1) := by decide +kernel
theorem dX8_middleOf_54 : decode cX8_middleOf 54 = .ok (.getfield 7, 3) := by decide +kernel
theorem dX8_middleOf_57 : decode cX8_middleOf 57 = .ok (.iload_n 1, 1) := by decide +kernel
theorem dX8_middleOf_58 : decode cX8_middleOf 58 = .ok (.iaload, 1) := by decide +kernel
theorem dX8_middleOf_59 : decode cX8_middleOf 59 = .ok (.invokevirtual 111, 3) := by decide +kernel
theorem dX8_middleOf_62 : decode cX8_middleOf 62 = .ok (.ireturn, 1) := by decide +kernel
theorem dX8_roundIn_0 : decode cX8_roundIn 0 = .ok (.iconst 0, 1) := by decide +kernel
theorem dX8_roundIn_1 : decode cX8_roundIn 1 = .ok (.istore_n 2, 1) := by decide +kernel
theorem dX8_roundIn_2 : decode cX8_roundIn 2 = .ok (.iload_n 2, 1) := by decide +kernel
theorem dX8_roundIn_3 : decode cX8_roundIn 3 = .ok (.aload_n 0, 1) := by decide +kernel
theorem dX8_roundIn_4 : decode cX8_roundIn 4 = .ok (.getfield 7, 3) := by decide +kernel
theorem dX8_roundIn_7 : decode cX8_roundIn 7 = .ok (.iload_n 1, 1) := by decide +kernel
theorem dX8_roundIn_8 : decode cX8_roundIn 8 = .ok (.iaload, 1) := by decide +kernel
theorem dX8_roundIn_9 : decode cX8_roundIn 9 = .ok (.if_icmp .ge 55, 3) := by decide +kernel
theorem dX8_roundIn_12 : decode cX8_roundIn 12 = .ok (.aload_n 0, 1) := by decide +kernel
theorem dX8_roundIn_13 : decode cX8_roundIn 13 = .ok (.getfield 29, 3) := by decide +kernel
theorem dX8_roundIn_16 : decode cX8_roundIn 16 = .ok (.iload_n 2, 1) := by decide +kernel
theorem dX8_roundIn_17 : decode cX8_roundIn 17 = .ok (.aload_n 0, 1) := by decide +kernel
theorem dX8_roundIn_18 : decode cX8_roundIn 18 = .ok (.iload_n 1, 1) := by decide +kernel
theorem dX8_roundIn_19 : decode cX8_roundIn 19 = .ok (.iload_n 2, 1) := by decide +kernel
theorem dX8_roundIn_20 : decode cX8_roundIn 20 = .ok (.invokevirtual 114, 3) := by decide +kernel
theorem dX8_roundIn_23 : decode cX8_roundIn 23 = .ok (.ifCond .eq 23, 3) := by decide +kernel
theorem dX8_roundIn_26 : decode cX8_roundIn 26 = .ok (.aload_n 0, 1) := by decide +kernel
theorem dX8_roundIn_27 : decode cX8_roundIn 27 = .ok (.iload_n 1, 1) := by decide +kernel
theorem dX8_roundIn_28 : decode cX8_roundIn 28 = .ok (.iload_n 2, 1) := by decide +kernel
theorem dX8_roundIn_29 : decode cX8_roundIn 29 = .ok (.invokevirtual 117, 3) := by decide +kernel
theorem dX8_roundIn_32 : decode cX8_roundIn 32 = .ok (.aload_n 0, 1) := by decide +kernel
theorem dX8_roundIn_33 : decode cX8_roundIn 33 = .ok (.getfield 7, 3) := by decide +kernel
theorem dX8_roundIn_36 : decode cX8_roundIn 36 = .ok (.iload_n 1, 1) := by decide +kernel
theorem dX8_roundIn_37 : decode cX8_roundIn 37 = .ok (.iconst 3, 1) := by decide +kernel
theorem dX8_roundIn_38 : decode cX8_roundIn 38 = .ok (.iadd, 1) := by decide +kernel
theorem dX8_roundIn_39 : decode cX8_roundIn 39 = .ok (.iload_n 2, 1) := by decide +kernel
theorem dX8_roundIn_40 : decode cX8_roundIn 40 = .ok (.iadd, 1) := by decide +kernel
theorem dX8_roundIn_41 : decode cX8_roundIn 41 = .ok (.iaload, 1) := by decide +kernel
theorem dX8_roundIn_42 : decode cX8_roundIn 42 = .ok (.isub, 1) := by decide +kernel
theorem dX8_roundIn_43 : decode cX8_roundIn 43 = .ok (.goto 14, 3) := by decide +kernel
theorem dX8_roundIn_46 : decode cX8_roundIn 46 = .ok (.aload_n 0, 1) := by decide +kernel
theorem dX8_roundIn_47 : decode cX8_roundIn 47 = .ok (.getfield 7, 3) := by decide +kernel
theorem dX8_roundIn_50 : decode cX8_roundIn 50 = .ok (.iload_n 1, 1) := by decide +kernel
theorem dX8_roundIn_51 : decode cX8_roundIn 51 = .ok (.bipush 19, 2) := by decide +kernel
theorem dX8_roundIn_53 : decode cX8_roundIn 53 = .ok (.iadd, 1) := by decide +kernel
theorem dX8_roundIn_54 : decode cX8_roundIn 54 = .ok (.iload_n 2, 1) := by decide +kernel
theorem dX8_roundIn_55 : decode cX8_roundIn 55 = .ok (.iadd, 1) := by decide +kernel
theorem dX8_roundIn_56 : decode cX8_roundIn 56 = .ok (.iaload, 1) := by decide +kernel
theorem dX8_roundIn_57 : decode cX8_roundIn 57 = .ok (.iastore, 1) := by decide +kernel
theorem dX8_roundIn_58 : decode cX8_roundIn 58 = .ok (.iinc 2 1, 3) := by decide +kernel
theorem dX8_roundIn_61 : decode cX8_roundIn 61 = .ok (.goto (-59), 3) := by decide +kernel
theorem dX8_roundIn_64 : decode cX8_roundIn 64 = .ok (.iconst 0, 1) := by decide +kernel
theorem dX8_roundIn_65 : decode cX8_roundIn 65 = .ok (.istore_n 2, 1) := by decide +kernel
theorem dX8_roundIn_66 : decode cX8_roundIn 66 = .ok (.iload_n 2, 1) := by decide +kernel
theorem dX8_roundIn_67 : decode cX8_roundIn 67 = .ok (.aload_n 0, 1) := by decide +kernel
theorem dX8_roundIn_68 : decode cX8_roundIn 68 = .ok (.getfield 7, 3) := by decide +kernel
theorem dX8_roundIn_71 : decode cX8_roundIn 71 = .ok (.iload_n 1, 1) := by decide +kernel
theorem dX8_roundIn_72 : decode cX8_roundIn 72 = .ok (.iaload, 1) := by decide +kernel
theorem dX8_roundIn_73 : decode cX8_roundIn 73 = .ok (.if_icmp .ge 26, 3) := by decide +kernel
theorem dX8_roundIn_76 : decode cX8_roundIn 76 = .ok (.aload_n 0, 1) := by decide +kernel
theorem dX8_roundIn_77 : decode cX8_roundIn 77 = .ok (.getfield 7, 3) := by decide +kernel
theorem dX8_roundIn_80 : decode cX8_roundIn 80 = .ok (.iload_n 1, 1) := by decide +kernel
theorem dX8_roundIn_81 : decode cX8_roundIn 81 = .ok (.bipush 19, 2) := by decide +kernel
theorem dX8_roundIn_83 : decode cX8_roundIn 83 = .ok (.iadd, 1) := by decide +kernel
theorem dX8_roundIn_84 : decode cX8_roundIn 84 = .ok (.iload_n 2, 1) := by decide +kernel
theorem dX8_roundIn_85 : decode cX8_roundIn 85 = .ok (.iadd, 1) := by decide +kernel
theorem dX8_roundIn_86 : decode cX8_roundIn 86 = .ok (.aload_n 0, 1) := by decide +kernel
theorem dX8_roundIn_87 : decode cX8_roundIn 87 = .ok (.getfield 29, 3) := by decide +kernel
theorem dX8_roundIn_90 : decode cX8_roundIn 90 = .ok (.iload_n 2, 1) := by decide +kernel
theorem dX8_roundIn_91 : decode cX8_roundIn 91 = .ok (.iaload, 1) := by decide +kernel
theorem dX8_roundIn_92 : decode cX8_roundIn 92 = .ok (.iastore, 1) := by decide +kernel
theorem dX8_roundIn_93 : decode cX8_roundIn 93 = .ok (.iinc 2 1, 3) := by decide +kernel
theorem dX8_roundIn_96 : decode cX8_roundIn 96 = .ok (.goto (-30), 3) := by decide +kernel
theorem dX8_roundIn_99 : decode cX8_roundIn 99 = .ok (.return_, 1) := by decide +kernel
theorem dX8_apart_0 : decode cX8_apart 0 = .ok (.iconst (-1), 1) := by decide +kernel
theorem dX8_apart_1 : decode cX8_apart 1 = .ok (.istore_n 2, 1) := by decide +kernel
theorem dX8_apart_2 : decode cX8_apart 2 = .ok (.iconst (-1), 1) := by decide +kernel
theorem dX8_apart_3 : decode cX8_apart 3 = .ok (.istore_n 3, 1) := by decide +kernel
theorem dX8_apart_4 : decode cX8_apart 4 = .ok (.iconst 0, 1) := by decide +kernel
theorem dX8_apart_5 : decode cX8_apart 5 = .ok (.istore 4, 2) := by decide +kernel
theorem dX8_apart_7 : decode cX8_apart 7 = .ok (.iload 4, 2) := by decide +kernel
theorem dX8_apart_9 : decode cX8_apart 9 = .ok (.aload_n 0, 1) := by decide +kernel
theorem dX8_apart_10 : decode cX8_apart 10 = .ok (.getfield 7, 3) := by decide +kernel
theorem dX8_apart_13 : decode cX8_apart 13 = .ok (.iload_n 1, 1) := by decide +kernel
theorem dX8_apart_14 : decode cX8_apart 14 = .ok (.iaload, 1) := by decide +kernel
theorem dX8_apart_15 : decode cX8_apart 15 = .ok (.if_icmp .ge 75, 3) := by decide +kernel
theorem dX8_apart_18 : decode cX8_apart 18 = .ok (.aload_n 0, 1) := by decide +kernel
theorem dX8_apart_19 : decode cX8_apart 19 = .ok (.iload_n 1, 1) := by decide +kernel
theorem dX8_apart_20 : decode cX8_apart 20 = .ok (.iload 4, 2) := by decide +kernel
theorem dX8_apart_22 : decode cX8_apart 22 = .ok (.invokevirtual 114, 3) := by decide +kernel
theorem dX8_apart_25 : decode cX8_apart 25 = .ok (.ifCond .eq 59, 3) := by decide +kernel
theorem dX8_apart_28 : decode cX8_apart 28 = .ok (.iload_n 2, 1) := by decide +kernel
theorem dX8_apart_29 : decode cX8_apart 29 = .ok (.iconst (-1), 1) := by decide +kernel
theorem dX8_apart_30 : decode cX8_apart 30 = .ok (.if_icmp .eq 19, 3) := by decide +kernel
theorem dX8_apart_33 : decode cX8_apart 33 = .ok (.aload_n 0, 1) := by decide +kernel
theorem dX8_apart_34 : decode cX8_apart 34 = .ok (.iload_n 1, 1) := by decide +kernel
theorem dX8_apart_35 : decode cX8_apart 35 = .ok (.iload 4, 2) := by decide +kernel
theorem dX8_apart_37 : decode cX8_apart 37 = .ok (.invokevirtual 97, 3) := by decide +kernel
theorem dX8_apart_40 : decode cX8_apart 40 = .ok (.aload_n 0, 1) := by decide +kernel
theorem dX8_apart_41 : decode cX8_apart 41 = .ok (.iload_n 1, 1) := by decide +kernel
theorem dX8_apart_42 : decode cX8_apart 42 = .ok (.iload_n 2, 1) := by decide +kernel
theorem dX8_apart_43 : decode cX8_apart 43 = .ok (.invokevirtual 97, 3) := by decide +kernel
theorem dX8_apart_46 : decode cX8_apart 46 = .ok (.if_icmp .ge 8, 3) := by decide +kernel
theorem dX8_apart_49 : decode cX8_apart 49 = .ok (.iload 4, 2) := by decide +kernel
theorem dX8_apart_51 : decode cX8_apart 51 = .ok (.goto 4, 3) := by decide +kernel
theorem dX8_apart_54 : decode cX8_apart 54 = .ok (.iload_n 2, 1) := by decide +kernel
theorem dX8_apart_55 : decode cX8_apart 55 = .ok (.istore_n 2, 1) := by decide +kernel
theorem dX8_apart_56 : decode cX8_apart 56 = .ok (.iload_n 3, 1) := by decide +kernel
theorem dX8_apart_57 : decode cX8_apart 57 = .ok (.iconst (-1), 1) := by decide +kernel
theorem dX8_apart_58 : decode cX8_apart 58 = .ok (.if_icmp .eq 19, 3) := by decide +kernel
theorem dX8_apart_61 : decode cX8_apart 61 = .ok (.aload_n 0, 1) := by decide +kernel
theorem dX8_apart_62 : decode cX8_apart 62 = .ok (.iload_n 1, 1) := by decide +kernel
theorem dX8_apart_63 : decode cX8_apart 63 = .ok (.iload 4, 2) := by decide +kernel
theorem dX8_apart_65 : decode cX8_apart 65 = .ok (.invokevirtual 97, 3) := by decide +kernel
theorem dX8_apart_68 : decode cX8_apart 68 = .ok (.aload_n 0, 1) := by decide +kernel
theorem dX8_apart_69 : decode cX8_apart 69 = .ok (.iload_n 1, 1) := by decide +kernel
theorem dX8_apart_70 : decode cX8_apart 70 = .ok (.iload_n 3, 1) := by decide +kernel
theorem dX8_apart_71 : decode cX8_apart 71 = .ok (.invokevirtual 97, 3) := by decide +kernel
theorem dX8_apart_74 : decode cX8_apart 74 = .ok (.if_icmp .le 8, 3) := by decide +kernel
theorem dX8_apart_77 : decode cX8_apart 77 = .ok (.iload 4, 2) := by decide +kernel
theorem dX8_apart_79 : decode cX8_apart 79 = .ok (.goto 4, 3) := by decide +kernel
theorem dX8_apart_82 : decode cX8_apart 82 = .ok (.iload_n 3, 1) := by decide +kernel
theorem dX8_apart_83 : decode cX8_apart 83 = .ok (.istore_n 3, 1) := by decide +kernel
theorem dX8_apart_84 : decode cX8_apart 84 = .ok (.iinc 4 1, 3) := by decide +kernel
theorem dX8_apart_87 : decode cX8_apart 87 = .ok (.goto (-80), 3) := by decide +kernel
theorem dX8_apart_90 : decode cX8_apart 90 = .ok (.iload_n 2, 1) := by decide +kernel
theorem dX8_apart_91 : decode cX8_apart 91 = .ok (.iconst (-1), 1) := by decide +kernel
theorem dX8_apart_92 : decode cX8_apart 92 = .ok (.if_icmp .ne 7, 3) := by decide +kernel
theorem dX8_apart_95 : decode cX8_apart 95 = .ok (.iconst (-1), 1) := by decide +kernel
theorem dX8_apart_96 : decode cX8_apart 96 = .ok (.goto 16, 3) := by decide +kernel
theorem dX8_apart_99 : decode cX8_apart 99 = .ok (.aload_n 0, 1) := by decide +kernel
theorem dX8_apart_100 : decode cX8_apart 100 = .ok (.iload_n 1, 1) := by decide +kernel
theorem dX8_apart_101 : decode cX8_apart 101 = .ok (.iload_n 3, 1) := by decide +kernel
theorem dX8_apart_102 : decode cX8_apart 102 = .ok (.invokevirtual 97, 3) := by decide +kernel
theorem dX8_apart_105 : decode cX8_apart 105 = .ok (.aload_n 0, 1) := by decide +kernel
theorem dX8_apart_106 : decode cX8_apart 106 = .ok (.iload_n 1, 1) := by decide +kernel
theorem dX8_apart_107 : decode cX8_apart 107 = .ok (.iload_n 2, 1) := by decide +kernel
theorem dX8_apart_108 : decode cX8_apart 108 = .ok (.invokevirtual 97, 3) := by decide +kernel
theorem dX8_apart_111 : decode cX8_apart 111 = .ok (.isub, 1) := by decide +kernel
theorem dX8_apart_112 : decode cX8_apart 112 = .ok (.ireturn, 1) := by decide +kernel
theorem dX8_tickOne_0 : decode cX8_tickOne 0 = .ok (.iconst 0, 1) := by decide +kernel
theorem dX8_tickOne_1 : decode cX8_tickOne 1 = .ok (.istore_n 1, 1) := by decide +kernel
theorem dX8_tickOne_2 : decode cX8_tickOne 2 = .ok (.iload_n 1, 1) := by decide +kernel
theorem dX8_tickOne_3 : decode cX8_tickOne 3 = .ok (.aload_n 0, 1) := by decide +kernel
theorem dX8_tickOne_4 : decode cX8_tickOne 4 = .ok (.getfield 7, 3) := by decide +kernel
theorem dX8_tickOne_7 : decode cX8_tickOne 7 = .ok (.iconst 0, 1) := by decide +kernel
theorem dX8_tickOne_8 : decode cX8_tickOne 8 = .ok (.iaload, 1) := by decide +kernel
theorem dX8_tickOne_9 : decode cX8_tickOne 9 = .ok (.if_icmp .ge 122, 3) := by decide +kernel
theorem dX8_tickOne_12 : decode cX8_tickOne 12 = .ok (.aload_n 0, 1) := by decide +kernel
theorem dX8_tickOne_13 : decode cX8_tickOne 13 = .ok (.getfield 7, 3) := by decide +kernel
theorem dX8_tickOne_16 : decode cX8_tickOne 16 = .ok (.bipush 35, 2) := by decide +kernel
theorem dX8_tickOne_18 : decode cX8_tickOne 18 = .ok (.iload_n 1, 1) := by decide +kernel
theorem dX8_tickOne_19 : decode cX8_tickOne 19 = .ok (.iadd, 1) := by decide +kernel
theorem dX8_tickOne_20 : decode cX8_tickOne 20 = .ok (.iaload, 1) := by decide +kernel
theorem dX8_tickOne_21 : decode cX8_tickOne 21 = .ok (.ifCond .ne 104, 3) := by decide +kernel
theorem dX8_tickOne_24 : decode cX8_tickOne 24 = .ok (.aload_n 0, 1) := by decide +kernel
theorem dX8_tickOne_25 : decode cX8_tickOne 25 = .ok (.getfield 7, 3) := by decide +kernel
theorem dX8_tickOne_28 : decode cX8_tickOne 28 = .ok (.bipush 19, 2) := by decide +kernel
theorem dX8_tickOne_30 : decode cX8_tickOne 30 = .ok (.iload_n 1, 1) := by decide +kernel
theorem dX8_tickOne_31 : decode cX8_tickOne 31 = .ok (.iadd, 1) := by decide +kernel
theorem dX8_tickOne_32 : decode cX8_tickOne 32 = .ok (.iaload, 1) := by decide +kernel
theorem dX8_tickOne_33 : decode cX8_tickOne 33 = .ok (.aload_n 0, 1) := by decide +kernel
theorem dX8_tickOne_34 : decode cX8_tickOne 34 = .ok (.getfield 7, 3) := by decide +kernel
theorem dX8_tickOne_37 : decode cX8_tickOne 37 = .ok (.iconst 2, 1) := by decide +kernel
theorem dX8_tickOne_38 : decode cX8_tickOne 38 = .ok (.iaload, 1) := by decide +kernel
theorem dX8_tickOne_39 : decode cX8_tickOne 39 = .ok (.if_icmp .le 12, 3) := by decide +kernel
theorem dX8_tickOne_42 : decode cX8_tickOne 42 = .ok (.aload_n 0, 1) := by decide +kernel
theorem dX8_tickOne_43 : decode cX8_tickOne 43 = .ok (.getfield 7, 3) := by decide +kernel
theorem dX8_tickOne_46 : decode cX8_tickOne 46 = .ok (.iconst 2, 1) := by decide +kernel
theorem dX8_tickOne_47 : decode cX8_tickOne 47 = .ok (.iaload, 1) := by decide +kernel
theorem dX8_tickOne_48 : decode cX8_tickOne 48 = .ok (.goto 41, 3) := by decide +kernel
theorem dX8_tickOne_51 : decode cX8_tickOne 51 = .ok (.aload_n 0, 1) := by decide +kernel
theorem dX8_tickOne_52 : decode cX8_tickOne 52 = .ok (.getfield 7, 3) := by decide +kernel
theorem dX8_tickOne_55 : decode cX8_tickOne 55 = .ok (.bipush 19, 2) := by decide +kernel
theorem dX8_tickOne_57 : decode cX8_tickOne 57 = .ok (.iload_n 1, 1) := by decide +kernel
theorem dX8_tickOne_58 : decode cX8_tickOne 58 = .ok (.iadd, 1) := by decide +kernel
theorem dX8_tickOne_59 : decode cX8_tickOne 59 = .ok (.iaload, 1) := by decide +kernel
theorem dX8_tickOne_60 : decode cX8_tickOne 60 = .ok (.aload_n 0, 1) := by decide +kernel
theorem dX8_tickOne_61 : decode cX8_tickOne 61 = .ok (.getfield 7, 3) := by decide +kernel
theorem dX8_tickOne_64 : decode cX8_tickOne 64 = .ok (.iconst 2, 1) := by decide +kernel
theorem dX8_tickOne_65 : decode cX8_tickOne 65 = .ok (.iaload, 1) := by decide +kernel
theorem dX8_tickOne_66 : decode cX8_tickOne 66 = .ok (.ineg, 1) := by decide +kernel
theorem dX8_tickOne_67 : decode cX8_tickOne 67 = .ok (.if_icmp .ge 13, 3) := by decide +kernel
theorem dX8_tickOne_70 : decode cX8_tickOne 70 = .ok (.aload_n 0, 1) := by decide +kernel
theorem dX8_tickOne_71 : decode cX8_tickOne 71 = .ok (.getfield 7, 3) := by decide +kernel
theorem dX8_tickOne_74 : decode cX8_tickOne 74 = .ok (.iconst 2, 1) := by decide +kernel
theorem dX8_tickOne_75 : decode cX8_tickOne 75 = .ok (.iaload, 1) := by decide +kernel
theorem dX8_tickOne_76 : decode cX8_tickOne 76 = .ok (.ineg, 1) := by decide +kernel
theorem dX8_tickOne_77 : decode cX8_tickOne 77 = .ok (.goto 12, 3) := by decide +kernel
theorem dX8_tickOne_80 : decode cX8_tickOne 80 = .ok (.aload_n 0, 1) := by decide +kernel
theorem dX8_tickOne_81 : decode cX8_tickOne 81 = .ok (.getfield 7, 3) := by decide +kernel
theorem dX8_tickOne_84 : decode cX8_tickOne 84 = .ok (.bipush 19, 2) := by decide +kernel
theorem dX8_tickOne_86 : decode cX8_tickOne 86 = .ok (.iload_n 1, 1) := by decide +kernel
theorem dX8_tickOne_87 : decode cX8_tickOne 87 = .ok (.iadd, 1) := by decide +kernel
theorem dX8_tickOne_88 : decode cX8_tickOne 88 = .ok (.iaload, 1) := by decide +kernel
theorem dX8_tickOne_89 : decode cX8_tickOne 89 = .ok (.istore_n 2, 1) := by decide +kernel
theorem dX8_tickOne_90 : decode cX8_tickOne 90 = .ok (.aload_n 0, 1) := by decide +kernel
theorem dX8_tickOne_91 : decode cX8_tickOne 91 = .ok (.getfield 7, 3) := by decide +kernel
theorem dX8_tickOne_94 : decode cX8_tickOne 94 = .ok (.iconst 3, 1) := by decide +kernel
theorem dX8_tickOne_95 : decode cX8_tickOne 95 = .ok (.iload_n 1, 1) := by decide +kernel
theorem dX8_tickOne_96 : decode cX8_tickOne 96 = .ok (.iadd, 1) := by decide +kernel
theorem dX8_tickOne_97 : decode cX8_tickOne 97 = .ok (.dup2, 1) := by decide +kernel
theorem dX8_tickOne_98 : decode cX8_tickOne 98 = .ok (.iaload, 1) := by decide +kernel
theorem dX8_tickOne_99 : decode cX8_tickOne 99 = .ok (.aload_n 0, 1) := by decide +kernel
theorem dX8_tickOne_100 : decode cX8_tickOne 100 = .ok (.getfield 7, 3) := by decide +kernel
theorem dX8_tickOne_103 : decode cX8_tickOne 103 = .ok (.bipush 11, 2) := by decide +kernel
theorem dX8_tickOne_105 : decode cX8_tickOne 105 = .ok (.iload_n 1, 1) := by decide +kernel
theorem dX8_tickOne_106 : decode cX8_tickOne 106 = .ok (.iadd, 1) := by decide +kernel
theorem dX8_tickOne_107 : decode cX8_tickOne 107 = .ok (.iaload, 1) := by decide +kernel
theorem dX8_tickOne_108 : decode cX8_tickOne 108 = .ok (.iload_n 2, 1) := by decide +kernel
theorem dX8_tickOne_109 : decode cX8_tickOne 109 = .ok (.iadd, 1) := by decide +kernel
theorem dX8_tickOne_110 : decode cX8_tickOne 110 = .ok (.iadd, 1) := by decide +kernel
theorem dX8_tickOne_111 : decode cX8_tickOne 111 = .ok (.iastore, 1) := by decide +kernel
theorem dX8_tickOne_112 : decode cX8_tickOne 112 = .ok (.aload_n 0, 1) := by decide +kernel
theorem dX8_tickOne_113 : decode cX8_tickOne 113 = .ok (.getfield 7, 3) := by decide +kernel
theorem dX8_tickOne_116 : decode cX8_tickOne 116 = .ok (.bipush 19, 2) := by decide +kernel
theorem dX8_tickOne_118 : decode cX8_tickOne 118 = .ok (.iload_n 1, 1) := by decide +kernel
theorem dX8_tickOne_119 : decode cX8_tickOne 119 = .ok (.iadd, 1) := by decide +kernel
theorem dX8_tickOne_120 : decode cX8_tickOne 120 = .ok (.dup2, 1) := by decide +kernel
theorem dX8_tickOne_121 : decode cX8_tickOne 121 = .ok (.iaload, 1) := by decide +kernel
theorem dX8_tickOne_122 : decode cX8_tickOne 122 = .ok (.iload_n 2, 1) := by decide +kernel
theorem dX8_tickOne_123 : decode cX8_tickOne 123 = .ok (.isub, 1) := by decide +kernel
theorem dX8_tickOne_124 : decode cX8_tickOne 124 = .ok (.iastore, 1) := by decide +kernel
theorem dX8_tickOne_125 : decode cX8_tickOne 125 = .ok (.iinc 1 1, 3) := by decide +kernel
theorem dX8_tickOne_128 : decode cX8_tickOne 128 = .ok (.goto (-126), 3) := by decide +kernel
theorem dX8_tickOne_131 : decode cX8_tickOne 131 = .ok (.aload_n 0, 1) := by decide +kernel
theorem dX8_tickOne_132 : decode cX8_tickOne 132 = .ok (.getfield 7, 3) := by decide +kernel
theorem dX8_tickOne_135 : decode cX8_tickOne 135 = .ok (.sipush 190, 3) := by decide +kernel
theorem dX8_tickOne_138 : decode cX8_tickOne 138 = .ok (.dup2, 1) := by decide +kernel
theorem dX8_tickOne_139 : decode cX8_tickOne 139 = .ok (.iaload, 1) := by decide +kernel
theorem dX8_tickOne_140 : decode cX8_tickOne 140 = .ok (.iconst 1, 1) := by decide +kernel
theorem dX8_tickOne_141 : decode cX8_tickOne 141 = .ok (.iadd, 1) := by decide +kernel
theorem dX8_tickOne_142 : decode cX8_tickOne 142 = .ok (.iastore, 1) := by decide +kernel
theorem dX8_tickOne_143 : decode cX8_tickOne 143 = .ok (.iconst 0, 1) := by decide +kernel
theorem dX8_tickOne_144 : decode cX8_tickOne 144 = .ok (.istore_n 1, 1) := by decide +kernel
theorem dX8_tickOne_145 : decode cX8_tickOne 145 = .ok (.iload_n 1, 1) := by decide +kernel
theorem dX8_tickOne_146 : decode cX8_tickOne 146 = .ok (.aload_n 0, 1) := by decide +kernel
theorem dX8_tickOne_147 : decode cX8_tickOne 147 = .ok (.getfield 7, 3) := by decide +kernel
theorem dX8_tickOne_150 : decode cX8_tickOne 150 = .ok (.sipush 171, 3) := by decide +kernel
theorem dX8_tickOne_153 : decode cX8_tickOne 153 = .ok (.iaload, 1) := by decide +kernel
theorem dX8_tickOne_154 : decode cX8_tickOne 154 = .ok (.if_icmp .ge 94, 3) := by decide +kernel
theorem dX8_tickOne_157 : decode cX8_tickOne 157 = .ok (.aload_n 0, 1) := by decide +kernel
theorem dX8_tickOne_158 : decode cX8_tickOne 158 = .ok (.getfield 7, 3) := by decide +kernel
theorem dX8_tickOne_161 : decode cX8_tickOne 161 = .ok (.bipush 35, 2) := by decide +kernel
theorem dX8_tickOne_163 : decode cX8_tickOne 163 = .ok (.aload_n 0, 1) := by decide +kernel
theorem dX8_tickOne_164 : decode cX8_tickOne 164 = .ok (.getfield 7, 3) := by decide +kernel
theorem dX8_tickOne_167 : decode cX8_tickOne 167 = .ok (.sipush 172, 3) := by decide +kernel
theorem dX8_tickOne_170 : decode cX8_tickOne 170 = .ok (.iload_n 1, 1) := by decide +kernel
theorem dX8_tickOne_171 : decode cX8_tickOne 171 = .ok (.iadd, 1) := by decide +kernel
theorem dX8_tickOne_172 : decode cX8_tickOne 172 = .ok (.iaload, 1) := by decide +kernel
theorem dX8_tickOne_173 : decode cX8_tickOne 173 = .ok (.iadd, 1) := by decide +kernel
theorem dX8_tickOne_174 : decode cX8_tickOne 174 = .ok (.iaload, 1) := by decide +kernel
theorem dX8_tickOne_175 : decode cX8_tickOne 175 = .ok (.ifCond .ne 37, 3) := by decide +kernel
theorem dX8_tickOne_178 : decode cX8_tickOne 178 = .ok (.aload_n 0, 1) := by decide +kernel
theorem dX8_tickOne_179 : decode cX8_tickOne 179 = .ok (.getfield 7, 3) := by decide +kernel
theorem dX8_tickOne_182 : decode cX8_tickOne 182 = .ok (.iconst 3, 1) := by decide +kernel
theorem dX8_tickOne_183 : decode cX8_tickOne 183 = .ok (.aload_n 0, 1) := by decide +kernel
theorem dX8_tickOne_184 : decode cX8_tickOne 184 = .ok (.getfield 7, 3) := by decide +kernel
theorem dX8_tickOne_187 : decode cX8_tickOne 187 = .ok (.sipush 172, 3) := by decide +kernel
theorem dX8_tickOne_190 : decode cX8_tickOne 190 = .ok (.iload_n 1, 1) := by decide +kernel
theorem dX8_tickOne_191 : decode cX8_tickOne 191 = .ok (.iadd, 1) := by decide +kernel
theorem dX8_tickOne_192 : decode cX8_tickOne 192 = .ok (.iaload, 1) := by decide +kernel
theorem dX8_tickOne_193 : decode cX8_tickOne 193 = .ok (.iadd, 1) := by decide +kernel
theorem dX8_tickOne_194 : decode cX8_tickOne 194 = .ok (.iaload, 1) := by decide +kernel
theorem dX8_tickOne_195 : decode cX8_tickOne 195 = .ok (.aload_n 0, 1) := by decide +kernel
theorem dX8_tickOne_196 : decode cX8_tickOne 196 = .ok (.getfield 7, 3) := by decide +kernel
theorem dX8_tickOne_199 : decode cX8_tickOne 199 = .ok (.sipush 178, 3) := by decide +kernel
theorem dX8_tickOne_202 : decode cX8_tickOne 202 = .ok (.iload_n 1, 1) := by decide +kernel
theorem dX8_tickOne_203 : decode cX8_tickOne 203 = .ok (.iadd, 1) := by decide +kernel
theorem dX8_tickOne_204 : decode cX8_tickOne 204 = .ok (.iaload, 1) := by decide +kernel
theorem dX8_tickOne_205 : decode cX8_tickOne 205 = .ok (.if_icmp .lt 7, 3) := by decide +kernel
theorem dX8_tickOne_208 : decode cX8_tickOne 208 = .ok (.iconst 1, 1) := by decide +kernel
theorem dX8_tickOne_209 : decode cX8_tickOne 209 = .ok (.goto 4, 3) := by decide +kernel
theorem dX8_tickOne_212 : decode cX8_tickOne 212 = .ok (.iconst 0, 1) := by decide +kernel
theorem dX8_tickOne_213 : decode cX8_tickOne 213 = .ok (.istore_n 2, 1) := by decide +kernel
theorem dX8_tickOne_214 : decode cX8_tickOne 214 = .ok (.aload_n 0, 1) := by decide +kernel
theorem dX8_tickOne_215 : decode cX8_tickOne 215 = .ok (.getfield 7, 3) := by decide +kernel
theorem dX8_tickOne_218 : decode cX8_tickOne 218 = .ok (.sipush 184, 3) := by decide +kernel
theorem dX8_tickOne_221 : decode cX8_tickOne 221 = .ok (.iload_n 1, 1) := by decide +kernel
theorem dX8_tickOne_222 : decode cX8_tickOne 222 = .ok (.iadd, 1) := by decide +kernel
theorem dX8_tickOne_223 : decode cX8_tickOne 223 = .ok (.iload_n 2, 1) := by decide +kernel
theorem dX8_tickOne_224 : decode cX8_tickOne 224 = .ok (.ifCond .eq 7, 3) := by decide +kernel
theorem dX8_tickOne_227 : decode cX8_tickOne 227 = .ok (.iconst 1, 1) := by decide +kernel
theorem dX8_tickOne_228 : decode cX8_tickOne 228 = .ok (.goto 13, 3) := by decide +kernel
theorem dX8_tickOne_231 : decode cX8_tickOne 231 = .ok (.aload_n 0, 1) := by decide +kernel
theorem dX8_tickOne_232 : decode cX8_tickOne 232 = .ok (.getfield 7, 3) := by decide +kernel
theorem dX8_tickOne_235 : decode cX8_tickOne 235 = .ok (.sipush 184, 3) := by decide +kernel
theorem dX8_tickOne_238 : decode cX8_tickOne 238 = .ok (.iload_n 1, 1) := by decide +kernel
theorem dX8_tickOne_239 : decode cX8_tickOne 239 = .ok (.iadd, 1) := by decide +kernel
theorem dX8_tickOne_240 : decode cX8_tickOne 240 = .ok (.iaload, 1) := by decide +kernel
theorem dX8_tickOne_241 : decode cX8_tickOne 241 = .ok (.iastore, 1) := by decide +kernel
theorem dX8_tickOne_242 : decode cX8_tickOne 242 = .ok (.iinc 1 1, 3) := by decide +kernel
theorem dX8_tickOne_245 : decode cX8_tickOne 245 = .ok (.goto (-100), 3) := by decide +kernel
theorem dX8_tickOne_248 : decode cX8_tickOne 248 = .ok (.return_, 1) := by decide +kernel
theorem dX8_liars_0 : decode cX8_liars 0 = .ok (.iconst 0, 1) := by decide +kernel
theorem dX8_liars_1 : decode cX8_liars 1 = .ok (.istore_n 1, 1) := by decide +kernel
theorem dX8_liars_2 : decode cX8_liars 2 = .ok (.iconst 0, 1) := by decide +kernel
theorem dX8_liars_3 : decode cX8_liars 3 = .ok (.istore_n 2, 1) := by decide +kernel
theorem dX8_liars_4 : decode cX8_liars 4 = .ok (.iload_n 2, 1) := by decide +kernel
theorem dX8_liars_5 : decode cX8_liars 5 = .ok (.aload_n 0, 1) := by decide +kernel
theorem dX8_liars_6 : decode cX8_liars 6 = .ok (.getfield 7, 3) := by decide +kernel
theorem dX8_liars_9 : decode cX8_liars 9 = .ok (.iconst 0, 1) := by decide +kernel
theorem dX8_liars_10 : decode cX8_liars 10 = .ok (.iaload, 1) := by decide +kernel
theorem dX8_liars_11 : decode cX8_liars 11 = .ok (.if_icmp .ge 26, 3) := by decide +kernel
theorem dX8_liars_14 : decode cX8_liars 14 = .ok (.iload_n 1, 1) := by decide +kernel
theorem dX8_liars_15 : decode cX8_liars 15 = .ok (.aload_n 0, 1) := by decide +kernel
theorem dX8_liars_16 : decode cX8_liars 16 = .ok (.iconst 0, 1) := by decide +kernel
theorem dX8_liars_17 : decode cX8_liars 17 = .ok (.iload_n 2, 1) := by decide +kernel
theorem dX8_liars_18 : decode cX8_liars 18 = .ok (.invokevirtual 120, 3) := by decide +kernel
theorem dX8_liars_21 : decode cX8_liars 21 = .ok (.ifCond .eq 7, 3) := by decide +kernel
theorem dX8_liars_24 : decode cX8_liars 24 = .ok (.iconst 1, 1) := by decide +kernel
theorem dX8_liars_25 : decode cX8_liars 25 = .ok (.goto 4, 3) := by decide +kernel
theorem dX8_liars_28 : decode cX8_liars 28 = .ok (.iconst 0, 1) := by decide +kernel
theorem dX8_liars_29 : decode cX8_liars 29 = .ok (.iadd, 1) := by decide +kernel
theorem dX8_liars_30 : decode cX8_liars 30 = .ok (.istore_n 1, 1) := by decide +kernel
theorem dX8_liars_31 : decode cX8_liars 31 = .ok (.iinc 2 1, 3) := by decide +kernel
theorem dX8_liars_34 : decode cX8_liars 34 = .ok (.goto (-30), 3) := by decide +kernel
theorem dX8_liars_37 : decode cX8_liars 37 = .ok (.iload_n 1, 1) := by decide +kernel
theorem dX8_liars_38 : decode cX8_liars 38 = .ok (.ireturn, 1) := by decide +kernel
theorem dX8_extreme_0 : decode cX8_extreme 0 = .ok (.iconst 0, 1) := by decide +kernel
theorem dX8_extreme_1 : decode cX8_extreme 1 = .ok (.istore_n 3, 1) := by decide +kernel
theorem dX8_extreme_2 : decode cX8_extreme 2 = .ok (.iload_n 3, 1) := by decide +kernel
theorem dX8_extreme_3 : decode cX8_extreme 3 = .ok (.aload_n 0, 1) := by decide +kernel
theorem dX8_extreme_4 : decode cX8_extreme 4 = .ok (.getfield 7, 3) := by decide +kernel
theorem dX8_extreme_7 : decode cX8_extreme 7 = .ok (.iconst 0, 1) := by decide +kernel
theorem dX8_extreme_8 : decode cX8_extreme 8 = .ok (.iaload, 1) := by decide +kernel
theorem dX8_extreme_9 : decode cX8_extreme 9 = .ok (.if_icmp .ge 34, 3) := by decide +kernel
theorem dX8_extreme_12 : decode cX8_extreme 12 = .ok (.aload_n 0, 1) := by decide +kernel
theorem dX8_extreme_13 : decode cX8_extreme 13 = .ok (.iload_n 3, 1) := by decide +kernel
theorem dX8_extreme_14 : decode cX8_extreme 14 = .ok (.aload_n 0, 1) := by decide +kernel
theorem dX8_extreme_15 : decode cX8_extreme 15 = .ok (.iconst 0, 1) := by decide +kernel
theorem dX8_extreme_16 : decode cX8_extreme 16 = .ok (.iload_n 3, 1) := by decide +kernel
theorem dX8_extreme_17 : decode cX8_extreme 17 = .ok (.invokevirtual 120, 3) := by decide +kernel
theorem dX8_extreme_20 : decode cX8_extreme 20 = .ok (.ifCond .eq 7, 3) := by decide +kernel
theorem dX8_extreme_23 : decode cX8_extreme 23 = .ok (.iload_n 2, 1) := by decide +kernel
theorem dX8_extreme_24 : decode cX8_extreme 24 = .ok (.goto 10, 3) := by decide +kernel
theorem dX8_extreme_27 : decode cX8_extreme 27 = .ok (.aload_n 0, 1) := by decide +kernel
theorem dX8_extreme_28 : decode cX8_extreme 28 = .ok (.iconst 0, 1) := by decide +kernel
theorem dX8_extreme_29 : decode cX8_extreme 29 = .ok (.iload_n 3, 1) := by decide +kernel
theorem dX8_extreme_30 : decode cX8_extreme 30 = .ok (.iload_n 1, 1) := by decide +kernel
theorem dX8_extreme_31 : decode cX8_extreme 31 = .ok (.invokevirtual 104, 3) := by decide +kernel
theorem dX8_extreme_34 : decode cX8_extreme 34 = .ok (.invokevirtual 108, 3) := by decide +kernel
theorem dX8_extreme_37 : decode cX8_extreme 37 = .ok (.iinc 3 1, 3) := by decide +kernel
theorem dX8_extreme_40 : decode cX8_extreme 40 = .ok (.goto (-38), 3) := by decide +kernel
theorem dX8_extreme_43 : decode cX8_extreme 43 = .ok (.aload_n 0, 1) := by decide +kernel
theorem dX8_extreme_44 : decode cX8_extreme 44 = .ok (.iconst 0, 1) := by decide +kernel
theorem dX8_extreme_45 : decode cX8_extreme 45 = .ok (.aload_n 0, 1) := by decide +kernel
theorem dX8_extreme_46 : decode cX8_extreme 46 = .ok (.getfield 7, 3) := by decide +kernel
theorem dX8_extreme_49 : decode cX8_extreme 49 = .ok (.iconst 0, 1) := by decide +kernel
theorem dX8_extreme_50 : decode cX8_extreme 50 = .ok (.iaload, 1) := by decide +kernel
theorem dX8_extreme_51 : decode cX8_extreme 51 = .ok (.invokevirtual 111, 3) := by decide +kernel
theorem dX8_extreme_54 : decode cX8_extreme 54 = .ok (.ireturn, 1) := by decide +kernel
theorem dX8_worst_0 : decode cX8_worst 0 = .ok (.iconst 0, 1) := by decide +kernel
theorem dX8_worst_1 : decode cX8_worst 1 = .ok (.istore_n 1, 1) := by decide +kernel
theorem dX8_worst_2 : decode cX8_worst 2 = .ok (.iconst 0, 1) := by decide +kernel
theorem dX8_worst_3 : decode cX8_worst 3 = .ok (.istore_n 2, 1) := by decide +kernel
theorem dX8_worst_4 : decode cX8_worst 4 = .ok (.iconst 0, 1) := by decide +kernel
theorem dX8_worst_5 : decode cX8_worst 5 = .ok (.istore_n 3, 1) := by decide +kernel
theorem dX8_worst_6 : decode cX8_worst 6 = .ok (.iload_n 3, 1) := by decide +kernel
theorem dX8_worst_7 : decode cX8_worst 7 = .ok (.aload_n 0, 1) := by decide +kernel
theorem dX8_worst_8 : decode cX8_worst 8 = .ok (.getfield 7, 3) := by decide +kernel
theorem dX8_worst_11 : decode cX8_worst 11 = .ok (.iconst 0, 1) := by decide +kernel
theorem dX8_worst_12 : decode cX8_worst 12 = .ok (.iaload, 1) := by decide +kernel
theorem dX8_worst_13 : decode cX8_worst 13 = .ok (.if_icmp .ge 26, 3) := by decide +kernel
theorem dX8_worst_16 : decode cX8_worst 16 = .ok (.iload_n 1, 1) := by decide +kernel
theorem dX8_worst_17 : decode cX8_worst 17 = .ok (.aload_n 0, 1) := by decide +kernel
theorem dX8_worst_18 : decode cX8_worst 18 = .ok (.iconst 0, 1) := by decide +kernel
theorem dX8_worst_19 : decode cX8_worst 19 = .ok (.iload_n 3, 1) := by decide +kernel
theorem dX8_worst_20 : decode cX8_worst 20 = .ok (.invokevirtual 114, 3) := by decide +kernel
theorem dX8_worst_23 : decode cX8_worst 23 = .ok (.ifCond .eq 7, 3) := by decide +kernel
theorem dX8_worst_26 : decode cX8_worst 26 = .ok (.iconst 1, 1) := by decide +kernel
theorem dX8_worst_27 : decode cX8_worst 27 = .ok (.goto 4, 3) := by decide +kernel
theorem dX8_worst_30 : decode cX8_worst 30 = .ok (.iconst 0, 1) := by decide +kernel
theorem dX8_worst_31 : decode cX8_worst 31 = .ok (.iadd, 1) := by decide +kernel
theorem dX8_worst_32 : decode cX8_worst 32 = .ok (.istore_n 1, 1) := by decide +kernel
theorem dX8_worst_33 : decode cX8_worst 33 = .ok (.iinc 3 1, 3) := by decide +kernel
theorem dX8_worst_36 : decode cX8_worst 36 = .ok (.goto (-30), 3) := by decide +kernel
theorem dX8_worst_39 : decode cX8_worst 39 = .ok (.iload_n 1, 1) := by decide +kernel
theorem dX8_worst_40 : decode cX8_worst 40 = .ok (.iconst 2, 1) := by decide +kernel
theorem dX8_worst_41 : decode cX8_worst 41 = .ok (.if_icmp .ge 13, 3) := by decide +kernel
theorem dX8_worst_44 : decode cX8_worst 44 = .ok (.iload_n 1, 1) := by decide +kernel
theorem dX8_worst_45 : decode cX8_worst 45 = .ok (.ifCond .ne 7, 3) := by decide +kernel
theorem dX8_worst_48 : decode cX8_worst 48 = .ok (.iconst (-1), 1) := by decide +kernel
theorem dX8_worst_49 : decode cX8_worst 49 = .ok (.goto 4, 3) := by decide +kernel
theorem dX8_worst_52 : decode cX8_worst 52 = .ok (.iconst 0, 1) := by decide +kernel
theorem dX8_worst_53 : decode cX8_worst 53 = .ok (.ireturn, 1) := by decide +kernel
theorem dX8_worst_54 : decode cX8_worst 54 = .ok (.aload_n 0, 1) := by decide +kernel
theorem dX8_worst_55 : decode cX8_worst 55 = .ok (.iconst 0, 1) := by decide +kernel
theorem dX8_worst_56 : decode cX8_worst 56 = .ok (.aload_n 0, 1) := by decide +kernel
theorem dX8_worst_57 : decode cX8_worst 57 = .ok (.getfield 7, 3) := by decide +kernel
theorem dX8_worst_60 : decode cX8_worst 60 = .ok (.iconst 0, 1) := by decide +kernel
theorem dX8_worst_61 : decode cX8_worst 61 = .ok (.iaload, 1) := by decide +kernel
theorem dX8_worst_62 : decode cX8_worst 62 = .ok (.invokevirtual 100, 3) := by decide +kernel
theorem dX8_worst_65 : decode cX8_worst 65 = .ok (.ifCond .eq 9, 3) := by decide +kernel
theorem dX8_worst_68 : decode cX8_worst 68 = .ok (.aload_n 0, 1) := by decide +kernel
theorem dX8_worst_69 : decode cX8_worst 69 = .ok (.iconst 0, 1) := by decide +kernel
theorem dX8_worst_70 : decode cX8_worst 70 = .ok (.invokevirtual 123, 3) := by decide +kernel
theorem dX8_worst_73 : decode cX8_worst 73 = .ok (.ireturn, 1) := by decide +kernel
theorem dX8_worst_74 : decode cX8_worst 74 = .ok (.aload_n 0, 1) := by decide +kernel
theorem dX8_worst_75 : decode cX8_worst 75 = .ok (.invokevirtual 127, 3) := by decide +kernel
theorem dX8_worst_78 : decode cX8_worst 78 = .ok (.aload_n 0, 1) := by decide +kernel
theorem dX8_worst_79 : decode cX8_worst 79 = .ok (.getfield 7, 3) := by decide +kernel
theorem dX8_worst_82 : decode cX8_worst 82 = .ok (.iconst 1, 1) := by decide +kernel
theorem dX8_worst_83 : decode cX8_worst 83 = .ok (.iaload, 1) := by decide +kernel
theorem dX8_worst_84 : decode cX8_worst 84 = .ok (.if_icmp .le 6, 3) := by decide +kernel
theorem dX8_worst_87 : decode cX8_worst 87 = .ok (.ldc 130, 2) := by decide +kernel
theorem dX8_worst_89 : decode cX8_worst 89 = .ok (.ireturn, 1) := by decide +kernel
theorem dX8_worst_90 : decode cX8_worst 90 = .ok (.iconst 0, 1) := by decide +kernel
theorem dX8_worst_91 : decode cX8_worst 91 = .ok (.istore_n 3, 1) := by decide +kernel
theorem dX8_worst_92 : decode cX8_worst 92 = .ok (.iload_n 3, 1) := by decide +kernel
theorem dX8_worst_93 : decode cX8_worst 93 = .ok (.aload_n 0, 1) := by decide +kernel
theorem dX8_worst_94 : decode cX8_worst 94 = .ok (.getfield 7, 3) := by decide +kernel
theorem dX8_worst_97 : decode cX8_worst 97 = .ok (.iconst 0, 1) := by decide +kernel
theorem dX8_worst_98 : decode cX8_worst 98 = .ok (.iaload, 1) := by decide +kernel
theorem dX8_worst_99 : decode cX8_worst 99 = .ok (.if_icmp .ge 101, 3) := by decide +kernel
theorem dX8_worst_102 : decode cX8_worst 102 = .ok (.iconst 0, 1) := by decide +kernel
theorem dX8_worst_103 : decode cX8_worst 103 = .ok (.istore 4, 2) := by decide +kernel
theorem dX8_worst_105 : decode cX8_worst 105 = .ok (.iload 4, 2) := by decide +kernel
theorem dX8_worst_107 : decode cX8_worst 107 = .ok (.aload_n 0, 1) := by decide +kernel
theorem dX8_worst_108 : decode cX8_worst 108 = .ok (.getfield 7, 3) := by decide +kernel
theorem dX8_worst_111 : decode cX8_worst 111 = .ok (.iconst 0, 1) := by decide +kernel
theorem dX8_worst_112 : decode cX8_worst 112 = .ok (.iaload, 1) := by decide +kernel
theorem dX8_worst_113 : decode cX8_worst 113 = .ok (.if_icmp .ge 81, 3) := by decide +kernel
theorem dX8_worst_116 : decode cX8_worst 116 = .ok (.iload_n 3, 1) := by decide +kernel
theorem dX8_worst_117 : decode cX8_worst 117 = .ok (.iload 4, 2) := by decide +kernel
theorem dX8_worst_119 : decode cX8_worst 119 = .ok (.if_icmp .eq 26, 3) := by decide +kernel
theorem dX8_worst_122 : decode cX8_worst 122 = .ok (.aload_n 0, 1) := by decide +kernel
theorem dX8_worst_123 : decode cX8_worst 123 = .ok (.iconst 0, 1) := by decide +kernel
theorem dX8_worst_124 : decode cX8_worst 124 = .ok (.iload_n 3, 1) := by decide +kernel
theorem dX8_worst_125 : decode cX8_worst 125 = .ok (.invokevirtual 114, 3) := by decide +kernel
theorem dX8_worst_128 : decode cX8_worst 128 = .ok (.ifCond .eq 17, 3) := by decide +kernel
theorem dX8_worst_131 : decode cX8_worst 131 = .ok (.aload_n 0, 1) := by decide +kernel
theorem dX8_worst_132 : decode cX8_worst 132 = .ok (.iconst 0, 1) := by decide +kernel
theorem dX8_worst_133 : decode cX8_worst 133 = .ok (.iload 4, 2) := by decide +kernel
theorem dX8_worst_135 : decode cX8_worst 135 = .ok (.invokevirtual 114, 3) := by decide +kernel
theorem dX8_worst_138 : decode cX8_worst 138 = .ok (.ifCond .eq 7, 3) := by decide +kernel
theorem dX8_worst_141 : decode cX8_worst 141 = .ok (.iconst 1, 1) := by decide +kernel
theorem dX8_worst_142 : decode cX8_worst 142 = .ok (.goto 4, 3) := by decide +kernel
theorem dX8_worst_145 : decode cX8_worst 145 = .ok (.iconst 0, 1) := by decide +kernel
theorem dX8_worst_146 : decode cX8_worst 146 = .ok (.istore 5, 2) := by decide +kernel
theorem dX8_worst_148 : decode cX8_worst 148 = .ok (.iload 5, 2) := by decide +kernel
theorem dX8_worst_150 : decode cX8_worst 150 = .ok (.ifCond .eq 22, 3) := by decide +kernel
theorem dX8_worst_153 : decode cX8_worst 153 = .ok (.aload_n 0, 1) := by decide +kernel
theorem dX8_worst_154 : decode cX8_worst 154 = .ok (.iload_n 3, 1) := by decide +kernel
theorem dX8_worst_155 : decode cX8_worst 155 = .ok (.ldc 131, 2) := by decide +kernel
theorem dX8_worst_157 : decode cX8_worst 157 = .ok (.invokevirtual 132, 3) := by decide +kernel
theorem dX8_worst_160 : decode cX8_worst 160 = .ok (.aload_n 0, 1) := by decide +kernel
theorem dX8_worst_161 : decode cX8_worst 161 = .ok (.iload 4, 2) := by decide +kernel
theorem dX8_worst_163 : decode cX8_worst 163 = .ok (.ldc 135, 2) := by decide +kernel
theorem dX8_worst_165 : decode cX8_worst 165 = .ok (.invokevirtual 132, 3) := by decide +kernel
theorem dX8_worst_168 : decode cX8_worst 168 = .ok (.isub, 1) := by decide +kernel
theorem dX8_worst_169 : decode cX8_worst 169 = .ok (.goto 4, 3) := by decide +kernel
theorem dX8_worst_172 : decode cX8_worst 172 = .ok (.iconst 0, 1) := by decide +kernel
theorem dX8_worst_173 : decode cX8_worst 173 = .ok (.istore 6, 2) := by decide +kernel
theorem dX8_worst_175 : decode cX8_worst 175 = .ok (.iload 6, 2) := by decide +kernel
theorem dX8_worst_177 : decode cX8_worst 177 = .ok (.iload_n 2, 1) := by decide +kernel
theorem dX8_worst_178 : decode cX8_worst 178 = .ok (.if_icmp .le 8, 3) := by decide +kernel
theorem dX8_worst_181 : decode cX8_worst 181 = .ok (.iload 6, 2) := by decide +kernel
theorem dX8_worst_183 : decode cX8_worst 183 = .ok (.goto 4, 3) := by decide +kernel
theorem dX8_worst_186 : decode cX8_worst 186 = .ok (.iload_n 2, 1) := by decide +kernel
theorem dX8_worst_187 : decode cX8_worst 187 = .ok (.istore_n 2, 1) := by decide +kernel
theorem dX8_worst_188 : decode cX8_worst 188 = .ok (.iinc 4 1, 3) := by decide +kernel
theorem dX8_worst_191 : decode cX8_worst 191 = .ok (.goto (-86), 3) := by decide +kernel
theorem dX8_worst_194 : decode cX8_worst 194 = .ok (.iinc 3 1, 3) := by decide +kernel
theorem dX8_worst_197 : decode cX8_worst 197 = .ok (.goto (-105), 3) := by decide +kernel
theorem dX8_worst_200 : decode cX8_worst 200 = .ok (.iload_n 2, 1) := by decide +kernel
theorem dX8_worst_201 : decode cX8_worst 201 = .ok (.ireturn, 1) := by decide +kernel
