theorem dX5_aim_0 : decode cX5_aim 0 = .ok (.aload_n 0, 1) := by decide +kernel
theorem dX5_aim_1 : decode cX5_aim 1 = .ok (.getfield 15, 3) := by decide +kernel
theorem dX5_aim_4 : decode cX5_aim 4 = .ok (.iload_n 1, 1) := by decide +kernel
theorem dX5_aim_5 : decode cX5_aim 5 = .ok (.iaload, 1) := by decide +kernel
theorem dX5_aim_6 : decode cX5_aim 6 = .ok (.aload_n 0, 1) := by decide +kernel
theorem dX5_aim_7 : decode cX5_aim 7 = .ok (.getfield 22, 3) := by decide +kernel
theorem dX5_aim_10 : decode cX5_aim 10 = .ok (.iload_n 1, 1) := by decide +kernel
theorem dX5_aim_11 : decode cX5_aim 11 = .ok (.iaload, 1) := by decide +kernel
theorem dX5_aim_12 : decode cX5_aim 12 = .ok (.iadd, 1) := by decide +kernel
theorem dX5_aim_13 : decode cX5_aim 13 = .ok (.ireturn, 1) := by decide +kernel
theorem dX5_heardOf_0 : decode cX5_heardOf 0 = .ok (.iload_n 1, 1) := by decide +kernel
theorem dX5_heardOf_1 : decode cX5_heardOf 1 = .ok (.iload_n 2, 1) := by decide +kernel
theorem dX5_heardOf_2 : decode cX5_heardOf 2 = .ok (.if_icmp .eq 11, 3) := by decide +kernel
theorem dX5_heardOf_5 : decode cX5_heardOf 5 = .ok (.aload_n 0, 1) := by decide +kernel
theorem dX5_heardOf_6 : decode cX5_heardOf 6 = .ok (.iload_n 1, 1) := by decide +kernel
theorem dX5_heardOf_7 : decode cX5_heardOf 7 = .ok (.invokevirtual 77, 3) := by decide +kernel
theorem dX5_heardOf_10 : decode cX5_heardOf 10 = .ok (.ifCond .eq 9, 3) := by decide +kernel
theorem dX5_heardOf_13 : decode cX5_heardOf 13 = .ok (.aload_n 0, 1) := by decide +kernel
theorem dX5_heardOf_14 : decode cX5_heardOf 14 = .ok (.iload_n 2, 1) := by decide +kernel
theorem dX5_heardOf_15 : decode cX5_heardOf 15 = .ok (.invokevirtual 80, 3) := by decide +kernel
theorem dX5_heardOf_18 : decode cX5_heardOf 18 = .ok (.ireturn, 1) := by decide +kernel
theorem dX5_heardOf_19 : decode cX5_heardOf 19 = .ok (.aload_n 0, 1) := by decide +kernel
theorem dX5_heardOf_20 : decode cX5_heardOf 20 = .ok (.iload_n 1, 1) := by decide +kernel
theorem dX5_heardOf_21 : decode cX5_heardOf 21 = .ok (.invokevirtual 74, 3) := by decide +kernel
theorem dX5_heardOf_24 : decode cX5_heardOf 24 = .ok (.ifCond .eq 22, 3) := by decide +kernel
theorem dX5_heardOf_27 : decode cX5_heardOf 27 = .ok (.aload_n 0, 1) := by decide +kernel
theorem dX5_heardOf_28 : decode cX5_heardOf 28 = .ok (.iload_n 2, 1) := by decide +kernel
theorem dX5_heardOf_29 : decode cX5_heardOf 29 = .ok (.invokevirtual 80, 3) := by decide +kernel
theorem dX5_heardOf_32 : decode cX5_heardOf 32 = .ok (.aload_n 0, 1) := by decide +kernel
theorem dX5_heardOf_33 : decode cX5_heardOf 33 = .ok (.getfield 25, 3) := by decide +kernel
theorem dX5_heardOf_36 : decode cX5_heardOf 36 = .ok (.iload_n 1, 1) := by decide +kernel
theorem dX5_heardOf_37 : decode cX5_heardOf 37 = .ok (.iload_n 2, 1) := by decide +kernel
theorem dX5_heardOf_38 : decode cX5_heardOf 38 = .ok (.invokestatic 84, 3) := by decide +kernel
theorem dX5_heardOf_41 : decode cX5_heardOf 41 = .ok (.iaload, 1) := by decide +kernel
theorem dX5_heardOf_42 : decode cX5_heardOf 42 = .ok (.iadd, 1) := by decide +kernel
theorem dX5_heardOf_43 : decode cX5_heardOf 43 = .ok (.goto 19, 3) := by decide +kernel
theorem dX5_heardOf_46 : decode cX5_heardOf 46 = .ok (.aload_n 0, 1) := by decide +kernel
theorem dX5_heardOf_47 : decode cX5_heardOf 47 = .ok (.iload_n 1, 1) := by decide +kernel
theorem dX5_heardOf_48 : decode cX5_heardOf 48 = .ok (.invokevirtual 80, 3) := by decide +kernel
theorem dX5_heardOf_51 : decode cX5_heardOf 51 = .ok (.aload_n 0, 1) := by decide +kernel
theorem dX5_heardOf_52 : decode cX5_heardOf 52 = .ok (.getfield 28, 3) := by decide +kernel
theorem dX5_heardOf_55 : decode cX5_heardOf 55 = .ok (.iload_n 1, 1) := by decide +kernel
theorem dX5_heardOf_56 : decode cX5_heardOf 56 = .ok (.iload_n 2, 1) := by decide +kernel
theorem dX5_heardOf_57 : decode cX5_heardOf 57 = .ok (.invokestatic 84, 3) := by decide +kernel
theorem dX5_heardOf_60 : decode cX5_heardOf 60 = .ok (.iaload, 1) := by decide +kernel
theorem dX5_heardOf_61 : decode cX5_heardOf 61 = .ok (.iadd, 1) := by decide +kernel
theorem dX5_heardOf_62 : decode cX5_heardOf 62 = .ok (.ireturn, 1) := by decide +kernel
theorem dX5_allStruck_0 : decode cX5_allStruck 0 = .ok (.aload_n 0, 1) := by decide +kernel
theorem dX5_allStruck_1 : decode cX5_allStruck 1 = .ok (.getfield 37, 3) := by decide +kernel
theorem dX5_allStruck_4 : decode cX5_allStruck 4 = .ok (.iconst 2, 1) := by decide +kernel
theorem dX5_allStruck_5 : decode cX5_allStruck 5 = .ok (.aload_n 0, 1) := by decide +kernel
theorem dX5_allStruck_6 : decode cX5_allStruck 6 = .ok (.getfield 40, 3) := by decide +kernel
theorem dX5_allStruck_9 : decode cX5_allStruck 9 = .ok (.imul, 1) := by decide +kernel
theorem dX5_allStruck_10 : decode cX5_allStruck 10 = .ok (.if_icmp .gt 7, 3) := by decide +kernel
theorem dX5_allStruck_13 : decode cX5_allStruck 13 = .ok (.iconst 1, 1) := by decide +kernel
theorem dX5_allStruck_14 : decode cX5_allStruck 14 = .ok (.goto 4, 3) := by decide +kernel
theorem dX5_allStruck_17 : decode cX5_allStruck 17 = .ok (.iconst 0, 1) := by decide +kernel
theorem dX5_allStruck_18 : decode cX5_allStruck 18 = .ok (.ireturn, 1) := by decide +kernel
theorem dX5_rank_0 : decode cX5_rank 0 = .ok (.aload_n 0, 1) := by decide +kernel
theorem dX5_rank_1 : decode cX5_rank 1 = .ok (.iload_n 1, 1) := by decide +kernel
theorem dX5_rank_2 : decode cX5_rank 2 = .ok (.iload_n 2, 1) := by decide +kernel
theorem dX5_rank_3 : decode cX5_rank 3 = .ok (.invokevirtual 88, 3) := by decide +kernel
theorem dX5_rank_6 : decode cX5_rank 6 = .ok (.istore_n 3, 1) := by decide +kernel
theorem dX5_rank_7 : decode cX5_rank 7 = .ok (.iconst 0, 1) := by decide +kernel
theorem dX5_rank_8 : decode cX5_rank 8 = .ok (.istore 4, 2) := by decide +kernel
theorem dX5_rank_10 : decode cX5_rank 10 = .ok (.iconst 0, 1) := by decide +kernel
theorem dX5_rank_11 : decode cX5_rank 11 = .ok (.istore 5, 2) := by decide +kernel
theorem dX5_rank_13 : decode cX5_rank 13 = .ok (.iload 5, 2) := by decide +kernel
theorem dX5_rank_15 : decode cX5_rank 15 = .ok (.aload_n 0, 1) := by decide +kernel
theorem dX5_rank_16 : decode cX5_rank 16 = .ok (.getfield 37, 3) := by decide +kernel
theorem dX5_rank_19 : decode cX5_rank 19 = .ok (.if_icmp .ge 39, 3) := by decide +kernel
theorem dX5_rank_22 : decode cX5_rank 22 = .ok (.aload_n 0, 1) := by decide +kernel
theorem dX5_rank_23 : decode cX5_rank 23 = .ok (.iload 5, 2) := by decide +kernel
theorem dX5_rank_25 : decode cX5_rank 25 = .ok (.iload_n 2, 1) := by decide +kernel
theorem dX5_rank_26 : decode cX5_rank 26 = .ok (.invokevirtual 88, 3) := by decide +kernel
theorem dX5_rank_29 : decode cX5_rank 29 = .ok (.istore 6, 2) := by decide +kernel
theorem dX5_rank_31 : decode cX5_rank 31 = .ok (.iload 6, 2) := by decide +kernel
theorem dX5_rank_33 : decode cX5_rank 33 = .ok (.iload_n 3, 1) := by decide +kernel
theorem dX5_rank_34 : decode cX5_rank 34 = .ok (.if_icmp .lt 15, 3) := by decide +kernel
theorem dX5_rank_37 : decode cX5_rank 37 = .ok (.iload 6, 2) := by decide +kernel
theorem dX5_rank_39 : decode cX5_rank 39 = .ok (.iload_n 3, 1) := by decide +kernel
theorem dX5_rank_40 : decode cX5_rank 40 = .ok (.if_icmp .ne 12, 3) := by decide +kernel
theorem dX5_rank_43 : decode cX5_rank 43 = .ok (.iload 5, 2) := by decide +kernel
theorem dX5_rank_45 : decode cX5_rank 45 = .ok (.iload_n 1, 1) := by decide +kernel
theorem dX5_rank_46 : decode cX5_rank 46 = .ok (.if_icmp .ge 6, 3) := by decide +kernel
theorem dX5_rank_49 : decode cX5_rank 49 = .ok (.iinc 4 1, 3) := by decide +kernel
theorem dX5_rank_52 : decode cX5_rank 52 = .ok (.iinc 5 1, 3) := by decide +kernel
theorem dX5_rank_55 : decode cX5_rank 55 = .ok (.goto (-42), 3) := by decide +kernel
theorem dX5_rank_58 : decode cX5_rank 58 = .ok (.iload 4, 2) := by decide +kernel
theorem dX5_rank_60 : decode cX5_rank 60 = .ok (.ireturn, 1) := by decide +kernel
theorem dX5_apart_0 : decode cX5_apart 0 = .ok (.iconst 0, 1) := by decide +kernel
theorem dX5_apart_1 : decode cX5_apart 1 = .ok (.istore_n 1, 1) := by decide +kernel
theorem dX5_apart_2 : decode cX5_apart 2 = .ok (.iconst 0, 1) := by decide +kernel
theorem dX5_apart_3 : decode cX5_apart 3 = .ok (.istore_n 2, 1) := by decide +kernel
theorem dX5_apart_4 : decode cX5_apart 4 = .ok (.iconst 0, 1) := by decide +kernel
theorem dX5_apart_5 : decode cX5_apart 5 = .ok (.istore_n 3, 1) := by decide +kernel
theorem dX5_apart_6 : decode cX5_apart 6 = .ok (.iconst 0, 1) := by decide +kernel
theorem dX5_apart_7 : decode cX5_apart 7 = .ok (.istore 4, 2) := by decide +kernel
theorem dX5_apart_9 : decode cX5_apart 9 = .ok (.iload 4, 2) := by decide +kernel
theorem dX5_apart_11 : decode cX5_apart 11 = .ok (.aload_n 0, 1) := by decide +kernel
theorem dX5_apart_12 : decode cX5_apart 12 = .ok (.getfield 37, 3) := by decide +kernel
theorem dX5_apart_15 : decode cX5_apart 15 = .ok (.if_icmp .ge 69, 3) := by decide +kernel
theorem dX5_apart_18 : decode cX5_apart 18 = .ok (.aload_n 0, 1) := by decide +kernel
theorem dX5_apart_19 : decode cX5_apart 19 = .ok (.iload 4, 2) := by decide +kernel
theorem dX5_apart_21 : decode cX5_apart 21 = .ok (.invokevirtual 91, 3) := by decide +kernel
theorem dX5_apart_24 : decode cX5_apart 24 = .ok (.ifCond .eq 54, 3) := by decide +kernel
theorem dX5_apart_27 : decode cX5_apart 27 = .ok (.iload_n 1, 1) := by decide +kernel
theorem dX5_apart_28 : decode cX5_apart 28 = .ok (.ifCond .ne 12, 3) := by decide +kernel
theorem dX5_apart_31 : decode cX5_apart 31 = .ok (.aload_n 0, 1) := by decide +kernel
theorem dX5_apart_32 : decode cX5_apart 32 = .ok (.iload 4, 2) := by decide +kernel
theorem dX5_apart_34 : decode cX5_apart 34 = .ok (.invokevirtual 80, 3) := by decide +kernel
theorem dX5_apart_37 : decode cX5_apart 37 = .ok (.goto 13, 3) := by decide +kernel
theorem dX5_apart_40 : decode cX5_apart 40 = .ok (.iload_n 2, 1) := by decide +kernel
theorem dX5_apart_41 : decode cX5_apart 41 = .ok (.aload_n 0, 1) := by decide +kernel
theorem dX5_apart_42 : decode cX5_apart 42 = .ok (.iload 4, 2) := by decide +kernel
theorem dX5_apart_44 : decode cX5_apart 44 = .ok (.invokevirtual 80, 3) := by decide +kernel
theorem dX5_apart_47 : decode cX5_apart 47 = .ok (.invokestatic 94, 3) := by decide +kernel
theorem dX5_apart_50 : decode cX5_apart 50 = .ok (.istore_n 2, 1) := by decide +kernel
theorem dX5_apart_51 : decode cX5_apart 51 = .ok (.iload_n 1, 1) := by decide +kernel
theorem dX5_apart_52 : decode cX5_apart 52 = .ok (.ifCond .ne 12, 3) := by decide +kernel
theorem dX5_apart_55 : decode cX5_apart 55 = .ok (.aload_n 0, 1) := by decide +kernel
theorem dX5_apart_56 : decode cX5_apart 56 = .ok (.iload 4, 2) := by decide +kernel
theorem dX5_apart_58 : decode cX5_apart 58 = .ok (.invokevirtual 80, 3) := by decide +kernel
theorem dX5_apart_61 : decode cX5_apart 61 = .ok (.goto 13, 3) := by decide +kernel
theorem dX5_apart_64 : decode cX5_apart 64 = .ok (.iload_n 3, 1) := by decide +kernel
theorem dX5_apart_65 : decode cX5_apart 65 = .ok (.aload_n 0, 1) := by decide +kernel
theorem dX5_apart_66 : decode cX5_apart 66 = .ok (.iload 4, 2) := by decide +kernel
theorem dX5_apart_68 : decode cX5_apart 68 = .ok (.invokevirtual 80, 3) := by decide +kernel
theorem dX5_apart_71 : decode cX5_apart 71 = .ok (.invokestatic 99, 3) := by decide +kernel
theorem dX5_apart_74 : decode cX5_apart 74 = .ok (.istore_n 3, 1) := by decide +kernel
theorem dX5_apart_75 : decode cX5_apart 75 = .ok (.iinc 1 1, 3) := by decide +kernel
theorem dX5_apart_78 : decode cX5_apart 78 = .ok (.iinc 4 1, 3) := by decide +kernel
theorem dX5_apart_81 : decode cX5_apart 81 = .ok (.goto (-72), 3) := by decide +kernel
theorem dX5_apart_84 : decode cX5_apart 84 = .ok (.iload_n 1, 1) := by decide +kernel
theorem dX5_apart_85 : decode cX5_apart 85 = .ok (.ifCond .ne 7, 3) := by decide +kernel
theorem dX5_apart_88 : decode cX5_apart 88 = .ok (.iconst (-1), 1) := by decide +kernel
theorem dX5_apart_89 : decode cX5_apart 89 = .ok (.goto 6, 3) := by decide +kernel
theorem dX5_apart_92 : decode cX5_apart 92 = .ok (.iload_n 3, 1) := by decide +kernel
theorem dX5_apart_93 : decode cX5_apart 93 = .ok (.iload_n 2, 1) := by decide +kernel
theorem dX5_apart_94 : decode cX5_apart 94 = .ok (.isub, 1) := by decide +kernel
theorem dX5_apart_95 : decode cX5_apart 95 = .ok (.ireturn, 1) := by decide +kernel
theorem dX5_mayLie_0 : decode cX5_mayLie 0 = .ok (.aload_n 0, 1) := by decide +kernel
theorem dX5_mayLie_1 : decode cX5_mayLie 1 = .ok (.getfield 37, 3) := by decide +kernel
theorem dX5_mayLie_4 : decode cX5_mayLie 4 = .ok (.aload_n 0, 1) := by decide +kernel
theorem dX5_mayLie_5 : decode cX5_mayLie 5 = .ok (.getfield 46, 3) := by decide +kernel
theorem dX5_mayLie_8 : decode cX5_mayLie 8 = .ok (.invokestatic 102, 3) := by decide +kernel
theorem dX5_mayLie_11 : decode cX5_mayLie 11 = .ok (.isub, 1) := by decide +kernel
theorem dX5_mayLie_12 : decode cX5_mayLie 12 = .ok (.istore_n 1, 1) := by decide +kernel
theorem dX5_mayLie_13 : decode cX5_mayLie 13 = .ok (.iload_n 1, 1) := by decide +kernel
theorem dX5_mayLie_14 : decode cX5_mayLie 14 = .ok (.iconst 1, 1) := by decide +kernel
theorem dX5_mayLie_15 : decode cX5_mayLie 15 = .ok (.if_icmp .ge 7, 3) := by decide +kernel
theorem dX5_mayLie_18 : decode cX5_mayLie 18 = .ok (.iconst (-1), 1) := by decide +kernel
theorem dX5_mayLie_19 : decode cX5_mayLie 19 = .ok (.goto 15, 3) := by decide +kernel
theorem dX5_mayLie_22 : decode cX5_mayLie 22 = .ok (.aload_n 0, 1) := by decide +kernel
theorem dX5_mayLie_23 : decode cX5_mayLie 23 = .ok (.getfield 40, 3) := by decide +kernel
theorem dX5_mayLie_26 : decode cX5_mayLie 26 = .ok (.iload_n 1, 1) := by decide +kernel
theorem dX5_mayLie_27 : decode cX5_mayLie 27 = .ok (.iconst 1, 1) := by decide +kernel
theorem dX5_mayLie_28 : decode cX5_mayLie 28 = .ok (.isub, 1) := by decide +kernel
theorem dX5_mayLie_29 : decode cX5_mayLie 29 = .ok (.iconst 3, 1) := by decide +kernel
theorem dX5_mayLie_30 : decode cX5_mayLie 30 = .ok (.idiv, 1) := by decide +kernel
theorem dX5_mayLie_31 : decode cX5_mayLie 31 = .ok (.invokestatic 94, 3) := by decide +kernel
theorem dX5_mayLie_34 : decode cX5_mayLie 34 = .ok (.ireturn, 1) := by decide +kernel
theorem dX5_goOn_0 : decode cX5_goOn 0 = .ok (.iconst 0, 1) := by decide +kernel
theorem dX5_goOn_1 : decode cX5_goOn 1 = .ok (.istore_n 1, 1) := by decide +kernel
theorem dX5_goOn_2 : decode cX5_goOn 2 = .ok (.iload_n 1, 1) := by decide +kernel
theorem dX5_goOn_3 : decode cX5_goOn 3 = .ok (.aload_n 0, 1) := by decide +kernel
theorem dX5_goOn_4 : decode cX5_goOn 4 = .ok (.getfield 37, 3) := by decide +kernel
theorem dX5_goOn_7 : decode cX5_goOn 7 = .ok (.if_icmp .ge 66, 3) := by decide +kernel
theorem dX5_goOn_10 : decode cX5_goOn 10 = .ok (.aload_n 0, 1) := by decide +kernel
theorem dX5_goOn_11 : decode cX5_goOn 11 = .ok (.iload_n 1, 1) := by decide +kernel
theorem dX5_goOn_12 : decode cX5_goOn 12 = .ok (.invokevirtual 77, 3) := by decide +kernel
theorem dX5_goOn_15 : decode cX5_goOn 15 = .ok (.ifCond .ne 52, 3) := by decide +kernel
theorem dX5_goOn_18 : decode cX5_goOn 18 = .ok (.aload_n 0, 1) := by decide +kernel
theorem dX5_goOn_19 : decode cX5_goOn 19 = .ok (.getfield 9, 3) := by decide +kernel
theorem dX5_goOn_22 : decode cX5_goOn 22 = .ok (.ineg, 1) := by decide +kernel
theorem dX5_goOn_23 : decode cX5_goOn 23 = .ok (.aload_n 0, 1) := by decide +kernel
theorem dX5_goOn_24 : decode cX5_goOn 24 = .ok (.getfield 9, 3) := by decide +kernel
theorem dX5_goOn_27 : decode cX5_goOn 27 = .ok (.aload_n 0, 1) := by decide +kernel
theorem dX5_goOn_28 : decode cX5_goOn 28 = .ok (.getfield 22, 3) := by decide +kernel
theorem dX5_goOn_31 : decode cX5_goOn 31 = .ok (.iload_n 1, 1) := by decide +kernel
theorem dX5_goOn_32 : decode cX5_goOn 32 = .ok (.iaload, 1) := by decide +kernel
theorem dX5_goOn_33 : decode cX5_goOn 33 = .ok (.invokestatic 94, 3) := by decide +kernel
theorem dX5_goOn_36 : decode cX5_goOn 36 = .ok (.invokestatic 99, 3) := by decide +kernel
theorem dX5_goOn_39 : decode cX5_goOn 39 = .ok (.istore_n 2, 1) := by decide +kernel
theorem dX5_goOn_40 : decode cX5_goOn 40 = .ok (.aload_n 0, 1) := by decide +kernel
theorem dX5_goOn_41 : decode cX5_goOn 41 = .ok (.getfield 15, 3) := by decide +kernel
theorem dX5_goOn_44 : decode cX5_goOn 44 = .ok (.iload_n 1, 1) := by decide +kernel
theorem dX5_goOn_45 : decode cX5_goOn 45 = .ok (.dup2, 1) := by decide +kernel
theorem dX5_goOn_46 : decode cX5_goOn 46 = .ok (.iaload, 1) := by decide +kernel
theorem dX5_goOn_47 : decode cX5_goOn 47 = .ok (.aload_n 0, 1) := by decide +kernel
theorem dX5_goOn_48 : decode cX5_goOn 48 = .ok (.getfield 19, 3) := by decide +kernel
theorem dX5_goOn_51 : decode cX5_goOn 51 = .ok (.iload_n 1, 1) := by decide +kernel
theorem dX5_goOn_52 : decode cX5_goOn 52 = .ok (.iaload, 1) := by decide +kernel
theorem dX5_goOn_53 : decode cX5_goOn 53 = .ok (.iload_n 2, 1) := by decide +kernel
theorem dX5_goOn_54 : decode cX5_goOn 54 = .ok (.iadd, 1) := by decide +kernel
theorem dX5_goOn_55 : decode cX5_goOn 55 = .ok (.iadd, 1) := by decide +kernel
theorem dX5_goOn_56 : decode cX5_goOn 56 = .ok (.iastore, 1) := by decide +kernel
theorem dX5_goOn_57 : decode cX5_goOn 57 = .ok (.aload_n 0, 1) := by decide +kernel
theorem dX5_goOn_58 : decode cX5_goOn 58 = .ok (.getfield 22, 3) := by decide +kernel
theorem dX5_goOn_61 : decode cX5_goOn 61 = .ok (.iload_n 1, 1) := by decide +kernel
theorem dX5_goOn_62 : decode cX5_goOn 62 = .ok (.dup2, 1) := by decide +kernel
theorem dX5_goOn_63 : decode cX5_goOn 63 = .ok (.iaload, 1) := by decide +kernel
theorem dX5_goOn_64 : decode cX5_goOn 64 = .ok (.iload_n 2, 1) := by decide +kernel
theorem dX5_goOn_65 : decode cX5_goOn 65 = .ok (.isub, 1) := by decide +kernel
theorem dX5_goOn_66 : decode cX5_goOn 66 = .ok (.iastore, 1) := by decide +kernel
theorem dX5_goOn_67 : decode cX5_goOn 67 = .ok (.iinc 1 1, 3) := by decide +kernel
theorem dX5_goOn_70 : decode cX5_goOn 70 = .ok (.goto (-68), 3) := by decide +kernel
theorem dX5_goOn_73 : decode cX5_goOn 73 = .ok (.aload_n 0, 1) := by decide +kernel
theorem dX5_goOn_74 : decode cX5_goOn 74 = .ok (.dup, 1) := by decide +kernel
theorem dX5_goOn_75 : decode cX5_goOn 75 = .ok (.getfield 55, 3) := by decide +kernel
theorem dX5_goOn_78 : decode cX5_goOn 78 = .ok (.iconst 1, 1) := by decide +kernel
theorem dX5_goOn_79 : decode cX5_goOn 79 = .ok (.iadd, 1) := by decide +kernel
theorem dX5_goOn_80 : decode cX5_goOn 80 = .ok (.putfield 55, 3) := by decide +kernel
theorem dX5_goOn_83 : decode cX5_goOn 83 = .ok (.aload_n 0, 1) := by decide +kernel
theorem dX5_goOn_84 : decode cX5_goOn 84 = .ok (.invokevirtual 107, 3) := by decide +kernel
theorem dX5_goOn_87 : decode cX5_goOn 87 = .ok (.ireturn, 1) := by decide +kernel
theorem dX5_setAlarm_0 : decode cX5_setAlarm 0 = .ok (.aload_n 0, 1) := by decide +kernel
theorem dX5_setAlarm_1 : decode cX5_setAlarm 1 = .ok (.getfield 49, 3) := by decide +kernel
theorem dX5_setAlarm_4 : decode cX5_setAlarm 4 = .ok (.istore_n 3, 1) := by decide +kernel
theorem dX5_setAlarm_5 : decode cX5_setAlarm 5 = .ok (.iload_n 3, 1) := by decide +kernel
theorem dX5_setAlarm_6 : decode cX5_setAlarm 6 = .ok (.bipush 6, 2) := by decide +kernel
theorem dX5_setAlarm_8 : decode cX5_setAlarm 8 = .ok (.if_icmp .ge 32, 3) := by decide +kernel
theorem dX5_setAlarm_11 : decode cX5_setAlarm 11 = .ok (.aload_n 0, 1) := by decide +kernel
theorem dX5_setAlarm_12 : decode cX5_setAlarm 12 = .ok (.getfield 31, 3) := by decide +kernel
theorem dX5_setAlarm_15 : decode cX5_setAlarm 15 = .ok (.iload_n 3, 1) := by decide +kernel
theorem dX5_setAlarm_16 : decode cX5_setAlarm 16 = .ok (.iload_n 1, 1) := by decide +kernel
theorem dX5_setAlarm_17 : decode cX5_setAlarm 17 = .ok (.iastore, 1) := by decide +kernel
theorem dX5_setAlarm_18 : decode cX5_setAlarm 18 = .ok (.aload_n 0, 1) := by decide +kernel
theorem dX5_setAlarm_19 : decode cX5_setAlarm 19 = .ok (.getfield 34, 3) := by decide +kernel
theorem dX5_setAlarm_22 : decode cX5_setAlarm 22 = .ok (.iload_n 3, 1) := by decide +kernel
theorem dX5_setAlarm_23 : decode cX5_setAlarm 23 = .ok (.iload_n 2, 1) := by decide +kernel
theorem dX5_setAlarm_24 : decode cX5_setAlarm 24 = .ok (.iastore, 1) := by decide +kernel
theorem dX5_setAlarm_25 : decode cX5_setAlarm 25 = .ok (.aload_n 0, 1) := by decide +kernel
theorem dX5_setAlarm_26 : decode cX5_setAlarm 26 = .ok (.dup, 1) := by decide +kernel
theorem dX5_setAlarm_27 : decode cX5_setAlarm 27 = .ok (.getfield 49, 3) := by decide +kernel
theorem dX5_setAlarm_30 : decode cX5_setAlarm 30 = .ok (.iconst 1, 1) := by decide +kernel
theorem dX5_setAlarm_31 : decode cX5_setAlarm 31 = .ok (.iadd, 1) := by decide +kernel
theorem dX5_setAlarm_32 : decode cX5_setAlarm 32 = .ok (.putfield 49, 3) := by decide +kernel
theorem dX5_setAlarm_35 : decode cX5_setAlarm 35 = .ok (.aload_n 0, 1) := by decide +kernel
theorem dX5_setAlarm_36 : decode cX5_setAlarm 36 = .ok (.invokevirtual 107, 3) := by decide +kernel
theorem dX5_setAlarm_39 : decode cX5_setAlarm 39 = .ok (.pop, 1) := by decide +kernel
theorem dX5_setAlarm_40 : decode cX5_setAlarm 40 = .ok (.iload_n 3, 1) := by decide +kernel
theorem dX5_setAlarm_41 : decode cX5_setAlarm 41 = .ok (.ireturn, 1) := by decide +kernel
theorem dX5_ring_0 : decode cX5_ring 0 = .ok (.iconst 0, 1) := by decide +kernel
theorem dX5_ring_1 : decode cX5_ring 1 = .ok (.istore_n 1, 1) := by decide +kernel
theorem dX5_ring_2 : decode cX5_ring 2 = .ok (.iconst 0, 1) := by decide +kernel
theorem dX5_ring_3 : decode cX5_ring 3 = .ok (.istore_n 2, 1) := by decide +kernel
theorem dX5_ring_4 : decode cX5_ring 4 = .ok (.iload_n 2, 1) := by decide +kernel
theorem dX5_ring_5 : decode cX5_ring 5 = .ok (.aload_n 0, 1) := by decide +kernel
theorem dX5_ring_6 : decode cX5_ring 6 = .ok (.getfield 49, 3) := by decide +kernel
theorem dX5_ring_9 : decode cX5_ring 9 = .ok (.if_icmp .ge 46, 3) := by decide +kernel
theorem dX5_ring_12 : decode cX5_ring 12 = .ok (.aload_n 0, 1) := by decide +kernel
theorem dX5_ring_13 : decode cX5_ring 13 = .ok (.getfield 52, 3) := by decide +kernel
theorem dX5_ring_16 : decode cX5_ring 16 = .ok (.iload_n 2, 1) := by decide +kernel
theorem dX5_ring_17 : decode cX5_ring 17 = .ok (.ishr, 1) := by decide +kernel
theorem dX5_ring_18 : decode cX5_ring 18 = .ok (.iconst 1, 1) := by decide +kernel
theorem dX5_ring_19 : decode cX5_ring 19 = .ok (.iand, 1) := by decide +kernel
theorem dX5_ring_20 : decode cX5_ring 20 = .ok (.ifCond .ne 29, 3) := by decide +kernel
theorem dX5_ring_23 : decode cX5_ring 23 = .ok (.aload_n 0, 1) := by decide +kernel
theorem dX5_ring_24 : decode cX5_ring 24 = .ok (.getfield 15, 3) := by decide +kernel
theorem dX5_ring_27 : decode cX5_ring 27 = .ok (.aload_n 0, 1) := by decide +kernel
theorem dX5_ring_28 : decode cX5_ring 28 = .ok (.getfield 31, 3) := by decide +kernel
theorem dX5_ring_31 : decode cX5_ring 31 = .ok (.iload_n 2, 1) := by decide +kernel
theorem dX5_ring_32 : decode cX5_ring 32 = .ok (.iaload, 1) := by decide +kernel
theorem dX5_ring_33 : decode cX5_ring 33 = .ok (.iaload, 1) := by decide +kernel
theorem dX5_ring_34 : decode cX5_ring 34 = .ok (.aload_n 0, 1) := by decide +kernel
theorem dX5_ring_35 : decode cX5_ring 35 = .ok (.getfield 34, 3) := by decide +kernel
theorem dX5_ring_38 : decode cX5_ring 38 = .ok (.iload_n 2, 1) := by decide +kernel
theorem dX5_ring_39 : decode cX5_ring 39 = .ok (.iaload, 1) := by decide +kernel
theorem dX5_ring_40 : decode cX5_ring 40 = .ok (.if_icmp .lt 9, 3) := by decide +kernel
theorem dX5_ring_43 : decode cX5_ring 43 = .ok (.iload_n 1, 1) := by decide +kernel
theorem dX5_ring_44 : decode cX5_ring 44 = .ok (.iconst 1, 1) := by decide +kernel
theorem dX5_ring_45 : decode cX5_ring 45 = .ok (.iload_n 2, 1) := by decide +kernel
theorem dX5_ring_46 : decode cX5_ring 46 = .ok (.ishl, 1) := by decide +kernel
theorem dX5_ring_47 : decode cX5_ring 47 = .ok (.ior, 1) := by decide +kernel
theorem dX5_ring_48 : decode cX5_ring 48 = .ok (.istore_n 1, 1) := by decide +kernel
theorem dX5_ring_49 : decode cX5_ring 49 = .ok (.iinc 2 1, 3) := by decide +kernel
theorem dX5_ring_52 : decode cX5_ring 52 = .ok (.goto (-48), 3) := by decide +kernel
theorem dX5_ring_55 : decode cX5_ring 55 = .ok (.aload_n 0, 1) := by decide +kernel
theorem dX5_ring_56 : decode cX5_ring 56 = .ok (.dup, 1) := by decide +kernel
theorem dX5_ring_57 : decode cX5_ring 57 = .ok (.getfield 52, 3) := by decide +kernel
theorem dX5_ring_60 : decode cX5_ring 60 = .ok (.iload_n 1, 1) := by decide +kernel
theorem dX5_ring_61 : decode cX5_ring 61 = .ok (.ior, 1) := by decide +kernel
theorem dX5_ring_62 : decode cX5_ring 62 = .ok (.putfield 52, 3) := by decide +kernel
theorem dX5_ring_65 : decode cX5_ring 65 = .ok (.iload_n 1, 1) := by decide +kernel
theorem dX5_ring_66 : decode cX5_ring 66 = .ok (.ireturn, 1) := by decide +kernel
theorem dX6_init_0 : decode cX6_init 0 = .ok (.aload_n 0, 1) := by decide +kernel
theorem dX6_init_1 : decode cX6_init 1 = .ok (.invokespecial 3, 3) := by decide +kernel
theorem dX6_init_4 : decode cX6_init 4 = .ok (.aload_n 0, 1) := by decide +kernel
theorem dX6_init_5 : decode cX6_init 5 = .ok (.sipush 200, 3) := by decide +kernel
theorem dX6_init_8 : decode cX6_init 8 = .ok (.newarray .int, 2) := by decide +kernel
theorem dX6_init_10 : decode cX6_init 10 = .ok (.putfield 9, 3) := by decide +kernel
theorem dX6_init_13 : decode cX6_init 13 = .ok (.aload_n 0, 1) := by decide +kernel
theorem dX6_init_14 : decode cX6_init 14 = .ok (.iconst (-1), 1) := by decide +kernel
theorem dX6_init_15 : decode cX6_init 15 = .ok (.putfield 15, 3) := by decide +kernel
theorem dX6_init_18 : decode cX6_init 18 = .ok (.return_, 1) := by decide +kernel
theorem dX6_append_0 : decode cX6_append 0 = .ok (.aload_n 0, 1) := by decide +kernel
theorem dX6_append_1 : decode cX6_append 1 = .ok (.getfield 19, 3) := by decide +kernel
theorem dX6_append_4 : decode cX6_append 4 = .ok (.sipush 200, 3) := by decide +kernel
theorem dX6_append_7 : decode cX6_append 7 = .ok (.if_icmp .ge 23, 3) := by decide +kernel
theorem dX6_append_10 : decode cX6_append 10 = .ok (.aload_n 0, 1) := by decide +kernel
theorem dX6_append_11 : decode cX6_append 11 = .ok (.getfield 9, 3) := by decide +kernel
theorem dX6_append_14 : decode cX6_append 14 = .ok (.aload_n 0, 1) := by decide +kernel
theorem dX6_append_15 : decode cX6_append 15 = .ok (.getfield 19, 3) := by decide +kernel
theorem dX6_append_18 : decode cX6_append 18 = .ok (.iload_n 1, 1) := by decide +kernel
theorem dX6_append_19 : decode cX6_append 19 = .ok (.iastore, 1) := by decide +kernel
theorem dX6_append_20 : decode cX6_append 20 = .ok (.aload_n 0, 1) := by decide +kernel
theorem dX6_append_21 : decode cX6_append 21 = .ok (.dup, 1) := by decide +kernel
theorem dX6_append_22 : decode cX6_append 22 = .ok (.getfield 19, 3) := by decide +kernel
theorem dX6_append_25 : decode cX6_append 25 = .ok (.iconst 1, 1) := by decide +kernel
theorem dX6_append_26 : decode cX6_append 26 = .ok (.iadd, 1) := by decide +kernel
theorem dX6_append_27 : decode cX6_append 27 = .ok (.putfield 19, 3) := by decide +kernel
theorem dX6_append_30 : decode cX6_append 30 = .ok (.aload_n 0, 1) := by decide +kernel
theorem dX6_append_31 : decode cX6_append 31 = .ok (.getfield 19, 3) := by decide +kernel
theorem dX6_append_34 : decode cX6_append 34 = .ok (.ireturn, 1) := by decide +kernel
theorem dX6_readInto_0 : decode cX6_readInto 0 = .ok (.aload_n 1, 1) := by decide +kernel
theorem dX6_readInto_1 : decode cX6_readInto 1 = .ok (.invokevirtual 22, 3) := by decide +kernel
theorem dX6_readInto_4 : decode cX6_readInto 4 = .ok (.aload_n 0, 1) := by decide +kernel
theorem dX6_readInto_5 : decode cX6_readInto 5 = .ok (.iconst 0, 1) := by decide +kernel
theorem dX6_readInto_6 : decode cX6_readInto 6 = .ok (.putfield 27, 3) := by decide +kernel
theorem dX6_readInto_9 : decode cX6_readInto 9 = .ok (.aload_n 0, 1) := by decide +kernel
theorem dX6_readInto_10 : decode cX6_readInto 10 = .ok (.iconst 0, 1) := by decide +kernel
theorem dX6_readInto_11 : decode cX6_readInto 11 = .ok (.putfield 30, 3) := by decide +kernel
theorem dX6_readInto_14 : decode cX6_readInto 14 = .ok (.aload_n 0, 1) := by decide +kernel
theorem dX6_readInto_15 : decode cX6_readInto 15 = .ok (.iconst (-1), 1) := by decide +kernel
theorem dX6_readInto_16 : decode cX6_readInto 16 = .ok (.putfield 15, 3) := by decide +kernel
theorem dX6_readInto_19 : decode cX6_readInto 19 = .ok (.aload_n 0, 1) := by decide +kernel
theorem dX6_readInto_20 : decode cX6_readInto 20 = .ok (.iconst 0, 1) := by decide +kernel
theorem dX6_readInto_21 : decode cX6_readInto 21 = .ok (.putfield 33, 3) := by decide +kernel
theorem dX6_readInto_24 : decode cX6_readInto 24 = .ok (.aload_n 0, 1) := by decide +kernel
theorem dX6_readInto_25 : decode cX6_readInto 25 = .ok (.iconst 0, 1) := by decide +kernel
theorem dX6_readInto_26 : decode cX6_readInto 26 = .ok (.putfield 37, 3) := by decide +kernel
theorem dX6_readInto_29 : decode cX6_readInto 29 = .ok (.aload_n 0, 1) := by decide +kernel
theorem dX6_readInto_30 : decode cX6_readInto 30 = .ok (.invokevirtual 40, 3) := by decide +kernel
theorem dX6_readInto_33 : decode cX6_readInto 33 = .ok (.iconst 0, 1) := by decide +kernel
theorem dX6_readInto_34 : decode cX6_readInto 34 = .ok (.istore_n 2, 1) := by decide +kernel
theorem dX6_readInto_35 : decode cX6_readInto 35 = .ok (.iload_n 2, 1) := by decide +kernel
theorem dX6_readInto_36 : decode cX6_readInto 36 = .ok (.sipush 200, 3) := by decide +kernel
theorem dX6_readInto_39 : decode cX6_readInto 39 = .ok (.if_icmp .ge 36, 3) := by decide +kernel
theorem dX6_readInto_42 : decode cX6_readInto 42 = .ok (.aload_n 0, 1) := by decide +kernel
theorem dX6_readInto_43 : decode cX6_readInto 43 = .ok (.getfield 27, 3) := by decide +kernel
theorem dX6_readInto_46 : decode cX6_readInto 46 = .ok (.aload_n 0, 1) := by decide +kernel
theorem dX6_readInto_47 : decode cX6_readInto 47 = .ok (.getfield 19, 3) := by decide +kernel
theorem dX6_readInto_50 : decode cX6_readInto 50 = .ok (.if_icmp .ge 25, 3) := by decide +kernel
theorem dX6_readInto_53 : decode cX6_readInto 53 = .ok (.aload_n 0, 1) := by decide +kernel
theorem dX6_readInto_54 : decode cX6_readInto 54 = .ok (.getfield 30, 3) := by decide +kernel
theorem dX6_readInto_57 : decode cX6_readInto 57 = .ok (.ifCond .ne 18, 3) := by decide +kernel
theorem dX6_readInto_60 : decode cX6_readInto 60 = .ok (.aload_n 0, 1) := by decide +kernel
theorem dX6_readInto_61 : decode cX6_readInto 61 = .ok (.aload_n 1, 1) := by decide +kernel
theorem dX6_readInto_62 : decode cX6_readInto 62 = .ok (.invokevirtual 43, 3) := by decide +kernel
theorem dX6_readInto_65 : decode cX6_readInto 65 = .ok (.aload_n 0, 1) := by decide +kernel
theorem dX6_readInto_66 : decode cX6_readInto 66 = .ok (.invokevirtual 40, 3) := by decide +kernel
theorem dX6_readInto_69 : decode cX6_readInto 69 = .ok (.iinc 2 1, 3) := by decide +kernel
theorem dX6_readInto_72 : decode cX6_readInto 72 = .ok (.goto (-37), 3) := by decide +kernel
theorem dX6_readInto_75 : decode cX6_readInto 75 = .ok (.aload_n 0, 1) := by decide +kernel
theorem dX6_readInto_76 : decode cX6_readInto 76 = .ok (.iconst 0, 1) := by decide +kernel
theorem dX6_readInto_77 : decode cX6_readInto 77 = .ok (.putfield 19, 3) := by decide +kernel
theorem dX6_readInto_80 : decode cX6_readInto 80 = .ok (.aload_n 0, 1) := by decide +kernel
theorem dX6_readInto_81 : decode cX6_readInto 81 = .ok (.getfield 30, 3) := by decide +kernel
theorem dX6_readInto_84 : decode cX6_readInto 84 = .ok (.ireturn, 1) := by decide +kernel
theorem dX6_readClause_0 : decode cX6_readClause 0 = .ok (.aload_n 0, 1) := by decide +kernel
theorem dX6_readClause_1 : decode cX6_readClause 1 = .ok (.invokevirtual 47, 3) := by decide +kernel
theorem dX6_readClause_4 : decode cX6_readClause 4 = .ok (.lookupswitch 76 #[(102, 60), (107, 44), (108, 52), (115, 68)], 44) := by decide +kernel
theorem dX6_readClause_48 : decode cX6_readClause 48 = .ok (.aload_n 0, 1) := by decide +kernel
theorem dX6_readClause_49 : decode cX6_readClause 49 = .ok (.aload_n 1, 1) := by decide +kernel
theorem dX6_readClause_50 : decode cX6_readClause 50 = .ok (.invokevirtual 51, 3) := by decide +kernel
theorem dX6_readClause_53 : decode cX6_readClause 53 = .ok (.goto 36, 3) := by decide +kernel
theorem dX6_readClause_56 : decode cX6_readClause 56 = .ok (.aload_n 0, 1) := by decide +kernel
theorem dX6_readClause_57 : decode cX6_readClause 57 = .ok (.aload_n 1, 1) := by decide +kernel
theorem dX6_readClause_58 : decode cX6_readClause 58 = .ok (.invokevirtual 54, 3) := by decide +kernel
theorem dX6_readClause_61 : decode cX6_readClause 61 = .ok (.goto 28, 3) := by decide +kernel
theorem dX6_readClause_64 : decode cX6_readClause 64 = .ok (.aload_n 0, 1) := by decide +kernel
theorem dX6_readClause_65 : decode cX6_readClause 65 = .ok (.aload_n 1, 1) := by decide +kernel
theorem dX6_readClause_66 : decode cX6_readClause 66 = .ok (.invokevirtual 57, 3) := by decide +kernel
theorem dX6_readClause_69 : decode cX6_readClause 69 = .ok (.goto 20, 3) := by decide +kernel
theorem dX6_readClause_72 : decode cX6_readClause 72 = .ok (.aload_n 0, 1) := by decide +kernel
theorem dX6_readClause_73 : decode cX6_readClause 73 = .ok (.aload_n 1, 1) := by decide +kernel
theorem dX6_readClause_74 : decode cX6_readClause 74 = .ok (.invokevirtual 60, 3) := by decide +kernel
theorem dX6_readClause_77 : decode cX6_readClause 77 = .ok (.goto 12, 3) := by decide +kernel
theorem dX6_readClause_80 : decode cX6_readClause 80 = .ok (.aload_n 0, 1) := by decide +kernel
theorem dX6_readClause_81 : decode cX6_readClause 81 = .ok (.iconst 1, 1) := by decide +kernel
theorem dX6_readClause_82 : decode cX6_readClause 82 = .ok (.aload_n 0, 1) := by decide +kernel
theorem dX6_readClause_83 : decode cX6_readClause 83 = .ok (.getfield 27, 3) := by decide +kernel
theorem dX6_readClause_86 : decode cX6_readClause 86 = .ok (.invokevirtual 63, 3) := by decide +kernel
theorem dX6_readClause_89 : decode cX6_readClause 89 = .ok (.aload_n 0, 1) := by decide +kernel
theorem dX6_readClause_90 : decode cX6_readClause 90 = .ok (.invokevirtual 47, 3) := by decide +kernel
theorem dX6_readClause_93 : decode cX6_readClause 93 = .ok (.bipush 59, 2) := by decide +kernel
theorem dX6_readClause_95 : decode cX6_readClause 95 = .ok (.if_icmp .ne 16, 3) := by decide +kernel
theorem dX6_readClause_98 : decode cX6_readClause 98 = .ok (.aload_n 0, 1) := by decide +kernel
theorem dX6_readClause_99 : decode cX6_readClause 99 = .ok (.dup, 1) := by decide +kernel
theorem dX6_readClause_100 : decode cX6_readClause 100 = .ok (.getfield 27, 3) := by decide +kernel
theorem dX6_readClause_103 : decode cX6_readClause 103 = .ok (.iconst 1, 1) := by decide +kernel
theorem dX6_readClause_104 : decode cX6_readClause 104 = .ok (.iadd, 1) := by decide +kernel
theorem dX6_readClause_105 : decode cX6_readClause 105 = .ok (.putfield 27, 3) := by decide +kernel
theorem dX6_readClause_108 : decode cX6_readClause 108 = .ok (.goto 12, 3) := by decide +kernel
theorem dX6_readClause_111 : decode cX6_readClause 111 = .ok (.aload_n 0, 1) := by decide +kernel
theorem dX6_readClause_112 : decode cX6_readClause 112 = .ok (.iconst 1, 1) := by decide +kernel
theorem dX6_readClause_113 : decode cX6_readClause 113 = .ok (.aload_n 0, 1) := by decide +kernel
theorem dX6_readClause_114 : decode cX6_readClause 114 = .ok (.getfield 27, 3) := by decide +kernel
theorem dX6_readClause_117 : decode cX6_readClause 117 = .ok (.invokevirtual 63, 3) := by decide +kernel
theorem dX6_readClause_120 : decode cX6_readClause 120 = .ok (.return_, 1) := by decide +kernel
theorem dX6_readClock_0 : decode cX6_readClock 0 = .ok (.aload_n 1, 1) := by decide +kernel
theorem dX6_readClock_1 : decode cX6_readClock 1 = .ok (.getfield 67, 3) := by decide +kernel
theorem dX6_readClock_4 : decode cX6_readClock 4 = .ok (.bipush 8, 2) := by decide +kernel
theorem dX6_readClock_6 : decode cX6_readClock 6 = .ok (.if_icmp .lt 13, 3) := by decide +kernel
theorem dX6_readClock_9 : decode cX6_readClock 9 = .ok (.aload_n 0, 1) := by decide +kernel
theorem dX6_readClock_10 : decode cX6_readClock 10 = .ok (.iconst 3, 1) := by decide +kernel
theorem dX6_readClock_11 : decode cX6_readClock 11 = .ok (.aload_n 0, 1) := by decide +kernel
theorem dX6_readClock_12 : decode cX6_readClock 12 = .ok (.getfield 27, 3) := by decide +kernel
theorem dX6_readClock_15 : decode cX6_readClock 15 = .ok (.invokevirtual 63, 3) := by decide +kernel
theorem dX6_readClock_18 : decode cX6_readClock 18 = .ok (.return_, 1) := by decide +kernel
theorem dX6_readClock_19 : decode cX6_readClock 19 = .ok (.aload_n 0, 1) := by decide +kernel
theorem dX6_readClock_20 : decode cX6_readClock 20 = .ok (.dup, 1) := by decide +kernel
theorem dX6_readClock_21 : decode cX6_readClock 21 = .ok (.getfield 27, 3) := by decide +kernel
theorem dX6_readClock_24 : decode cX6_readClock 24 = .ok (.iconst 1, 1) := by decide +kernel
theorem dX6_readClock_25 : decode cX6_readClock 25 = .ok (.iadd, 1) := by decide +kernel
theorem dX6_readClock_26 : decode cX6_readClock 26 = .ok (.putfield 27, 3) := by decide +kernel
theorem dX6_readClock_29 : decode cX6_readClock 29 = .ok (.aload_n 0, 1) := by decide +kernel
theorem dX6_readClock_30 : decode cX6_readClock 30 = .ok (.iconst 0, 1) := by decide +kernel
theorem dX6_readClock_31 : decode cX6_readClock 31 = .ok (.sipush 9999, 3) := by decide +kernel
theorem dX6_readClock_34 : decode cX6_readClock 34 = .ok (.invokevirtual 70, 3) := by decide +kernel
theorem dX6_readClock_37 : decode cX6_readClock 37 = .ok (.istore_n 2, 1) := by decide +kernel
theorem dX6_readClock_38 : decode cX6_readClock 38 = .ok (.aload_n 0, 1) := by decide +kernel
theorem dX6_readClock_39 : decode cX6_readClock 39 = .ok (.bipush 90, 2) := by decide +kernel
theorem dX6_readClock_41 : decode cX6_readClock 41 = .ok (.bipush 110, 2) := by decide +kernel
theorem dX6_readClock_43 : decode cX6_readClock 43 = .ok (.invokevirtual 70, 3) := by decide +kernel
theorem dX6_readClock_46 : decode cX6_readClock 46 = .ok (.istore_n 3, 1) := by decide +kernel
theorem dX6_readClock_47 : decode cX6_readClock 47 = .ok (.aload_n 1, 1) := by decide +kernel
theorem dX6_readClock_48 : decode cX6_readClock 48 = .ok (.iload_n 2, 1) := by decide +kernel
theorem dX6_readClock_49 : decode cX6_readClock 49 = .ok (.iload_n 3, 1) := by decide +kernel
theorem dX6_readClock_50 : decode cX6_readClock 50 = .ok (.invokevirtual 74, 3) := by decide +kernel
theorem dX6_readClock_53 : decode cX6_readClock 53 = .ok (.return_, 1) := by decide +kernel
theorem dX6_readLiar_0 : decode cX6_readLiar 0 = .ok (.aload_n 0, 1) := by decide +kernel
theorem dX6_readLiar_1 : decode cX6_readLiar 1 = .ok (.dup, 1) := by decide +kernel
theorem dX6_readLiar_2 : decode cX6_readLiar 2 = .ok (.getfield 27, 3) := by decide +kernel
theorem dX6_readLiar_5 : decode cX6_readLiar 5 = .ok (.iconst 1, 1) := by decide +kernel
theorem dX6_readLiar_6 : decode cX6_readLiar 6 = .ok (.iadd, 1) := by decide +kernel
theorem dX6_readLiar_7 : decode cX6_readLiar 7 = .ok (.putfield 27, 3) := by decide +kernel
theorem dX6_readLiar_10 : decode cX6_readLiar 10 = .ok (.aload_n 0, 1) := by decide +kernel
theorem dX6_readLiar_11 : decode cX6_readLiar 11 = .ok (.iconst 0, 1) := by decide +kernel
theorem dX6_readLiar_12 : decode cX6_readLiar 12 = .ok (.aload_n 1, 1) := by decide +kernel
theorem dX6_readLiar_13 : decode cX6_readLiar 13 = .ok (.getfield 67, 3) := by decide +kernel
theorem dX6_readLiar_16 : decode cX6_readLiar 16 = .ok (.iconst 1, 1) := by decide +kernel
theorem dX6_readLiar_17 : decode cX6_readLiar 17 = .ok (.isub, 1) := by decide +kernel
theorem dX6_readLiar_18 : decode cX6_readLiar 18 = .ok (.invokevirtual 70, 3) := by decide +kernel
theorem dX6_readLiar_21 : decode cX6_readLiar 21 = .ok (.istore_n 2, 1) := by decide +kernel
theorem dX6_readLiar_22 : decode cX6_readLiar 22 = .ok (.aload_n 0, 1) := by decide +kernel
theorem dX6_readLiar_23 : decode cX6_readLiar 23 = .ok (.getfield 30, 3) := by decide +kernel
theorem dX6_readLiar_26 : decode cX6_readLiar 26 = .ok (.ifCond .eq 4, 3) := by decide +kernel
theorem dX6_readLiar_29 : decode cX6_readLiar 29 = .ok (.return_, 1) := by decide +kernel
theorem dX6_readLiar_30 : decode cX6_readLiar 30 = .ok (.aload_n 1, 1) := by decide +kernel
theorem dX6_readLiar_31 : decode cX6_readLiar 31 = .ok (.iload_n 2, 1) := by decide +kernel
theorem dX6_readLiar_32 : decode cX6_readLiar 32 = .ok (.invokevirtual 77, 3) := by decide +kernel
theorem dX6_readLiar_35 : decode cX6_readLiar 35 = .ok (.ifCond .eq 12, 3) := by decide +kernel
theorem dX6_readLiar_38 : decode cX6_readLiar 38 = .ok (.aload_n 0, 1) := by decide +kernel
theorem dX6_readLiar_39 : decode cX6_readLiar 39 = .ok (.iconst 4, 1) := by decide +kernel
theorem dX6_readLiar_40 : decode cX6_readLiar 40 = .ok (.aload_n 0, 1) := by decide +kernel
theorem dX6_readLiar_41 : decode cX6_readLiar 41 = .ok (.getfield 81, 3) := by decide +kernel
theorem dX6_readLiar_44 : decode cX6_readLiar 44 = .ok (.invokevirtual 63, 3) := by decide +kernel
theorem dX6_readLiar_47 : decode cX6_readLiar 47 = .ok (.aload_n 1, 1) := by decide +kernel
theorem dX6_readLiar_48 : decode cX6_readLiar 48 = .ok (.dup, 1) := by decide +kernel
theorem dX6_readLiar_49 : decode cX6_readLiar 49 = .ok (.getfield 84, 3) := by decide +kernel
theorem dX6_readLiar_52 : decode cX6_readLiar 52 = .ok (.iconst 1, 1) := by decide +kernel
theorem dX6_readLiar_53 : decode cX6_readLiar 53 = .ok (.iload_n 2, 1) := by decide +kernel
theorem dX6_readLiar_54 : decode cX6_readLiar 54 = .ok (.ishl, 1) := by decide +kernel
theorem dX6_readLiar_55 : decode cX6_readLiar 55 = .ok (.ior, 1) := by decide +kernel
theorem dX6_readLiar_56 : decode cX6_readLiar 56 = .ok (.putfield 84, 3) := by decide +kernel
theorem dX6_readLiar_59 : decode cX6_readLiar 59 = .ok (.return_, 1) := by decide +kernel
theorem dX6_readStrike_0 : decode cX6_readStrike 0 = .ok (.aload_n 0, 1) := by decide +kernel
theorem dX6_readStrike_1 : decode cX6_readStrike 1 = .ok (.getfield 33, 3) := by decide +kernel
theorem dX6_readStrike_4 : decode cX6_readStrike 4 = .ok (.ifCond .eq 12, 3) := by decide +kernel
theorem dX6_readStrike_7 : decode cX6_readStrike 7 = .ok (.aload_n 0, 1) := by decide +kernel
theorem dX6_readStrike_8 : decode cX6_readStrike 8 = .ok (.iconst 4, 1) := by decide +kernel
theorem dX6_readStrike_9 : decode cX6_readStrike 9 = .ok (.aload_n 0, 1) := by decide +kernel
theorem dX6_readStrike_10 : decode cX6_readStrike 10 = .ok (.getfield 27, 3) := by decide +kernel
theorem dX6_readStrike_13 : decode cX6_readStrike 13 = .ok (.invokevirtual 63, 3) := by decide +kernel
theorem dX6_readStrike_16 : decode cX6_readStrike 16 = .ok (.aload_n 0, 1) := by decide +kernel
theorem dX6_readStrike_17 : decode cX6_readStrike 17 = .ok (.iconst 1, 1) := by decide +kernel
theorem dX6_readStrike_18 : decode cX6_readStrike 18 = .ok (.putfield 33, 3) := by decide +kernel
theorem dX6_readStrike_21 : decode cX6_readStrike 21 = .ok (.aload_n 0, 1) := by decide +kernel
theorem dX6_readStrike_22 : decode cX6_readStrike 22 = .ok (.dup, 1) := by decide +kernel
theorem dX6_readStrike_23 : decode cX6_readStrike 23 = .ok (.getfield 27, 3) := by decide +kernel
theorem dX6_readStrike_26 : decode cX6_readStrike 26 = .ok (.iconst 1, 1) := by decide +kernel
theorem dX6_readStrike_27 : decode cX6_readStrike 27 = .ok (.iadd, 1) := by decide +kernel
theorem dX6_readStrike_28 : decode cX6_readStrike 28 = .ok (.putfield 27, 3) := by decide +kernel
theorem dX6_readStrike_31 : decode cX6_readStrike 31 = .ok (.aload_n 1, 1) := by decide +kernel
theorem dX6_readStrike_32 : decode cX6_readStrike 32 = .ok (.aload_n 0, 1) := by decide +kernel
theorem dX6_readStrike_33 : decode cX6_readStrike 33 = .ok (.iconst 0, 1) := by decide +kernel
theorem dX6_readStrike_34 : decode cX6_readStrike 34 = .ok (.iconst 3, 1) := by decide +kernel
theorem dX6_readStrike_35 : decode cX6_readStrike 35 = .ok (.invokevirtual 70, 3) := by decide +kernel
theorem dX6_readStrike_38 : decode cX6_readStrike 38 = .ok (.putfield 87, 3) := by decide +kernel
theorem dX6_readStrike_41 : decode cX6_readStrike 41 = .ok (.return_, 1) := by decide +kernel
theorem dX6_readStep_0 : decode cX6_readStep 0 = .ok (.aload_n 0, 1) := by decide +kernel
theorem dX6_readStep_1 : decode cX6_readStep 1 = .ok (.getfield 37, 3) := by decide +kernel
theorem dX6_readStep_4 : decode cX6_readStep 4 = .ok (.ifCond .eq 12, 3) := by decide +kernel
theorem dX6_readStep_7 : decode cX6_readStep 7 = .ok (.aload_n 0, 1) := by decide +kernel
theorem dX6_readStep_8 : decode cX6_readStep 8 = .ok (.iconst 4, 1) := by decide +kernel
theorem dX6_readStep_9 : decode cX6_readStep 9 = .ok (.aload_n 0, 1) := by decide +kernel
theorem dX6_readStep_10 : decode cX6_readStep 10 = .ok (.getfield 27, 3) := by decide +kernel
theorem dX6_readStep_13 : decode cX6_readStep 13 = .ok (.invokevirtual 63, 3) := by decide +kernel
theorem dX6_readStep_16 : decode cX6_readStep 16 = .ok (.aload_n 0, 1) := by decide +kernel
theorem dX6_readStep_17 : decode cX6_readStep 17 = .ok (.iconst 1, 1) := by decide +kernel
theorem dX6_readStep_18 : decode cX6_readStep 18 = .ok (.putfield 37, 3) := by decide +kernel
theorem dX6_readStep_21 : decode cX6_readStep 21 = .ok (.aload_n 0, 1) := by decide +kernel
theorem dX6_readStep_22 : decode cX6_readStep 22 = .ok (.dup, 1) := by decide +kernel
theorem dX6_readStep_23 : decode cX6_readStep 23 = .ok (.getfield 27, 3) := by decide +kernel
theorem dX6_readStep_26 : decode cX6_readStep 26 = .ok (.iconst 1, 1) := by decide +kernel
theorem dX6_readStep_27 : decode cX6_readStep 27 = .ok (.iadd, 1) := by decide +kernel
theorem dX6_readStep_28 : decode cX6_readStep 28 = .ok (.putfield 27, 3) := by decide +kernel
theorem dX6_readStep_31 : decode cX6_readStep 31 = .ok (.aload_n 1, 1) := by decide +kernel
theorem dX6_readStep_32 : decode cX6_readStep 32 = .ok (.aload_n 0, 1) := by decide +kernel
theorem dX6_readStep_33 : decode cX6_readStep 33 = .ok (.iconst 0, 1) := by decide +kernel
theorem dX6_readStep_34 : decode cX6_readStep 34 = .ok (.bipush 80, 2) := by decide +kernel
theorem dX6_readStep_36 : decode cX6_readStep 36 = .ok (.invokevirtual 70, 3) := by decide +kernel
theorem dX6_readStep_39 : decode cX6_readStep 39 = .ok (.putfield 90, 3) := by decide +kernel
theorem dX6_readStep_42 : decode cX6_readStep 42 = .ok (.return_, 1) := by decide +kernel
theorem dX6_readNumber_0 : decode cX6_readNumber 0 = .ok (.aload_n 0, 1) := by decide +kernel
theorem dX6_readNumber_1 : decode cX6_readNumber 1 = .ok (.invokevirtual 40, 3) := by decide +kernel
theorem dX6_readNumber_4 : decode cX6_readNumber 4 = .ok (.aload_n 0, 1) := by decide +kernel
theorem dX6_readNumber_5 : decode cX6_readNumber 5 = .ok (.aload_n 0, 1) := by decide +kernel
theorem dX6_readNumber_6 : decode cX6_readNumber 6 = .ok (.getfield 27, 3) := by decide +kernel
theorem dX6_readNumber_9 : decode cX6_readNumber 9 = .ok (.putfield 81, 3) := by decide +kernel
theorem dX6_readNumber_12 : decode cX6_readNumber 12 = .ok (.iconst 0, 1) := by decide +kernel
theorem dX6_readNumber_13 : decode cX6_readNumber 13 = .ok (.istore_n 3, 1) := by decide +kernel
theorem dX6_readNumber_14 : decode cX6_readNumber 14 = .ok (.aload_n 0, 1) := by decide +kernel
theorem dX6_readNumber_15 : decode cX6_readNumber 15 = .ok (.getfield 27, 3) := by decide +kernel
theorem dX6_readNumber_18 : decode cX6_readNumber 18 = .ok (.aload_n 0, 1) := by decide +kernel
theorem dX6_readNumber_19 : decode cX6_readNumber 19 = .ok (.getfield 19, 3) := by decide +kernel
theorem dX6_readNumber_22 : decode cX6_readNumber 22 = .ok (.if_icmp .ge 62, 3) := by decide +kernel
theorem dX6_readNumber_25 : decode cX6_readNumber 25 = .ok (.aload_n 0, 1) := by decide +kernel
theorem dX6_readNumber_26 : decode cX6_readNumber 26 = .ok (.getfield 9, 3) := by decide +kernel
theorem dX6_readNumber_29 : decode cX6_readNumber 29 = .ok (.aload_n 0, 1) := by decide +kernel
theorem dX6_readNumber_30 : decode cX6_readNumber 30 = .ok (.getfield 27, 3) := by decide +kernel
theorem dX6_readNumber_33 : decode cX6_readNumber 33 = .ok (.iaload, 1) := by decide +kernel
theorem dX6_readNumber_34 : decode cX6_readNumber 34 = .ok (.invokestatic 93, 3) := by decide +kernel
theorem dX6_readNumber_37 : decode cX6_readNumber 37 = .ok (.ifCond .eq 47, 3) := by decide +kernel
theorem dX6_readNumber_40 : decode cX6_readNumber 40 = .ok (.aload_n 0, 1) := by decide +kernel
theorem dX6_readNumber_41 : decode cX6_readNumber 41 = .ok (.getfield 27, 3) := by decide +kernel
theorem dX6_readNumber_44 : decode cX6_readNumber 44 = .ok (.aload_n 0, 1) := by decide +kernel
theorem dX6_readNumber_45 : decode cX6_readNumber 45 = .ok (.getfield 81, 3) := by decide +kernel
theorem dX6_readNumber_48 : decode cX6_readNumber 48 = .ok (.isub, 1) := by decide +kernel
theorem dX6_readNumber_49 : decode cX6_readNumber 49 = .ok (.iconst 4, 1) := by decide +kernel
theorem dX6_readNumber_50 : decode cX6_readNumber 50 = .ok (.if_icmp .ge 21, 3) := by decide +kernel
theorem dX6_readNumber_53 : decode cX6_readNumber 53 = .ok (.iload_n 3, 1) := by decide +kernel
theorem dX6_readNumber_54 : decode cX6_readNumber 54 = .ok (.bipush 10, 2) := by decide +kernel
theorem dX6_readNumber_56 : decode cX6_readNumber 56 = .ok (.imul, 1) := by decide +kernel
theorem dX6_readNumber_57 : decode cX6_readNumber 57 = .ok (.aload_n 0, 1) := by decide +kernel
theorem dX6_readNumber_58 : decode cX6_readNumber 58 = .ok (.getfield 9, 3) := by decide +kernel
theorem dX6_readNumber_61 : decode cX6_readNumber 61 = .ok (.aload_n 0, 1) := by decide +kernel
theorem dX6_readNumber_62 : decode cX6_readNumber 62 = .ok (.getfield 27, 3) := by decide +kernel
theorem dX6_readNumber_65 : decode cX6_readNumber 65 = .ok (.iaload, 1) := by decide +kernel
theorem dX6_readNumber_66 : decode cX6_readNumber 66 = .ok (.iadd, 1) := by decide +kernel
theorem dX6_readNumber_67 : decode cX6_readNumber 67 = .ok (.bipush 48, 2) := by decide +kernel
theorem dX6_readNumber_69 : decode cX6_readNumber 69 = .ok (.isub, 1) := by decide +kernel
theorem dX6_readNumber_70 : decode cX6_readNumber 70 = .ok (.istore_n 3, 1) := by decide +kernel
theorem dX6_readNumber_71 : decode cX6_readNumber 71 = .ok (.aload_n 0, 1) := by decide +kernel
theorem dX6_readNumber_72 : decode cX6_readNumber 72 = .ok (.dup, 1) := by decide +kernel
theorem dX6_readNumber_73 : decode cX6_readNumber 73 = .ok (.getfield 27, 3) := by decide +kernel
theorem dX6_readNumber_76 : decode cX6_readNumber 76 = .ok (.iconst 1, 1) := by decide +kernel
theorem dX6_readNumber_77 : decode cX6_readNumber 77 = .ok (.iadd, 1) := by decide +kernel
theorem dX6_readNumber_78 : decode cX6_readNumber 78 = .ok (.putfield 27, 3) := by decide +kernel
theorem dX6_readNumber_81 : decode cX6_readNumber 81 = .ok (.goto (-67), 3) := by decide +kernel
theorem dX6_readNumber_84 : decode cX6_readNumber 84 = .ok (.aload_n 0, 1) := by decide +kernel
theorem dX6_readNumber_85 : decode cX6_readNumber 85 = .ok (.getfield 27, 3) := by decide +kernel
theorem dX6_readNumber_88 : decode cX6_readNumber 88 = .ok (.aload_n 0, 1) := by decide +kernel
theorem dX6_readNumber_89 : decode cX6_readNumber 89 = .ok (.getfield 81, 3) := by decide +kernel
theorem dX6_readNumber_92 : decode cX6_readNumber 92 = .ok (.if_icmp .ne 15, 3) := by decide +kernel
theorem dX6_readNumber_95 : decode cX6_readNumber 95 = .ok (.aload_n 0, 1) := by decide +kernel
theorem dX6_readNumber_96 : decode cX6_readNumber 96 = .ok (.iconst 1, 1) := by decide +kernel
theorem dX6_readNumber_97 : decode cX6_readNumber 97 = .ok (.aload_n 0, 1) := by decide +kernel
theorem dX6_readNumber_98 : decode cX6_readNumber 98 = .ok (.getfield 27, 3) := by decide +kernel
theorem dX6_readNumber_101 : decode cX6_readNumber 101 = .ok (.invokevirtual 63, 3) := by decide +kernel
theorem dX6_readNumber_104 : decode cX6_readNumber 104 = .ok (.goto 35, 3) := by decide +kernel
theorem dX6_readNumber_107 : decode cX6_readNumber 107 = .ok (.aload_n 0, 1) := by decide +kernel
theorem dX6_readNumber_108 : decode cX6_readNumber 108 = .ok (.getfield 27, 3) := by decide +kernel
theorem dX6_readNumber_111 : decode cX6_readNumber 111 = .ok (.aload_n 0, 1) := by decide +kernel
theorem dX6_readNumber_112 : decode cX6_readNumber 112 = .ok (.getfield 81, 3) := by decide +kernel
theorem dX6_readNumber_115 : decode cX6_readNumber 115 = .ok (.isub, 1) := by decide +kernel
theorem dX6_readNumber_116 : decode cX6_readNumber 116 = .ok (.iconst 4, 1) := by decide +kernel
theorem dX6_readNumber_117 : decode cX6_readNumber 117 = .ok (.if_icmp .gt 13, 3) := by decide +kernel
theorem dX6_readNumber_120 : decode cX6_readNumber 120 = .ok (.iload_n 3, 1) := by decide +kernel
theorem dX6_readNumber_121 : decode cX6_readNumber 121 = .ok (.iload_n 1, 1) := by decide +kernel
theorem dX6_readNumber_122 : decode cX6_readNumber 122 = .ok (.if_icmp .lt 8, 3) := by decide +kernel
theorem dX6_readNumber_125 : decode cX6_readNumber 125 = .ok (.iload_n 3, 1) := by decide +kernel
theorem dX6_readNumber_126 : decode cX6_readNumber 126 = .ok (.iload_n 2, 1) := by decide +kernel
theorem dX6_readNumber_127 : decode cX6_readNumber 127 = .ok (.if_icmp .le 12, 3) := by decide +kernel
theorem dX6_readNumber_130 : decode cX6_readNumber 130 = .ok (.aload_n 0, 1) := by decide +kernel
theorem dX6_readNumber_131 : decode cX6_readNumber 131 = .ok (.iconst 2, 1) := by decide +kernel
theorem dX6_readNumber_132 : decode cX6_readNumber 132 = .ok (.aload_n 0, 1) := by decide +kernel
theorem dX6_readNumber_133 : decode cX6_readNumber 133 = .ok (.getfield 81, 3) := by decide +kernel
theorem dX6_readNumber_136 : decode cX6_readNumber 136 = .ok (.invokevirtual 63, 3) := by decide +kernel
theorem dX6_readNumber_139 : decode cX6_readNumber 139 = .ok (.aload_n 0, 1) := by decide +kernel
theorem dX6_readNumber_140 : decode cX6_readNumber 140 = .ok (.invokevirtual 40, 3) := by decide +kernel
theorem dX6_readNumber_143 : decode cX6_readNumber 143 = .ok (.iload_n 3, 1) := by decide +kernel
theorem dX6_readNumber_144 : decode cX6_readNumber 144 = .ok (.ireturn, 1) := by decide +kernel
theorem dX6_note_0 : decode cX6_note 0 = .ok (.aload_n 0, 1) := by decide +kernel
theorem dX6_note_1 : decode cX6_note 1 = .ok (.getfield 30, 3) := by decide +kernel
theorem dX6_note_4 : decode cX6_note 4 = .ok (.ifCond .ne 13, 3) := by decide +kernel
theorem dX6_note_7 : decode cX6_note 7 = .ok (.aload_n 0, 1) := by decide +kernel
theorem dX6_note_8 : decode cX6_note 8 = .ok (.iload_n 1, 1) := by decide +kernel
theorem dX6_note_9 : decode cX6_note 9 = .ok (.putfield 30, 3) := by decide +kernel
theorem dX6_note_12 : decode cX6_note 12 = .ok (.aload_n 0, 1) := by decide +kernel
theorem dX6_note_13 : decode cX6_note 13 = .ok (.iload_n 2, 1) := by decide +kernel
theorem dX6_note_14 : decode cX6_note 14 = .ok (.putfield 15, 3) := by decide +kernel
theorem dX6_note_17 : decode cX6_note 17 = .ok (.return_, 1) := by decide +kernel
theorem dX6_skipBlanks_0 : decode cX6_skipBlanks 0 = .ok (.aload_n 0, 1) := by decide +kernel
theorem dX6_skipBlanks_1 : decode cX6_skipBlanks 1 = .ok (.getfield 27, 3) := by decide +kernel
theorem dX6_skipBlanks_4 : decode cX6_skipBlanks 4 = .ok (.aload_n 0, 1) := by decide +kernel
theorem dX6_skipBlanks_5 : decode cX6_skipBlanks 5 = .ok (.getfield 19, 3) := by decide +kernel
theorem dX6_skipBlanks_8 : decode cX6_skipBlanks 8 = .ok (.if_icmp .ge 30, 3) := by decide +kernel
theorem dX6_skipBlanks_11 : decode cX6_skipBlanks 11 = .ok (.aload_n 0, 1) := by decide +kernel
theorem dX6_skipBlanks_12 : decode cX6_skipBlanks 12 = .ok (.getfield 9, 3) := by decide +kernel
theorem dX6_skipBlanks_15 : decode cX6_skipBlanks 15 = .ok (.aload_n 0, 1) := by decide +kernel
theorem dX6_skipBlanks_16 : decode cX6_skipBlanks 16 = .ok (.getfield 27, 3) := by decide +kernel
theorem dX6_skipBlanks_19 : decode cX6_skipBlanks 19 = .ok (.iaload, 1) := by decide +kernel
theorem dX6_skipBlanks_20 : decode cX6_skipBlanks 20 = .ok (.bipush 32, 2) := by decide +kernel
theorem dX6_skipBlanks_22 : decode cX6_skipBlanks 22 = .ok (.if_icmp .ne 16, 3) := by decide +kernel
theorem dX6_skipBlanks_25 : decode cX6_skipBlanks 25 = .ok (.aload_n 0, 1) := by decide +kernel
theorem dX6_skipBlanks_26 : decode cX6_skipBlanks 26 = .ok (.dup, 1) := by decide +kernel
theorem dX6_skipBlanks_27 : decode cX6_skipBlanks 27 = .ok (.getfield 27, 3) := by decide +kernel
theorem dX6_skipBlanks_30 : decode cX6_skipBlanks 30 = .ok (.iconst 1, 1) := by decide +kernel
theorem dX6_skipBlanks_31 : decode cX6_skipBlanks 31 = .ok (.iadd, 1) := by decide +kernel
theorem dX6_skipBlanks_32 : decode cX6_skipBlanks 32 = .ok (.putfield 27, 3) := by decide +kernel
theorem dX6_skipBlanks_35 : decode cX6_skipBlanks 35 = .ok (.goto (-35), 3) := by decide +kernel
theorem dX6_skipBlanks_38 : decode cX6_skipBlanks 38 = .ok (.return_, 1) := by decide +kernel
theorem dX6_letter_0 : decode cX6_letter 0 = .ok (.aload_n 0, 1) := by decide +kernel
theorem dX6_letter_1 : decode cX6_letter 1 = .ok (.getfield 27, 3) := by decide +kernel
theorem dX6_letter_4 : decode cX6_letter 4 = .ok (.aload_n 0, 1) := by decide +kernel
theorem dX6_letter_5 : decode cX6_letter 5 = .ok (.getfield 19, 3) := by decide +kernel
theorem dX6_letter_8 : decode cX6_letter 8 = .ok (.if_icmp .ge 15, 3) := by decide +kernel
theorem dX6_letter_11 : decode cX6_letter 11 = .ok (.aload_n 0, 1) := by decide +kernel
theorem dX6_letter_12 : decode cX6_letter 12 = .ok (.getfield 9, 3) := by decide +kernel
theorem dX6_letter_15 : decode cX6_letter 15 = .ok (.aload_n 0, 1) := by decide +kernel
theorem dX6_letter_16 : decode cX6_letter 16 = .ok (.getfield 27, 3) := by decide +kernel
theorem dX6_letter_19 : decode cX6_letter 19 = .ok (.iaload, 1) := by decide +kernel
theorem dX6_letter_20 : decode cX6_letter 20 = .ok (.goto 4, 3) := by decide +kernel
theorem dX6_letter_23 : decode cX6_letter 23 = .ok (.iconst (-1), 1) := by decide +kernel
theorem dX6_letter_24 : decode cX6_letter 24 = .ok (.ireturn, 1) := by decide +kernel
theorem dX6_isFigure_0 : decode cX6_isFigure 0 = .ok (.iload_n 0, 1) := by decide +kernel
theorem dX6_isFigure_1 : decode cX6_isFigure 1 = .ok (.bipush 48, 2) := by decide +kernel
theorem dX6_isFigure_3 : decode cX6_isFigure 3 = .ok (.if_icmp .lt 13, 3) := by decide +kernel
theorem dX6_isFigure_6 : decode cX6_isFigure 6 = .ok (.iload_n 0, 1) := by decide +kernel
theorem dX6_isFigure_7 : decode cX6_isFigure 7 = .ok (.bipush 57, 2) := by decide +kernel
theorem dX6_isFigure_9 : decode cX6_isFigure 9 = .ok (.if_icmp .gt 7, 3) := by decide +kernel
theorem dX6_isFigure_12 : decode cX6_isFigure 12 = .ok (.iconst 1, 1) := by decide +kernel
theorem dX6_isFigure_13 : decode cX6_isFigure 13 = .ok (.goto 4, 3) := by decide +kernel
theorem dX6_isFigure_16 : decode cX6_isFigure 16 = .ok (.iconst 0, 1) := by decide +kernel
theorem dX6_isFigure_17 : decode cX6_isFigure 17 = .ok (.ireturn, 1) := by decide +kernel
theorem dX7_init_0 : decode cX7_init 0 = .ok (.aload_n 0, 1) := by decide +kernel
theorem dX7_init_1 : decode cX7_init 1 = .ok (.invokespecial 1, 3) := by decide +kernel
theorem dX7_init_4 : decode cX7_init 4 = .ok (.aload_n 0, 1) := by decide +kernel
theorem dX7_init_5 : decode cX7_init 5 = .ok (.new 7, 3) := by decide +kernel
theorem dX7_init_8 : decode cX7_init 8 = .ok (.dup, 1) := by decide +kernel
theorem dX7_init_9 : decode cX7_init 9 = .ok (.invokespecial 9, 3) := by decide +kernel
theorem dX7_init_12 : decode cX7_init 12 = .ok (.putfield 10, 3) := by decide +kernel
theorem dX7_init_15 : decode cX7_init 15 = .ok (.aload_n 0, 1) := by decide +kernel
theorem dX7_init_16 : decode cX7_init 16 = .ok (.new 7, 3) := by decide +kernel
theorem dX7_init_19 : decode cX7_init 19 = .ok (.dup, 1) := by decide +kernel
theorem dX7_init_20 : decode cX7_init 20 = .ok (.invokespecial 9, 3) := by decide +kernel
theorem dX7_init_23 : decode cX7_init 23 = .ok (.putfield 16, 3) := by decide +kernel
theorem dX7_init_26 : decode cX7_init 26 = .ok (.aload_n 0, 1) := by decide +kernel
theorem dX7_init_27 : decode cX7_init 27 = .ok (.new 19, 3) := by decide +kernel
theorem dX7_init_30 : decode cX7_init 30 = .ok (.dup, 1) := by decide +kernel
theorem dX7_init_31 : decode cX7_init 31 = .ok (.invokespecial 21, 3) := by decide +kernel
theorem dX7_init_34 : decode cX7_init 34 = .ok (.putfield 22, 3) := by decide +kernel
theorem dX7_init_37 : decode cX7_init 37 = .ok (.aload_n 0, 1) := by decide +kernel
theorem dX7_init_38 : decode cX7_init 38 = .ok (.new 26, 3) := by decide +kernel
theorem dX7_init_41 : decode cX7_init 41 = .ok (.dup, 1) := by decide +kernel
theorem dX7_init_42 : decode cX7_init 42 = .ok (.invokespecial 28, 3) := by decide +kernel
theorem dX7_init_45 : decode cX7_init 45 = .ok (.putfield 29, 3) := by decide +kernel
theorem dX7_init_48 : decode cX7_init 48 = .ok (.aload_n 0, 1) := by decide +kernel
theorem dX7_init_49 : decode cX7_init 49 = .ok (.new 33, 3) := by decide +kernel
theorem dX7_init_52 : decode cX7_init 52 = .ok (.dup, 1) := by decide +kernel
theorem dX7_init_53 : decode cX7_init 53 = .ok (.invokespecial 35, 3) := by decide +kernel
theorem dX7_init_56 : decode cX7_init 56 = .ok (.putfield 36, 3) := by decide +kernel
theorem dX7_init_59 : decode cX7_init 59 = .ok (.aload_n 0, 1) := by decide +kernel
theorem dX7_init_60 : decode cX7_init 60 = .ok (.new 40, 3) := by decide +kernel
theorem dX7_init_63 : decode cX7_init 63 = .ok (.dup, 1) := by decide +kernel
theorem dX7_init_64 : decode cX7_init 64 = .ok (.invokespecial 42, 3) := by decide +kernel
theorem dX7_init_67 : decode cX7_init 67 = .ok (.putfield 43, 3) := by decide +kernel
theorem dX7_init_70 : decode cX7_init 70 = .ok (.aload_n 0, 1) := by decide +kernel
theorem dX7_init_71 : decode cX7_init 71 = .ok (.new 47, 3) := by decide +kernel
theorem dX7_init_74 : decode cX7_init 74 = .ok (.dup, 1) := by decide +kernel
theorem dX7_init_75 : decode cX7_init 75 = .ok (.invokespecial 49, 3) := by decide +kernel
theorem dX7_init_78 : decode cX7_init 78 = .ok (.putfield 50, 3) := by decide +kernel
theorem dX7_init_81 : decode cX7_init 81 = .ok (.aload_n 0, 1) := by decide +kernel
theorem dX7_init_82 : decode cX7_init 82 = .ok (.iconst 2, 1) := by decide +kernel
theorem dX7_init_83 : decode cX7_init 83 = .ok (.anewarray 7, 3) := by decide +kernel
theorem dX7_init_86 : decode cX7_init 86 = .ok (.putfield 54, 3) := by decide +kernel
theorem dX7_init_89 : decode cX7_init 89 = .ok (.iconst 0, 1) := by decide +kernel
theorem dX7_init_90 : decode cX7_init 90 = .ok (.istore_n 1, 1) := by decide +kernel
theorem dX7_init_91 : decode cX7_init 91 = .ok (.iload_n 1, 1) := by decide +kernel
theorem dX7_init_92 : decode cX7_init 92 = .ok (.iconst 2, 1) := by decide +kernel
theorem dX7_init_93 : decode cX7_init 93 = .ok (.if_icmp .ge 22, 3) := by decide +kernel
theorem dX7_init_96 : decode cX7_init 96 = .ok (.aload_n 0, 1) := by decide +kernel
theorem dX7_init_97 : decode cX7_init 97 = .ok (.getfield 54, 3) := by decide +kernel
theorem dX7_init_100 : decode cX7_init 100 = .ok (.iload_n 1, 1) := by decide +kernel
theorem dX7_init_101 : decode cX7_init 101 = .ok (.new 7, 3) := by decide +kernel
theorem dX7_init_104 : decode cX7_init 104 = .ok (.dup, 1) := by decide +kernel
theorem dX7_init_105 : decode cX7_init 105 = .ok (.invokespecial 9, 3) := by decide +kernel
theorem dX7_init_108 : decode cX7_init 108 = .ok (.aastore, 1) := by decide +kernel
theorem dX7_init_109 : decode cX7_init 109 = .ok (.iinc 1 1, 3) := by decide +kernel
theorem dX7_init_112 : decode cX7_init 112 = .ok (.goto (-21), 3) := by decide +kernel
theorem dX7_init_115 : decode cX7_init 115 = .ok (.aload_n 0, 1) := by decide +kernel
theorem dX7_init_116 : decode cX7_init 116 = .ok (.iconst 2, 1) := by decide +kernel
theorem dX7_init_117 : decode cX7_init 117 = .ok (.newarray .int, 2) := by decide +kernel
theorem dX7_init_119 : decode cX7_init 119 = .ok (.putfield 58, 3) := by decide +kernel
theorem dX7_init_122 : decode cX7_init 122 = .ok (.aload_n 0, 1) := by decide +kernel
theorem dX7_init_123 : decode cX7_init 123 = .ok (.iconst 2, 1) := by decide +kernel
theorem dX7_init_124 : decode cX7_init 124 = .ok (.newarray .boolean, 2) := by decide +kernel
theorem dX7_init_126 : decode cX7_init 126 = .ok (.putfield 62, 3) := by decide +kernel
theorem dX7_init_129 : decode cX7_init 129 = .ok (.return_, 1) := by decide +kernel
theorem dX7_feed_0 : decode cX7_feed 0 = .ok (.iload_n 1, 1) := by decide +kernel
theorem dX7_feed_1 : decode cX7_feed 1 = .ok (.iconst 0, 1) := by decide +kernel
theorem dX7_feed_2 : decode cX7_feed 2 = .ok (.sipush 255, 3) := by decide +kernel
theorem dX7_feed_5 : decode cX7_feed 5 = .ok (.invokestatic 66, 3) := by decide +kernel
theorem dX7_feed_8 : decode cX7_feed 8 = .ok (.ifCond .ne 6, 3) := by decide +kernel
theorem dX7_feed_11 : decode cX7_feed 11 = .ok (.ldc 70, 2) := by decide +kernel
theorem dX7_feed_13 : decode cX7_feed 13 = .ok (.ireturn, 1) := by decide +kernel
theorem dX7_feed_14 : decode cX7_feed 14 = .ok (.aload_n 0, 1) := by decide +kernel
theorem dX7_feed_15 : decode cX7_feed 15 = .ok (.getfield 22, 3) := by decide +kernel
theorem dX7_feed_18 : decode cX7_feed 18 = .ok (.getfield 71, 3) := by decide +kernel
theorem dX7_feed_21 : decode cX7_feed 21 = .ok (.sipush 200, 3) := by decide +kernel
theorem dX7_feed_24 : decode cX7_feed 24 = .ok (.if_icmp .lt 6, 3) := by decide +kernel
theorem dX7_feed_27 : decode cX7_feed 27 = .ok (.ldc 75, 2) := by decide +kernel
theorem dX7_feed_29 : decode cX7_feed 29 = .ok (.ireturn, 1) := by decide +kernel
theorem dX7_feed_30 : decode cX7_feed 30 = .ok (.aload_n 0, 1) := by decide +kernel
theorem dX7_feed_31 : decode cX7_feed 31 = .ok (.getfield 22, 3) := by decide +kernel
theorem dX7_feed_34 : decode cX7_feed 34 = .ok (.iload_n 1, 1) := by decide +kernel
theorem dX7_feed_35 : decode cX7_feed 35 = .ok (.invokevirtual 76, 3) := by decide +kernel
theorem dX7_feed_38 : decode cX7_feed 38 = .ok (.ireturn, 1) := by decide +kernel
theorem dX7_clocks_0 : decode cX7_clocks 0 = .ok (.aload_n 0, 1) := by decide +kernel
theorem dX7_clocks_1 : decode cX7_clocks 1 = .ok (.getfield 22, 3) := by decide +kernel
theorem dX7_clocks_4 : decode cX7_clocks 4 = .ok (.aload_n 0, 1) := by decide +kernel
theorem dX7_clocks_5 : decode cX7_clocks 5 = .ok (.getfield 16, 3) := by decide +kernel
theorem dX7_clocks_8 : decode cX7_clocks 8 = .ok (.invokevirtual 80, 3) := by decide +kernel
theorem dX7_clocks_11 : decode cX7_clocks 11 = .ok (.istore_n 1, 1) := by decide +kernel
theorem dX7_clocks_12 : decode cX7_clocks 12 = .ok (.iload_n 1, 1) := by decide +kernel
theorem dX7_clocks_13 : decode cX7_clocks 13 = .ok (.ifCond .eq 8, 3) := by decide +kernel
theorem dX7_clocks_16 : decode cX7_clocks 16 = .ok (.bipush (-10), 2) := by decide +kernel
theorem dX7_clocks_18 : decode cX7_clocks 18 = .ok (.iload_n 1, 1) := by decide +kernel
theorem dX7_clocks_19 : decode cX7_clocks 19 = .ok (.isub, 1) := by decide +kernel
theorem dX7_clocks_20 : decode cX7_clocks 20 = .ok (.ireturn, 1) := by decide +kernel
theorem dX7_clocks_21 : decode cX7_clocks 21 = .ok (.aload_n 0, 1) := by decide +kernel
theorem dX7_clocks_22 : decode cX7_clocks 22 = .ok (.getfield 10, 3) := by decide +kernel
theorem dX7_clocks_25 : decode cX7_clocks 25 = .ok (.aload_n 0, 1) := by decide +kernel
theorem dX7_clocks_26 : decode cX7_clocks 26 = .ok (.getfield 16, 3) := by decide +kernel
theorem dX7_clocks_29 : decode cX7_clocks 29 = .ok (.invokevirtual 84, 3) := by decide +kernel
theorem dX7_clocks_32 : decode cX7_clocks 32 = .ok (.aload_n 0, 1) := by decide +kernel
theorem dX7_clocks_33 : decode cX7_clocks 33 = .ok (.getfield 36, 3) := by decide +kernel
theorem dX7_clocks_36 : decode cX7_clocks 36 = .ok (.invokevirtual 88, 3) := by decide +kernel
theorem dX7_clocks_39 : decode cX7_clocks 39 = .ok (.aload_n 0, 1) := by decide +kernel
theorem dX7_clocks_40 : decode cX7_clocks 40 = .ok (.getfield 43, 3) := by decide +kernel
theorem dX7_clocks_43 : decode cX7_clocks 43 = .ok (.iconst 0, 1) := by decide +kernel
theorem dX7_clocks_44 : decode cX7_clocks 44 = .ok (.putfield 91, 3) := by decide +kernel
theorem dX7_clocks_47 : decode cX7_clocks 47 = .ok (.iconst 0, 1) := by decide +kernel
theorem dX7_clocks_48 : decode cX7_clocks 48 = .ok (.istore_n 2, 1) := by decide +kernel
theorem dX7_clocks_49 : decode cX7_clocks 49 = .ok (.iload_n 2, 1) := by decide +kernel
theorem dX7_clocks_50 : decode cX7_clocks 50 = .ok (.iconst 2, 1) := by decide +kernel
theorem dX7_clocks_51 : decode cX7_clocks 51 = .ok (.if_icmp .ge 16, 3) := by decide +kernel
theorem dX7_clocks_54 : decode cX7_clocks 54 = .ok (.aload_n 0, 1) := by decide +kernel
theorem dX7_clocks_55 : decode cX7_clocks 55 = .ok (.getfield 62, 3) := by decide +kernel
theorem dX7_clocks_58 : decode cX7_clocks 58 = .ok (.iload_n 2, 1) := by decide +kernel
theorem dX7_clocks_59 : decode cX7_clocks 59 = .ok (.iconst 0, 1) := by decide +kernel
theorem dX7_clocks_60 : decode cX7_clocks 60 = .ok (.bastore, 1) := by decide +kernel
theorem dX7_clocks_61 : decode cX7_clocks 61 = .ok (.iinc 2 1, 3) := by decide +kernel
theorem dX7_clocks_64 : decode cX7_clocks 64 = .ok (.goto (-15), 3) := by decide +kernel
theorem dX7_clocks_67 : decode cX7_clocks 67 = .ok (.aload_n 0, 1) := by decide +kernel
theorem dX7_clocks_68 : decode cX7_clocks 68 = .ok (.getfield 10, 3) := by decide +kernel
theorem dX7_clocks_71 : decode cX7_clocks 71 = .ok (.getfield 94, 3) := by decide +kernel
theorem dX7_clocks_74 : decode cX7_clocks 74 = .ok (.ireturn, 1) := by decide +kernel
theorem dX7_fault_0 : decode cX7_fault 0 = .ok (.aload_n 0, 1) := by decide +kernel
theorem dX7_fault_1 : decode cX7_fault 1 = .ok (.getfield 22, 3) := by decide +kernel
theorem dX7_fault_4 : decode cX7_fault 4 = .ok (.getfield 97, 3) := by decide +kernel
theorem dX7_fault_7 : decode cX7_fault 7 = .ok (.ireturn, 1) := by decide +kernel
theorem dX7_told_0 : decode cX7_told 0 = .ok (.iload_n 1, 1) := by decide +kernel
theorem dX7_told_1 : decode cX7_told 1 = .ok (.tableswitch 215 0 15 #[79, 87, 95, 103, 111, 119, 127, 135, 143, 155, 163, 171, 179, 187, 195, 207], 79) := by decide +kernel
theorem dX7_told_80 : decode cX7_told 80 = .ok (.aload_n 0, 1) := by decide +kernel
theorem dX7_told_81 : decode cX7_told 81 = .ok (.getfield 10, 3) := by decide +kernel
theorem dX7_told_84 : decode cX7_told 84 = .ok (.getfield 94, 3) := by decide +kernel
theorem dX7_told_87 : decode cX7_told 87 = .ok (.ireturn, 1) := by decide +kernel
theorem dX7_told_88 : decode cX7_told 88 = .ok (.aload_n 0, 1) := by decide +kernel
theorem dX7_told_89 : decode cX7_told 89 = .ok (.getfield 10, 3) := by decide +kernel
theorem dX7_told_92 : decode cX7_told 92 = .ok (.getfield 100, 3) := by decide +kernel
theorem dX7_told_95 : decode cX7_told 95 = .ok (.ireturn, 1) := by decide +kernel
theorem dX7_told_96 : decode cX7_told 96 = .ok (.aload_n 0, 1) := by decide +kernel
theorem dX7_told_97 : decode cX7_told 97 = .ok (.getfield 10, 3) := by decide +kernel
theorem dX7_told_100 : decode cX7_told 100 = .ok (.getfield 103, 3) := by decide +kernel
theorem dX7_told_103 : decode cX7_told 103 = .ok (.ireturn, 1) := by decide +kernel
theorem dX7_told_104 : decode cX7_told 104 = .ok (.aload_n 0, 1) := by decide +kernel
theorem dX7_told_105 : decode cX7_told 105 = .ok (.getfield 22, 3) := by decide +kernel
theorem dX7_told_108 : decode cX7_told 108 = .ok (.getfield 71, 3) := by decide +kernel
theorem dX7_told_111 : decode cX7_told 111 = .ok (.ireturn, 1) := by decide +kernel
theorem dX7_told_112 : decode cX7_told 112 = .ok (.aload_n 0, 1) := by decide +kernel
theorem dX7_told_113 : decode cX7_told 113 = .ok (.getfield 10, 3) := by decide +kernel
theorem dX7_told_116 : decode cX7_told 116 = .ok (.getfield 106, 3) := by decide +kernel
theorem dX7_told_119 : decode cX7_told 119 = .ok (.ireturn, 1) := by decide +kernel
theorem dX7_told_120 : decode cX7_told 120 = .ok (.aload_n 0, 1) := by decide +kernel
theorem dX7_told_121 : decode cX7_told 121 = .ok (.getfield 10, 3) := by decide +kernel
theorem dX7_told_124 : decode cX7_told 124 = .ok (.getfield 109, 3) := by decide +kernel
theorem dX7_told_127 : decode cX7_told 127 = .ok (.ireturn, 1) := by decide +kernel
theorem dX7_told_128 : decode cX7_told 128 = .ok (.aload_n 0, 1) := by decide +kernel
theorem dX7_told_129 : decode cX7_told 129 = .ok (.getfield 10, 3) := by decide +kernel
theorem dX7_told_132 : decode cX7_told 132 = .ok (.invokevirtual 112, 3) := by decide +kernel
theorem dX7_told_135 : decode cX7_told 135 = .ok (.ireturn, 1) := by decide +kernel
theorem dX7_told_136 : decode cX7_told 136 = .ok (.aload_n 0, 1) := by decide +kernel
theorem dX7_told_137 : decode cX7_told 137 = .ok (.getfield 10, 3) := by decide +kernel
theorem dX7_told_140 : decode cX7_told 140 = .ok (.invokevirtual 116, 3) := by decide +kernel
theorem dX7_told_143 : decode cX7_told 143 = .ok (.ireturn, 1) := by decide +kernel
theorem dX7_told_144 : decode cX7_told 144 = .ok (.aload_n 0, 1) := by decide +kernel
theorem dX7_told_145 : decode cX7_told 145 = .ok (.getfield 29, 3) := by decide +kernel
theorem dX7_told_148 : decode cX7_told 148 = .ok (.aload_n 0, 1) := by decide +kernel
theorem dX7_told_149 : decode cX7_told 149 = .ok (.getfield 10, 3) := by decide +kernel
theorem dX7_told_152 : decode cX7_told 152 = .ok (.invokevirtual 119, 3) := by decide +kernel
theorem dX7_told_155 : decode cX7_told 155 = .ok (.ireturn, 1) := by decide +kernel
theorem dX7_told_156 : decode cX7_told 156 = .ok (.aload_n 0, 1) := by decide +kernel
theorem dX7_told_157 : decode cX7_told 157 = .ok (.getfield 10, 3) := by decide +kernel
theorem dX7_told_160 : decode cX7_told 160 = .ok (.invokevirtual 122, 3) := by decide +kernel
theorem dX7_told_163 : decode cX7_told 163 = .ok (.ireturn, 1) := by decide +kernel
theorem dX7_told_164 : decode cX7_told 164 = .ok (.aload_n 0, 1) := by decide +kernel
theorem dX7_told_165 : decode cX7_told 165 = .ok (.getfield 10, 3) := by decide +kernel
theorem dX7_told_168 : decode cX7_told 168 = .ok (.getfield 125, 3) := by decide +kernel
theorem dX7_told_171 : decode cX7_told 171 = .ok (.ireturn, 1) := by decide +kernel
theorem dX7_told_172 : decode cX7_told 172 = .ok (.aload_n 0, 1) := by decide +kernel
theorem dX7_told_173 : decode cX7_told 173 = .ok (.getfield 10, 3) := by decide +kernel
theorem dX7_told_176 : decode cX7_told 176 = .ok (.getfield 128, 3) := by decide +kernel
theorem dX7_told_179 : decode cX7_told 179 = .ok (.ireturn, 1) := by decide +kernel
theorem dX7_told_180 : decode cX7_told 180 = .ok (.aload_n 0, 1) := by decide +kernel
theorem dX7_told_181 : decode cX7_told 181 = .ok (.getfield 10, 3) := by decide +kernel
theorem dX7_told_184 : decode cX7_told 184 = .ok (.getfield 131, 3) := by decide +kernel
theorem dX7_told_187 : decode cX7_told 187 = .ok (.ireturn, 1) := by decide +kernel
theorem dX7_told_188 : decode cX7_told 188 = .ok (.aload_n 0, 1) := by decide +kernel
theorem dX7_told_189 : decode cX7_told 189 = .ok (.getfield 43, 3) := by decide +kernel
theorem dX7_told_192 : decode cX7_told 192 = .ok (.getfield 91, 3) := by decide +kernel
theorem dX7_told_195 : decode cX7_told 195 = .ok (.ireturn, 1) := by decide +kernel
theorem dX7_told_196 : decode cX7_told 196 = .ok (.aload_n 0, 1) := by decide +kernel
theorem dX7_told_197 : decode cX7_told 197 = .ok (.getfield 43, 3) := by decide +kernel
theorem dX7_told_200 : decode cX7_told 200 = .ok (.aload_n 0, 1) := by decide +kernel
theorem dX7_told_201 : decode cX7_told 201 = .ok (.getfield 10, 3) := by decide +kernel
theorem dX7_told_204 : decode cX7_told 204 = .ok (.invokevirtual 134, 3) := by decide +kernel
theorem dX7_told_207 : decode cX7_told 207 = .ok (.ireturn, 1) := by decide +kernel
theorem dX7_told_208 : decode cX7_told 208 = .ok (.aload_n 0, 1) := by decide +kernel
theorem dX7_told_209 : decode cX7_told 209 = .ok (.getfield 36, 3) := by decide +kernel
theorem dX7_told_212 : decode cX7_told 212 = .ok (.getfield 137, 3) := by decide +kernel
theorem dX7_told_215 : decode cX7_told 215 = .ok (.ireturn, 1) := by decide +kernel
theorem dX7_told_216 : decode cX7_told 216 = .ok (.ldc 70, 2) := by decide +kernel
theorem dX7_told_218 : decode cX7_told 218 = .ok (.ireturn, 1) := by decide +kernel
theorem dX7_clock_0 : decode cX7_clock 0 = .ok (.aload_n 0, 1) := by decide +kernel
theorem dX7_clock_1 : decode cX7_clock 1 = .ok (.getfield 10, 3) := by decide +kernel
theorem dX7_clock_4 : decode cX7_clock 4 = .ok (.iload_n 1, 1) := by decide +kernel
theorem dX7_clock_5 : decode cX7_clock 5 = .ok (.invokevirtual 138, 3) := by decide +kernel
theorem dX7_clock_8 : decode cX7_clock 8 = .ok (.ifCond .ne 6, 3) := by decide +kernel
theorem dX7_clock_11 : decode cX7_clock 11 = .ok (.ldc 142, 2) := by decide +kernel
theorem dX7_clock_13 : decode cX7_clock 13 = .ok (.ireturn, 1) := by decide +kernel
theorem dX7_clock_14 : decode cX7_clock 14 = .ok (.iload_n 2, 1) := by decide +kernel
theorem dX7_clock_15 : decode cX7_clock 15 = .ok (.tableswitch 161 0 6 #[41, 51, 61, 74, 86, 103, 120], 41) := by decide +kernel
theorem dX7_clock_56 : decode cX7_clock 56 = .ok (.aload_n 0, 1) := by decide +kernel
theorem dX7_clock_57 : decode cX7_clock 57 = .ok (.getfield 10, 3) := by decide +kernel
theorem dX7_clock_60 : decode cX7_clock 60 = .ok (.getfield 143, 3) := by decide +kernel
theorem dX7_clock_63 : decode cX7_clock 63 = .ok (.iload_n 1, 1) := by decide +kernel
theorem dX7_clock_64 : decode cX7_clock 64 = .ok (.iaload, 1) := by decide +kernel
theorem dX7_clock_65 : decode cX7_clock 65 = .ok (.ireturn, 1) := by decide +kernel
theorem dX7_clock_66 : decode cX7_clock 66 = .ok (.aload_n 0, 1) := by decide +kernel
theorem dX7_clock_67 : decode cX7_clock 67 = .ok (.getfield 10, 3) := by decide +kernel
theorem dX7_clock_70 : decode cX7_clock 70 = .ok (.getfield 146, 3) := by decide +kernel
theorem dX7_clock_73 : decode cX7_clock 73 = .ok (.iload_n 1, 1) := by decide +kernel
theorem dX7_clock_74 : decode cX7_clock 74 = .ok (.iaload, 1) := by decide +kernel
theorem dX7_clock_75 : decode cX7_clock 75 = .ok (.ireturn, 1) := by decide +kernel
theorem dX7_clock_76 : decode cX7_clock 76 = .ok (.aload_n 0, 1) := by decide +kernel
theorem dX7_clock_77 : decode cX7_clock 77 = .ok (.getfield 10, 3) := by decide +kernel
theorem dX7_clock_80 : decode cX7_clock 80 = .ok (.getfield 149, 3) := by decide +kernel
theorem dX7_clock_83 : decode cX7_clock 83 = .ok (.iload_n 1, 1) := by decide +kernel
theorem dX7_clock_84 : decode cX7_clock 84 = .ok (.iaload, 1) := by decide +kernel
theorem dX7_clock_85 : decode cX7_clock 85 = .ok (.ldc 152, 2) := by decide +kernel
theorem dX7_clock_87 : decode cX7_clock 87 = .ok (.iadd, 1) := by decide +kernel
theorem dX7_clock_88 : decode cX7_clock 88 = .ok (.ireturn, 1) := by decide +kernel
theorem dX7_clock_89 : decode cX7_clock 89 = .ok (.aload_n 0, 1) := by decide +kernel
theorem dX7_clock_90 : decode cX7_clock 90 = .ok (.getfield 10, 3) := by decide +kernel
theorem dX7_clock_93 : decode cX7_clock 93 = .ok (.iload_n 1, 1) := by decide +kernel
theorem dX7_clock_94 : decode cX7_clock 94 = .ok (.invokevirtual 153, 3) := by decide +kernel
theorem dX7_clock_97 : decode cX7_clock 97 = .ok (.ldc 152, 2) := by decide +kernel
theorem dX7_clock_99 : decode cX7_clock 99 = .ok (.iadd, 1) := by decide +kernel
theorem dX7_clock_100 : decode cX7_clock 100 = .ok (.ireturn, 1) := by decide +kernel
theorem dX7_clock_101 : decode cX7_clock 101 = .ok (.aload_n 0, 1) := by decide +kernel
theorem dX7_clock_102 : decode cX7_clock 102 = .ok (.getfield 10, 3) := by decide +kernel
theorem dX7_clock_105 : decode cX7_clock 105 = .ok (.iload_n 1, 1) := by decide +kernel
theorem dX7_clock_106 : decode cX7_clock 106 = .ok (.invokevirtual 156, 3) := by decide +kernel
theorem dX7_clock_109 : decode cX7_clock 109 = .ok (.ifCond .eq 7, 3) := by decide +kernel
theorem dX7_clock_112 : decode cX7_clock 112 = .ok (.iconst 1, 1) := by decide +kernel
theorem dX7_clock_113 : decode cX7_clock 113 = .ok (.goto 4, 3) := by decide +kernel
theorem dX7_clock_116 : decode cX7_clock 116 = .ok (.iconst 0, 1) := by decide +kernel
theorem dX7_clock_117 : decode cX7_clock 117 = .ok (.ireturn, 1) := by decide +kernel
theorem dX7_clock_118 : decode cX7_clock 118 = .ok (.aload_n 0, 1) := by decide +kernel
theorem dX7_clock_119 : decode cX7_clock 119 = .ok (.getfield 10, 3) := by decide +kernel
theorem dX7_clock_122 : decode cX7_clock 122 = .ok (.iload_n 1, 1) := by decide +kernel
theorem dX7_clock_123 : decode cX7_clock 123 = .ok (.invokevirtual 159, 3) := by decide +kernel
theorem dX7_clock_126 : decode cX7_clock 126 = .ok (.ifCond .eq 7, 3) := by decide +kernel
theorem dX7_clock_129 : decode cX7_clock 129 = .ok (.iconst 1, 1) := by decide +kernel
theorem dX7_clock_130 : decode cX7_clock 130 = .ok (.goto 4, 3) := by decide +kernel
theorem dX7_clock_133 : decode cX7_clock 133 = .ok (.iconst 0, 1) := by decide +kernel
theorem dX7_clock_134 : decode cX7_clock 134 = .ok (.ireturn, 1) := by decide +kernel
theorem dX7_clock_135 : decode cX7_clock 135 = .ok (.aload_n 0, 1) := by decide +kernel
theorem dX7_clock_136 : decode cX7_clock 136 = .ok (.getfield 10, 3) := by decide +kernel
theorem dX7_clock_139 : decode cX7_clock 139 = .ok (.iload_n 1, 1) := by decide +kernel
theorem dX7_clock_140 : decode cX7_clock 140 = .ok (.invokevirtual 162, 3) := by decide +kernel
theorem dX7_clock_143 : decode cX7_clock 143 = .ok (.ifCond .eq 31, 3) := by decide +kernel
theorem dX7_clock_146 : decode cX7_clock 146 = .ok (.aload_n 0, 1) := by decide +kernel
theorem dX7_clock_147 : decode cX7_clock 147 = .ok (.getfield 10, 3) := by decide +kernel
theorem dX7_clock_150 : decode cX7_clock 150 = .ok (.invokevirtual 165, 3) := by decide +kernel
theorem dX7_clock_153 : decode cX7_clock 153 = .ok (.ifCond .ne 21, 3) := by decide +kernel
theorem dX7_clock_156 : decode cX7_clock 156 = .ok (.aload_n 0, 1) := by decide +kernel
theorem dX7_clock_157 : decode cX7_clock 157 = .ok (.getfield 29, 3) := by decide +kernel
theorem dX7_clock_160 : decode cX7_clock 160 = .ok (.aload_n 0, 1) := by decide +kernel
theorem dX7_clock_161 : decode cX7_clock 161 = .ok (.getfield 10, 3) := by decide +kernel
theorem dX7_clock_164 : decode cX7_clock 164 = .ok (.iload_n 1, 1) := by decide +kernel
theorem dX7_clock_165 : decode cX7_clock 165 = .ok (.invokevirtual 169, 3) := by decide +kernel
theorem dX7_clock_168 : decode cX7_clock 168 = .ok (.ldc 152, 2) := by decide +kernel
theorem dX7_clock_170 : decode cX7_clock 170 = .ok (.iadd, 1) := by decide +kernel
theorem dX7_clock_171 : decode cX7_clock 171 = .ok (.goto 4, 3) := by decide +kernel
theorem dX7_clock_174 : decode cX7_clock 174 = .ok (.iconst (-1), 1) := by decide +kernel
theorem dX7_clock_175 : decode cX7_clock 175 = .ok (.ireturn, 1) := by decide +kernel
theorem dX7_clock_176 : decode cX7_clock 176 = .ok (.ldc 70, 2) := by decide +kernel
theorem dX7_clock_178 : decode cX7_clock 178 = .ok (.ireturn, 1) := by decide +kernel
