theorem dX0_init_0 : decode cX0_init 0 = .ok (.aload_n 0, 1) := by decide +kernel
theorem dX0_init_1 : decode cX0_init 1 = .ok (.invokespecial 3, 3) := by decide +kernel
theorem dX0_init_4 : decode cX0_init 4 = .ok (.aload_n 0, 1) := by decide +kernel
theorem dX0_init_5 : decode cX0_init 5 = .ok (.bipush 20, 2) := by decide +kernel
theorem dX0_init_7 : decode cX0_init 7 = .ok (.newarray .int, 2) := by decide +kernel
theorem dX0_init_9 : decode cX0_init 9 = .ok (.putfield 9, 3) := by decide +kernel
theorem dX0_init_12 : decode cX0_init 12 = .ok (.aload_n 0, 1) := by decide +kernel
theorem dX0_init_13 : decode cX0_init 13 = .ok (.bipush 20, 2) := by decide +kernel
theorem dX0_init_15 : decode cX0_init 15 = .ok (.newarray .int, 2) := by decide +kernel
theorem dX0_init_17 : decode cX0_init 17 = .ok (.putfield 15, 3) := by decide +kernel
theorem dX0_init_20 : decode cX0_init 20 = .ok (.return_, 1) := by decide +kernel
theorem dX0_append_0 : decode cX0_append 0 = .ok (.aload_n 0, 1) := by decide +kernel
theorem dX0_append_1 : decode cX0_append 1 = .ok (.getfield 18, 3) := by decide +kernel
theorem dX0_append_4 : decode cX0_append 4 = .ok (.bipush 20, 2) := by decide +kernel
theorem dX0_append_6 : decode cX0_append 6 = .ok (.if_icmp .ge 33, 3) := by decide +kernel
theorem dX0_append_9 : decode cX0_append 9 = .ok (.aload_n 0, 1) := by decide +kernel
theorem dX0_append_10 : decode cX0_append 10 = .ok (.getfield 9, 3) := by decide +kernel
theorem dX0_append_13 : decode cX0_append 13 = .ok (.aload_n 0, 1) := by decide +kernel
theorem dX0_append_14 : decode cX0_append 14 = .ok (.getfield 18, 3) := by decide +kernel
theorem dX0_append_17 : decode cX0_append 17 = .ok (.iload_n 1, 1) := by decide +kernel
theorem dX0_append_18 : decode cX0_append 18 = .ok (.iastore, 1) := by decide +kernel
theorem dX0_append_19 : decode cX0_append 19 = .ok (.aload_n 0, 1) := by decide +kernel
theorem dX0_append_20 : decode cX0_append 20 = .ok (.getfield 15, 3) := by decide +kernel
theorem dX0_append_23 : decode cX0_append 23 = .ok (.aload_n 0, 1) := by decide +kernel
theorem dX0_append_24 : decode cX0_append 24 = .ok (.getfield 18, 3) := by decide +kernel
theorem dX0_append_27 : decode cX0_append 27 = .ok (.iload_n 2, 1) := by decide +kernel
theorem dX0_append_28 : decode cX0_append 28 = .ok (.iastore, 1) := by decide +kernel
theorem dX0_append_29 : decode cX0_append 29 = .ok (.aload_n 0, 1) := by decide +kernel
theorem dX0_append_30 : decode cX0_append 30 = .ok (.dup, 1) := by decide +kernel
theorem dX0_append_31 : decode cX0_append 31 = .ok (.getfield 18, 3) := by decide +kernel
theorem dX0_append_34 : decode cX0_append 34 = .ok (.iconst 1, 1) := by decide +kernel
theorem dX0_append_35 : decode cX0_append 35 = .ok (.iadd, 1) := by decide +kernel
theorem dX0_append_36 : decode cX0_append 36 = .ok (.putfield 18, 3) := by decide +kernel
theorem dX0_append_39 : decode cX0_append 39 = .ok (.aload_n 0, 1) := by decide +kernel
theorem dX0_append_40 : decode cX0_append 40 = .ok (.getfield 18, 3) := by decide +kernel
theorem dX0_append_43 : decode cX0_append 43 = .ok (.ireturn, 1) := by decide +kernel
theorem dX0_firstWrong_0 : decode cX0_firstWrong 0 = .ok (.iconst 0, 1) := by decide +kernel
theorem dX0_firstWrong_1 : decode cX0_firstWrong 1 = .ok (.istore_n 2, 1) := by decide +kernel
theorem dX0_firstWrong_2 : decode cX0_firstWrong 2 = .ok (.iload_n 2, 1) := by decide +kernel
theorem dX0_firstWrong_3 : decode cX0_firstWrong 3 = .ok (.aload_n 0, 1) := by decide +kernel
theorem dX0_firstWrong_4 : decode cX0_firstWrong 4 = .ok (.getfield 18, 3) := by decide +kernel
theorem dX0_firstWrong_7 : decode cX0_firstWrong 7 = .ok (.if_icmp .ge 43, 3) := by decide +kernel
theorem dX0_firstWrong_10 : decode cX0_firstWrong 10 = .ok (.aload_n 1, 1) := by decide +kernel
theorem dX0_firstWrong_11 : decode cX0_firstWrong 11 = .ok (.aload_n 0, 1) := by decide +kernel
theorem dX0_firstWrong_12 : decode cX0_firstWrong 12 = .ok (.getfield 9, 3) := by decide +kernel
theorem dX0_firstWrong_15 : decode cX0_firstWrong 15 = .ok (.iload_n 2, 1) := by decide +kernel
theorem dX0_firstWrong_16 : decode cX0_firstWrong 16 = .ok (.iaload, 1) := by decide +kernel
theorem dX0_firstWrong_17 : decode cX0_firstWrong 17 = .ok (.invokevirtual 22, 3) := by decide +kernel
theorem dX0_firstWrong_20 : decode cX0_firstWrong 20 = .ok (.ifCond .eq 22, 3) := by decide +kernel
theorem dX0_firstWrong_23 : decode cX0_firstWrong 23 = .ok (.aload_n 1, 1) := by decide +kernel
theorem dX0_firstWrong_24 : decode cX0_firstWrong 24 = .ok (.aload_n 0, 1) := by decide +kernel
theorem dX0_firstWrong_25 : decode cX0_firstWrong 25 = .ok (.getfield 9, 3) := by decide +kernel
theorem dX0_firstWrong_28 : decode cX0_firstWrong 28 = .ok (.iload_n 2, 1) := by decide +kernel
theorem dX0_firstWrong_29 : decode cX0_firstWrong 29 = .ok (.iaload, 1) := by decide +kernel
theorem dX0_firstWrong_30 : decode cX0_firstWrong 30 = .ok (.invokevirtual 28, 3) := by decide +kernel
theorem dX0_firstWrong_33 : decode cX0_firstWrong 33 = .ok (.aload_n 0, 1) := by decide +kernel
theorem dX0_firstWrong_34 : decode cX0_firstWrong 34 = .ok (.getfield 15, 3) := by decide +kernel
theorem dX0_firstWrong_37 : decode cX0_firstWrong 37 = .ok (.iload_n 2, 1) := by decide +kernel
theorem dX0_firstWrong_38 : decode cX0_firstWrong 38 = .ok (.iaload, 1) := by decide +kernel
theorem dX0_firstWrong_39 : decode cX0_firstWrong 39 = .ok (.if_icmp .eq 5, 3) := by decide +kernel
theorem dX0_firstWrong_42 : decode cX0_firstWrong 42 = .ok (.iload_n 2, 1) := by decide +kernel
theorem dX0_firstWrong_43 : decode cX0_firstWrong 43 = .ok (.ireturn, 1) := by decide +kernel
theorem dX0_firstWrong_44 : decode cX0_firstWrong 44 = .ok (.iinc 2 1, 3) := by decide +kernel
theorem dX0_firstWrong_47 : decode cX0_firstWrong 47 = .ok (.goto (-45), 3) := by decide +kernel
theorem dX0_firstWrong_50 : decode cX0_firstWrong 50 = .ok (.iconst (-1), 1) := by decide +kernel
theorem dX0_firstWrong_51 : decode cX0_firstWrong 51 = .ok (.ireturn, 1) := by decide +kernel
theorem dX1_init_0 : decode cX1_init 0 = .ok (.aload_n 0, 1) := by decide +kernel
theorem dX1_init_1 : decode cX1_init 1 = .ok (.invokespecial 3, 3) := by decide +kernel
theorem dX1_init_4 : decode cX1_init 4 = .ok (.aload_n 0, 1) := by decide +kernel
theorem dX1_init_5 : decode cX1_init 5 = .ok (.new 9, 3) := by decide +kernel
theorem dX1_init_8 : decode cX1_init 8 = .ok (.dup, 1) := by decide +kernel
theorem dX1_init_9 : decode cX1_init 9 = .ok (.invokespecial 11, 3) := by decide +kernel
theorem dX1_init_12 : decode cX1_init 12 = .ok (.putfield 12, 3) := by decide +kernel
theorem dX1_init_15 : decode cX1_init 15 = .ok (.aload_n 0, 1) := by decide +kernel
theorem dX1_init_16 : decode cX1_init 16 = .ok (.bipush 8, 2) := by decide +kernel
theorem dX1_init_18 : decode cX1_init 18 = .ok (.newarray .int, 2) := by decide +kernel
theorem dX1_init_20 : decode cX1_init 20 = .ok (.putfield 18, 3) := by decide +kernel
theorem dX1_init_23 : decode cX1_init 23 = .ok (.aload_n 0, 1) := by decide +kernel
theorem dX1_init_24 : decode cX1_init 24 = .ok (.bipush 8, 2) := by decide +kernel
theorem dX1_init_26 : decode cX1_init 26 = .ok (.newarray .int, 2) := by decide +kernel
theorem dX1_init_28 : decode cX1_init 28 = .ok (.putfield 22, 3) := by decide +kernel
theorem dX1_init_31 : decode cX1_init 31 = .ok (.aload_n 0, 1) := by decide +kernel
theorem dX1_init_32 : decode cX1_init 32 = .ok (.bipush 8, 2) := by decide +kernel
theorem dX1_init_34 : decode cX1_init 34 = .ok (.newarray .int, 2) := by decide +kernel
theorem dX1_init_36 : decode cX1_init 36 = .ok (.putfield 25, 3) := by decide +kernel
theorem dX1_init_39 : decode cX1_init 39 = .ok (.return_, 1) := by decide +kernel
theorem dX1_middleFor_0 : decode cX1_middleFor 0 = .ok (.aload_n 0, 1) := by decide +kernel
theorem dX1_middleFor_1 : decode cX1_middleFor 1 = .ok (.getfield 12, 3) := by decide +kernel
theorem dX1_middleFor_4 : decode cX1_middleFor 4 = .ok (.iconst 0, 1) := by decide +kernel
theorem dX1_middleFor_5 : decode cX1_middleFor 5 = .ok (.putfield 28, 3) := by decide +kernel
theorem dX1_middleFor_8 : decode cX1_middleFor 8 = .ok (.iconst 0, 1) := by decide +kernel
theorem dX1_middleFor_9 : decode cX1_middleFor 9 = .ok (.istore_n 3, 1) := by decide +kernel
theorem dX1_middleFor_10 : decode cX1_middleFor 10 = .ok (.iload_n 3, 1) := by decide +kernel
theorem dX1_middleFor_11 : decode cX1_middleFor 11 = .ok (.aload_n 1, 1) := by decide +kernel
theorem dX1_middleFor_12 : decode cX1_middleFor 12 = .ok (.getfield 32, 3) := by decide +kernel
theorem dX1_middleFor_15 : decode cX1_middleFor 15 = .ok (.if_icmp .ge 22, 3) := by decide +kernel
theorem dX1_middleFor_18 : decode cX1_middleFor 18 = .ok (.aload_n 0, 1) := by decide +kernel
theorem dX1_middleFor_19 : decode cX1_middleFor 19 = .ok (.getfield 12, 3) := by decide +kernel
theorem dX1_middleFor_22 : decode cX1_middleFor 22 = .ok (.aload_n 1, 1) := by decide +kernel
theorem dX1_middleFor_23 : decode cX1_middleFor 23 = .ok (.iload_n 3, 1) := by decide +kernel
theorem dX1_middleFor_24 : decode cX1_middleFor 24 = .ok (.iload_n 2, 1) := by decide +kernel
theorem dX1_middleFor_25 : decode cX1_middleFor 25 = .ok (.invokevirtual 37, 3) := by decide +kernel
theorem dX1_middleFor_28 : decode cX1_middleFor 28 = .ok (.invokevirtual 41, 3) := by decide +kernel
theorem dX1_middleFor_31 : decode cX1_middleFor 31 = .ok (.iinc 3 1, 3) := by decide +kernel
theorem dX1_middleFor_34 : decode cX1_middleFor 34 = .ok (.goto (-24), 3) := by decide +kernel
theorem dX1_middleFor_37 : decode cX1_middleFor 37 = .ok (.aload_n 0, 1) := by decide +kernel
theorem dX1_middleFor_38 : decode cX1_middleFor 38 = .ok (.getfield 12, 3) := by decide +kernel
theorem dX1_middleFor_41 : decode cX1_middleFor 41 = .ok (.aload_n 1, 1) := by decide +kernel
theorem dX1_middleFor_42 : decode cX1_middleFor 42 = .ok (.getfield 45, 3) := by decide +kernel
theorem dX1_middleFor_45 : decode cX1_middleFor 45 = .ok (.invokevirtual 48, 3) := by decide +kernel
theorem dX1_middleFor_48 : decode cX1_middleFor 48 = .ok (.ireturn, 1) := by decide +kernel
theorem dX1_meet_0 : decode cX1_meet 0 = .ok (.aload_n 1, 1) := by decide +kernel
theorem dX1_meet_1 : decode cX1_meet 1 = .ok (.invokevirtual 52, 3) := by decide +kernel
theorem dX1_meet_4 : decode cX1_meet 4 = .ok (.ifCond .eq 4, 3) := by decide +kernel
theorem dX1_meet_7 : decode cX1_meet 7 = .ok (.return_, 1) := by decide +kernel
theorem dX1_meet_8 : decode cX1_meet 8 = .ok (.iconst 0, 1) := by decide +kernel
theorem dX1_meet_9 : decode cX1_meet 9 = .ok (.istore_n 2, 1) := by decide +kernel
theorem dX1_meet_10 : decode cX1_meet 10 = .ok (.iload_n 2, 1) := by decide +kernel
theorem dX1_meet_11 : decode cX1_meet 11 = .ok (.aload_n 1, 1) := by decide +kernel
theorem dX1_meet_12 : decode cX1_meet 12 = .ok (.getfield 32, 3) := by decide +kernel
theorem dX1_meet_15 : decode cX1_meet 15 = .ok (.if_icmp .ge 33, 3) := by decide +kernel
theorem dX1_meet_18 : decode cX1_meet 18 = .ok (.aload_n 0, 1) := by decide +kernel
theorem dX1_meet_19 : decode cX1_meet 19 = .ok (.getfield 18, 3) := by decide +kernel
theorem dX1_meet_22 : decode cX1_meet 22 = .ok (.iload_n 2, 1) := by decide +kernel
theorem dX1_meet_23 : decode cX1_meet 23 = .ok (.aload_n 1, 1) := by decide +kernel
theorem dX1_meet_24 : decode cX1_meet 24 = .ok (.iload_n 2, 1) := by decide +kernel
theorem dX1_meet_25 : decode cX1_meet 25 = .ok (.invokevirtual 56, 3) := by decide +kernel
theorem dX1_meet_28 : decode cX1_meet 28 = .ok (.ifCond .eq 12, 3) := by decide +kernel
theorem dX1_meet_31 : decode cX1_meet 31 = .ok (.aload_n 0, 1) := by decide +kernel
theorem dX1_meet_32 : decode cX1_meet 32 = .ok (.aload_n 1, 1) := by decide +kernel
theorem dX1_meet_33 : decode cX1_meet 33 = .ok (.iload_n 2, 1) := by decide +kernel
theorem dX1_meet_34 : decode cX1_meet 34 = .ok (.invokevirtual 60, 3) := by decide +kernel
theorem dX1_meet_37 : decode cX1_meet 37 = .ok (.goto 4, 3) := by decide +kernel
theorem dX1_meet_40 : decode cX1_meet 40 = .ok (.iconst 0, 1) := by decide +kernel
theorem dX1_meet_41 : decode cX1_meet 41 = .ok (.iastore, 1) := by decide +kernel
theorem dX1_meet_42 : decode cX1_meet 42 = .ok (.iinc 2 1, 3) := by decide +kernel
theorem dX1_meet_45 : decode cX1_meet 45 = .ok (.goto (-35), 3) := by decide +kernel
theorem dX1_meet_48 : decode cX1_meet 48 = .ok (.iconst 0, 1) := by decide +kernel
theorem dX1_meet_49 : decode cX1_meet 49 = .ok (.istore_n 2, 1) := by decide +kernel
theorem dX1_meet_50 : decode cX1_meet 50 = .ok (.iload_n 2, 1) := by decide +kernel
theorem dX1_meet_51 : decode cX1_meet 51 = .ok (.aload_n 1, 1) := by decide +kernel
theorem dX1_meet_52 : decode cX1_meet 52 = .ok (.getfield 32, 3) := by decide +kernel
theorem dX1_meet_55 : decode cX1_meet 55 = .ok (.if_icmp .ge 36, 3) := by decide +kernel
theorem dX1_meet_58 : decode cX1_meet 58 = .ok (.aload_n 1, 1) := by decide +kernel
theorem dX1_meet_59 : decode cX1_meet 59 = .ok (.iload_n 2, 1) := by decide +kernel
theorem dX1_meet_60 : decode cX1_meet 60 = .ok (.invokevirtual 56, 3) := by decide +kernel
theorem dX1_meet_63 : decode cX1_meet 63 = .ok (.ifCond .eq 22, 3) := by decide +kernel
theorem dX1_meet_66 : decode cX1_meet 66 = .ok (.aload_n 1, 1) := by decide +kernel
theorem dX1_meet_67 : decode cX1_meet 67 = .ok (.getfield 64, 3) := by decide +kernel
theorem dX1_meet_70 : decode cX1_meet 70 = .ok (.iload_n 2, 1) := by decide +kernel
theorem dX1_meet_71 : decode cX1_meet 71 = .ok (.aload_n 0, 1) := by decide +kernel
theorem dX1_meet_72 : decode cX1_meet 72 = .ok (.getfield 18, 3) := by decide +kernel
theorem dX1_meet_75 : decode cX1_meet 75 = .ok (.iload_n 2, 1) := by decide +kernel
theorem dX1_meet_76 : decode cX1_meet 76 = .ok (.iaload, 1) := by decide +kernel
theorem dX1_meet_77 : decode cX1_meet 77 = .ok (.aload_n 1, 1) := by decide +kernel
theorem dX1_meet_78 : decode cX1_meet 78 = .ok (.getfield 67, 3) := by decide +kernel
theorem dX1_meet_81 : decode cX1_meet 81 = .ok (.iload_n 2, 1) := by decide +kernel
theorem dX1_meet_82 : decode cX1_meet 82 = .ok (.iaload, 1) := by decide +kernel
theorem dX1_meet_83 : decode cX1_meet 83 = .ok (.isub, 1) := by decide +kernel
theorem dX1_meet_84 : decode cX1_meet 84 = .ok (.iastore, 1) := by decide +kernel
theorem dX1_meet_85 : decode cX1_meet 85 = .ok (.iinc 2 1, 3) := by decide +kernel
theorem dX1_meet_88 : decode cX1_meet 88 = .ok (.goto (-38), 3) := by decide +kernel
theorem dX1_meet_91 : decode cX1_meet 91 = .ok (.return_, 1) := by decide +kernel
theorem dX1_canJoin_0 : decode cX1_canJoin 0 = .ok (.aload_n 0, 1) := by decide +kernel
theorem dX1_canJoin_1 : decode cX1_canJoin 1 = .ok (.aload_n 1, 1) := by decide +kernel
theorem dX1_canJoin_2 : decode cX1_canJoin 2 = .ok (.iload_n 2, 1) := by decide +kernel
theorem dX1_canJoin_3 : decode cX1_canJoin 3 = .ok (.invokevirtual 70, 3) := by decide +kernel
theorem dX1_canJoin_6 : decode cX1_canJoin 6 = .ok (.aload_n 0, 1) := by decide +kernel
theorem dX1_canJoin_7 : decode cX1_canJoin 7 = .ok (.getfield 12, 3) := by decide +kernel
theorem dX1_canJoin_10 : decode cX1_canJoin 10 = .ok (.aload_n 1, 1) := by decide +kernel
theorem dX1_canJoin_11 : decode cX1_canJoin 11 = .ok (.getfield 45, 3) := by decide +kernel
theorem dX1_canJoin_14 : decode cX1_canJoin 14 = .ok (.invokevirtual 74, 3) := by decide +kernel
theorem dX1_canJoin_17 : decode cX1_canJoin 17 = .ok (.ireturn, 1) := by decide +kernel
theorem dX1_letJoin_0 : decode cX1_letJoin 0 = .ok (.aload_n 0, 1) := by decide +kernel
theorem dX1_letJoin_1 : decode cX1_letJoin 1 = .ok (.aload_n 1, 1) := by decide +kernel
theorem dX1_letJoin_2 : decode cX1_letJoin 2 = .ok (.iload_n 2, 1) := by decide +kernel
theorem dX1_letJoin_3 : decode cX1_letJoin 3 = .ok (.invokevirtual 70, 3) := by decide +kernel
theorem dX1_letJoin_6 : decode cX1_letJoin 6 = .ok (.aload_n 1, 1) := by decide +kernel
theorem dX1_letJoin_7 : decode cX1_letJoin 7 = .ok (.getfield 67, 3) := by decide +kernel
theorem dX1_letJoin_10 : decode cX1_letJoin 10 = .ok (.iload_n 2, 1) := by decide +kernel
theorem dX1_letJoin_11 : decode cX1_letJoin 11 = .ok (.aload_n 0, 1) := by decide +kernel
theorem dX1_letJoin_12 : decode cX1_letJoin 12 = .ok (.getfield 12, 3) := by decide +kernel
theorem dX1_letJoin_15 : decode cX1_letJoin 15 = .ok (.aload_n 1, 1) := by decide +kernel
theorem dX1_letJoin_16 : decode cX1_letJoin 16 = .ok (.getfield 45, 3) := by decide +kernel
theorem dX1_letJoin_19 : decode cX1_letJoin 19 = .ok (.invokevirtual 48, 3) := by decide +kernel
theorem dX1_letJoin_22 : decode cX1_letJoin 22 = .ok (.iastore, 1) := by decide +kernel
theorem dX1_letJoin_23 : decode cX1_letJoin 23 = .ok (.aload_n 1, 1) := by decide +kernel
theorem dX1_letJoin_24 : decode cX1_letJoin 24 = .ok (.getfield 64, 3) := by decide +kernel
theorem dX1_letJoin_27 : decode cX1_letJoin 27 = .ok (.iload_n 2, 1) := by decide +kernel
theorem dX1_letJoin_28 : decode cX1_letJoin 28 = .ok (.iconst 0, 1) := by decide +kernel
theorem dX1_letJoin_29 : decode cX1_letJoin 29 = .ok (.iastore, 1) := by decide +kernel
theorem dX1_letJoin_30 : decode cX1_letJoin 30 = .ok (.aload_n 1, 1) := by decide +kernel
theorem dX1_letJoin_31 : decode cX1_letJoin 31 = .ok (.dup, 1) := by decide +kernel
theorem dX1_letJoin_32 : decode cX1_letJoin 32 = .ok (.getfield 77, 3) := by decide +kernel
theorem dX1_letJoin_35 : decode cX1_letJoin 35 = .ok (.iconst 1, 1) := by decide +kernel
theorem dX1_letJoin_36 : decode cX1_letJoin 36 = .ok (.iload_n 2, 1) := by decide +kernel
theorem dX1_letJoin_37 : decode cX1_letJoin 37 = .ok (.ishl, 1) := by decide +kernel
theorem dX1_letJoin_38 : decode cX1_letJoin 38 = .ok (.iconst (-1), 1) := by decide +kernel
theorem dX1_letJoin_39 : decode cX1_letJoin 39 = .ok (.ixor, 1) := by decide +kernel
theorem dX1_letJoin_40 : decode cX1_letJoin 40 = .ok (.iand, 1) := by decide +kernel
theorem dX1_letJoin_41 : decode cX1_letJoin 41 = .ok (.putfield 77, 3) := by decide +kernel
theorem dX1_letJoin_44 : decode cX1_letJoin 44 = .ok (.aload_n 1, 1) := by decide +kernel
theorem dX1_letJoin_45 : decode cX1_letJoin 45 = .ok (.invokevirtual 80, 3) := by decide +kernel
theorem dX1_letJoin_48 : decode cX1_letJoin 48 = .ok (.pop, 1) := by decide +kernel
theorem dX1_letJoin_49 : decode cX1_letJoin 49 = .ok (.return_, 1) := by decide +kernel
theorem dX1_hearToJoin_0 : decode cX1_hearToJoin 0 = .ok (.aload_n 0, 1) := by decide +kernel
theorem dX1_hearToJoin_1 : decode cX1_hearToJoin 1 = .ok (.getfield 12, 3) := by decide +kernel
theorem dX1_hearToJoin_4 : decode cX1_hearToJoin 4 = .ok (.iconst 0, 1) := by decide +kernel
theorem dX1_hearToJoin_5 : decode cX1_hearToJoin 5 = .ok (.putfield 28, 3) := by decide +kernel
theorem dX1_hearToJoin_8 : decode cX1_hearToJoin 8 = .ok (.iconst 0, 1) := by decide +kernel
theorem dX1_hearToJoin_9 : decode cX1_hearToJoin 9 = .ok (.istore_n 3, 1) := by decide +kernel
theorem dX1_hearToJoin_10 : decode cX1_hearToJoin 10 = .ok (.iload_n 3, 1) := by decide +kernel
theorem dX1_hearToJoin_11 : decode cX1_hearToJoin 11 = .ok (.aload_n 1, 1) := by decide +kernel
theorem dX1_hearToJoin_12 : decode cX1_hearToJoin 12 = .ok (.getfield 32, 3) := by decide +kernel
theorem dX1_hearToJoin_15 : decode cX1_hearToJoin 15 = .ok (.if_icmp .ge 35, 3) := by decide +kernel
theorem dX1_hearToJoin_18 : decode cX1_hearToJoin 18 = .ok (.iload_n 3, 1) := by decide +kernel
theorem dX1_hearToJoin_19 : decode cX1_hearToJoin 19 = .ok (.iload_n 2, 1) := by decide +kernel
theorem dX1_hearToJoin_20 : decode cX1_hearToJoin 20 = .ok (.if_icmp .eq 24, 3) := by decide +kernel
theorem dX1_hearToJoin_23 : decode cX1_hearToJoin 23 = .ok (.aload_n 1, 1) := by decide +kernel
theorem dX1_hearToJoin_24 : decode cX1_hearToJoin 24 = .ok (.iload_n 3, 1) := by decide +kernel
theorem dX1_hearToJoin_25 : decode cX1_hearToJoin 25 = .ok (.invokevirtual 84, 3) := by decide +kernel
theorem dX1_hearToJoin_28 : decode cX1_hearToJoin 28 = .ok (.ifCond .ne 16, 3) := by decide +kernel
theorem dX1_hearToJoin_31 : decode cX1_hearToJoin 31 = .ok (.aload_n 0, 1) := by decide +kernel
theorem dX1_hearToJoin_32 : decode cX1_hearToJoin 32 = .ok (.getfield 12, 3) := by decide +kernel
theorem dX1_hearToJoin_35 : decode cX1_hearToJoin 35 = .ok (.aload_n 1, 1) := by decide +kernel
theorem dX1_hearToJoin_36 : decode cX1_hearToJoin 36 = .ok (.iload_n 3, 1) := by decide +kernel
theorem dX1_hearToJoin_37 : decode cX1_hearToJoin 37 = .ok (.iload_n 2, 1) := by decide +kernel
theorem dX1_hearToJoin_38 : decode cX1_hearToJoin 38 = .ok (.invokevirtual 37, 3) := by decide +kernel
theorem dX1_hearToJoin_41 : decode cX1_hearToJoin 41 = .ok (.invokevirtual 41, 3) := by decide +kernel
theorem dX1_hearToJoin_44 : decode cX1_hearToJoin 44 = .ok (.iinc 3 1, 3) := by decide +kernel
theorem dX1_hearToJoin_47 : decode cX1_hearToJoin 47 = .ok (.goto (-37), 3) := by decide +kernel
theorem dX1_hearToJoin_50 : decode cX1_hearToJoin 50 = .ok (.return_, 1) := by decide +kernel
theorem dX1_middleByLie_0 : decode cX1_middleByLie 0 = .ok (.aload_n 0, 1) := by decide +kernel
theorem dX1_middleByLie_1 : decode cX1_middleByLie 1 = .ok (.getfield 12, 3) := by decide +kernel
theorem dX1_middleByLie_4 : decode cX1_middleByLie 4 = .ok (.iconst 0, 1) := by decide +kernel
theorem dX1_middleByLie_5 : decode cX1_middleByLie 5 = .ok (.putfield 28, 3) := by decide +kernel
theorem dX1_middleByLie_8 : decode cX1_middleByLie 8 = .ok (.iconst 0, 1) := by decide +kernel
theorem dX1_middleByLie_9 : decode cX1_middleByLie 9 = .ok (.istore 5, 2) := by decide +kernel
theorem dX1_middleByLie_11 : decode cX1_middleByLie 11 = .ok (.iload 5, 2) := by decide +kernel
theorem dX1_middleByLie_13 : decode cX1_middleByLie 13 = .ok (.aload_n 1, 1) := by decide +kernel
theorem dX1_middleByLie_14 : decode cX1_middleByLie 14 = .ok (.getfield 32, 3) := by decide +kernel
theorem dX1_middleByLie_17 : decode cX1_middleByLie 17 = .ok (.if_icmp .ge 40, 3) := by decide +kernel
theorem dX1_middleByLie_20 : decode cX1_middleByLie 20 = .ok (.aload_n 0, 1) := by decide +kernel
theorem dX1_middleByLie_21 : decode cX1_middleByLie 21 = .ok (.getfield 12, 3) := by decide +kernel
theorem dX1_middleByLie_24 : decode cX1_middleByLie 24 = .ok (.iload 5, 2) := by decide +kernel
theorem dX1_middleByLie_26 : decode cX1_middleByLie 26 = .ok (.iload_n 2, 1) := by decide +kernel
theorem dX1_middleByLie_27 : decode cX1_middleByLie 27 = .ok (.if_icmp .ne 14, 3) := by decide +kernel
theorem dX1_middleByLie_30 : decode cX1_middleByLie 30 = .ok (.aload_n 1, 1) := by decide +kernel
theorem dX1_middleByLie_31 : decode cX1_middleByLie 31 = .ok (.iload_n 3, 1) := by decide +kernel
theorem dX1_middleByLie_32 : decode cX1_middleByLie 32 = .ok (.invokevirtual 87, 3) := by decide +kernel
theorem dX1_middleByLie_35 : decode cX1_middleByLie 35 = .ok (.iload 4, 2) := by decide +kernel
theorem dX1_middleByLie_37 : decode cX1_middleByLie 37 = .ok (.iadd, 1) := by decide +kernel
theorem dX1_middleByLie_38 : decode cX1_middleByLie 38 = .ok (.goto 10, 3) := by decide +kernel
theorem dX1_middleByLie_41 : decode cX1_middleByLie 41 = .ok (.aload_n 1, 1) := by decide +kernel
theorem dX1_middleByLie_42 : decode cX1_middleByLie 42 = .ok (.iload 5, 2) := by decide +kernel
theorem dX1_middleByLie_44 : decode cX1_middleByLie 44 = .ok (.iload_n 3, 1) := by decide +kernel
theorem dX1_middleByLie_45 : decode cX1_middleByLie 45 = .ok (.invokevirtual 37, 3) := by decide +kernel
theorem dX1_middleByLie_48 : decode cX1_middleByLie 48 = .ok (.invokevirtual 41, 3) := by decide +kernel
theorem dX1_middleByLie_51 : decode cX1_middleByLie 51 = .ok (.iinc 5 1, 3) := by decide +kernel
theorem dX1_middleByLie_54 : decode cX1_middleByLie 54 = .ok (.goto (-43), 3) := by decide +kernel
theorem dX1_middleByLie_57 : decode cX1_middleByLie 57 = .ok (.aload_n 0, 1) := by decide +kernel
theorem dX1_middleByLie_58 : decode cX1_middleByLie 58 = .ok (.getfield 12, 3) := by decide +kernel
theorem dX1_middleByLie_61 : decode cX1_middleByLie 61 = .ok (.aload_n 1, 1) := by decide +kernel
theorem dX1_middleByLie_62 : decode cX1_middleByLie 62 = .ok (.getfield 45, 3) := by decide +kernel
theorem dX1_middleByLie_65 : decode cX1_middleByLie 65 = .ok (.invokevirtual 48, 3) := by decide +kernel
theorem dX1_middleByLie_68 : decode cX1_middleByLie 68 = .ok (.ireturn, 1) := by decide +kernel
theorem dX1_farthest_0 : decode cX1_farthest 0 = .ok (.sipush (-9999), 3) := by decide +kernel
theorem dX1_farthest_3 : decode cX1_farthest 3 = .ok (.istore 4, 2) := by decide +kernel
theorem dX1_farthest_5 : decode cX1_farthest 5 = .ok (.aload_n 1, 1) := by decide +kernel
theorem dX1_farthest_6 : decode cX1_farthest 6 = .ok (.invokevirtual 52, 3) := by decide +kernel
theorem dX1_farthest_9 : decode cX1_farthest 9 = .ok (.ifCond .eq 6, 3) := by decide +kernel
theorem dX1_farthest_12 : decode cX1_farthest 12 = .ok (.iload 4, 2) := by decide +kernel
theorem dX1_farthest_14 : decode cX1_farthest 14 = .ok (.ireturn, 1) := by decide +kernel
theorem dX1_farthest_15 : decode cX1_farthest 15 = .ok (.aload_n 0, 1) := by decide +kernel
theorem dX1_farthest_16 : decode cX1_farthest 16 = .ok (.aload_n 1, 1) := by decide +kernel
theorem dX1_farthest_17 : decode cX1_farthest 17 = .ok (.iload_n 2, 1) := by decide +kernel
theorem dX1_farthest_18 : decode cX1_farthest 18 = .ok (.iload_n 3, 1) := by decide +kernel
theorem dX1_farthest_19 : decode cX1_farthest 19 = .ok (.iload 4, 2) := by decide +kernel
theorem dX1_farthest_21 : decode cX1_farthest 21 = .ok (.invokevirtual 90, 3) := by decide +kernel
theorem dX1_farthest_24 : decode cX1_farthest 24 = .ok (.aload_n 1, 1) := by decide +kernel
theorem dX1_farthest_25 : decode cX1_farthest 25 = .ok (.iload_n 3, 1) := by decide +kernel
theorem dX1_farthest_26 : decode cX1_farthest 26 = .ok (.invokevirtual 87, 3) := by decide +kernel
theorem dX1_farthest_29 : decode cX1_farthest 29 = .ok (.isub, 1) := by decide +kernel
theorem dX1_farthest_30 : decode cX1_farthest 30 = .ok (.invokestatic 94, 3) := by decide +kernel
theorem dX1_farthest_33 : decode cX1_farthest 33 = .ok (.istore 5, 2) := by decide +kernel
theorem dX1_farthest_35 : decode cX1_farthest 35 = .ok (.iconst 0, 1) := by decide +kernel
theorem dX1_farthest_36 : decode cX1_farthest 36 = .ok (.istore 6, 2) := by decide +kernel
theorem dX1_farthest_38 : decode cX1_farthest 38 = .ok (.iload 6, 2) := by decide +kernel
theorem dX1_farthest_40 : decode cX1_farthest 40 = .ok (.sipush 9999, 3) := by decide +kernel
theorem dX1_farthest_43 : decode cX1_farthest 43 = .ok (.if_icmp .gt 47, 3) := by decide +kernel
theorem dX1_farthest_46 : decode cX1_farthest 46 = .ok (.aload_n 0, 1) := by decide +kernel
theorem dX1_farthest_47 : decode cX1_farthest 47 = .ok (.aload_n 1, 1) := by decide +kernel
theorem dX1_farthest_48 : decode cX1_farthest 48 = .ok (.iload_n 2, 1) := by decide +kernel
theorem dX1_farthest_49 : decode cX1_farthest 49 = .ok (.iload_n 3, 1) := by decide +kernel
theorem dX1_farthest_50 : decode cX1_farthest 50 = .ok (.iload 6, 2) := by decide +kernel
theorem dX1_farthest_52 : decode cX1_farthest 52 = .ok (.invokevirtual 90, 3) := by decide +kernel
theorem dX1_farthest_55 : decode cX1_farthest 55 = .ok (.aload_n 1, 1) := by decide +kernel
theorem dX1_farthest_56 : decode cX1_farthest 56 = .ok (.iload_n 3, 1) := by decide +kernel
theorem dX1_farthest_57 : decode cX1_farthest 57 = .ok (.invokevirtual 87, 3) := by decide +kernel
theorem dX1_farthest_60 : decode cX1_farthest 60 = .ok (.isub, 1) := by decide +kernel
theorem dX1_farthest_61 : decode cX1_farthest 61 = .ok (.invokestatic 94, 3) := by decide +kernel
theorem dX1_farthest_64 : decode cX1_farthest 64 = .ok (.istore 7, 2) := by decide +kernel
theorem dX1_farthest_66 : decode cX1_farthest 66 = .ok (.iload 7, 2) := by decide +kernel
theorem dX1_farthest_68 : decode cX1_farthest 68 = .ok (.iload 5, 2) := by decide +kernel
theorem dX1_farthest_70 : decode cX1_farthest 70 = .ok (.if_icmp .le 11, 3) := by decide +kernel
theorem dX1_farthest_73 : decode cX1_farthest 73 = .ok (.iload 6, 2) := by decide +kernel
theorem dX1_farthest_75 : decode cX1_farthest 75 = .ok (.istore 4, 2) := by decide +kernel
theorem dX1_farthest_77 : decode cX1_farthest 77 = .ok (.iload 7, 2) := by decide +kernel
theorem dX1_farthest_79 : decode cX1_farthest 79 = .ok (.istore 5, 2) := by decide +kernel
theorem dX1_farthest_81 : decode cX1_farthest 81 = .ok (.iinc 6 9999, 6) := by decide +kernel
theorem dX1_farthest_87 : decode cX1_farthest 87 = .ok (.goto (-49), 3) := by decide +kernel
theorem dX1_farthest_90 : decode cX1_farthest 90 = .ok (.iload 4, 2) := by decide +kernel
theorem dX1_farthest_92 : decode cX1_farthest 92 = .ok (.ireturn, 1) := by decide +kernel
theorem dX1_worst_0 : decode cX1_worst 0 = .ok (.aload_n 1, 1) := by decide +kernel
theorem dX1_worst_1 : decode cX1_worst 1 = .ok (.invokevirtual 99, 3) := by decide +kernel
theorem dX1_worst_4 : decode cX1_worst 4 = .ok (.invokestatic 102, 3) := by decide +kernel
theorem dX1_worst_7 : decode cX1_worst 7 = .ok (.iconst 2, 1) := by decide +kernel
theorem dX1_worst_8 : decode cX1_worst 8 = .ok (.if_icmp .lt 10, 3) := by decide +kernel
theorem dX1_worst_11 : decode cX1_worst 11 = .ok (.aload_n 1, 1) := by decide +kernel
theorem dX1_worst_12 : decode cX1_worst 12 = .ok (.invokevirtual 52, 3) := by decide +kernel
theorem dX1_worst_15 : decode cX1_worst 15 = .ok (.ifCond .eq 8, 3) := by decide +kernel
theorem dX1_worst_18 : decode cX1_worst 18 = .ok (.aload_n 1, 1) := by decide +kernel
theorem dX1_worst_19 : decode cX1_worst 19 = .ok (.invokevirtual 107, 3) := by decide +kernel
theorem dX1_worst_22 : decode cX1_worst 22 = .ok (.ireturn, 1) := by decide +kernel
theorem dX1_worst_23 : decode cX1_worst 23 = .ok (.aload_n 1, 1) := by decide +kernel
theorem dX1_worst_24 : decode cX1_worst 24 = .ok (.getfield 110, 3) := by decide +kernel
theorem dX1_worst_27 : decode cX1_worst 27 = .ok (.aload_n 1, 1) := by decide +kernel
theorem dX1_worst_28 : decode cX1_worst 28 = .ok (.getfield 77, 3) := by decide +kernel
theorem dX1_worst_31 : decode cX1_worst 31 = .ok (.iconst (-1), 1) := by decide +kernel
theorem dX1_worst_32 : decode cX1_worst 32 = .ok (.ixor, 1) := by decide +kernel
theorem dX1_worst_33 : decode cX1_worst 33 = .ok (.iand, 1) := by decide +kernel
theorem dX1_worst_34 : decode cX1_worst 34 = .ok (.invokestatic 102, 3) := by decide +kernel
theorem dX1_worst_37 : decode cX1_worst 37 = .ok (.aload_n 1, 1) := by decide +kernel
theorem dX1_worst_38 : decode cX1_worst 38 = .ok (.getfield 45, 3) := by decide +kernel
theorem dX1_worst_41 : decode cX1_worst 41 = .ok (.if_icmp .le 6, 3) := by decide +kernel
theorem dX1_worst_44 : decode cX1_worst 44 = .ok (.ldc 113, 2) := by decide +kernel
theorem dX1_worst_46 : decode cX1_worst 46 = .ok (.ireturn, 1) := by decide +kernel
theorem dX1_worst_47 : decode cX1_worst 47 = .ok (.iconst 0, 1) := by decide +kernel
theorem dX1_worst_48 : decode cX1_worst 48 = .ok (.istore_n 2, 1) := by decide +kernel
theorem dX1_worst_49 : decode cX1_worst 49 = .ok (.iload_n 2, 1) := by decide +kernel
theorem dX1_worst_50 : decode cX1_worst 50 = .ok (.aload_n 1, 1) := by decide +kernel
theorem dX1_worst_51 : decode cX1_worst 51 = .ok (.getfield 32, 3) := by decide +kernel
theorem dX1_worst_54 : decode cX1_worst 54 = .ok (.if_icmp .ge 45, 3) := by decide +kernel
theorem dX1_worst_57 : decode cX1_worst 57 = .ok (.aload_n 1, 1) := by decide +kernel
theorem dX1_worst_58 : decode cX1_worst 58 = .ok (.iload_n 2, 1) := by decide +kernel
theorem dX1_worst_59 : decode cX1_worst 59 = .ok (.invokevirtual 56, 3) := by decide +kernel
theorem dX1_worst_62 : decode cX1_worst 62 = .ok (.ifCond .eq 31, 3) := by decide +kernel
theorem dX1_worst_65 : decode cX1_worst 65 = .ok (.aload_n 0, 1) := by decide +kernel
theorem dX1_worst_66 : decode cX1_worst 66 = .ok (.getfield 22, 3) := by decide +kernel
theorem dX1_worst_69 : decode cX1_worst 69 = .ok (.iload_n 2, 1) := by decide +kernel
theorem dX1_worst_70 : decode cX1_worst 70 = .ok (.aload_n 0, 1) := by decide +kernel
theorem dX1_worst_71 : decode cX1_worst 71 = .ok (.aload_n 1, 1) := by decide +kernel
theorem dX1_worst_72 : decode cX1_worst 72 = .ok (.iload_n 2, 1) := by decide +kernel
theorem dX1_worst_73 : decode cX1_worst 73 = .ok (.ldc 114, 2) := by decide +kernel
theorem dX1_worst_75 : decode cX1_worst 75 = .ok (.invokevirtual 115, 3) := by decide +kernel
theorem dX1_worst_78 : decode cX1_worst 78 = .ok (.iastore, 1) := by decide +kernel
theorem dX1_worst_79 : decode cX1_worst 79 = .ok (.aload_n 0, 1) := by decide +kernel
theorem dX1_worst_80 : decode cX1_worst 80 = .ok (.getfield 25, 3) := by decide +kernel
theorem dX1_worst_83 : decode cX1_worst 83 = .ok (.iload_n 2, 1) := by decide +kernel
theorem dX1_worst_84 : decode cX1_worst 84 = .ok (.aload_n 0, 1) := by decide +kernel
theorem dX1_worst_85 : decode cX1_worst 85 = .ok (.aload_n 1, 1) := by decide +kernel
theorem dX1_worst_86 : decode cX1_worst 86 = .ok (.iload_n 2, 1) := by decide +kernel
theorem dX1_worst_87 : decode cX1_worst 87 = .ok (.ldc 119, 2) := by decide +kernel
theorem dX1_worst_89 : decode cX1_worst 89 = .ok (.invokevirtual 115, 3) := by decide +kernel
theorem dX1_worst_92 : decode cX1_worst 92 = .ok (.iastore, 1) := by decide +kernel
theorem dX1_worst_93 : decode cX1_worst 93 = .ok (.iinc 2 1, 3) := by decide +kernel
theorem dX1_worst_96 : decode cX1_worst 96 = .ok (.goto (-47), 3) := by decide +kernel
theorem dX1_worst_99 : decode cX1_worst 99 = .ok (.aload_n 0, 1) := by decide +kernel
theorem dX1_worst_100 : decode cX1_worst 100 = .ok (.aload_n 1, 1) := by decide +kernel
theorem dX1_worst_101 : decode cX1_worst 101 = .ok (.invokevirtual 120, 3) := by decide +kernel
theorem dX1_worst_104 : decode cX1_worst 104 = .ok (.ireturn, 1) := by decide +kernel
theorem dX1_middleWithLiarsAt_0 : decode cX1_middleWithLiarsAt 0 = .ok (.aload_n 0, 1) := by decide +kernel
theorem dX1_middleWithLiarsAt_1 : decode cX1_middleWithLiarsAt 1 = .ok (.getfield 12, 3) := by decide +kernel
theorem dX1_middleWithLiarsAt_4 : decode cX1_middleWithLiarsAt 4 = .ok (.iconst 0, 1) := by decide +kernel
theorem dX1_middleWithLiarsAt_5 : decode cX1_middleWithLiarsAt 5 = .ok (.putfield 28, 3) := by decide +kernel
theorem dX1_middleWithLiarsAt_8 : decode cX1_middleWithLiarsAt 8 = .ok (.iconst 0, 1) := by decide +kernel
theorem dX1_middleWithLiarsAt_9 : decode cX1_middleWithLiarsAt 9 = .ok (.istore 4, 2) := by decide +kernel
theorem dX1_middleWithLiarsAt_11 : decode cX1_middleWithLiarsAt 11 = .ok (.iload 4, 2) := by decide +kernel
theorem dX1_middleWithLiarsAt_13 : decode cX1_middleWithLiarsAt 13 = .ok (.aload_n 1, 1) := by decide +kernel
theorem dX1_middleWithLiarsAt_14 : decode cX1_middleWithLiarsAt 14 = .ok (.getfield 32, 3) := by decide +kernel
theorem dX1_middleWithLiarsAt_17 : decode cX1_middleWithLiarsAt 17 = .ok (.if_icmp .ge 36, 3) := by decide +kernel
theorem dX1_middleWithLiarsAt_20 : decode cX1_middleWithLiarsAt 20 = .ok (.aload_n 0, 1) := by decide +kernel
theorem dX1_middleWithLiarsAt_21 : decode cX1_middleWithLiarsAt 21 = .ok (.getfield 12, 3) := by decide +kernel
theorem dX1_middleWithLiarsAt_24 : decode cX1_middleWithLiarsAt 24 = .ok (.aload_n 1, 1) := by decide +kernel
theorem dX1_middleWithLiarsAt_25 : decode cX1_middleWithLiarsAt 25 = .ok (.iload 4, 2) := by decide +kernel
theorem dX1_middleWithLiarsAt_27 : decode cX1_middleWithLiarsAt 27 = .ok (.invokevirtual 124, 3) := by decide +kernel
theorem dX1_middleWithLiarsAt_30 : decode cX1_middleWithLiarsAt 30 = .ok (.ifCond .eq 7, 3) := by decide +kernel
theorem dX1_middleWithLiarsAt_33 : decode cX1_middleWithLiarsAt 33 = .ok (.iload_n 3, 1) := by decide +kernel
theorem dX1_middleWithLiarsAt_34 : decode cX1_middleWithLiarsAt 34 = .ok (.goto 10, 3) := by decide +kernel
theorem dX1_middleWithLiarsAt_37 : decode cX1_middleWithLiarsAt 37 = .ok (.aload_n 1, 1) := by decide +kernel
theorem dX1_middleWithLiarsAt_38 : decode cX1_middleWithLiarsAt 38 = .ok (.iload 4, 2) := by decide +kernel
theorem dX1_middleWithLiarsAt_40 : decode cX1_middleWithLiarsAt 40 = .ok (.iload_n 2, 1) := by decide +kernel
theorem dX1_middleWithLiarsAt_41 : decode cX1_middleWithLiarsAt 41 = .ok (.invokevirtual 37, 3) := by decide +kernel
theorem dX1_middleWithLiarsAt_44 : decode cX1_middleWithLiarsAt 44 = .ok (.invokevirtual 41, 3) := by decide +kernel
theorem dX1_middleWithLiarsAt_47 : decode cX1_middleWithLiarsAt 47 = .ok (.iinc 4 1, 3) := by decide +kernel
theorem dX1_middleWithLiarsAt_50 : decode cX1_middleWithLiarsAt 50 = .ok (.goto (-39), 3) := by decide +kernel
theorem dX1_middleWithLiarsAt_53 : decode cX1_middleWithLiarsAt 53 = .ok (.aload_n 0, 1) := by decide +kernel
theorem dX1_middleWithLiarsAt_54 : decode cX1_middleWithLiarsAt 54 = .ok (.getfield 12, 3) := by decide +kernel
theorem dX1_middleWithLiarsAt_57 : decode cX1_middleWithLiarsAt 57 = .ok (.aload_n 1, 1) := by decide +kernel
theorem dX1_middleWithLiarsAt_58 : decode cX1_middleWithLiarsAt 58 = .ok (.getfield 45, 3) := by decide +kernel
theorem dX1_middleWithLiarsAt_61 : decode cX1_middleWithLiarsAt 61 = .ok (.invokevirtual 48, 3) := by decide +kernel
theorem dX1_middleWithLiarsAt_64 : decode cX1_middleWithLiarsAt 64 = .ok (.ireturn, 1) := by decide +kernel
theorem dX1_widestPair_0 : decode cX1_widestPair 0 = .ok (.iconst 0, 1) := by decide +kernel
theorem dX1_widestPair_1 : decode cX1_widestPair 1 = .ok (.istore_n 2, 1) := by decide +kernel
theorem dX1_widestPair_2 : decode cX1_widestPair 2 = .ok (.iconst 0, 1) := by decide +kernel
theorem dX1_widestPair_3 : decode cX1_widestPair 3 = .ok (.istore_n 3, 1) := by decide +kernel
theorem dX1_widestPair_4 : decode cX1_widestPair 4 = .ok (.iload_n 3, 1) := by decide +kernel
theorem dX1_widestPair_5 : decode cX1_widestPair 5 = .ok (.aload_n 1, 1) := by decide +kernel
theorem dX1_widestPair_6 : decode cX1_widestPair 6 = .ok (.getfield 32, 3) := by decide +kernel
theorem dX1_widestPair_9 : decode cX1_widestPair 9 = .ok (.if_icmp .ge 69, 3) := by decide +kernel
theorem dX1_widestPair_12 : decode cX1_widestPair 12 = .ok (.iconst 0, 1) := by decide +kernel
theorem dX1_widestPair_13 : decode cX1_widestPair 13 = .ok (.istore 4, 2) := by decide +kernel
theorem dX1_widestPair_15 : decode cX1_widestPair 15 = .ok (.iload 4, 2) := by decide +kernel
theorem dX1_widestPair_17 : decode cX1_widestPair 17 = .ok (.aload_n 1, 1) := by decide +kernel
theorem dX1_widestPair_18 : decode cX1_widestPair 18 = .ok (.getfield 32, 3) := by decide +kernel
theorem dX1_widestPair_21 : decode cX1_widestPair 21 = .ok (.if_icmp .ge 51, 3) := by decide +kernel
theorem dX1_widestPair_24 : decode cX1_widestPair 24 = .ok (.iload_n 3, 1) := by decide +kernel
theorem dX1_widestPair_25 : decode cX1_widestPair 25 = .ok (.iload 4, 2) := by decide +kernel
theorem dX1_widestPair_27 : decode cX1_widestPair 27 = .ok (.if_icmp .eq 39, 3) := by decide +kernel
theorem dX1_widestPair_30 : decode cX1_widestPair 30 = .ok (.aload_n 1, 1) := by decide +kernel
theorem dX1_widestPair_31 : decode cX1_widestPair 31 = .ok (.iload_n 3, 1) := by decide +kernel
theorem dX1_widestPair_32 : decode cX1_widestPair 32 = .ok (.invokevirtual 56, 3) := by decide +kernel
theorem dX1_widestPair_35 : decode cX1_widestPair 35 = .ok (.ifCond .eq 31, 3) := by decide +kernel
theorem dX1_widestPair_38 : decode cX1_widestPair 38 = .ok (.aload_n 1, 1) := by decide +kernel
theorem dX1_widestPair_39 : decode cX1_widestPair 39 = .ok (.iload 4, 2) := by decide +kernel
theorem dX1_widestPair_41 : decode cX1_widestPair 41 = .ok (.invokevirtual 56, 3) := by decide +kernel
theorem dX1_widestPair_44 : decode cX1_widestPair 44 = .ok (.ifCond .eq 22, 3) := by decide +kernel
theorem dX1_widestPair_47 : decode cX1_widestPair 47 = .ok (.iload_n 2, 1) := by decide +kernel
theorem dX1_widestPair_48 : decode cX1_widestPair 48 = .ok (.aload_n 0, 1) := by decide +kernel
theorem dX1_widestPair_49 : decode cX1_widestPair 49 = .ok (.getfield 25, 3) := by decide +kernel
theorem dX1_widestPair_52 : decode cX1_widestPair 52 = .ok (.iload_n 3, 1) := by decide +kernel
theorem dX1_widestPair_53 : decode cX1_widestPair 53 = .ok (.iaload, 1) := by decide +kernel
theorem dX1_widestPair_54 : decode cX1_widestPair 54 = .ok (.aload_n 0, 1) := by decide +kernel
theorem dX1_widestPair_55 : decode cX1_widestPair 55 = .ok (.getfield 22, 3) := by decide +kernel
theorem dX1_widestPair_58 : decode cX1_widestPair 58 = .ok (.iload 4, 2) := by decide +kernel
theorem dX1_widestPair_60 : decode cX1_widestPair 60 = .ok (.iaload, 1) := by decide +kernel
theorem dX1_widestPair_61 : decode cX1_widestPair 61 = .ok (.isub, 1) := by decide +kernel
theorem dX1_widestPair_62 : decode cX1_widestPair 62 = .ok (.invokestatic 127, 3) := by decide +kernel
theorem dX1_widestPair_65 : decode cX1_widestPair 65 = .ok (.istore_n 2, 1) := by decide +kernel
theorem dX1_widestPair_66 : decode cX1_widestPair 66 = .ok (.iinc 4 1, 3) := by decide +kernel
theorem dX1_widestPair_69 : decode cX1_widestPair 69 = .ok (.goto (-54), 3) := by decide +kernel
theorem dX1_widestPair_72 : decode cX1_widestPair 72 = .ok (.iinc 3 1, 3) := by decide +kernel
theorem dX1_widestPair_75 : decode cX1_widestPair 75 = .ok (.goto (-71), 3) := by decide +kernel
theorem dX1_widestPair_78 : decode cX1_widestPair 78 = .ok (.iload_n 2, 1) := by decide +kernel
theorem dX1_widestPair_79 : decode cX1_widestPair 79 = .ok (.ireturn, 1) := by decide +kernel
theorem dX2_init_0 : decode cX2_init 0 = .ok (.aload_n 0, 1) := by decide +kernel
theorem dX2_init_1 : decode cX2_init 1 = .ok (.invokespecial 1, 3) := by decide +kernel
theorem dX2_init_4 : decode cX2_init 4 = .ok (.return_, 1) := by decide +kernel
theorem dX2_next_0 : decode cX2_next 0 = .ok (.aload_n 0, 1) := by decide +kernel
theorem dX2_next_1 : decode cX2_next 1 = .ok (.aload_n 0, 1) := by decide +kernel
theorem dX2_next_2 : decode cX2_next 2 = .ok (.getfield 7, 3) := by decide +kernel
theorem dX2_next_5 : decode cX2_next 5 = .ok (.i2l, 1) := by decide +kernel
theorem dX2_next_6 : decode cX2_next 6 = .ok (.ldc2_w 13, 3) := by decide +kernel
theorem dX2_next_9 : decode cX2_next 9 = .ok (.lmul, 1) := by decide +kernel
theorem dX2_next_10 : decode cX2_next 10 = .ok (.ldc2_w 15, 3) := by decide +kernel
theorem dX2_next_13 : decode cX2_next 13 = .ok (.ladd, 1) := by decide +kernel
theorem dX2_next_14 : decode cX2_next 14 = .ok (.ldc2_w 17, 3) := by decide +kernel
theorem dX2_next_17 : decode cX2_next 17 = .ok (.lrem, 1) := by decide +kernel
theorem dX2_next_18 : decode cX2_next 18 = .ok (.l2i, 1) := by decide +kernel
theorem dX2_next_19 : decode cX2_next 19 = .ok (.putfield 7, 3) := by decide +kernel
theorem dX2_next_22 : decode cX2_next 22 = .ok (.iload_n 1, 1) := by decide +kernel
theorem dX2_next_23 : decode cX2_next 23 = .ok (.ifCond .le 15, 3) := by decide +kernel
theorem dX2_next_26 : decode cX2_next 26 = .ok (.aload_n 0, 1) := by decide +kernel
theorem dX2_next_27 : decode cX2_next 27 = .ok (.getfield 7, 3) := by decide +kernel
theorem dX2_next_30 : decode cX2_next 30 = .ok (.ldc 19, 2) := by decide +kernel
theorem dX2_next_32 : decode cX2_next 32 = .ok (.idiv, 1) := by decide +kernel
theorem dX2_next_33 : decode cX2_next 33 = .ok (.iload_n 1, 1) := by decide +kernel
theorem dX2_next_34 : decode cX2_next 34 = .ok (.irem, 1) := by decide +kernel
theorem dX2_next_35 : decode cX2_next 35 = .ok (.goto 4, 3) := by decide +kernel
theorem dX2_next_38 : decode cX2_next 38 = .ok (.iconst 0, 1) := by decide +kernel
theorem dX2_next_39 : decode cX2_next 39 = .ok (.ireturn, 1) := by decide +kernel
theorem dX3_init_0 : decode cX3_init 0 = .ok (.aload_n 0, 1) := by decide +kernel
theorem dX3_init_1 : decode cX3_init 1 = .ok (.invokespecial 3, 3) := by decide +kernel
theorem dX3_init_4 : decode cX3_init 4 = .ok (.aload_n 0, 1) := by decide +kernel
theorem dX3_init_5 : decode cX3_init 5 = .ok (.bipush 8, 2) := by decide +kernel
theorem dX3_init_7 : decode cX3_init 7 = .ok (.newarray .int, 2) := by decide +kernel
theorem dX3_init_9 : decode cX3_init 9 = .ok (.putfield 9, 3) := by decide +kernel
theorem dX3_init_12 : decode cX3_init 12 = .ok (.return_, 1) := by decide +kernel
theorem dX3_take_0 : decode cX3_take 0 = .ok (.aload_n 0, 1) := by decide +kernel
theorem dX3_take_1 : decode cX3_take 1 = .ok (.getfield 15, 3) := by decide +kernel
theorem dX3_take_4 : decode cX3_take 4 = .ok (.bipush 8, 2) := by decide +kernel
theorem dX3_take_6 : decode cX3_take 6 = .ok (.if_icmp .lt 4, 3) := by decide +kernel
theorem dX3_take_9 : decode cX3_take 9 = .ok (.return_, 1) := by decide +kernel
theorem dX3_take_10 : decode cX3_take 10 = .ok (.aload_n 0, 1) := by decide +kernel
theorem dX3_take_11 : decode cX3_take 11 = .ok (.getfield 15, 3) := by decide +kernel
theorem dX3_take_14 : decode cX3_take 14 = .ok (.istore_n 2, 1) := by decide +kernel
theorem dX3_take_15 : decode cX3_take 15 = .ok (.iload_n 2, 1) := by decide +kernel
theorem dX3_take_16 : decode cX3_take 16 = .ok (.ifCond .le 35, 3) := by decide +kernel
theorem dX3_take_19 : decode cX3_take 19 = .ok (.aload_n 0, 1) := by decide +kernel
theorem dX3_take_20 : decode cX3_take 20 = .ok (.getfield 9, 3) := by decide +kernel
theorem dX3_take_23 : decode cX3_take 23 = .ok (.iload_n 2, 1) := by decide +kernel
theorem dX3_take_24 : decode cX3_take 24 = .ok (.iconst 1, 1) := by decide +kernel
theorem dX3_take_25 : decode cX3_take 25 = .ok (.isub, 1) := by decide +kernel
theorem dX3_take_26 : decode cX3_take 26 = .ok (.iaload, 1) := by decide +kernel
theorem dX3_take_27 : decode cX3_take 27 = .ok (.iload_n 1, 1) := by decide +kernel
theorem dX3_take_28 : decode cX3_take 28 = .ok (.if_icmp .le 23, 3) := by decide +kernel
theorem dX3_take_31 : decode cX3_take 31 = .ok (.aload_n 0, 1) := by decide +kernel
theorem dX3_take_32 : decode cX3_take 32 = .ok (.getfield 9, 3) := by decide +kernel
theorem dX3_take_35 : decode cX3_take 35 = .ok (.iload_n 2, 1) := by decide +kernel
theorem dX3_take_36 : decode cX3_take 36 = .ok (.aload_n 0, 1) := by decide +kernel
theorem dX3_take_37 : decode cX3_take 37 = .ok (.getfield 9, 3) := by decide +kernel
theorem dX3_take_40 : decode cX3_take 40 = .ok (.iload_n 2, 1) := by decide +kernel
theorem dX3_take_41 : decode cX3_take 41 = .ok (.iconst 1, 1) := by decide +kernel
theorem dX3_take_42 : decode cX3_take 42 = .ok (.isub, 1) := by decide +kernel
theorem dX3_take_43 : decode cX3_take 43 = .ok (.iaload, 1) := by decide +kernel
theorem dX3_take_44 : decode cX3_take 44 = .ok (.iastore, 1) := by decide +kernel
theorem dX3_take_45 : decode cX3_take 45 = .ok (.iinc 2 (-1), 3) := by decide +kernel
theorem dX3_take_48 : decode cX3_take 48 = .ok (.goto (-33), 3) := by decide +kernel
theorem dX3_take_51 : decode cX3_take 51 = .ok (.aload_n 0, 1) := by decide +kernel
theorem dX3_take_52 : decode cX3_take 52 = .ok (.getfield 9, 3) := by decide +kernel
theorem dX3_take_55 : decode cX3_take 55 = .ok (.iload_n 2, 1) := by decide +kernel
theorem dX3_take_56 : decode cX3_take 56 = .ok (.iload_n 1, 1) := by decide +kernel
theorem dX3_take_57 : decode cX3_take 57 = .ok (.iastore, 1) := by decide +kernel
theorem dX3_take_58 : decode cX3_take 58 = .ok (.aload_n 0, 1) := by decide +kernel
theorem dX3_take_59 : decode cX3_take 59 = .ok (.dup, 1) := by decide +kernel
theorem dX3_take_60 : decode cX3_take 60 = .ok (.getfield 15, 3) := by decide +kernel
theorem dX3_take_63 : decode cX3_take 63 = .ok (.iconst 1, 1) := by decide +kernel
theorem dX3_take_64 : decode cX3_take 64 = .ok (.iadd, 1) := by decide +kernel
theorem dX3_take_65 : decode cX3_take 65 = .ok (.putfield 15, 3) := by decide +kernel
theorem dX3_take_68 : decode cX3_take 68 = .ok (.return_, 1) := by decide +kernel
theorem dX3_leaves_0 : decode cX3_leaves 0 = .ok (.iload_n 1, 1) := by decide +kernel
theorem dX3_leaves_1 : decode cX3_leaves 1 = .ok (.ifCond .lt 17, 3) := by decide +kernel
theorem dX3_leaves_4 : decode cX3_leaves 4 = .ok (.aload_n 0, 1) := by decide +kernel
theorem dX3_leaves_5 : decode cX3_leaves 5 = .ok (.getfield 15, 3) := by decide +kernel
theorem dX3_leaves_8 : decode cX3_leaves 8 = .ok (.iconst 2, 1) := by decide +kernel
theorem dX3_leaves_9 : decode cX3_leaves 9 = .ok (.iload_n 1, 1) := by decide +kernel
theorem dX3_leaves_10 : decode cX3_leaves 10 = .ok (.imul, 1) := by decide +kernel
theorem dX3_leaves_11 : decode cX3_leaves 11 = .ok (.if_icmp .le 7, 3) := by decide +kernel
theorem dX3_leaves_14 : decode cX3_leaves 14 = .ok (.iconst 1, 1) := by decide +kernel
theorem dX3_leaves_15 : decode cX3_leaves 15 = .ok (.goto 4, 3) := by decide +kernel
theorem dX3_leaves_18 : decode cX3_leaves 18 = .ok (.iconst 0, 1) := by decide +kernel
theorem dX3_leaves_19 : decode cX3_leaves 19 = .ok (.ireturn, 1) := by decide +kernel
theorem dX3_middle_0 : decode cX3_middle 0 = .ok (.aload_n 0, 1) := by decide +kernel
theorem dX3_middle_1 : decode cX3_middle 1 = .ok (.iload_n 1, 1) := by decide +kernel
theorem dX3_middle_2 : decode cX3_middle 2 = .ok (.invokevirtual 19, 3) := by decide +kernel
theorem dX3_middle_5 : decode cX3_middle 5 = .ok (.ifCond .eq 30, 3) := by decide +kernel
theorem dX3_middle_8 : decode cX3_middle 8 = .ok (.aload_n 0, 1) := by decide +kernel
theorem dX3_middle_9 : decode cX3_middle 9 = .ok (.getfield 9, 3) := by decide +kernel
theorem dX3_middle_12 : decode cX3_middle 12 = .ok (.iload_n 1, 1) := by decide +kernel
theorem dX3_middle_13 : decode cX3_middle 13 = .ok (.iaload, 1) := by decide +kernel
theorem dX3_middle_14 : decode cX3_middle 14 = .ok (.aload_n 0, 1) := by decide +kernel
theorem dX3_middle_15 : decode cX3_middle 15 = .ok (.getfield 9, 3) := by decide +kernel
theorem dX3_middle_18 : decode cX3_middle 18 = .ok (.aload_n 0, 1) := by decide +kernel
theorem dX3_middle_19 : decode cX3_middle 19 = .ok (.getfield 15, 3) := by decide +kernel
theorem dX3_middle_22 : decode cX3_middle 22 = .ok (.iconst 1, 1) := by decide +kernel
theorem dX3_middle_23 : decode cX3_middle 23 = .ok (.isub, 1) := by decide +kernel
theorem dX3_middle_24 : decode cX3_middle 24 = .ok (.iload_n 1, 1) := by decide +kernel
theorem dX3_middle_25 : decode cX3_middle 25 = .ok (.isub, 1) := by decide +kernel
theorem dX3_middle_26 : decode cX3_middle 26 = .ok (.iaload, 1) := by decide +kernel
theorem dX3_middle_27 : decode cX3_middle 27 = .ok (.iadd, 1) := by decide +kernel
theorem dX3_middle_28 : decode cX3_middle 28 = .ok (.iconst 2, 1) := by decide +kernel
theorem dX3_middle_29 : decode cX3_middle 29 = .ok (.invokestatic 23, 3) := by decide +kernel
theorem dX3_middle_32 : decode cX3_middle 32 = .ok (.goto 4, 3) := by decide +kernel
theorem dX3_middle_35 : decode cX3_middle 35 = .ok (.iconst 0, 1) := by decide +kernel
theorem dX3_middle_36 : decode cX3_middle 36 = .ok (.ireturn, 1) := by decide +kernel
theorem dX4_init_0 : decode cX4_init 0 = .ok (.aload_n 0, 1) := by decide +kernel
theorem dX4_init_1 : decode cX4_init 1 = .ok (.invokespecial 3, 3) := by decide +kernel
theorem dX4_init_4 : decode cX4_init 4 = .ok (.aload_n 0, 1) := by decide +kernel
theorem dX4_init_5 : decode cX4_init 5 = .ok (.bipush 16, 2) := by decide +kernel
theorem dX4_init_7 : decode cX4_init 7 = .ok (.anewarray 9, 3) := by decide +kernel
theorem dX4_init_10 : decode cX4_init 10 = .ok (.putfield 11, 3) := by decide +kernel
theorem dX4_init_13 : decode cX4_init 13 = .ok (.iconst 0, 1) := by decide +kernel
theorem dX4_init_14 : decode cX4_init 14 = .ok (.istore_n 1, 1) := by decide +kernel
theorem dX4_init_15 : decode cX4_init 15 = .ok (.iload_n 1, 1) := by decide +kernel
theorem dX4_init_16 : decode cX4_init 16 = .ok (.bipush 16, 2) := by decide +kernel
theorem dX4_init_18 : decode cX4_init 18 = .ok (.if_icmp .ge 22, 3) := by decide +kernel
theorem dX4_init_21 : decode cX4_init 21 = .ok (.aload_n 0, 1) := by decide +kernel
theorem dX4_init_22 : decode cX4_init 22 = .ok (.getfield 11, 3) := by decide +kernel
theorem dX4_init_25 : decode cX4_init 25 = .ok (.iload_n 1, 1) := by decide +kernel
theorem dX4_init_26 : decode cX4_init 26 = .ok (.new 9, 3) := by decide +kernel
theorem dX4_init_29 : decode cX4_init 29 = .ok (.dup, 1) := by decide +kernel
theorem dX4_init_30 : decode cX4_init 30 = .ok (.invokespecial 17, 3) := by decide +kernel
theorem dX4_init_33 : decode cX4_init 33 = .ok (.aastore, 1) := by decide +kernel
theorem dX4_init_34 : decode cX4_init 34 = .ok (.iinc 1 1, 3) := by decide +kernel
theorem dX4_init_37 : decode cX4_init 37 = .ok (.goto (-22), 3) := by decide +kernel
theorem dX4_init_40 : decode cX4_init 40 = .ok (.return_, 1) := by decide +kernel
theorem dX4_remember_0 : decode cX4_remember 0 = .ok (.aload_n 0, 1) := by decide +kernel
theorem dX4_remember_1 : decode cX4_remember 1 = .ok (.getfield 11, 3) := by decide +kernel
theorem dX4_remember_4 : decode cX4_remember 4 = .ok (.aload_n 0, 1) := by decide +kernel
theorem dX4_remember_5 : decode cX4_remember 5 = .ok (.getfield 18, 3) := by decide +kernel
theorem dX4_remember_8 : decode cX4_remember 8 = .ok (.aaload, 1) := by decide +kernel
theorem dX4_remember_9 : decode cX4_remember 9 = .ok (.aload_n 1, 1) := by decide +kernel
theorem dX4_remember_10 : decode cX4_remember 10 = .ok (.invokevirtual 22, 3) := by decide +kernel
theorem dX4_remember_13 : decode cX4_remember 13 = .ok (.aload_n 0, 1) := by decide +kernel
theorem dX4_remember_14 : decode cX4_remember 14 = .ok (.aload_n 0, 1) := by decide +kernel
theorem dX4_remember_15 : decode cX4_remember 15 = .ok (.getfield 18, 3) := by decide +kernel
theorem dX4_remember_18 : decode cX4_remember 18 = .ok (.iconst 1, 1) := by decide +kernel
theorem dX4_remember_19 : decode cX4_remember 19 = .ok (.iadd, 1) := by decide +kernel
theorem dX4_remember_20 : decode cX4_remember 20 = .ok (.bipush 16, 2) := by decide +kernel
theorem dX4_remember_22 : decode cX4_remember 22 = .ok (.irem, 1) := by decide +kernel
theorem dX4_remember_23 : decode cX4_remember 23 = .ok (.putfield 18, 3) := by decide +kernel
theorem dX4_remember_26 : decode cX4_remember 26 = .ok (.aload_n 0, 1) := by decide +kernel
theorem dX4_remember_27 : decode cX4_remember 27 = .ok (.aload_n 0, 1) := by decide +kernel
theorem dX4_remember_28 : decode cX4_remember 28 = .ok (.getfield 26, 3) := by decide +kernel
theorem dX4_remember_31 : decode cX4_remember 31 = .ok (.iconst 1, 1) := by decide +kernel
theorem dX4_remember_32 : decode cX4_remember 32 = .ok (.iadd, 1) := by decide +kernel
theorem dX4_remember_33 : decode cX4_remember 33 = .ok (.bipush 16, 2) := by decide +kernel
theorem dX4_remember_35 : decode cX4_remember 35 = .ok (.invokestatic 29, 3) := by decide +kernel
theorem dX4_remember_38 : decode cX4_remember 38 = .ok (.putfield 26, 3) := by decide +kernel
theorem dX4_remember_41 : decode cX4_remember 41 = .ok (.return_, 1) := by decide +kernel
theorem dX4_takeBack_0 : decode cX4_takeBack 0 = .ok (.iload_n 1, 1) := by decide +kernel
theorem dX4_takeBack_1 : decode cX4_takeBack 1 = .ok (.iconst 1, 1) := by decide +kernel
theorem dX4_takeBack_2 : decode cX4_takeBack 2 = .ok (.if_icmp .lt 49, 3) := by decide +kernel
theorem dX4_takeBack_5 : decode cX4_takeBack 5 = .ok (.iload_n 1, 1) := by decide +kernel
theorem dX4_takeBack_6 : decode cX4_takeBack 6 = .ok (.aload_n 0, 1) := by decide +kernel
theorem dX4_takeBack_7 : decode cX4_takeBack 7 = .ok (.getfield 26, 3) := by decide +kernel
theorem dX4_takeBack_10 : decode cX4_takeBack 10 = .ok (.if_icmp .gt 41, 3) := by decide +kernel
theorem dX4_takeBack_13 : decode cX4_takeBack 13 = .ok (.aload_n 0, 1) := by decide +kernel
theorem dX4_takeBack_14 : decode cX4_takeBack 14 = .ok (.aload_n 0, 1) := by decide +kernel
theorem dX4_takeBack_15 : decode cX4_takeBack 15 = .ok (.getfield 18, 3) := by decide +kernel
theorem dX4_takeBack_18 : decode cX4_takeBack 18 = .ok (.iload_n 1, 1) := by decide +kernel
theorem dX4_takeBack_19 : decode cX4_takeBack 19 = .ok (.isub, 1) := by decide +kernel
theorem dX4_takeBack_20 : decode cX4_takeBack 20 = .ok (.bipush 16, 2) := by decide +kernel
theorem dX4_takeBack_22 : decode cX4_takeBack 22 = .ok (.invokestatic 35, 3) := by decide +kernel
theorem dX4_takeBack_25 : decode cX4_takeBack 25 = .ok (.putfield 18, 3) := by decide +kernel
theorem dX4_takeBack_28 : decode cX4_takeBack 28 = .ok (.aload_n 0, 1) := by decide +kernel
theorem dX4_takeBack_29 : decode cX4_takeBack 29 = .ok (.dup, 1) := by decide +kernel
theorem dX4_takeBack_30 : decode cX4_takeBack 30 = .ok (.getfield 26, 3) := by decide +kernel
theorem dX4_takeBack_33 : decode cX4_takeBack 33 = .ok (.iload_n 1, 1) := by decide +kernel
theorem dX4_takeBack_34 : decode cX4_takeBack 34 = .ok (.isub, 1) := by decide +kernel
theorem dX4_takeBack_35 : decode cX4_takeBack 35 = .ok (.putfield 26, 3) := by decide +kernel
theorem dX4_takeBack_38 : decode cX4_takeBack 38 = .ok (.aload_n 2, 1) := by decide +kernel
theorem dX4_takeBack_39 : decode cX4_takeBack 39 = .ok (.aload_n 0, 1) := by decide +kernel
theorem dX4_takeBack_40 : decode cX4_takeBack 40 = .ok (.getfield 11, 3) := by decide +kernel
theorem dX4_takeBack_43 : decode cX4_takeBack 43 = .ok (.aload_n 0, 1) := by decide +kernel
theorem dX4_takeBack_44 : decode cX4_takeBack 44 = .ok (.getfield 18, 3) := by decide +kernel
theorem dX4_takeBack_47 : decode cX4_takeBack 47 = .ok (.aaload, 1) := by decide +kernel
theorem dX4_takeBack_48 : decode cX4_takeBack 48 = .ok (.invokevirtual 22, 3) := by decide +kernel
theorem dX4_takeBack_51 : decode cX4_takeBack 51 = .ok (.return_, 1) := by decide +kernel
theorem dX4_forget_0 : decode cX4_forget 0 = .ok (.aload_n 0, 1) := by decide +kernel
theorem dX4_forget_1 : decode cX4_forget 1 = .ok (.iconst 0, 1) := by decide +kernel
theorem dX4_forget_2 : decode cX4_forget 2 = .ok (.putfield 26, 3) := by decide +kernel
theorem dX4_forget_5 : decode cX4_forget 5 = .ok (.return_, 1) := by decide +kernel
theorem dX5_init_0 : decode cX5_init 0 = .ok (.aload_n 0, 1) := by decide +kernel
theorem dX5_init_1 : decode cX5_init 1 = .ok (.invokespecial 3, 3) := by decide +kernel
theorem dX5_init_4 : decode cX5_init 4 = .ok (.aload_n 0, 1) := by decide +kernel
theorem dX5_init_5 : decode cX5_init 5 = .ok (.bipush 10, 2) := by decide +kernel
theorem dX5_init_7 : decode cX5_init 7 = .ok (.putfield 9, 3) := by decide +kernel
theorem dX5_init_10 : decode cX5_init 10 = .ok (.aload_n 0, 1) := by decide +kernel
theorem dX5_init_11 : decode cX5_init 11 = .ok (.bipush 8, 2) := by decide +kernel
theorem dX5_init_13 : decode cX5_init 13 = .ok (.newarray .int, 2) := by decide +kernel
theorem dX5_init_15 : decode cX5_init 15 = .ok (.putfield 15, 3) := by decide +kernel
theorem dX5_init_18 : decode cX5_init 18 = .ok (.aload_n 0, 1) := by decide +kernel
theorem dX5_init_19 : decode cX5_init 19 = .ok (.bipush 8, 2) := by decide +kernel
theorem dX5_init_21 : decode cX5_init 21 = .ok (.newarray .int, 2) := by decide +kernel
theorem dX5_init_23 : decode cX5_init 23 = .ok (.putfield 19, 3) := by decide +kernel
theorem dX5_init_26 : decode cX5_init 26 = .ok (.aload_n 0, 1) := by decide +kernel
theorem dX5_init_27 : decode cX5_init 27 = .ok (.bipush 8, 2) := by decide +kernel
theorem dX5_init_29 : decode cX5_init 29 = .ok (.newarray .int, 2) := by decide +kernel
theorem dX5_init_31 : decode cX5_init 31 = .ok (.putfield 22, 3) := by decide +kernel
theorem dX5_init_34 : decode cX5_init 34 = .ok (.aload_n 0, 1) := by decide +kernel
theorem dX5_init_35 : decode cX5_init 35 = .ok (.bipush 64, 2) := by decide +kernel
theorem dX5_init_37 : decode cX5_init 37 = .ok (.newarray .int, 2) := by decide +kernel
theorem dX5_init_39 : decode cX5_init 39 = .ok (.putfield 25, 3) := by decide +kernel
theorem dX5_init_42 : decode cX5_init 42 = .ok (.aload_n 0, 1) := by decide +kernel
theorem dX5_init_43 : decode cX5_init 43 = .ok (.bipush 64, 2) := by decide +kernel
theorem dX5_init_45 : decode cX5_init 45 = .ok (.newarray .int, 2) := by decide +kernel
theorem dX5_init_47 : decode cX5_init 47 = .ok (.putfield 28, 3) := by decide +kernel
theorem dX5_init_50 : decode cX5_init 50 = .ok (.aload_n 0, 1) := by decide +kernel
theorem dX5_init_51 : decode cX5_init 51 = .ok (.bipush 6, 2) := by decide +kernel
theorem dX5_init_53 : decode cX5_init 53 = .ok (.newarray .int, 2) := by decide +kernel
theorem dX5_init_55 : decode cX5_init 55 = .ok (.putfield 31, 3) := by decide +kernel
theorem dX5_init_58 : decode cX5_init 58 = .ok (.aload_n 0, 1) := by decide +kernel
theorem dX5_init_59 : decode cX5_init 59 = .ok (.bipush 6, 2) := by decide +kernel
theorem dX5_init_61 : decode cX5_init 61 = .ok (.newarray .int, 2) := by decide +kernel
theorem dX5_init_63 : decode cX5_init 63 = .ok (.putfield 34, 3) := by decide +kernel
theorem dX5_init_66 : decode cX5_init 66 = .ok (.return_, 1) := by decide +kernel
theorem dX5_way_0 : decode cX5_way 0 = .ok (.iload_n 0, 1) := by decide +kernel
theorem dX5_way_1 : decode cX5_way 1 = .ok (.bipush 8, 2) := by decide +kernel
theorem dX5_way_3 : decode cX5_way 3 = .ok (.imul, 1) := by decide +kernel
theorem dX5_way_4 : decode cX5_way 4 = .ok (.iload_n 1, 1) := by decide +kernel
theorem dX5_way_5 : decode cX5_way 5 = .ok (.iadd, 1) := by decide +kernel
theorem dX5_way_6 : decode cX5_way 6 = .ok (.ireturn, 1) := by decide +kernel
theorem dX5_clear_0 : decode cX5_clear 0 = .ok (.aload_n 0, 1) := by decide +kernel
theorem dX5_clear_1 : decode cX5_clear 1 = .ok (.iconst 0, 1) := by decide +kernel
theorem dX5_clear_2 : decode cX5_clear 2 = .ok (.putfield 37, 3) := by decide +kernel
theorem dX5_clear_5 : decode cX5_clear 5 = .ok (.aload_n 0, 1) := by decide +kernel
theorem dX5_clear_6 : decode cX5_clear 6 = .ok (.iconst 0, 1) := by decide +kernel
theorem dX5_clear_7 : decode cX5_clear 7 = .ok (.putfield 40, 3) := by decide +kernel
theorem dX5_clear_10 : decode cX5_clear 10 = .ok (.aload_n 0, 1) := by decide +kernel
theorem dX5_clear_11 : decode cX5_clear 11 = .ok (.bipush 10, 2) := by decide +kernel
theorem dX5_clear_13 : decode cX5_clear 13 = .ok (.putfield 9, 3) := by decide +kernel
theorem dX5_clear_16 : decode cX5_clear 16 = .ok (.aload_n 0, 1) := by decide +kernel
theorem dX5_clear_17 : decode cX5_clear 17 = .ok (.iconst 0, 1) := by decide +kernel
theorem dX5_clear_18 : decode cX5_clear 18 = .ok (.putfield 43, 3) := by decide +kernel
theorem dX5_clear_21 : decode cX5_clear 21 = .ok (.aload_n 0, 1) := by decide +kernel
theorem dX5_clear_22 : decode cX5_clear 22 = .ok (.iconst 0, 1) := by decide +kernel
theorem dX5_clear_23 : decode cX5_clear 23 = .ok (.putfield 46, 3) := by decide +kernel
theorem dX5_clear_26 : decode cX5_clear 26 = .ok (.aload_n 0, 1) := by decide +kernel
theorem dX5_clear_27 : decode cX5_clear 27 = .ok (.iconst 0, 1) := by decide +kernel
theorem dX5_clear_28 : decode cX5_clear 28 = .ok (.putfield 49, 3) := by decide +kernel
theorem dX5_clear_31 : decode cX5_clear 31 = .ok (.aload_n 0, 1) := by decide +kernel
theorem dX5_clear_32 : decode cX5_clear 32 = .ok (.iconst 0, 1) := by decide +kernel
theorem dX5_clear_33 : decode cX5_clear 33 = .ok (.putfield 52, 3) := by decide +kernel
theorem dX5_clear_36 : decode cX5_clear 36 = .ok (.aload_n 0, 1) := by decide +kernel
theorem dX5_clear_37 : decode cX5_clear 37 = .ok (.iconst 0, 1) := by decide +kernel
theorem dX5_clear_38 : decode cX5_clear 38 = .ok (.putfield 55, 3) := by decide +kernel
theorem dX5_clear_41 : decode cX5_clear 41 = .ok (.aload_n 0, 1) := by decide +kernel
theorem dX5_clear_42 : decode cX5_clear 42 = .ok (.getfield 25, 3) := by decide +kernel
theorem dX5_clear_45 : decode cX5_clear 45 = .ok (.iconst 0, 1) := by decide +kernel
theorem dX5_clear_46 : decode cX5_clear 46 = .ok (.invokestatic 58, 3) := by decide +kernel
theorem dX5_clear_49 : decode cX5_clear 49 = .ok (.aload_n 0, 1) := by decide +kernel
theorem dX5_clear_50 : decode cX5_clear 50 = .ok (.getfield 28, 3) := by decide +kernel
theorem dX5_clear_53 : decode cX5_clear 53 = .ok (.iconst 0, 1) := by decide +kernel
theorem dX5_clear_54 : decode cX5_clear 54 = .ok (.invokestatic 58, 3) := by decide +kernel
theorem dX5_clear_57 : decode cX5_clear 57 = .ok (.return_, 1) := by decide +kernel
theorem dX5_copyFrom_0 : decode cX5_copyFrom 0 = .ok (.aload_n 0, 1) := by decide +kernel
theorem dX5_copyFrom_1 : decode cX5_copyFrom 1 = .ok (.aload_n 1, 1) := by decide +kernel
theorem dX5_copyFrom_2 : decode cX5_copyFrom 2 = .ok (.getfield 37, 3) := by decide +kernel
theorem dX5_copyFrom_5 : decode cX5_copyFrom 5 = .ok (.putfield 37, 3) := by decide +kernel
theorem dX5_copyFrom_8 : decode cX5_copyFrom 8 = .ok (.aload_n 0, 1) := by decide +kernel
theorem dX5_copyFrom_9 : decode cX5_copyFrom 9 = .ok (.aload_n 1, 1) := by decide +kernel
theorem dX5_copyFrom_10 : decode cX5_copyFrom 10 = .ok (.getfield 40, 3) := by decide +kernel
theorem dX5_copyFrom_13 : decode cX5_copyFrom 13 = .ok (.putfield 40, 3) := by decide +kernel
theorem dX5_copyFrom_16 : decode cX5_copyFrom 16 = .ok (.aload_n 0, 1) := by decide +kernel
theorem dX5_copyFrom_17 : decode cX5_copyFrom 17 = .ok (.aload_n 1, 1) := by decide +kernel
theorem dX5_copyFrom_18 : decode cX5_copyFrom 18 = .ok (.getfield 9, 3) := by decide +kernel
theorem dX5_copyFrom_21 : decode cX5_copyFrom 21 = .ok (.putfield 9, 3) := by decide +kernel
theorem dX5_copyFrom_24 : decode cX5_copyFrom 24 = .ok (.aload_n 0, 1) := by decide +kernel
theorem dX5_copyFrom_25 : decode cX5_copyFrom 25 = .ok (.aload_n 1, 1) := by decide +kernel
theorem dX5_copyFrom_26 : decode cX5_copyFrom 26 = .ok (.getfield 43, 3) := by decide +kernel
theorem dX5_copyFrom_29 : decode cX5_copyFrom 29 = .ok (.putfield 43, 3) := by decide +kernel
theorem dX5_copyFrom_32 : decode cX5_copyFrom 32 = .ok (.aload_n 0, 1) := by decide +kernel
theorem dX5_copyFrom_33 : decode cX5_copyFrom 33 = .ok (.aload_n 1, 1) := by decide +kernel
theorem dX5_copyFrom_34 : decode cX5_copyFrom 34 = .ok (.getfield 46, 3) := by decide +kernel
theorem dX5_copyFrom_37 : decode cX5_copyFrom 37 = .ok (.putfield 46, 3) := by decide +kernel
theorem dX5_copyFrom_40 : decode cX5_copyFrom 40 = .ok (.aload_n 0, 1) := by decide +kernel
theorem dX5_copyFrom_41 : decode cX5_copyFrom 41 = .ok (.aload_n 1, 1) := by decide +kernel
theorem dX5_copyFrom_42 : decode cX5_copyFrom 42 = .ok (.getfield 49, 3) := by decide +kernel
theorem dX5_copyFrom_45 : decode cX5_copyFrom 45 = .ok (.putfield 49, 3) := by decide +kernel
theorem dX5_copyFrom_48 : decode cX5_copyFrom 48 = .ok (.aload_n 0, 1) := by decide +kernel
theorem dX5_copyFrom_49 : decode cX5_copyFrom 49 = .ok (.aload_n 1, 1) := by decide +kernel
theorem dX5_copyFrom_50 : decode cX5_copyFrom 50 = .ok (.getfield 52, 3) := by decide +kernel
theorem dX5_copyFrom_53 : decode cX5_copyFrom 53 = .ok (.putfield 52, 3) := by decide +kernel
theorem dX5_copyFrom_56 : decode cX5_copyFrom 56 = .ok (.aload_n 0, 1) := by decide +kernel
theorem dX5_copyFrom_57 : decode cX5_copyFrom 57 = .ok (.aload_n 1, 1) := by decide +kernel
theorem dX5_copyFrom_58 : decode cX5_copyFrom 58 = .ok (.getfield 55, 3) := by decide +kernel
theorem dX5_copyFrom_61 : decode cX5_copyFrom 61 = .ok (.putfield 55, 3) := by decide +kernel
theorem dX5_copyFrom_64 : decode cX5_copyFrom 64 = .ok (.aload_n 1, 1) := by decide +kernel
theorem dX5_copyFrom_65 : decode cX5_copyFrom 65 = .ok (.getfield 15, 3) := by decide +kernel
theorem dX5_copyFrom_68 : decode cX5_copyFrom 68 = .ok (.iconst 0, 1) := by decide +kernel
theorem dX5_copyFrom_69 : decode cX5_copyFrom 69 = .ok (.aload_n 0, 1) := by decide +kernel
theorem dX5_copyFrom_70 : decode cX5_copyFrom 70 = .ok (.getfield 15, 3) := by decide +kernel
theorem dX5_copyFrom_73 : decode cX5_copyFrom 73 = .ok (.iconst 0, 1) := by decide +kernel
theorem dX5_copyFrom_74 : decode cX5_copyFrom 74 = .ok (.bipush 8, 2) := by decide +kernel
theorem dX5_copyFrom_76 : decode cX5_copyFrom 76 = .ok (.invokestatic 64, 3) := by decide +kernel
theorem dX5_copyFrom_79 : decode cX5_copyFrom 79 = .ok (.aload_n 1, 1) := by decide +kernel
theorem dX5_copyFrom_80 : decode cX5_copyFrom 80 = .ok (.getfield 19, 3) := by decide +kernel
theorem dX5_copyFrom_83 : decode cX5_copyFrom 83 = .ok (.iconst 0, 1) := by decide +kernel
theorem dX5_copyFrom_84 : decode cX5_copyFrom 84 = .ok (.aload_n 0, 1) := by decide +kernel
theorem dX5_copyFrom_85 : decode cX5_copyFrom 85 = .ok (.getfield 19, 3) := by decide +kernel
theorem dX5_copyFrom_88 : decode cX5_copyFrom 88 = .ok (.iconst 0, 1) := by decide +kernel
theorem dX5_copyFrom_89 : decode cX5_copyFrom 89 = .ok (.bipush 8, 2) := by decide +kernel
theorem dX5_copyFrom_91 : decode cX5_copyFrom 91 = .ok (.invokestatic 64, 3) := by decide +kernel
theorem dX5_copyFrom_94 : decode cX5_copyFrom 94 = .ok (.aload_n 1, 1) := by decide +kernel
theorem dX5_copyFrom_95 : decode cX5_copyFrom 95 = .ok (.getfield 22, 3) := by decide +kernel
theorem dX5_copyFrom_98 : decode cX5_copyFrom 98 = .ok (.iconst 0, 1) := by decide +kernel
theorem dX5_copyFrom_99 : decode cX5_copyFrom 99 = .ok (.aload_n 0, 1) := by decide +kernel
theorem dX5_copyFrom_100 : decode cX5_copyFrom 100 = .ok (.getfield 22, 3) := by decide +kernel
theorem dX5_copyFrom_103 : decode cX5_copyFrom 103 = .ok (.iconst 0, 1) := by decide +kernel
theorem dX5_copyFrom_104 : decode cX5_copyFrom 104 = .ok (.bipush 8, 2) := by decide +kernel
theorem dX5_copyFrom_106 : decode cX5_copyFrom 106 = .ok (.invokestatic 64, 3) := by decide +kernel
theorem dX5_copyFrom_109 : decode cX5_copyFrom 109 = .ok (.aload_n 1, 1) := by decide +kernel
theorem dX5_copyFrom_110 : decode cX5_copyFrom 110 = .ok (.getfield 25, 3) := by decide +kernel
theorem dX5_copyFrom_113 : decode cX5_copyFrom 113 = .ok (.iconst 0, 1) := by decide +kernel
theorem dX5_copyFrom_114 : decode cX5_copyFrom 114 = .ok (.aload_n 0, 1) := by decide +kernel
theorem dX5_copyFrom_115 : decode cX5_copyFrom 115 = .ok (.getfield 25, 3) := by decide +kernel
theorem dX5_copyFrom_118 : decode cX5_copyFrom 118 = .ok (.iconst 0, 1) := by decide +kernel
theorem dX5_copyFrom_119 : decode cX5_copyFrom 119 = .ok (.bipush 64, 2) := by decide +kernel
theorem dX5_copyFrom_121 : decode cX5_copyFrom 121 = .ok (.invokestatic 64, 3) := by decide +kernel
theorem dX5_copyFrom_124 : decode cX5_copyFrom 124 = .ok (.aload_n 1, 1) := by decide +kernel
theorem dX5_copyFrom_125 : decode cX5_copyFrom 125 = .ok (.getfield 28, 3) := by decide +kernel
theorem dX5_copyFrom_128 : decode cX5_copyFrom 128 = .ok (.iconst 0, 1) := by decide +kernel
theorem dX5_copyFrom_129 : decode cX5_copyFrom 129 = .ok (.aload_n 0, 1) := by decide +kernel
theorem dX5_copyFrom_130 : decode cX5_copyFrom 130 = .ok (.getfield 28, 3) := by decide +kernel
theorem dX5_copyFrom_133 : decode cX5_copyFrom 133 = .ok (.iconst 0, 1) := by decide +kernel
theorem dX5_copyFrom_134 : decode cX5_copyFrom 134 = .ok (.bipush 64, 2) := by decide +kernel
theorem dX5_copyFrom_136 : decode cX5_copyFrom 136 = .ok (.invokestatic 64, 3) := by decide +kernel
theorem dX5_copyFrom_139 : decode cX5_copyFrom 139 = .ok (.aload_n 1, 1) := by decide +kernel
theorem dX5_copyFrom_140 : decode cX5_copyFrom 140 = .ok (.getfield 31, 3) := by decide +kernel
theorem dX5_copyFrom_143 : decode cX5_copyFrom 143 = .ok (.iconst 0, 1) := by decide +kernel
theorem dX5_copyFrom_144 : decode cX5_copyFrom 144 = .ok (.aload_n 0, 1) := by decide +kernel
theorem dX5_copyFrom_145 : decode cX5_copyFrom 145 = .ok (.getfield 31, 3) := by decide +kernel
theorem dX5_copyFrom_148 : decode cX5_copyFrom 148 = .ok (.iconst 0, 1) := by decide +kernel
theorem dX5_copyFrom_149 : decode cX5_copyFrom 149 = .ok (.bipush 6, 2) := by decide +kernel
theorem dX5_copyFrom_151 : decode cX5_copyFrom 151 = .ok (.invokestatic 64, 3) := by decide +kernel
theorem dX5_copyFrom_154 : decode cX5_copyFrom 154 = .ok (.aload_n 1, 1) := by decide +kernel
theorem dX5_copyFrom_155 : decode cX5_copyFrom 155 = .ok (.getfield 34, 3) := by decide +kernel
theorem dX5_copyFrom_158 : decode cX5_copyFrom 158 = .ok (.iconst 0, 1) := by decide +kernel
theorem dX5_copyFrom_159 : decode cX5_copyFrom 159 = .ok (.aload_n 0, 1) := by decide +kernel
theorem dX5_copyFrom_160 : decode cX5_copyFrom 160 = .ok (.getfield 34, 3) := by decide +kernel
theorem dX5_copyFrom_163 : decode cX5_copyFrom 163 = .ok (.iconst 0, 1) := by decide +kernel
theorem dX5_copyFrom_164 : decode cX5_copyFrom 164 = .ok (.bipush 6, 2) := by decide +kernel
theorem dX5_copyFrom_166 : decode cX5_copyFrom 166 = .ok (.invokestatic 64, 3) := by decide +kernel
theorem dX5_copyFrom_169 : decode cX5_copyFrom 169 = .ok (.return_, 1) := by decide +kernel
theorem dX5_addClock_0 : decode cX5_addClock 0 = .ok (.aload_n 0, 1) := by decide +kernel
theorem dX5_addClock_1 : decode cX5_addClock 1 = .ok (.getfield 37, 3) := by decide +kernel
theorem dX5_addClock_4 : decode cX5_addClock 4 = .ok (.bipush 8, 2) := by decide +kernel
theorem dX5_addClock_6 : decode cX5_addClock 6 = .ok (.if_icmp .ge 43, 3) := by decide +kernel
theorem dX5_addClock_9 : decode cX5_addClock 9 = .ok (.aload_n 0, 1) := by decide +kernel
theorem dX5_addClock_10 : decode cX5_addClock 10 = .ok (.getfield 15, 3) := by decide +kernel
theorem dX5_addClock_13 : decode cX5_addClock 13 = .ok (.aload_n 0, 1) := by decide +kernel
theorem dX5_addClock_14 : decode cX5_addClock 14 = .ok (.getfield 37, 3) := by decide +kernel
theorem dX5_addClock_17 : decode cX5_addClock 17 = .ok (.iload_n 1, 1) := by decide +kernel
theorem dX5_addClock_18 : decode cX5_addClock 18 = .ok (.iastore, 1) := by decide +kernel
theorem dX5_addClock_19 : decode cX5_addClock 19 = .ok (.aload_n 0, 1) := by decide +kernel
theorem dX5_addClock_20 : decode cX5_addClock 20 = .ok (.getfield 19, 3) := by decide +kernel
theorem dX5_addClock_23 : decode cX5_addClock 23 = .ok (.aload_n 0, 1) := by decide +kernel
theorem dX5_addClock_24 : decode cX5_addClock 24 = .ok (.getfield 37, 3) := by decide +kernel
theorem dX5_addClock_27 : decode cX5_addClock 27 = .ok (.iload_n 2, 1) := by decide +kernel
theorem dX5_addClock_28 : decode cX5_addClock 28 = .ok (.iastore, 1) := by decide +kernel
theorem dX5_addClock_29 : decode cX5_addClock 29 = .ok (.aload_n 0, 1) := by decide +kernel
theorem dX5_addClock_30 : decode cX5_addClock 30 = .ok (.getfield 22, 3) := by decide +kernel
theorem dX5_addClock_33 : decode cX5_addClock 33 = .ok (.aload_n 0, 1) := by decide +kernel
theorem dX5_addClock_34 : decode cX5_addClock 34 = .ok (.getfield 37, 3) := by decide +kernel
theorem dX5_addClock_37 : decode cX5_addClock 37 = .ok (.iconst 0, 1) := by decide +kernel
theorem dX5_addClock_38 : decode cX5_addClock 38 = .ok (.iastore, 1) := by decide +kernel
theorem dX5_addClock_39 : decode cX5_addClock 39 = .ok (.aload_n 0, 1) := by decide +kernel
theorem dX5_addClock_40 : decode cX5_addClock 40 = .ok (.dup, 1) := by decide +kernel
theorem dX5_addClock_41 : decode cX5_addClock 41 = .ok (.getfield 37, 3) := by decide +kernel
theorem dX5_addClock_44 : decode cX5_addClock 44 = .ok (.iconst 1, 1) := by decide +kernel
theorem dX5_addClock_45 : decode cX5_addClock 45 = .ok (.iadd, 1) := by decide +kernel
theorem dX5_addClock_46 : decode cX5_addClock 46 = .ok (.putfield 37, 3) := by decide +kernel
theorem dX5_addClock_49 : decode cX5_addClock 49 = .ok (.return_, 1) := by decide +kernel
theorem dX5_has_0 : decode cX5_has 0 = .ok (.iload_n 1, 1) := by decide +kernel
theorem dX5_has_1 : decode cX5_has 1 = .ok (.ifCond .lt 15, 3) := by decide +kernel
theorem dX5_has_4 : decode cX5_has 4 = .ok (.iload_n 1, 1) := by decide +kernel
theorem dX5_has_5 : decode cX5_has 5 = .ok (.aload_n 0, 1) := by decide +kernel
theorem dX5_has_6 : decode cX5_has 6 = .ok (.getfield 37, 3) := by decide +kernel
theorem dX5_has_9 : decode cX5_has 9 = .ok (.if_icmp .ge 7, 3) := by decide +kernel
theorem dX5_has_12 : decode cX5_has 12 = .ok (.iconst 1, 1) := by decide +kernel
theorem dX5_has_13 : decode cX5_has 13 = .ok (.goto 4, 3) := by decide +kernel
theorem dX5_has_16 : decode cX5_has 16 = .ok (.iconst 0, 1) := by decide +kernel
theorem dX5_has_17 : decode cX5_has 17 = .ok (.ireturn, 1) := by decide +kernel
theorem dX5_hasBoth_0 : decode cX5_hasBoth 0 = .ok (.aload_n 0, 1) := by decide +kernel
theorem dX5_hasBoth_1 : decode cX5_hasBoth 1 = .ok (.iload_n 1, 1) := by decide +kernel
theorem dX5_hasBoth_2 : decode cX5_hasBoth 2 = .ok (.invokevirtual 70, 3) := by decide +kernel
theorem dX5_hasBoth_5 : decode cX5_hasBoth 5 = .ok (.ifCond .eq 20, 3) := by decide +kernel
theorem dX5_hasBoth_8 : decode cX5_hasBoth 8 = .ok (.aload_n 0, 1) := by decide +kernel
theorem dX5_hasBoth_9 : decode cX5_hasBoth 9 = .ok (.iload_n 2, 1) := by decide +kernel
theorem dX5_hasBoth_10 : decode cX5_hasBoth 10 = .ok (.invokevirtual 70, 3) := by decide +kernel
theorem dX5_hasBoth_13 : decode cX5_hasBoth 13 = .ok (.ifCond .eq 12, 3) := by decide +kernel
theorem dX5_hasBoth_16 : decode cX5_hasBoth 16 = .ok (.iload_n 1, 1) := by decide +kernel
theorem dX5_hasBoth_17 : decode cX5_hasBoth 17 = .ok (.iload_n 2, 1) := by decide +kernel
theorem dX5_hasBoth_18 : decode cX5_hasBoth 18 = .ok (.if_icmp .eq 7, 3) := by decide +kernel
theorem dX5_hasBoth_21 : decode cX5_hasBoth 21 = .ok (.iconst 1, 1) := by decide +kernel
theorem dX5_hasBoth_22 : decode cX5_hasBoth 22 = .ok (.goto 4, 3) := by decide +kernel
theorem dX5_hasBoth_25 : decode cX5_hasBoth 25 = .ok (.iconst 0, 1) := by decide +kernel
theorem dX5_hasBoth_26 : decode cX5_hasBoth 26 = .ok (.ireturn, 1) := by decide +kernel
theorem dX5_lies_0 : decode cX5_lies 0 = .ok (.aload_n 0, 1) := by decide +kernel
theorem dX5_lies_1 : decode cX5_lies 1 = .ok (.getfield 43, 3) := by decide +kernel
theorem dX5_lies_4 : decode cX5_lies 4 = .ok (.iload_n 1, 1) := by decide +kernel
theorem dX5_lies_5 : decode cX5_lies 5 = .ok (.ishr, 1) := by decide +kernel
theorem dX5_lies_6 : decode cX5_lies 6 = .ok (.iconst 1, 1) := by decide +kernel
theorem dX5_lies_7 : decode cX5_lies 7 = .ok (.iand, 1) := by decide +kernel
theorem dX5_lies_8 : decode cX5_lies 8 = .ok (.iconst 1, 1) := by decide +kernel
theorem dX5_lies_9 : decode cX5_lies 9 = .ok (.if_icmp .ne 7, 3) := by decide +kernel
theorem dX5_lies_12 : decode cX5_lies 12 = .ok (.iconst 1, 1) := by decide +kernel
theorem dX5_lies_13 : decode cX5_lies 13 = .ok (.goto 4, 3) := by decide +kernel
theorem dX5_lies_16 : decode cX5_lies 16 = .ok (.iconst 0, 1) := by decide +kernel
theorem dX5_lies_17 : decode cX5_lies 17 = .ok (.ireturn, 1) := by decide +kernel
theorem dX5_stands_0 : decode cX5_stands 0 = .ok (.aload_n 0, 1) := by decide +kernel
theorem dX5_stands_1 : decode cX5_stands 1 = .ok (.getfield 46, 3) := by decide +kernel
theorem dX5_stands_4 : decode cX5_stands 4 = .ok (.iload_n 1, 1) := by decide +kernel
theorem dX5_stands_5 : decode cX5_stands 5 = .ok (.ishr, 1) := by decide +kernel
theorem dX5_stands_6 : decode cX5_stands 6 = .ok (.iconst 1, 1) := by decide +kernel
theorem dX5_stands_7 : decode cX5_stands 7 = .ok (.iand, 1) := by decide +kernel
theorem dX5_stands_8 : decode cX5_stands 8 = .ok (.iconst 1, 1) := by decide +kernel
theorem dX5_stands_9 : decode cX5_stands 9 = .ok (.if_icmp .ne 7, 3) := by decide +kernel
theorem dX5_stands_12 : decode cX5_stands 12 = .ok (.iconst 1, 1) := by decide +kernel
theorem dX5_stands_13 : decode cX5_stands 13 = .ok (.goto 4, 3) := by decide +kernel
theorem dX5_stands_16 : decode cX5_stands 16 = .ok (.iconst 0, 1) := by decide +kernel
theorem dX5_stands_17 : decode cX5_stands 17 = .ok (.ireturn, 1) := by decide +kernel
theorem dX5_isTrue_0 : decode cX5_isTrue 0 = .ok (.aload_n 0, 1) := by decide +kernel
theorem dX5_isTrue_1 : decode cX5_isTrue 1 = .ok (.iload_n 1, 1) := by decide +kernel
theorem dX5_isTrue_2 : decode cX5_isTrue 2 = .ok (.invokevirtual 74, 3) := by decide +kernel
theorem dX5_isTrue_5 : decode cX5_isTrue 5 = .ok (.ifCond .ne 15, 3) := by decide +kernel
theorem dX5_isTrue_8 : decode cX5_isTrue 8 = .ok (.aload_n 0, 1) := by decide +kernel
theorem dX5_isTrue_9 : decode cX5_isTrue 9 = .ok (.iload_n 1, 1) := by decide +kernel
theorem dX5_isTrue_10 : decode cX5_isTrue 10 = .ok (.invokevirtual 77, 3) := by decide +kernel
theorem dX5_isTrue_13 : decode cX5_isTrue 13 = .ok (.ifCond .ne 7, 3) := by decide +kernel
theorem dX5_isTrue_16 : decode cX5_isTrue 16 = .ok (.iconst 1, 1) := by decide +kernel
theorem dX5_isTrue_17 : decode cX5_isTrue 17 = .ok (.goto 4, 3) := by decide +kernel
theorem dX5_isTrue_20 : decode cX5_isTrue 20 = .ok (.iconst 0, 1) := by decide +kernel
theorem dX5_isTrue_21 : decode cX5_isTrue 21 = .ok (.ireturn, 1) := by decide +kernel
theorem dX5_tellsLies_0 : decode cX5_tellsLies 0 = .ok (.aload_n 0, 1) := by decide +kernel
theorem dX5_tellsLies_1 : decode cX5_tellsLies 1 = .ok (.iload_n 1, 1) := by decide +kernel
theorem dX5_tellsLies_2 : decode cX5_tellsLies 2 = .ok (.invokevirtual 74, 3) := by decide +kernel
theorem dX5_tellsLies_5 : decode cX5_tellsLies 5 = .ok (.ifCond .eq 15, 3) := by decide +kernel
theorem dX5_tellsLies_8 : decode cX5_tellsLies 8 = .ok (.aload_n 0, 1) := by decide +kernel
theorem dX5_tellsLies_9 : decode cX5_tellsLies 9 = .ok (.iload_n 1, 1) := by decide +kernel
theorem dX5_tellsLies_10 : decode cX5_tellsLies 10 = .ok (.invokevirtual 77, 3) := by decide +kernel
theorem dX5_tellsLies_13 : decode cX5_tellsLies 13 = .ok (.ifCond .ne 7, 3) := by decide +kernel
theorem dX5_tellsLies_16 : decode cX5_tellsLies 16 = .ok (.iconst 1, 1) := by decide +kernel
theorem dX5_tellsLies_17 : decode cX5_tellsLies 17 = .ok (.goto 4, 3) := by decide +kernel
theorem dX5_tellsLies_20 : decode cX5_tellsLies 20 = .ok (.iconst 0, 1) := by decide +kernel
theorem dX5_tellsLies_21 : decode cX5_tellsLies 21 = .ok (.ireturn, 1) := by decide +kernel
theorem dX5_trueSet_0 : decode cX5_trueSet 0 = .ok (.iconst 1, 1) := by decide +kernel
theorem dX5_trueSet_1 : decode cX5_trueSet 1 = .ok (.aload_n 0, 1) := by decide +kernel
theorem dX5_trueSet_2 : decode cX5_trueSet 2 = .ok (.getfield 37, 3) := by decide +kernel
theorem dX5_trueSet_5 : decode cX5_trueSet 5 = .ok (.ishl, 1) := by decide +kernel
theorem dX5_trueSet_6 : decode cX5_trueSet 6 = .ok (.iconst 1, 1) := by decide +kernel
theorem dX5_trueSet_7 : decode cX5_trueSet 7 = .ok (.isub, 1) := by decide +kernel
theorem dX5_trueSet_8 : decode cX5_trueSet 8 = .ok (.aload_n 0, 1) := by decide +kernel
theorem dX5_trueSet_9 : decode cX5_trueSet 9 = .ok (.getfield 43, 3) := by decide +kernel
theorem dX5_trueSet_12 : decode cX5_trueSet 12 = .ok (.iconst (-1), 1) := by decide +kernel
theorem dX5_trueSet_13 : decode cX5_trueSet 13 = .ok (.ixor, 1) := by decide +kernel
theorem dX5_trueSet_14 : decode cX5_trueSet 14 = .ok (.iand, 1) := by decide +kernel
theorem dX5_trueSet_15 : decode cX5_trueSet 15 = .ok (.aload_n 0, 1) := by decide +kernel
theorem dX5_trueSet_16 : decode cX5_trueSet 16 = .ok (.getfield 46, 3) := by decide +kernel
theorem dX5_trueSet_19 : decode cX5_trueSet 19 = .ok (.iconst (-1), 1) := by decide +kernel
theorem dX5_trueSet_20 : decode cX5_trueSet 20 = .ok (.ixor, 1) := by decide +kernel
theorem dX5_trueSet_21 : decode cX5_trueSet 21 = .ok (.iand, 1) := by decide +kernel
theorem dX5_trueSet_22 : decode cX5_trueSet 22 = .ok (.ireturn, 1) := by decide +kernel
