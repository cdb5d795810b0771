theorem dX5_init_0 : decode cX5_init 0 = .ok (.aload_n 0, 1) := by decide +kernel
theorem dX5_init_1 : decode cX5_init 1 = .ok (.invokespecial 1, 3) := by decide +kernel
theorem dX5_init_4 : decode cX5_init 4 = .ok (.aload_n 0, 1) := by decide +kernel
theorem dX5_init_5 : decode cX5_init 5 = .ok (.sipush 371, 3) := by decide +kernel
theorem dX5_init_8 : decode cX5_init 8 = .ok (.newarray .int, 2) := by decide +kernel
theorem dX5_init_10 : decode cX5_init 10 = .ok (.putfield 7, 3) := by decide +kernel
theorem dX5_init_13 : decode cX5_init 13 = .ok (.aload_n 0, 1) := by decide +kernel
theorem dX5_init_14 : decode cX5_init 14 = .ok (.sipush 2226, 3) := by decide +kernel
theorem dX5_init_17 : decode cX5_init 17 = .ok (.newarray .int, 2) := by decide +kernel
theorem dX5_init_19 : decode cX5_init 19 = .ok (.putfield 13, 3) := by decide +kernel
theorem dX5_init_22 : decode cX5_init 22 = .ok (.aload_n 0, 1) := by decide +kernel
theorem dX5_init_23 : decode cX5_init 23 = .ok (.sipush 742, 3) := by decide +kernel
theorem dX5_init_26 : decode cX5_init 26 = .ok (.newarray .int, 2) := by decide +kernel
theorem dX5_init_28 : decode cX5_init 28 = .ok (.putfield 16, 3) := by decide +kernel
theorem dX5_init_31 : decode cX5_init 31 = .ok (.aload_n 0, 1) := by decide +kernel
theorem dX5_init_32 : decode cX5_init 32 = .ok (.iconst 2, 1) := by decide +kernel
theorem dX5_init_33 : decode cX5_init 33 = .ok (.newarray .boolean, 2) := by decide +kernel
theorem dX5_init_35 : decode cX5_init 35 = .ok (.putfield 19, 3) := by decide +kernel
theorem dX5_init_38 : decode cX5_init 38 = .ok (.aload_n 0, 1) := by decide +kernel
theorem dX5_init_39 : decode cX5_init 39 = .ok (.bipush 60, 2) := by decide +kernel
theorem dX5_init_41 : decode cX5_init 41 = .ok (.newarray .int, 2) := by decide +kernel
theorem dX5_init_43 : decode cX5_init 43 = .ok (.putfield 23, 3) := by decide +kernel
theorem dX5_init_46 : decode cX5_init 46 = .ok (.iconst 0, 1) := by decide +kernel
theorem dX5_init_47 : decode cX5_init 47 = .ok (.istore_n 1, 1) := by decide +kernel
theorem dX5_init_48 : decode cX5_init 48 = .ok (.iload_n 1, 1) := by decide +kernel
theorem dX5_init_49 : decode cX5_init 49 = .ok (.bipush 15, 2) := by decide +kernel
theorem dX5_init_51 : decode cX5_init 51 = .ok (.if_icmp .ge 28, 3) := by decide +kernel
theorem dX5_init_54 : decode cX5_init 54 = .ok (.aload_n 0, 1) := by decide +kernel
theorem dX5_init_55 : decode cX5_init 55 = .ok (.getfield 7, 3) := by decide +kernel
theorem dX5_init_58 : decode cX5_init 58 = .ok (.sipush 312, 3) := by decide +kernel
theorem dX5_init_61 : decode cX5_init 61 = .ok (.iload_n 1, 1) := by decide +kernel
theorem dX5_init_62 : decode cX5_init 62 = .ok (.iadd, 1) := by decide +kernel
theorem dX5_init_63 : decode cX5_init 63 = .ok (.bipush 60, 2) := by decide +kernel
theorem dX5_init_65 : decode cX5_init 65 = .ok (.bipush 10, 2) := by decide +kernel
theorem dX5_init_67 : decode cX5_init 67 = .ok (.iload_n 1, 1) := by decide +kernel
theorem dX5_init_68 : decode cX5_init 68 = .ok (.iconst 3, 1) := by decide +kernel
theorem dX5_init_69 : decode cX5_init 69 = .ok (.irem, 1) := by decide +kernel
theorem dX5_init_70 : decode cX5_init 70 = .ok (.imul, 1) := by decide +kernel
theorem dX5_init_71 : decode cX5_init 71 = .ok (.iadd, 1) := by decide +kernel
theorem dX5_init_72 : decode cX5_init 72 = .ok (.iastore, 1) := by decide +kernel
theorem dX5_init_73 : decode cX5_init 73 = .ok (.iinc 1 1, 3) := by decide +kernel
theorem dX5_init_76 : decode cX5_init 76 = .ok (.goto (-28), 3) := by decide +kernel
theorem dX5_init_79 : decode cX5_init 79 = .ok (.return_, 1) := by decide +kernel
theorem dX5_thrown_0 : decode cX5_thrown 0 = .ok (.aload_n 0, 1) := by decide +kernel
theorem dX5_thrown_1 : decode cX5_thrown 1 = .ok (.getfield 26, 3) := by decide +kernel
theorem dX5_thrown_4 : decode cX5_thrown 4 = .ok (.ireturn, 1) := by decide +kernel
theorem dX5_refused_0 : decode cX5_refused 0 = .ok (.aload_n 0, 1) := by decide +kernel
theorem dX5_refused_1 : decode cX5_refused 1 = .ok (.iload_n 1, 1) := by decide +kernel
theorem dX5_refused_2 : decode cX5_refused 2 = .ok (.putfield 26, 3) := by decide +kernel
theorem dX5_refused_5 : decode cX5_refused 5 = .ok (.iload_n 1, 1) := by decide +kernel
theorem dX5_refused_6 : decode cX5_refused 6 = .ok (.ifCond .le 7, 3) := by decide +kernel
theorem dX5_refused_9 : decode cX5_refused 9 = .ok (.iconst 1, 1) := by decide +kernel
theorem dX5_refused_10 : decode cX5_refused 10 = .ok (.goto 4, 3) := by decide +kernel
theorem dX5_refused_13 : decode cX5_refused 13 = .ok (.iconst 0, 1) := by decide +kernel
theorem dX5_refused_14 : decode cX5_refused 14 = .ok (.ireturn, 1) := by decide +kernel
theorem dX5_told_0 : decode cX5_told 0 = .ok (.aload_n 0, 1) := by decide +kernel
theorem dX5_told_1 : decode cX5_told 1 = .ok (.iconst 0, 1) := by decide +kernel
theorem dX5_told_2 : decode cX5_told 2 = .ok (.putfield 26, 3) := by decide +kernel
theorem dX5_told_5 : decode cX5_told 5 = .ok (.iload_n 1, 1) := by decide +kernel
theorem dX5_told_6 : decode cX5_told 6 = .ok (.ireturn, 1) := by decide +kernel
theorem dX5_in_0 : decode cX5_in 0 = .ok (.iload_n 0, 1) := by decide +kernel
theorem dX5_in_1 : decode cX5_in 1 = .ok (.iload_n 1, 1) := by decide +kernel
theorem dX5_in_2 : decode cX5_in 2 = .ok (.if_icmp .lt 12, 3) := by decide +kernel
theorem dX5_in_5 : decode cX5_in 5 = .ok (.iload_n 0, 1) := by decide +kernel
theorem dX5_in_6 : decode cX5_in 6 = .ok (.iload_n 2, 1) := by decide +kernel
theorem dX5_in_7 : decode cX5_in 7 = .ok (.if_icmp .gt 7, 3) := by decide +kernel
theorem dX5_in_10 : decode cX5_in 10 = .ok (.iconst 1, 1) := by decide +kernel
theorem dX5_in_11 : decode cX5_in 11 = .ok (.goto 4, 3) := by decide +kernel
theorem dX5_in_14 : decode cX5_in 14 = .ok (.iconst 0, 1) := by decide +kernel
theorem dX5_in_15 : decode cX5_in 15 = .ok (.ireturn, 1) := by decide +kernel
theorem dX5_isClause_0 : decode cX5_isClause 0 = .ok (.iload_n 1, 1) := by decide +kernel
theorem dX5_isClause_1 : decode cX5_isClause 1 = .ok (.iconst 0, 1) := by decide +kernel
theorem dX5_isClause_2 : decode cX5_isClause 2 = .ok (.aload_n 0, 1) := by decide +kernel
theorem dX5_isClause_3 : decode cX5_isClause 3 = .ok (.getfield 7, 3) := by decide +kernel
theorem dX5_isClause_6 : decode cX5_isClause 6 = .ok (.sipush 366, 3) := by decide +kernel
theorem dX5_isClause_9 : decode cX5_isClause 9 = .ok (.iaload, 1) := by decide +kernel
theorem dX5_isClause_10 : decode cX5_isClause 10 = .ok (.iconst 1, 1) := by decide +kernel
theorem dX5_isClause_11 : decode cX5_isClause 11 = .ok (.isub, 1) := by decide +kernel
theorem dX5_isClause_12 : decode cX5_isClause 12 = .ok (.invokestatic 30, 3) := by decide +kernel
theorem dX5_isClause_15 : decode cX5_isClause 15 = .ok (.ireturn, 1) := by decide +kernel
theorem dX5_isReel_0 : decode cX5_isReel 0 = .ok (.iload_n 0, 1) := by decide +kernel
theorem dX5_isReel_1 : decode cX5_isReel 1 = .ok (.iconst 0, 1) := by decide +kernel
theorem dX5_isReel_2 : decode cX5_isReel 2 = .ok (.iconst 3, 1) := by decide +kernel
theorem dX5_isReel_3 : decode cX5_isReel 3 = .ok (.invokestatic 30, 3) := by decide +kernel
theorem dX5_isReel_6 : decode cX5_isReel 6 = .ok (.ireturn, 1) := by decide +kernel
theorem dX5_isState_0 : decode cX5_isState 0 = .ok (.iload_n 0, 1) := by decide +kernel
theorem dX5_isState_1 : decode cX5_isState 1 = .ok (.iconst 0, 1) := by decide +kernel
theorem dX5_isState_2 : decode cX5_isState 2 = .ok (.iconst 4, 1) := by decide +kernel
theorem dX5_isState_3 : decode cX5_isState 3 = .ok (.invokestatic 30, 3) := by decide +kernel
theorem dX5_isState_6 : decode cX5_isState 6 = .ok (.ireturn, 1) := by decide +kernel
theorem dX5_isTongue_0 : decode cX5_isTongue 0 = .ok (.iload_n 0, 1) := by decide +kernel
theorem dX5_isTongue_1 : decode cX5_isTongue 1 = .ok (.iconst 0, 1) := by decide +kernel
theorem dX5_isTongue_2 : decode cX5_isTongue 2 = .ok (.iconst 2, 1) := by decide +kernel
theorem dX5_isTongue_3 : decode cX5_isTongue 3 = .ok (.invokestatic 30, 3) := by decide +kernel
theorem dX5_isTongue_6 : decode cX5_isTongue 6 = .ok (.ireturn, 1) := by decide +kernel
theorem dX5_are_0 : decode cX5_are 0 = .ok (.aload_n 0, 1) := by decide +kernel
theorem dX5_are_1 : decode cX5_are 1 = .ok (.iload_n 1, 1) := by decide +kernel
theorem dX5_are_2 : decode cX5_are 2 = .ok (.invokevirtual 34, 3) := by decide +kernel
theorem dX5_are_5 : decode cX5_are 5 = .ok (.ifCond .eq 14, 3) := by decide +kernel
theorem dX5_are_8 : decode cX5_are 8 = .ok (.iload_n 2, 1) := by decide +kernel
theorem dX5_are_9 : decode cX5_are 9 = .ok (.invokestatic 38, 3) := by decide +kernel
theorem dX5_are_12 : decode cX5_are 12 = .ok (.ifCond .eq 7, 3) := by decide +kernel
theorem dX5_are_15 : decode cX5_are 15 = .ok (.iconst 1, 1) := by decide +kernel
theorem dX5_are_16 : decode cX5_are 16 = .ok (.goto 4, 3) := by decide +kernel
theorem dX5_are_19 : decode cX5_are 19 = .ok (.iconst 0, 1) := by decide +kernel
theorem dX5_are_20 : decode cX5_are 20 = .ok (.ireturn, 1) := by decide +kernel
theorem dX5_at_0 : decode cX5_at 0 = .ok (.bipush 13, 2) := by decide +kernel
theorem dX5_at_2 : decode cX5_at 2 = .ok (.iload_n 0, 1) := by decide +kernel
theorem dX5_at_3 : decode cX5_at 3 = .ok (.imul, 1) := by decide +kernel
theorem dX5_at_4 : decode cX5_at 4 = .ok (.iload_n 1, 1) := by decide +kernel
theorem dX5_at_5 : decode cX5_at 5 = .ok (.iadd, 1) := by decide +kernel
theorem dX5_at_6 : decode cX5_at 6 = .ok (.ireturn, 1) := by decide +kernel
theorem dX5_saves_0 : decode cX5_saves 0 = .ok (.aload_n 0, 1) := by decide +kernel
theorem dX5_saves_1 : decode cX5_saves 1 = .ok (.getfield 41, 3) := by decide +kernel
theorem dX5_saves_4 : decode cX5_saves 4 = .ok (.bipush 6, 2) := by decide +kernel
theorem dX5_saves_6 : decode cX5_saves 6 = .ok (.if_icmp .ne 44, 3) := by decide +kernel
theorem dX5_saves_9 : decode cX5_saves 9 = .ok (.iconst 0, 1) := by decide +kernel
theorem dX5_saves_10 : decode cX5_saves 10 = .ok (.istore_n 1, 1) := by decide +kernel
theorem dX5_saves_11 : decode cX5_saves 11 = .ok (.iload_n 1, 1) := by decide +kernel
theorem dX5_saves_12 : decode cX5_saves 12 = .ok (.sipush 1855, 3) := by decide +kernel
theorem dX5_saves_15 : decode cX5_saves 15 = .ok (.if_icmp .ge 25, 3) := by decide +kernel
theorem dX5_saves_18 : decode cX5_saves 18 = .ok (.aload_n 0, 1) := by decide +kernel
theorem dX5_saves_19 : decode cX5_saves 19 = .ok (.getfield 13, 3) := by decide +kernel
theorem dX5_saves_22 : decode cX5_saves 22 = .ok (.iload_n 1, 1) := by decide +kernel
theorem dX5_saves_23 : decode cX5_saves 23 = .ok (.aload_n 0, 1) := by decide +kernel
theorem dX5_saves_24 : decode cX5_saves 24 = .ok (.getfield 13, 3) := by decide +kernel
theorem dX5_saves_27 : decode cX5_saves 27 = .ok (.sipush 371, 3) := by decide +kernel
theorem dX5_saves_30 : decode cX5_saves 30 = .ok (.iload_n 1, 1) := by decide +kernel
theorem dX5_saves_31 : decode cX5_saves 31 = .ok (.iadd, 1) := by decide +kernel
theorem dX5_saves_32 : decode cX5_saves 32 = .ok (.iaload, 1) := by decide +kernel
theorem dX5_saves_33 : decode cX5_saves 33 = .ok (.iastore, 1) := by decide +kernel
theorem dX5_saves_34 : decode cX5_saves 34 = .ok (.iinc 1 1, 3) := by decide +kernel
theorem dX5_saves_37 : decode cX5_saves 37 = .ok (.goto (-26), 3) := by decide +kernel
theorem dX5_saves_40 : decode cX5_saves 40 = .ok (.aload_n 0, 1) := by decide +kernel
theorem dX5_saves_41 : decode cX5_saves 41 = .ok (.dup, 1) := by decide +kernel
theorem dX5_saves_42 : decode cX5_saves 42 = .ok (.getfield 41, 3) := by decide +kernel
theorem dX5_saves_45 : decode cX5_saves 45 = .ok (.iconst 1, 1) := by decide +kernel
theorem dX5_saves_46 : decode cX5_saves 46 = .ok (.isub, 1) := by decide +kernel
theorem dX5_saves_47 : decode cX5_saves 47 = .ok (.putfield 41, 3) := by decide +kernel
theorem dX5_saves_50 : decode cX5_saves 50 = .ok (.iconst 0, 1) := by decide +kernel
theorem dX5_saves_51 : decode cX5_saves 51 = .ok (.istore_n 1, 1) := by decide +kernel
theorem dX5_saves_52 : decode cX5_saves 52 = .ok (.iload_n 1, 1) := by decide +kernel
theorem dX5_saves_53 : decode cX5_saves 53 = .ok (.sipush 371, 3) := by decide +kernel
theorem dX5_saves_56 : decode cX5_saves 56 = .ok (.if_icmp .ge 30, 3) := by decide +kernel
theorem dX5_saves_59 : decode cX5_saves 59 = .ok (.aload_n 0, 1) := by decide +kernel
theorem dX5_saves_60 : decode cX5_saves 60 = .ok (.getfield 13, 3) := by decide +kernel
theorem dX5_saves_63 : decode cX5_saves 63 = .ok (.sipush 371, 3) := by decide +kernel
theorem dX5_saves_66 : decode cX5_saves 66 = .ok (.aload_n 0, 1) := by decide +kernel
theorem dX5_saves_67 : decode cX5_saves 67 = .ok (.getfield 41, 3) := by decide +kernel
theorem dX5_saves_70 : decode cX5_saves 70 = .ok (.imul, 1) := by decide +kernel
theorem dX5_saves_71 : decode cX5_saves 71 = .ok (.iload_n 1, 1) := by decide +kernel
theorem dX5_saves_72 : decode cX5_saves 72 = .ok (.iadd, 1) := by decide +kernel
theorem dX5_saves_73 : decode cX5_saves 73 = .ok (.aload_n 0, 1) := by decide +kernel
theorem dX5_saves_74 : decode cX5_saves 74 = .ok (.getfield 7, 3) := by decide +kernel
theorem dX5_saves_77 : decode cX5_saves 77 = .ok (.iload_n 1, 1) := by decide +kernel
theorem dX5_saves_78 : decode cX5_saves 78 = .ok (.iaload, 1) := by decide +kernel
theorem dX5_saves_79 : decode cX5_saves 79 = .ok (.iastore, 1) := by decide +kernel
theorem dX5_saves_80 : decode cX5_saves 80 = .ok (.iinc 1 1, 3) := by decide +kernel
theorem dX5_saves_83 : decode cX5_saves 83 = .ok (.goto (-31), 3) := by decide +kernel
theorem dX5_saves_86 : decode cX5_saves 86 = .ok (.aload_n 0, 1) := by decide +kernel
theorem dX5_saves_87 : decode cX5_saves 87 = .ok (.dup, 1) := by decide +kernel
theorem dX5_saves_88 : decode cX5_saves 88 = .ok (.getfield 41, 3) := by decide +kernel
theorem dX5_saves_91 : decode cX5_saves 91 = .ok (.iconst 1, 1) := by decide +kernel
theorem dX5_saves_92 : decode cX5_saves 92 = .ok (.iadd, 1) := by decide +kernel
theorem dX5_saves_93 : decode cX5_saves 93 = .ok (.putfield 41, 3) := by decide +kernel
theorem dX5_saves_96 : decode cX5_saves 96 = .ok (.return_, 1) := by decide +kernel
theorem dX5_frames_0 : decode cX5_frames 0 = .ok (.aload_n 0, 1) := by decide +kernel
theorem dX5_frames_1 : decode cX5_frames 1 = .ok (.getfield 7, 3) := by decide +kernel
theorem dX5_frames_4 : decode cX5_frames 4 = .ok (.iload_n 1, 1) := by decide +kernel
theorem dX5_frames_5 : decode cX5_frames 5 = .ok (.iconst 4, 1) := by decide +kernel
theorem dX5_frames_6 : decode cX5_frames 6 = .ok (.iload_n 2, 1) := by decide +kernel
theorem dX5_frames_7 : decode cX5_frames 7 = .ok (.iadd, 1) := by decide +kernel
theorem dX5_frames_8 : decode cX5_frames 8 = .ok (.invokestatic 44, 3) := by decide +kernel
theorem dX5_frames_11 : decode cX5_frames 11 = .ok (.iaload, 1) := by decide +kernel
theorem dX5_frames_12 : decode cX5_frames 12 = .ok (.ireturn, 1) := by decide +kernel
theorem dX5_both_0 : decode cX5_both 0 = .ok (.aload_n 0, 1) := by decide +kernel
theorem dX5_both_1 : decode cX5_both 1 = .ok (.iload_n 1, 1) := by decide +kernel
theorem dX5_both_2 : decode cX5_both 2 = .ok (.iload_n 2, 1) := by decide +kernel
theorem dX5_both_3 : decode cX5_both 3 = .ok (.invokevirtual 48, 3) := by decide +kernel
theorem dX5_both_6 : decode cX5_both 6 = .ok (.aload_n 0, 1) := by decide +kernel
theorem dX5_both_7 : decode cX5_both 7 = .ok (.getfield 7, 3) := by decide +kernel
theorem dX5_both_10 : decode cX5_both 10 = .ok (.iload_n 1, 1) := by decide +kernel
theorem dX5_both_11 : decode cX5_both 11 = .ok (.iconst 3, 1) := by decide +kernel
theorem dX5_both_12 : decode cX5_both 12 = .ok (.invokestatic 44, 3) := by decide +kernel
theorem dX5_both_15 : decode cX5_both 15 = .ok (.iaload, 1) := by decide +kernel
theorem dX5_both_16 : decode cX5_both 16 = .ok (.iadd, 1) := by decide +kernel
theorem dX5_both_17 : decode cX5_both 17 = .ok (.ireturn, 1) := by decide +kernel
theorem dX5_isTaken_0 : decode cX5_isTaken 0 = .ok (.aload_n 0, 1) := by decide +kernel
theorem dX5_isTaken_1 : decode cX5_isTaken 1 = .ok (.getfield 7, 3) := by decide +kernel
theorem dX5_isTaken_4 : decode cX5_isTaken 4 = .ok (.iload_n 1, 1) := by decide +kernel
theorem dX5_isTaken_5 : decode cX5_isTaken 5 = .ok (.bipush 10, 2) := by decide +kernel
theorem dX5_isTaken_7 : decode cX5_isTaken 7 = .ok (.iload_n 2, 1) := by decide +kernel
theorem dX5_isTaken_8 : decode cX5_isTaken 8 = .ok (.iadd, 1) := by decide +kernel
theorem dX5_isTaken_9 : decode cX5_isTaken 9 = .ok (.invokestatic 44, 3) := by decide +kernel
theorem dX5_isTaken_12 : decode cX5_isTaken 12 = .ok (.iaload, 1) := by decide +kernel
theorem dX5_isTaken_13 : decode cX5_isTaken 13 = .ok (.ifCond .le 7, 3) := by decide +kernel
theorem dX5_isTaken_16 : decode cX5_isTaken 16 = .ok (.iconst 1, 1) := by decide +kernel
theorem dX5_isTaken_17 : decode cX5_isTaken 17 = .ok (.goto 4, 3) := by decide +kernel
theorem dX5_isTaken_20 : decode cX5_isTaken 20 = .ok (.iconst 0, 1) := by decide +kernel
theorem dX5_isTaken_21 : decode cX5_isTaken 21 = .ok (.ireturn, 1) := by decide +kernel
theorem dX5_isTakenAnywhere_0 : decode cX5_isTakenAnywhere 0 = .ok (.aload_n 0, 1) := by decide +kernel
theorem dX5_isTakenAnywhere_1 : decode cX5_isTakenAnywhere 1 = .ok (.iload_n 1, 1) := by decide +kernel
theorem dX5_isTakenAnywhere_2 : decode cX5_isTakenAnywhere 2 = .ok (.iconst 0, 1) := by decide +kernel
theorem dX5_isTakenAnywhere_3 : decode cX5_isTakenAnywhere 3 = .ok (.invokevirtual 51, 3) := by decide +kernel
theorem dX5_isTakenAnywhere_6 : decode cX5_isTakenAnywhere 6 = .ok (.ifCond .ne 21, 3) := by decide +kernel
theorem dX5_isTakenAnywhere_9 : decode cX5_isTakenAnywhere 9 = .ok (.aload_n 0, 1) := by decide +kernel
theorem dX5_isTakenAnywhere_10 : decode cX5_isTakenAnywhere 10 = .ok (.iload_n 1, 1) := by decide +kernel
theorem dX5_isTakenAnywhere_11 : decode cX5_isTakenAnywhere 11 = .ok (.iconst 1, 1) := by decide +kernel
theorem dX5_isTakenAnywhere_12 : decode cX5_isTakenAnywhere 12 = .ok (.invokevirtual 51, 3) := by decide +kernel
theorem dX5_isTakenAnywhere_15 : decode cX5_isTakenAnywhere 15 = .ok (.ifCond .ne 12, 3) := by decide +kernel
theorem dX5_isTakenAnywhere_18 : decode cX5_isTakenAnywhere 18 = .ok (.aload_n 0, 1) := by decide +kernel
theorem dX5_isTakenAnywhere_19 : decode cX5_isTakenAnywhere 19 = .ok (.iload_n 1, 1) := by decide +kernel
theorem dX5_isTakenAnywhere_20 : decode cX5_isTakenAnywhere 20 = .ok (.iconst 2, 1) := by decide +kernel
theorem dX5_isTakenAnywhere_21 : decode cX5_isTakenAnywhere 21 = .ok (.invokevirtual 51, 3) := by decide +kernel
theorem dX5_isTakenAnywhere_24 : decode cX5_isTakenAnywhere 24 = .ok (.ifCond .eq 7, 3) := by decide +kernel
theorem dX5_isTakenAnywhere_27 : decode cX5_isTakenAnywhere 27 = .ok (.iconst 1, 1) := by decide +kernel
theorem dX5_isTakenAnywhere_28 : decode cX5_isTakenAnywhere 28 = .ok (.goto 4, 3) := by decide +kernel
theorem dX5_isTakenAnywhere_31 : decode cX5_isTakenAnywhere 31 = .ok (.iconst 0, 1) := by decide +kernel
theorem dX5_isTakenAnywhere_32 : decode cX5_isTakenAnywhere 32 = .ok (.ireturn, 1) := by decide +kernel
theorem dX5_unmix_0 : decode cX5_unmix 0 = .ok (.aload_n 0, 1) := by decide +kernel
theorem dX5_unmix_1 : decode cX5_unmix 1 = .ok (.getfield 7, 3) := by decide +kernel
theorem dX5_unmix_4 : decode cX5_unmix 4 = .ok (.sipush 342, 3) := by decide +kernel
theorem dX5_unmix_7 : decode cX5_unmix 7 = .ok (.iconst 3, 1) := by decide +kernel
theorem dX5_unmix_8 : decode cX5_unmix 8 = .ok (.iload_n 1, 1) := by decide +kernel
theorem dX5_unmix_9 : decode cX5_unmix 9 = .ok (.imul, 1) := by decide +kernel
theorem dX5_unmix_10 : decode cX5_unmix 10 = .ok (.iadd, 1) := by decide +kernel
theorem dX5_unmix_11 : decode cX5_unmix 11 = .ok (.iload_n 2, 1) := by decide +kernel
theorem dX5_unmix_12 : decode cX5_unmix 12 = .ok (.iadd, 1) := by decide +kernel
theorem dX5_unmix_13 : decode cX5_unmix 13 = .ok (.iconst 0, 1) := by decide +kernel
theorem dX5_unmix_14 : decode cX5_unmix 14 = .ok (.iastore, 1) := by decide +kernel
theorem dX5_unmix_15 : decode cX5_unmix 15 = .ok (.aload_n 0, 1) := by decide +kernel
theorem dX5_unmix_16 : decode cX5_unmix 16 = .ok (.getfield 7, 3) := by decide +kernel
theorem dX5_unmix_19 : decode cX5_unmix 19 = .ok (.sipush 354, 3) := by decide +kernel
theorem dX5_unmix_22 : decode cX5_unmix 22 = .ok (.iconst 3, 1) := by decide +kernel
theorem dX5_unmix_23 : decode cX5_unmix 23 = .ok (.iload_n 1, 1) := by decide +kernel
theorem dX5_unmix_24 : decode cX5_unmix 24 = .ok (.imul, 1) := by decide +kernel
theorem dX5_unmix_25 : decode cX5_unmix 25 = .ok (.iadd, 1) := by decide +kernel
theorem dX5_unmix_26 : decode cX5_unmix 26 = .ok (.iload_n 2, 1) := by decide +kernel
theorem dX5_unmix_27 : decode cX5_unmix 27 = .ok (.iadd, 1) := by decide +kernel
theorem dX5_unmix_28 : decode cX5_unmix 28 = .ok (.iconst 0, 1) := by decide +kernel
theorem dX5_unmix_29 : decode cX5_unmix 29 = .ok (.iastore, 1) := by decide +kernel
theorem dX5_unmix_30 : decode cX5_unmix 30 = .ok (.return_, 1) := by decide +kernel
theorem dX5_unmixes_0 : decode cX5_unmixes 0 = .ok (.iconst 0, 1) := by decide +kernel
theorem dX5_unmixes_1 : decode cX5_unmixes 1 = .ok (.istore_n 2, 1) := by decide +kernel
theorem dX5_unmixes_2 : decode cX5_unmixes 2 = .ok (.iload_n 2, 1) := by decide +kernel
theorem dX5_unmixes_3 : decode cX5_unmixes 3 = .ok (.iconst 3, 1) := by decide +kernel
theorem dX5_unmixes_4 : decode cX5_unmixes 4 = .ok (.if_icmp .ge 15, 3) := by decide +kernel
theorem dX5_unmixes_7 : decode cX5_unmixes 7 = .ok (.aload_n 0, 1) := by decide +kernel
theorem dX5_unmixes_8 : decode cX5_unmixes 8 = .ok (.iload_n 1, 1) := by decide +kernel
theorem dX5_unmixes_9 : decode cX5_unmixes 9 = .ok (.iload_n 2, 1) := by decide +kernel
theorem dX5_unmixes_10 : decode cX5_unmixes 10 = .ok (.invokevirtual 55, 3) := by decide +kernel
theorem dX5_unmixes_13 : decode cX5_unmixes 13 = .ok (.iinc 2 1, 3) := by decide +kernel
theorem dX5_unmixes_16 : decode cX5_unmixes 16 = .ok (.goto (-14), 3) := by decide +kernel
theorem dX5_unmixes_19 : decode cX5_unmixes 19 = .ok (.return_, 1) := by decide +kernel
theorem dX5_annexed_0 : decode cX5_annexed 0 = .ok (.iconst 0, 1) := by decide +kernel
theorem dX5_annexed_1 : decode cX5_annexed 1 = .ok (.istore_n 2, 1) := by decide +kernel
theorem dX5_annexed_2 : decode cX5_annexed 2 = .ok (.iconst 0, 1) := by decide +kernel
theorem dX5_annexed_3 : decode cX5_annexed 3 = .ok (.istore_n 3, 1) := by decide +kernel
theorem dX5_annexed_4 : decode cX5_annexed 4 = .ok (.iload_n 3, 1) := by decide +kernel
theorem dX5_annexed_5 : decode cX5_annexed 5 = .ok (.aload_n 0, 1) := by decide +kernel
theorem dX5_annexed_6 : decode cX5_annexed 6 = .ok (.getfield 7, 3) := by decide +kernel
theorem dX5_annexed_9 : decode cX5_annexed 9 = .ok (.sipush 366, 3) := by decide +kernel
theorem dX5_annexed_12 : decode cX5_annexed 12 = .ok (.iaload, 1) := by decide +kernel
theorem dX5_annexed_13 : decode cX5_annexed 13 = .ok (.if_icmp .ge 25, 3) := by decide +kernel
theorem dX5_annexed_16 : decode cX5_annexed 16 = .ok (.iload_n 2, 1) := by decide +kernel
theorem dX5_annexed_17 : decode cX5_annexed 17 = .ok (.aload_n 0, 1) := by decide +kernel
theorem dX5_annexed_18 : decode cX5_annexed 18 = .ok (.getfield 7, 3) := by decide +kernel
theorem dX5_annexed_21 : decode cX5_annexed 21 = .ok (.iload_n 3, 1) := by decide +kernel
theorem dX5_annexed_22 : decode cX5_annexed 22 = .ok (.bipush 7, 2) := by decide +kernel
theorem dX5_annexed_24 : decode cX5_annexed 24 = .ok (.iload_n 1, 1) := by decide +kernel
theorem dX5_annexed_25 : decode cX5_annexed 25 = .ok (.iadd, 1) := by decide +kernel
theorem dX5_annexed_26 : decode cX5_annexed 26 = .ok (.invokestatic 44, 3) := by decide +kernel
theorem dX5_annexed_29 : decode cX5_annexed 29 = .ok (.iaload, 1) := by decide +kernel
theorem dX5_annexed_30 : decode cX5_annexed 30 = .ok (.iadd, 1) := by decide +kernel
theorem dX5_annexed_31 : decode cX5_annexed 31 = .ok (.istore_n 2, 1) := by decide +kernel
theorem dX5_annexed_32 : decode cX5_annexed 32 = .ok (.iinc 3 1, 3) := by decide +kernel
theorem dX5_annexed_35 : decode cX5_annexed 35 = .ok (.goto (-31), 3) := by decide +kernel
theorem dX5_annexed_38 : decode cX5_annexed 38 = .ok (.iload_n 2, 1) := by decide +kernel
theorem dX5_annexed_39 : decode cX5_annexed 39 = .ok (.ireturn, 1) := by decide +kernel
theorem dX5_left_0 : decode cX5_left 0 = .ok (.aload_n 0, 1) := by decide +kernel
theorem dX5_left_1 : decode cX5_left 1 = .ok (.getfield 7, 3) := by decide +kernel
theorem dX5_left_4 : decode cX5_left 4 = .ok (.sipush 312, 3) := by decide +kernel
theorem dX5_left_7 : decode cX5_left 7 = .ok (.iconst 3, 1) := by decide +kernel
theorem dX5_left_8 : decode cX5_left 8 = .ok (.iload_n 1, 1) := by decide +kernel
theorem dX5_left_9 : decode cX5_left 9 = .ok (.imul, 1) := by decide +kernel
theorem dX5_left_10 : decode cX5_left 10 = .ok (.iadd, 1) := by decide +kernel
theorem dX5_left_11 : decode cX5_left 11 = .ok (.iload_n 2, 1) := by decide +kernel
theorem dX5_left_12 : decode cX5_left 12 = .ok (.iadd, 1) := by decide +kernel
theorem dX5_left_13 : decode cX5_left 13 = .ok (.iaload, 1) := by decide +kernel
theorem dX5_left_14 : decode cX5_left 14 = .ok (.aload_n 0, 1) := by decide +kernel
theorem dX5_left_15 : decode cX5_left 15 = .ok (.getfield 7, 3) := by decide +kernel
theorem dX5_left_18 : decode cX5_left 18 = .ok (.sipush 327, 3) := by decide +kernel
theorem dX5_left_21 : decode cX5_left 21 = .ok (.iconst 3, 1) := by decide +kernel
theorem dX5_left_22 : decode cX5_left 22 = .ok (.iload_n 1, 1) := by decide +kernel
theorem dX5_left_23 : decode cX5_left 23 = .ok (.imul, 1) := by decide +kernel
theorem dX5_left_24 : decode cX5_left 24 = .ok (.iadd, 1) := by decide +kernel
theorem dX5_left_25 : decode cX5_left 25 = .ok (.iload_n 2, 1) := by decide +kernel
theorem dX5_left_26 : decode cX5_left 26 = .ok (.iadd, 1) := by decide +kernel
theorem dX5_left_27 : decode cX5_left 27 = .ok (.iaload, 1) := by decide +kernel
theorem dX5_left_28 : decode cX5_left 28 = .ok (.isub, 1) := by decide +kernel
theorem dX5_left_29 : decode cX5_left 29 = .ok (.ireturn, 1) := by decide +kernel
theorem dX5_fitting_0 : decode cX5_fitting 0 = .ok (.aload_n 0, 1) := by decide +kernel
theorem dX5_fitting_1 : decode cX5_fitting 1 = .ok (.iload_n 1, 1) := by decide +kernel
theorem dX5_fitting_2 : decode cX5_fitting 2 = .ok (.iload_n 2, 1) := by decide +kernel
theorem dX5_fitting_3 : decode cX5_fitting 3 = .ok (.invokevirtual 48, 3) := by decide +kernel
theorem dX5_fitting_6 : decode cX5_fitting 6 = .ok (.ifCond .le 26, 3) := by decide +kernel
theorem dX5_fitting_9 : decode cX5_fitting 9 = .ok (.aload_n 0, 1) := by decide +kernel
theorem dX5_fitting_10 : decode cX5_fitting 10 = .ok (.iload_n 1, 1) := by decide +kernel
theorem dX5_fitting_11 : decode cX5_fitting 11 = .ok (.iload_n 2, 1) := by decide +kernel
theorem dX5_fitting_12 : decode cX5_fitting 12 = .ok (.invokevirtual 59, 3) := by decide +kernel
theorem dX5_fitting_15 : decode cX5_fitting 15 = .ok (.aload_n 0, 1) := by decide +kernel
theorem dX5_fitting_16 : decode cX5_fitting 16 = .ok (.getfield 7, 3) := by decide +kernel
theorem dX5_fitting_19 : decode cX5_fitting 19 = .ok (.iload_n 1, 1) := by decide +kernel
theorem dX5_fitting_20 : decode cX5_fitting 20 = .ok (.iconst 2, 1) := by decide +kernel
theorem dX5_fitting_21 : decode cX5_fitting 21 = .ok (.invokestatic 44, 3) := by decide +kernel
theorem dX5_fitting_24 : decode cX5_fitting 24 = .ok (.iaload, 1) := by decide +kernel
theorem dX5_fitting_25 : decode cX5_fitting 25 = .ok (.if_icmp .gt 7, 3) := by decide +kernel
theorem dX5_fitting_28 : decode cX5_fitting 28 = .ok (.iconst 1, 1) := by decide +kernel
theorem dX5_fitting_29 : decode cX5_fitting 29 = .ok (.goto 4, 3) := by decide +kernel
theorem dX5_fitting_32 : decode cX5_fitting 32 = .ok (.iconst 0, 1) := by decide +kernel
theorem dX5_fitting_33 : decode cX5_fitting 33 = .ok (.ireturn, 1) := by decide +kernel
theorem dX5_reason_0 : decode cX5_reason 0 = .ok (.aload_n 0, 1) := by decide +kernel
theorem dX5_reason_1 : decode cX5_reason 1 = .ok (.iload_n 1, 1) := by decide +kernel
theorem dX5_reason_2 : decode cX5_reason 2 = .ok (.iload_n 2, 1) := by decide +kernel
theorem dX5_reason_3 : decode cX5_reason 3 = .ok (.invokevirtual 48, 3) := by decide +kernel
theorem dX5_reason_6 : decode cX5_reason 6 = .ok (.ifCond .ne 7, 3) := by decide +kernel
theorem dX5_reason_9 : decode cX5_reason 9 = .ok (.iconst 1, 1) := by decide +kernel
theorem dX5_reason_10 : decode cX5_reason 10 = .ok (.goto 58, 3) := by decide +kernel
theorem dX5_reason_13 : decode cX5_reason 13 = .ok (.aload_n 0, 1) := by decide +kernel
theorem dX5_reason_14 : decode cX5_reason 14 = .ok (.iload_n 1, 1) := by decide +kernel
theorem dX5_reason_15 : decode cX5_reason 15 = .ok (.iload_n 2, 1) := by decide +kernel
theorem dX5_reason_16 : decode cX5_reason 16 = .ok (.invokevirtual 51, 3) := by decide +kernel
theorem dX5_reason_19 : decode cX5_reason 19 = .ok (.ifCond .eq 7, 3) := by decide +kernel
theorem dX5_reason_22 : decode cX5_reason 22 = .ok (.iconst 2, 1) := by decide +kernel
theorem dX5_reason_23 : decode cX5_reason 23 = .ok (.goto 45, 3) := by decide +kernel
theorem dX5_reason_26 : decode cX5_reason 26 = .ok (.aload_n 0, 1) := by decide +kernel
theorem dX5_reason_27 : decode cX5_reason 27 = .ok (.iload_n 1, 1) := by decide +kernel
theorem dX5_reason_28 : decode cX5_reason 28 = .ok (.iload_n 2, 1) := by decide +kernel
theorem dX5_reason_29 : decode cX5_reason 29 = .ok (.invokevirtual 62, 3) := by decide +kernel
theorem dX5_reason_32 : decode cX5_reason 32 = .ok (.ifCond .ne 7, 3) := by decide +kernel
theorem dX5_reason_35 : decode cX5_reason 35 = .ok (.iconst 3, 1) := by decide +kernel
theorem dX5_reason_36 : decode cX5_reason 36 = .ok (.goto 32, 3) := by decide +kernel
theorem dX5_reason_39 : decode cX5_reason 39 = .ok (.aload_n 0, 1) := by decide +kernel
theorem dX5_reason_40 : decode cX5_reason 40 = .ok (.aload_n 0, 1) := by decide +kernel
theorem dX5_reason_41 : decode cX5_reason 41 = .ok (.getfield 7, 3) := by decide +kernel
theorem dX5_reason_44 : decode cX5_reason 44 = .ok (.iload_n 1, 1) := by decide +kernel
theorem dX5_reason_45 : decode cX5_reason 45 = .ok (.iconst 1, 1) := by decide +kernel
theorem dX5_reason_46 : decode cX5_reason 46 = .ok (.invokestatic 44, 3) := by decide +kernel
theorem dX5_reason_49 : decode cX5_reason 49 = .ok (.iaload, 1) := by decide +kernel
theorem dX5_reason_50 : decode cX5_reason 50 = .ok (.iload_n 2, 1) := by decide +kernel
theorem dX5_reason_51 : decode cX5_reason 51 = .ok (.invokevirtual 65, 3) := by decide +kernel
theorem dX5_reason_54 : decode cX5_reason 54 = .ok (.aload_n 0, 1) := by decide +kernel
theorem dX5_reason_55 : decode cX5_reason 55 = .ok (.iload_n 1, 1) := by decide +kernel
theorem dX5_reason_56 : decode cX5_reason 56 = .ok (.iload_n 2, 1) := by decide +kernel
theorem dX5_reason_57 : decode cX5_reason 57 = .ok (.invokevirtual 59, 3) := by decide +kernel
theorem dX5_reason_60 : decode cX5_reason 60 = .ok (.if_icmp .ge 7, 3) := by decide +kernel
theorem dX5_reason_63 : decode cX5_reason 63 = .ok (.iconst 4, 1) := by decide +kernel
theorem dX5_reason_64 : decode cX5_reason 64 = .ok (.goto 4, 3) := by decide +kernel
theorem dX5_reason_67 : decode cX5_reason 67 = .ok (.iconst 0, 1) := by decide +kernel
theorem dX5_reason_68 : decode cX5_reason 68 = .ok (.ireturn, 1) := by decide +kernel
theorem dX5_isReady_0 : decode cX5_isReady 0 = .ok (.aload_n 0, 1) := by decide +kernel
theorem dX5_isReady_1 : decode cX5_isReady 1 = .ok (.iload_n 1, 1) := by decide +kernel
theorem dX5_isReady_2 : decode cX5_isReady 2 = .ok (.iload_n 2, 1) := by decide +kernel
theorem dX5_isReady_3 : decode cX5_isReady 3 = .ok (.invokevirtual 68, 3) := by decide +kernel
theorem dX5_isReady_6 : decode cX5_isReady 6 = .ok (.istore_n 3, 1) := by decide +kernel
theorem dX5_isReady_7 : decode cX5_isReady 7 = .ok (.iload_n 3, 1) := by decide +kernel
theorem dX5_isReady_8 : decode cX5_isReady 8 = .ok (.ifCond .eq 8, 3) := by decide +kernel
theorem dX5_isReady_11 : decode cX5_isReady 11 = .ok (.iload_n 3, 1) := by decide +kernel
theorem dX5_isReady_12 : decode cX5_isReady 12 = .ok (.iconst 4, 1) := by decide +kernel
theorem dX5_isReady_13 : decode cX5_isReady 13 = .ok (.if_icmp .ne 7, 3) := by decide +kernel
theorem dX5_isReady_16 : decode cX5_isReady 16 = .ok (.iconst 1, 1) := by decide +kernel
theorem dX5_isReady_17 : decode cX5_isReady 17 = .ok (.goto 4, 3) := by decide +kernel
theorem dX5_isReady_20 : decode cX5_isReady 20 = .ok (.iconst 0, 1) := by decide +kernel
theorem dX5_isReady_21 : decode cX5_isReady 21 = .ok (.ireturn, 1) := by decide +kernel
theorem dX5_adds_0 : decode cX5_adds 0 = .ok (.aload_n 0, 1) := by decide +kernel
theorem dX5_adds_1 : decode cX5_adds 1 = .ok (.getfield 7, 3) := by decide +kernel
theorem dX5_adds_4 : decode cX5_adds 4 = .ok (.sipush 366, 3) := by decide +kernel
theorem dX5_adds_7 : decode cX5_adds 7 = .ok (.iaload, 1) := by decide +kernel
theorem dX5_adds_8 : decode cX5_adds 8 = .ok (.istore 5, 2) := by decide +kernel
theorem dX5_adds_10 : decode cX5_adds 10 = .ok (.iconst 0, 1) := by decide +kernel
theorem dX5_adds_11 : decode cX5_adds 11 = .ok (.istore 6, 2) := by decide +kernel
theorem dX5_adds_13 : decode cX5_adds 13 = .ok (.iload 6, 2) := by decide +kernel
theorem dX5_adds_15 : decode cX5_adds 15 = .ok (.bipush 13, 2) := by decide +kernel
theorem dX5_adds_17 : decode cX5_adds 17 = .ok (.if_icmp .ge 22, 3) := by decide +kernel
theorem dX5_adds_20 : decode cX5_adds 20 = .ok (.aload_n 0, 1) := by decide +kernel
theorem dX5_adds_21 : decode cX5_adds 21 = .ok (.getfield 7, 3) := by decide +kernel
theorem dX5_adds_24 : decode cX5_adds 24 = .ok (.iload 5, 2) := by decide +kernel
theorem dX5_adds_26 : decode cX5_adds 26 = .ok (.iload 6, 2) := by decide +kernel
theorem dX5_adds_28 : decode cX5_adds 28 = .ok (.invokestatic 44, 3) := by decide +kernel
theorem dX5_adds_31 : decode cX5_adds 31 = .ok (.iconst 0, 1) := by decide +kernel
theorem dX5_adds_32 : decode cX5_adds 32 = .ok (.iastore, 1) := by decide +kernel
theorem dX5_adds_33 : decode cX5_adds 33 = .ok (.iinc 6 1, 3) := by decide +kernel
theorem dX5_adds_36 : decode cX5_adds 36 = .ok (.goto (-23), 3) := by decide +kernel
theorem dX5_adds_39 : decode cX5_adds 39 = .ok (.aload_n 0, 1) := by decide +kernel
theorem dX5_adds_40 : decode cX5_adds 40 = .ok (.getfield 7, 3) := by decide +kernel
theorem dX5_adds_43 : decode cX5_adds 43 = .ok (.iload 5, 2) := by decide +kernel
theorem dX5_adds_45 : decode cX5_adds 45 = .ok (.iconst 0, 1) := by decide +kernel
theorem dX5_adds_46 : decode cX5_adds 46 = .ok (.invokestatic 44, 3) := by decide +kernel
theorem dX5_adds_49 : decode cX5_adds 49 = .ok (.iload_n 1, 1) := by decide +kernel
theorem dX5_adds_50 : decode cX5_adds 50 = .ok (.iastore, 1) := by decide +kernel
theorem dX5_adds_51 : decode cX5_adds 51 = .ok (.aload_n 0, 1) := by decide +kernel
theorem dX5_adds_52 : decode cX5_adds 52 = .ok (.getfield 7, 3) := by decide +kernel
theorem dX5_adds_55 : decode cX5_adds 55 = .ok (.iload 5, 2) := by decide +kernel
theorem dX5_adds_57 : decode cX5_adds 57 = .ok (.iconst 1, 1) := by decide +kernel
theorem dX5_adds_58 : decode cX5_adds 58 = .ok (.invokestatic 44, 3) := by decide +kernel
theorem dX5_adds_61 : decode cX5_adds 61 = .ok (.iload_n 2, 1) := by decide +kernel
theorem dX5_adds_62 : decode cX5_adds 62 = .ok (.iastore, 1) := by decide +kernel
theorem dX5_adds_63 : decode cX5_adds 63 = .ok (.aload_n 0, 1) := by decide +kernel
theorem dX5_adds_64 : decode cX5_adds 64 = .ok (.getfield 7, 3) := by decide +kernel
theorem dX5_adds_67 : decode cX5_adds 67 = .ok (.iload 5, 2) := by decide +kernel
theorem dX5_adds_69 : decode cX5_adds 69 = .ok (.iconst 2, 1) := by decide +kernel
theorem dX5_adds_70 : decode cX5_adds 70 = .ok (.invokestatic 44, 3) := by decide +kernel
theorem dX5_adds_73 : decode cX5_adds 73 = .ok (.iload_n 3, 1) := by decide +kernel
theorem dX5_adds_74 : decode cX5_adds 74 = .ok (.iastore, 1) := by decide +kernel
theorem dX5_adds_75 : decode cX5_adds 75 = .ok (.aload_n 0, 1) := by decide +kernel
theorem dX5_adds_76 : decode cX5_adds 76 = .ok (.getfield 7, 3) := by decide +kernel
theorem dX5_adds_79 : decode cX5_adds 79 = .ok (.iload 5, 2) := by decide +kernel
theorem dX5_adds_81 : decode cX5_adds 81 = .ok (.iconst 3, 1) := by decide +kernel
theorem dX5_adds_82 : decode cX5_adds 82 = .ok (.invokestatic 44, 3) := by decide +kernel
theorem dX5_adds_85 : decode cX5_adds 85 = .ok (.iload 4, 2) := by decide +kernel
theorem dX5_adds_87 : decode cX5_adds 87 = .ok (.iastore, 1) := by decide +kernel
theorem dX5_adds_88 : decode cX5_adds 88 = .ok (.aload_n 0, 1) := by decide +kernel
theorem dX5_adds_89 : decode cX5_adds 89 = .ok (.getfield 7, 3) := by decide +kernel
theorem dX5_adds_92 : decode cX5_adds 92 = .ok (.sipush 366, 3) := by decide +kernel
theorem dX5_adds_95 : decode cX5_adds 95 = .ok (.dup2, 1) := by decide +kernel
theorem dX5_adds_96 : decode cX5_adds 96 = .ok (.iaload, 1) := by decide +kernel
theorem dX5_adds_97 : decode cX5_adds 97 = .ok (.iconst 1, 1) := by decide +kernel
theorem dX5_adds_98 : decode cX5_adds 98 = .ok (.iadd, 1) := by decide +kernel
theorem dX5_adds_99 : decode cX5_adds 99 = .ok (.iastore, 1) := by decide +kernel
theorem dX5_adds_100 : decode cX5_adds 100 = .ok (.aload_n 0, 1) := by decide +kernel
theorem dX5_adds_101 : decode cX5_adds 101 = .ok (.iload_n 1, 1) := by decide +kernel
theorem dX5_adds_102 : decode cX5_adds 102 = .ok (.invokevirtual 71, 3) := by decide +kernel
theorem dX5_adds_105 : decode cX5_adds 105 = .ok (.return_, 1) := by decide +kernel
theorem dX5_addClause_0 : decode cX5_addClause 0 = .ok (.aload_n 0, 1) := by decide +kernel
theorem dX5_addClause_1 : decode cX5_addClause 1 = .ok (.iload_n 1, 1) := by decide +kernel
theorem dX5_addClause_2 : decode cX5_addClause 2 = .ok (.invokestatic 75, 3) := by decide +kernel
theorem dX5_addClause_5 : decode cX5_addClause 5 = .ok (.ifCond .eq 10, 3) := by decide +kernel
theorem dX5_addClause_8 : decode cX5_addClause 8 = .ok (.iload_n 2, 1) := by decide +kernel
theorem dX5_addClause_9 : decode cX5_addClause 9 = .ok (.invokestatic 78, 3) := by decide +kernel
theorem dX5_addClause_12 : decode cX5_addClause 12 = .ok (.ifCond .ne 7, 3) := by decide +kernel
theorem dX5_addClause_15 : decode cX5_addClause 15 = .ok (.iconst 1, 1) := by decide +kernel
theorem dX5_addClause_16 : decode cX5_addClause 16 = .ok (.goto 35, 3) := by decide +kernel
theorem dX5_addClause_19 : decode cX5_addClause 19 = .ok (.iload_n 3, 1) := by decide +kernel
theorem dX5_addClause_20 : decode cX5_addClause 20 = .ok (.iconst 4, 1) := by decide +kernel
theorem dX5_addClause_21 : decode cX5_addClause 21 = .ok (.bipush 60, 2) := by decide +kernel
theorem dX5_addClause_23 : decode cX5_addClause 23 = .ok (.invokestatic 30, 3) := by decide +kernel
theorem dX5_addClause_26 : decode cX5_addClause 26 = .ok (.ifCond .ne 7, 3) := by decide +kernel
theorem dX5_addClause_29 : decode cX5_addClause 29 = .ok (.iconst 2, 1) := by decide +kernel
theorem dX5_addClause_30 : decode cX5_addClause 30 = .ok (.goto 21, 3) := by decide +kernel
theorem dX5_addClause_33 : decode cX5_addClause 33 = .ok (.aload_n 0, 1) := by decide +kernel
theorem dX5_addClause_34 : decode cX5_addClause 34 = .ok (.getfield 7, 3) := by decide +kernel
theorem dX5_addClause_37 : decode cX5_addClause 37 = .ok (.sipush 366, 3) := by decide +kernel
theorem dX5_addClause_40 : decode cX5_addClause 40 = .ok (.iaload, 1) := by decide +kernel
theorem dX5_addClause_41 : decode cX5_addClause 41 = .ok (.bipush 24, 2) := by decide +kernel
theorem dX5_addClause_43 : decode cX5_addClause 43 = .ok (.if_icmp .ne 7, 3) := by decide +kernel
theorem dX5_addClause_46 : decode cX5_addClause 46 = .ok (.iconst 3, 1) := by decide +kernel
theorem dX5_addClause_47 : decode cX5_addClause 47 = .ok (.goto 4, 3) := by decide +kernel
theorem dX5_addClause_50 : decode cX5_addClause 50 = .ok (.iconst 0, 1) := by decide +kernel
theorem dX5_addClause_51 : decode cX5_addClause 51 = .ok (.invokevirtual 81, 3) := by decide +kernel
theorem dX5_addClause_54 : decode cX5_addClause 54 = .ok (.ifCond .eq 5, 3) := by decide +kernel
theorem dX5_addClause_57 : decode cX5_addClause 57 = .ok (.iconst 0, 1) := by decide +kernel
theorem dX5_addClause_58 : decode cX5_addClause 58 = .ok (.ireturn, 1) := by decide +kernel
theorem dX5_addClause_59 : decode cX5_addClause 59 = .ok (.aload_n 0, 1) := by decide +kernel
theorem dX5_addClause_60 : decode cX5_addClause 60 = .ok (.invokevirtual 84, 3) := by decide +kernel
theorem dX5_addClause_63 : decode cX5_addClause 63 = .ok (.aload_n 0, 1) := by decide +kernel
theorem dX5_addClause_64 : decode cX5_addClause 64 = .ok (.iload_n 1, 1) := by decide +kernel
theorem dX5_addClause_65 : decode cX5_addClause 65 = .ok (.iload_n 2, 1) := by decide +kernel
theorem dX5_addClause_66 : decode cX5_addClause 66 = .ok (.iload_n 3, 1) := by decide +kernel
theorem dX5_addClause_67 : decode cX5_addClause 67 = .ok (.iconst 0, 1) := by decide +kernel
theorem dX5_addClause_68 : decode cX5_addClause 68 = .ok (.invokevirtual 87, 3) := by decide +kernel
theorem dX5_addClause_71 : decode cX5_addClause 71 = .ok (.aload_n 0, 1) := by decide +kernel
theorem dX5_addClause_72 : decode cX5_addClause 72 = .ok (.getfield 7, 3) := by decide +kernel
theorem dX5_addClause_75 : decode cX5_addClause 75 = .ok (.sipush 366, 3) := by decide +kernel
theorem dX5_addClause_78 : decode cX5_addClause 78 = .ok (.iaload, 1) := by decide +kernel
theorem dX5_addClause_79 : decode cX5_addClause 79 = .ok (.iconst 1, 1) := by decide +kernel
theorem dX5_addClause_80 : decode cX5_addClause 80 = .ok (.isub, 1) := by decide +kernel
theorem dX5_addClause_81 : decode cX5_addClause 81 = .ok (.ireturn, 1) := by decide +kernel
theorem dX5_sets_0 : decode cX5_sets 0 = .ok (.aload_n 0, 1) := by decide +kernel
theorem dX5_sets_1 : decode cX5_sets 1 = .ok (.invokevirtual 84, 3) := by decide +kernel
theorem dX5_sets_4 : decode cX5_sets 4 = .ok (.aload_n 0, 1) := by decide +kernel
theorem dX5_sets_5 : decode cX5_sets 5 = .ok (.getfield 7, 3) := by decide +kernel
theorem dX5_sets_8 : decode cX5_sets 8 = .ok (.iload_n 1, 1) := by decide +kernel
theorem dX5_sets_9 : decode cX5_sets 9 = .ok (.iaload, 1) := by decide +kernel
theorem dX5_sets_10 : decode cX5_sets 10 = .ok (.istore_n 3, 1) := by decide +kernel
theorem dX5_sets_11 : decode cX5_sets 11 = .ok (.aload_n 0, 1) := by decide +kernel
theorem dX5_sets_12 : decode cX5_sets 12 = .ok (.getfield 7, 3) := by decide +kernel
theorem dX5_sets_15 : decode cX5_sets 15 = .ok (.iload_n 1, 1) := by decide +kernel
theorem dX5_sets_16 : decode cX5_sets 16 = .ok (.iload_n 2, 1) := by decide +kernel
theorem dX5_sets_17 : decode cX5_sets 17 = .ok (.iastore, 1) := by decide +kernel
theorem dX5_sets_18 : decode cX5_sets 18 = .ok (.iload_n 3, 1) := by decide +kernel
theorem dX5_sets_19 : decode cX5_sets 19 = .ok (.ireturn, 1) := by decide +kernel
theorem dX5_changeLips_0 : decode cX5_changeLips 0 = .ok (.aload_n 0, 1) := by decide +kernel
theorem dX5_changeLips_1 : decode cX5_changeLips 1 = .ok (.aload_n 0, 1) := by decide +kernel
theorem dX5_changeLips_2 : decode cX5_changeLips 2 = .ok (.iload_n 1, 1) := by decide +kernel
theorem dX5_changeLips_3 : decode cX5_changeLips 3 = .ok (.invokevirtual 34, 3) := by decide +kernel
theorem dX5_changeLips_6 : decode cX5_changeLips 6 = .ok (.ifCond .ne 7, 3) := by decide +kernel
theorem dX5_changeLips_9 : decode cX5_changeLips 9 = .ok (.iconst 1, 1) := by decide +kernel
theorem dX5_changeLips_10 : decode cX5_changeLips 10 = .ok (.goto 44, 3) := by decide +kernel
theorem dX5_changeLips_13 : decode cX5_changeLips 13 = .ok (.iload_n 2, 1) := by decide +kernel
theorem dX5_changeLips_14 : decode cX5_changeLips 14 = .ok (.iconst 4, 1) := by decide +kernel
theorem dX5_changeLips_15 : decode cX5_changeLips 15 = .ok (.bipush 60, 2) := by decide +kernel
theorem dX5_changeLips_17 : decode cX5_changeLips 17 = .ok (.invokestatic 30, 3) := by decide +kernel
theorem dX5_changeLips_20 : decode cX5_changeLips 20 = .ok (.ifCond .ne 7, 3) := by decide +kernel
theorem dX5_changeLips_23 : decode cX5_changeLips 23 = .ok (.iconst 2, 1) := by decide +kernel
theorem dX5_changeLips_24 : decode cX5_changeLips 24 = .ok (.goto 30, 3) := by decide +kernel
theorem dX5_changeLips_27 : decode cX5_changeLips 27 = .ok (.aload_n 0, 1) := by decide +kernel
theorem dX5_changeLips_28 : decode cX5_changeLips 28 = .ok (.iload_n 1, 1) := by decide +kernel
theorem dX5_changeLips_29 : decode cX5_changeLips 29 = .ok (.invokevirtual 91, 3) := by decide +kernel
theorem dX5_changeLips_32 : decode cX5_changeLips 32 = .ok (.ifCond .ne 17, 3) := by decide +kernel
theorem dX5_changeLips_35 : decode cX5_changeLips 35 = .ok (.aload_n 0, 1) := by decide +kernel
theorem dX5_changeLips_36 : decode cX5_changeLips 36 = .ok (.getfield 7, 3) := by decide +kernel
theorem dX5_changeLips_39 : decode cX5_changeLips 39 = .ok (.iload_n 1, 1) := by decide +kernel
theorem dX5_changeLips_40 : decode cX5_changeLips 40 = .ok (.iconst 3, 1) := by decide +kernel
theorem dX5_changeLips_41 : decode cX5_changeLips 41 = .ok (.invokestatic 44, 3) := by decide +kernel
theorem dX5_changeLips_44 : decode cX5_changeLips 44 = .ok (.iaload, 1) := by decide +kernel
theorem dX5_changeLips_45 : decode cX5_changeLips 45 = .ok (.iload_n 2, 1) := by decide +kernel
theorem dX5_changeLips_46 : decode cX5_changeLips 46 = .ok (.if_icmp .le 7, 3) := by decide +kernel
theorem dX5_changeLips_49 : decode cX5_changeLips 49 = .ok (.iconst 3, 1) := by decide +kernel
theorem dX5_changeLips_50 : decode cX5_changeLips 50 = .ok (.goto 4, 3) := by decide +kernel
theorem dX5_changeLips_53 : decode cX5_changeLips 53 = .ok (.iconst 0, 1) := by decide +kernel
theorem dX5_changeLips_54 : decode cX5_changeLips 54 = .ok (.invokevirtual 81, 3) := by decide +kernel
theorem dX5_changeLips_57 : decode cX5_changeLips 57 = .ok (.ifCond .eq 7, 3) := by decide +kernel
theorem dX5_changeLips_60 : decode cX5_changeLips 60 = .ok (.iconst 0, 1) := by decide +kernel
theorem dX5_changeLips_61 : decode cX5_changeLips 61 = .ok (.goto 13, 3) := by decide +kernel
theorem dX5_changeLips_64 : decode cX5_changeLips 64 = .ok (.aload_n 0, 1) := by decide +kernel
theorem dX5_changeLips_65 : decode cX5_changeLips 65 = .ok (.iload_n 1, 1) := by decide +kernel
theorem dX5_changeLips_66 : decode cX5_changeLips 66 = .ok (.iconst 2, 1) := by decide +kernel
theorem dX5_changeLips_67 : decode cX5_changeLips 67 = .ok (.invokestatic 44, 3) := by decide +kernel
theorem dX5_changeLips_70 : decode cX5_changeLips 70 = .ok (.iload_n 2, 1) := by decide +kernel
theorem dX5_changeLips_71 : decode cX5_changeLips 71 = .ok (.invokevirtual 94, 3) := by decide +kernel
theorem dX5_changeLips_74 : decode cX5_changeLips 74 = .ok (.ireturn, 1) := by decide +kernel
theorem dX5_changeSigh_0 : decode cX5_changeSigh 0 = .ok (.aload_n 0, 1) := by decide +kernel
theorem dX5_changeSigh_1 : decode cX5_changeSigh 1 = .ok (.aload_n 0, 1) := by decide +kernel
theorem dX5_changeSigh_2 : decode cX5_changeSigh 2 = .ok (.iload_n 1, 1) := by decide +kernel
theorem dX5_changeSigh_3 : decode cX5_changeSigh 3 = .ok (.invokevirtual 34, 3) := by decide +kernel
theorem dX5_changeSigh_6 : decode cX5_changeSigh 6 = .ok (.ifCond .ne 7, 3) := by decide +kernel
theorem dX5_changeSigh_9 : decode cX5_changeSigh 9 = .ok (.iconst 1, 1) := by decide +kernel
theorem dX5_changeSigh_10 : decode cX5_changeSigh 10 = .ok (.goto 44, 3) := by decide +kernel
theorem dX5_changeSigh_13 : decode cX5_changeSigh 13 = .ok (.iload_n 2, 1) := by decide +kernel
theorem dX5_changeSigh_14 : decode cX5_changeSigh 14 = .ok (.iconst 0, 1) := by decide +kernel
theorem dX5_changeSigh_15 : decode cX5_changeSigh 15 = .ok (.bipush 20, 2) := by decide +kernel
theorem dX5_changeSigh_17 : decode cX5_changeSigh 17 = .ok (.invokestatic 30, 3) := by decide +kernel
theorem dX5_changeSigh_20 : decode cX5_changeSigh 20 = .ok (.ifCond .ne 7, 3) := by decide +kernel
theorem dX5_changeSigh_23 : decode cX5_changeSigh 23 = .ok (.iconst 2, 1) := by decide +kernel
theorem dX5_changeSigh_24 : decode cX5_changeSigh 24 = .ok (.goto 30, 3) := by decide +kernel
theorem dX5_changeSigh_27 : decode cX5_changeSigh 27 = .ok (.aload_n 0, 1) := by decide +kernel
theorem dX5_changeSigh_28 : decode cX5_changeSigh 28 = .ok (.iload_n 1, 1) := by decide +kernel
theorem dX5_changeSigh_29 : decode cX5_changeSigh 29 = .ok (.invokevirtual 91, 3) := by decide +kernel
theorem dX5_changeSigh_32 : decode cX5_changeSigh 32 = .ok (.ifCond .ne 17, 3) := by decide +kernel
theorem dX5_changeSigh_35 : decode cX5_changeSigh 35 = .ok (.iload_n 2, 1) := by decide +kernel
theorem dX5_changeSigh_36 : decode cX5_changeSigh 36 = .ok (.aload_n 0, 1) := by decide +kernel
theorem dX5_changeSigh_37 : decode cX5_changeSigh 37 = .ok (.getfield 7, 3) := by decide +kernel
theorem dX5_changeSigh_40 : decode cX5_changeSigh 40 = .ok (.iload_n 1, 1) := by decide +kernel
theorem dX5_changeSigh_41 : decode cX5_changeSigh 41 = .ok (.iconst 2, 1) := by decide +kernel
theorem dX5_changeSigh_42 : decode cX5_changeSigh 42 = .ok (.invokestatic 44, 3) := by decide +kernel
theorem dX5_changeSigh_45 : decode cX5_changeSigh 45 = .ok (.iaload, 1) := by decide +kernel
theorem dX5_changeSigh_46 : decode cX5_changeSigh 46 = .ok (.if_icmp .le 7, 3) := by decide +kernel
theorem dX5_changeSigh_49 : decode cX5_changeSigh 49 = .ok (.iconst 3, 1) := by decide +kernel
theorem dX5_changeSigh_50 : decode cX5_changeSigh 50 = .ok (.goto 4, 3) := by decide +kernel
theorem dX5_changeSigh_53 : decode cX5_changeSigh 53 = .ok (.iconst 0, 1) := by decide +kernel
theorem dX5_changeSigh_54 : decode cX5_changeSigh 54 = .ok (.invokevirtual 81, 3) := by decide +kernel
theorem dX5_changeSigh_57 : decode cX5_changeSigh 57 = .ok (.ifCond .eq 7, 3) := by decide +kernel
theorem dX5_changeSigh_60 : decode cX5_changeSigh 60 = .ok (.iconst 0, 1) := by decide +kernel
theorem dX5_changeSigh_61 : decode cX5_changeSigh 61 = .ok (.goto 13, 3) := by decide +kernel
theorem dX5_changeSigh_64 : decode cX5_changeSigh 64 = .ok (.aload_n 0, 1) := by decide +kernel
theorem dX5_changeSigh_65 : decode cX5_changeSigh 65 = .ok (.iload_n 1, 1) := by decide +kernel
theorem dX5_changeSigh_66 : decode cX5_changeSigh 66 = .ok (.iconst 3, 1) := by decide +kernel
theorem dX5_changeSigh_67 : decode cX5_changeSigh 67 = .ok (.invokestatic 44, 3) := by decide +kernel
theorem dX5_changeSigh_70 : decode cX5_changeSigh 70 = .ok (.iload_n 2, 1) := by decide +kernel
theorem dX5_changeSigh_71 : decode cX5_changeSigh 71 = .ok (.invokevirtual 94, 3) := by decide +kernel
theorem dX5_changeSigh_74 : decode cX5_changeSigh 74 = .ok (.ireturn, 1) := by decide +kernel
theorem dX5_moveClause_0 : decode cX5_moveClause 0 = .ok (.aload_n 0, 1) := by decide +kernel
theorem dX5_moveClause_1 : decode cX5_moveClause 1 = .ok (.aload_n 0, 1) := by decide +kernel
theorem dX5_moveClause_2 : decode cX5_moveClause 2 = .ok (.iload_n 1, 1) := by decide +kernel
theorem dX5_moveClause_3 : decode cX5_moveClause 3 = .ok (.invokevirtual 34, 3) := by decide +kernel
theorem dX5_moveClause_6 : decode cX5_moveClause 6 = .ok (.ifCond .eq 10, 3) := by decide +kernel
theorem dX5_moveClause_9 : decode cX5_moveClause 9 = .ok (.iload_n 2, 1) := by decide +kernel
theorem dX5_moveClause_10 : decode cX5_moveClause 10 = .ok (.invokestatic 75, 3) := by decide +kernel
theorem dX5_moveClause_13 : decode cX5_moveClause 13 = .ok (.ifCond .ne 7, 3) := by decide +kernel
theorem dX5_moveClause_16 : decode cX5_moveClause 16 = .ok (.iconst 1, 1) := by decide +kernel
theorem dX5_moveClause_17 : decode cX5_moveClause 17 = .ok (.goto 30, 3) := by decide +kernel
theorem dX5_moveClause_20 : decode cX5_moveClause 20 = .ok (.aload_n 0, 1) := by decide +kernel
theorem dX5_moveClause_21 : decode cX5_moveClause 21 = .ok (.iload_n 1, 1) := by decide +kernel
theorem dX5_moveClause_22 : decode cX5_moveClause 22 = .ok (.invokevirtual 91, 3) := by decide +kernel
theorem dX5_moveClause_25 : decode cX5_moveClause 25 = .ok (.ifCond .ne 17, 3) := by decide +kernel
theorem dX5_moveClause_28 : decode cX5_moveClause 28 = .ok (.aload_n 0, 1) := by decide +kernel
theorem dX5_moveClause_29 : decode cX5_moveClause 29 = .ok (.getfield 7, 3) := by decide +kernel
theorem dX5_moveClause_32 : decode cX5_moveClause 32 = .ok (.iload_n 1, 1) := by decide +kernel
theorem dX5_moveClause_33 : decode cX5_moveClause 33 = .ok (.iconst 0, 1) := by decide +kernel
theorem dX5_moveClause_34 : decode cX5_moveClause 34 = .ok (.invokestatic 44, 3) := by decide +kernel
theorem dX5_moveClause_37 : decode cX5_moveClause 37 = .ok (.iaload, 1) := by decide +kernel
theorem dX5_moveClause_38 : decode cX5_moveClause 38 = .ok (.iload_n 2, 1) := by decide +kernel
theorem dX5_moveClause_39 : decode cX5_moveClause 39 = .ok (.if_icmp .ne 7, 3) := by decide +kernel
theorem dX5_moveClause_42 : decode cX5_moveClause 42 = .ok (.iconst 2, 1) := by decide +kernel
theorem dX5_moveClause_43 : decode cX5_moveClause 43 = .ok (.goto 4, 3) := by decide +kernel
theorem dX5_moveClause_46 : decode cX5_moveClause 46 = .ok (.iconst 0, 1) := by decide +kernel
theorem dX5_moveClause_47 : decode cX5_moveClause 47 = .ok (.invokevirtual 81, 3) := by decide +kernel
theorem dX5_moveClause_50 : decode cX5_moveClause 50 = .ok (.ifCond .eq 5, 3) := by decide +kernel
theorem dX5_moveClause_53 : decode cX5_moveClause 53 = .ok (.iconst 0, 1) := by decide +kernel
theorem dX5_moveClause_54 : decode cX5_moveClause 54 = .ok (.ireturn, 1) := by decide +kernel
theorem dX5_moveClause_55 : decode cX5_moveClause 55 = .ok (.aload_n 0, 1) := by decide +kernel
theorem dX5_moveClause_56 : decode cX5_moveClause 56 = .ok (.iload_n 1, 1) := by decide +kernel
theorem dX5_moveClause_57 : decode cX5_moveClause 57 = .ok (.iconst 0, 1) := by decide +kernel
theorem dX5_moveClause_58 : decode cX5_moveClause 58 = .ok (.invokestatic 44, 3) := by decide +kernel
theorem dX5_moveClause_61 : decode cX5_moveClause 61 = .ok (.iload_n 2, 1) := by decide +kernel
theorem dX5_moveClause_62 : decode cX5_moveClause 62 = .ok (.invokevirtual 94, 3) := by decide +kernel
theorem dX5_moveClause_65 : decode cX5_moveClause 65 = .ok (.istore_n 3, 1) := by decide +kernel
theorem dX5_moveClause_66 : decode cX5_moveClause 66 = .ok (.aload_n 0, 1) := by decide +kernel
theorem dX5_moveClause_67 : decode cX5_moveClause 67 = .ok (.iload_n 2, 1) := by decide +kernel
theorem dX5_moveClause_68 : decode cX5_moveClause 68 = .ok (.invokevirtual 71, 3) := by decide +kernel
theorem dX5_moveClause_71 : decode cX5_moveClause 71 = .ok (.iload_n 3, 1) := by decide +kernel
theorem dX5_moveClause_72 : decode cX5_moveClause 72 = .ok (.ireturn, 1) := by decide +kernel
theorem dX5_translate_0 : decode cX5_translate 0 = .ok (.aload_n 0, 1) := by decide +kernel
theorem dX5_translate_1 : decode cX5_translate 1 = .ok (.aload_n 0, 1) := by decide +kernel
theorem dX5_translate_2 : decode cX5_translate 2 = .ok (.iload_n 1, 1) := by decide +kernel
theorem dX5_translate_3 : decode cX5_translate 3 = .ok (.iload_n 2, 1) := by decide +kernel
theorem dX5_translate_4 : decode cX5_translate 4 = .ok (.invokevirtual 97, 3) := by decide +kernel
theorem dX5_translate_7 : decode cX5_translate 7 = .ok (.ifCond .ne 7, 3) := by decide +kernel
theorem dX5_translate_10 : decode cX5_translate 10 = .ok (.iconst 1, 1) := by decide +kernel
theorem dX5_translate_11 : decode cX5_translate 11 = .ok (.goto 31, 3) := by decide +kernel
theorem dX5_translate_14 : decode cX5_translate 14 = .ok (.iload_n 3, 1) := by decide +kernel
theorem dX5_translate_15 : decode cX5_translate 15 = .ok (.iconst 1, 1) := by decide +kernel
theorem dX5_translate_16 : decode cX5_translate 16 = .ok (.bipush 60, 2) := by decide +kernel
theorem dX5_translate_18 : decode cX5_translate 18 = .ok (.invokestatic 30, 3) := by decide +kernel
theorem dX5_translate_21 : decode cX5_translate 21 = .ok (.ifCond .ne 7, 3) := by decide +kernel
theorem dX5_translate_24 : decode cX5_translate 24 = .ok (.iconst 2, 1) := by decide +kernel
theorem dX5_translate_25 : decode cX5_translate 25 = .ok (.goto 17, 3) := by decide +kernel
theorem dX5_translate_28 : decode cX5_translate 28 = .ok (.aload_n 0, 1) := by decide +kernel
theorem dX5_translate_29 : decode cX5_translate 29 = .ok (.iload_n 1, 1) := by decide +kernel
theorem dX5_translate_30 : decode cX5_translate 30 = .ok (.iload_n 2, 1) := by decide +kernel
theorem dX5_translate_31 : decode cX5_translate 31 = .ok (.invokevirtual 51, 3) := by decide +kernel
theorem dX5_translate_34 : decode cX5_translate 34 = .ok (.ifCond .eq 7, 3) := by decide +kernel
theorem dX5_translate_37 : decode cX5_translate 37 = .ok (.iconst 3, 1) := by decide +kernel
theorem dX5_translate_38 : decode cX5_translate 38 = .ok (.goto 4, 3) := by decide +kernel
theorem dX5_translate_41 : decode cX5_translate 41 = .ok (.iconst 0, 1) := by decide +kernel
theorem dX5_translate_42 : decode cX5_translate 42 = .ok (.invokevirtual 81, 3) := by decide +kernel
theorem dX5_translate_45 : decode cX5_translate 45 = .ok (.ifCond .eq 5, 3) := by decide +kernel
theorem dX5_translate_48 : decode cX5_translate 48 = .ok (.iconst 0, 1) := by decide +kernel
theorem dX5_translate_49 : decode cX5_translate 49 = .ok (.ireturn, 1) := by decide +kernel
theorem dX5_translate_50 : decode cX5_translate 50 = .ok (.aload_n 0, 1) := by decide +kernel
theorem dX5_translate_51 : decode cX5_translate 51 = .ok (.invokevirtual 84, 3) := by decide +kernel
theorem dX5_translate_54 : decode cX5_translate 54 = .ok (.aload_n 0, 1) := by decide +kernel
theorem dX5_translate_55 : decode cX5_translate 55 = .ok (.getfield 7, 3) := by decide +kernel
theorem dX5_translate_58 : decode cX5_translate 58 = .ok (.iload_n 1, 1) := by decide +kernel
theorem dX5_translate_59 : decode cX5_translate 59 = .ok (.iconst 4, 1) := by decide +kernel
theorem dX5_translate_60 : decode cX5_translate 60 = .ok (.iload_n 2, 1) := by decide +kernel
theorem dX5_translate_61 : decode cX5_translate 61 = .ok (.iadd, 1) := by decide +kernel
theorem dX5_translate_62 : decode cX5_translate 62 = .ok (.invokestatic 44, 3) := by decide +kernel
theorem dX5_translate_65 : decode cX5_translate 65 = .ok (.iload_n 3, 1) := by decide +kernel
theorem dX5_translate_66 : decode cX5_translate 66 = .ok (.iastore, 1) := by decide +kernel
theorem dX5_translate_67 : decode cX5_translate 67 = .ok (.aload_n 0, 1) := by decide +kernel
theorem dX5_translate_68 : decode cX5_translate 68 = .ok (.getfield 7, 3) := by decide +kernel
theorem dX5_translate_71 : decode cX5_translate 71 = .ok (.iload_n 1, 1) := by decide +kernel
theorem dX5_translate_72 : decode cX5_translate 72 = .ok (.bipush 7, 2) := by decide +kernel
theorem dX5_translate_74 : decode cX5_translate 74 = .ok (.iload_n 2, 1) := by decide +kernel
theorem dX5_translate_75 : decode cX5_translate 75 = .ok (.iadd, 1) := by decide +kernel
theorem dX5_translate_76 : decode cX5_translate 76 = .ok (.invokestatic 44, 3) := by decide +kernel
theorem dX5_translate_79 : decode cX5_translate 79 = .ok (.iconst 0, 1) := by decide +kernel
theorem dX5_translate_80 : decode cX5_translate 80 = .ok (.iastore, 1) := by decide +kernel
theorem dX5_translate_81 : decode cX5_translate 81 = .ok (.aload_n 0, 1) := by decide +kernel
theorem dX5_translate_82 : decode cX5_translate 82 = .ok (.getfield 7, 3) := by decide +kernel
theorem dX5_translate_85 : decode cX5_translate 85 = .ok (.iload_n 1, 1) := by decide +kernel
theorem dX5_translate_86 : decode cX5_translate 86 = .ok (.iconst 2, 1) := by decide +kernel
theorem dX5_translate_87 : decode cX5_translate 87 = .ok (.invokestatic 44, 3) := by decide +kernel
theorem dX5_translate_90 : decode cX5_translate 90 = .ok (.iaload, 1) := by decide +kernel
theorem dX5_translate_91 : decode cX5_translate 91 = .ok (.aload_n 0, 1) := by decide +kernel
theorem dX5_translate_92 : decode cX5_translate 92 = .ok (.iload_n 1, 1) := by decide +kernel
theorem dX5_translate_93 : decode cX5_translate 93 = .ok (.iload_n 2, 1) := by decide +kernel
theorem dX5_translate_94 : decode cX5_translate 94 = .ok (.invokevirtual 59, 3) := by decide +kernel
theorem dX5_translate_97 : decode cX5_translate 97 = .ok (.isub, 1) := by decide +kernel
theorem dX5_translate_98 : decode cX5_translate 98 = .ok (.ireturn, 1) := by decide +kernel
theorem dX5_annex_0 : decode cX5_annex 0 = .ok (.aload_n 0, 1) := by decide +kernel
theorem dX5_annex_1 : decode cX5_annex 1 = .ok (.aload_n 0, 1) := by decide +kernel
theorem dX5_annex_2 : decode cX5_annex 2 = .ok (.iload_n 1, 1) := by decide +kernel
theorem dX5_annex_3 : decode cX5_annex 3 = .ok (.iload_n 2, 1) := by decide +kernel
theorem dX5_annex_4 : decode cX5_annex 4 = .ok (.invokevirtual 97, 3) := by decide +kernel
theorem dX5_annex_7 : decode cX5_annex 7 = .ok (.ifCond .ne 7, 3) := by decide +kernel
theorem dX5_annex_10 : decode cX5_annex 10 = .ok (.iconst 1, 1) := by decide +kernel
theorem dX5_annex_11 : decode cX5_annex 11 = .ok (.goto 53, 3) := by decide +kernel
theorem dX5_annex_14 : decode cX5_annex 14 = .ok (.iload_n 3, 1) := by decide +kernel
theorem dX5_annex_15 : decode cX5_annex 15 = .ok (.iconst 1, 1) := by decide +kernel
theorem dX5_annex_16 : decode cX5_annex 16 = .ok (.bipush 59, 2) := by decide +kernel
theorem dX5_annex_18 : decode cX5_annex 18 = .ok (.invokestatic 30, 3) := by decide +kernel
theorem dX5_annex_21 : decode cX5_annex 21 = .ok (.ifCond .ne 7, 3) := by decide +kernel
theorem dX5_annex_24 : decode cX5_annex 24 = .ok (.iconst 2, 1) := by decide +kernel
theorem dX5_annex_25 : decode cX5_annex 25 = .ok (.goto 39, 3) := by decide +kernel
theorem dX5_annex_28 : decode cX5_annex 28 = .ok (.aload_n 0, 1) := by decide +kernel
theorem dX5_annex_29 : decode cX5_annex 29 = .ok (.iload_n 1, 1) := by decide +kernel
theorem dX5_annex_30 : decode cX5_annex 30 = .ok (.iload_n 2, 1) := by decide +kernel
theorem dX5_annex_31 : decode cX5_annex 31 = .ok (.invokevirtual 48, 3) := by decide +kernel
theorem dX5_annex_34 : decode cX5_annex 34 = .ok (.iload_n 3, 1) := by decide +kernel
theorem dX5_annex_35 : decode cX5_annex 35 = .ok (.if_icmp .le 24, 3) := by decide +kernel
theorem dX5_annex_38 : decode cX5_annex 38 = .ok (.aload_n 0, 1) := by decide +kernel
theorem dX5_annex_39 : decode cX5_annex 39 = .ok (.iload_n 1, 1) := by decide +kernel
theorem dX5_annex_40 : decode cX5_annex 40 = .ok (.iload_n 2, 1) := by decide +kernel
theorem dX5_annex_41 : decode cX5_annex 41 = .ok (.invokevirtual 51, 3) := by decide +kernel
theorem dX5_annex_44 : decode cX5_annex 44 = .ok (.ifCond .ne 15, 3) := by decide +kernel
theorem dX5_annex_47 : decode cX5_annex 47 = .ok (.aload_n 0, 1) := by decide +kernel
theorem dX5_annex_48 : decode cX5_annex 48 = .ok (.iload_n 2, 1) := by decide +kernel
theorem dX5_annex_49 : decode cX5_annex 49 = .ok (.invokevirtual 100, 3) := by decide +kernel
theorem dX5_annex_52 : decode cX5_annex 52 = .ok (.iload_n 3, 1) := by decide +kernel
theorem dX5_annex_53 : decode cX5_annex 53 = .ok (.iadd, 1) := by decide +kernel
theorem dX5_annex_54 : decode cX5_annex 54 = .ok (.bipush 99, 2) := by decide +kernel
theorem dX5_annex_56 : decode cX5_annex 56 = .ok (.if_icmp .le 7, 3) := by decide +kernel
theorem dX5_annex_59 : decode cX5_annex 59 = .ok (.iconst 3, 1) := by decide +kernel
theorem dX5_annex_60 : decode cX5_annex 60 = .ok (.goto 4, 3) := by decide +kernel
theorem dX5_annex_63 : decode cX5_annex 63 = .ok (.iconst 0, 1) := by decide +kernel
theorem dX5_annex_64 : decode cX5_annex 64 = .ok (.invokevirtual 81, 3) := by decide +kernel
theorem dX5_annex_67 : decode cX5_annex 67 = .ok (.ifCond .eq 5, 3) := by decide +kernel
theorem dX5_annex_70 : decode cX5_annex 70 = .ok (.iconst 0, 1) := by decide +kernel
theorem dX5_annex_71 : decode cX5_annex 71 = .ok (.ireturn, 1) := by decide +kernel
theorem dX5_annex_72 : decode cX5_annex 72 = .ok (.aload_n 0, 1) := by decide +kernel
theorem dX5_annex_73 : decode cX5_annex 73 = .ok (.invokevirtual 84, 3) := by decide +kernel
theorem dX5_annex_76 : decode cX5_annex 76 = .ok (.aload_n 0, 1) := by decide +kernel
theorem dX5_annex_77 : decode cX5_annex 77 = .ok (.getfield 7, 3) := by decide +kernel
theorem dX5_annex_80 : decode cX5_annex 80 = .ok (.iload_n 1, 1) := by decide +kernel
theorem dX5_annex_81 : decode cX5_annex 81 = .ok (.iconst 4, 1) := by decide +kernel
theorem dX5_annex_82 : decode cX5_annex 82 = .ok (.iload_n 2, 1) := by decide +kernel
theorem dX5_annex_83 : decode cX5_annex 83 = .ok (.iadd, 1) := by decide +kernel
theorem dX5_annex_84 : decode cX5_annex 84 = .ok (.invokestatic 44, 3) := by decide +kernel
theorem dX5_annex_87 : decode cX5_annex 87 = .ok (.dup2, 1) := by decide +kernel
theorem dX5_annex_88 : decode cX5_annex 88 = .ok (.iaload, 1) := by decide +kernel
theorem dX5_annex_89 : decode cX5_annex 89 = .ok (.iload_n 3, 1) := by decide +kernel
theorem dX5_annex_90 : decode cX5_annex 90 = .ok (.isub, 1) := by decide +kernel
theorem dX5_annex_91 : decode cX5_annex 91 = .ok (.iastore, 1) := by decide +kernel
theorem dX5_annex_92 : decode cX5_annex 92 = .ok (.aload_n 0, 1) := by decide +kernel
theorem dX5_annex_93 : decode cX5_annex 93 = .ok (.getfield 7, 3) := by decide +kernel
theorem dX5_annex_96 : decode cX5_annex 96 = .ok (.iload_n 1, 1) := by decide +kernel
theorem dX5_annex_97 : decode cX5_annex 97 = .ok (.bipush 7, 2) := by decide +kernel
theorem dX5_annex_99 : decode cX5_annex 99 = .ok (.iload_n 2, 1) := by decide +kernel
theorem dX5_annex_100 : decode cX5_annex 100 = .ok (.iadd, 1) := by decide +kernel
theorem dX5_annex_101 : decode cX5_annex 101 = .ok (.invokestatic 44, 3) := by decide +kernel
theorem dX5_annex_104 : decode cX5_annex 104 = .ok (.dup2, 1) := by decide +kernel
theorem dX5_annex_105 : decode cX5_annex 105 = .ok (.iaload, 1) := by decide +kernel
theorem dX5_annex_106 : decode cX5_annex 106 = .ok (.iload_n 3, 1) := by decide +kernel
theorem dX5_annex_107 : decode cX5_annex 107 = .ok (.iadd, 1) := by decide +kernel
theorem dX5_annex_108 : decode cX5_annex 108 = .ok (.iastore, 1) := by decide +kernel
theorem dX5_annex_109 : decode cX5_annex 109 = .ok (.aload_n 0, 1) := by decide +kernel
theorem dX5_annex_110 : decode cX5_annex 110 = .ok (.iload_n 2, 1) := by decide +kernel
theorem dX5_annex_111 : decode cX5_annex 111 = .ok (.invokevirtual 100, 3) := by decide +kernel
theorem dX5_annex_114 : decode cX5_annex 114 = .ok (.ireturn, 1) := by decide +kernel
theorem dX5_bringBack_0 : decode cX5_bringBack 0 = .ok (.aload_n 0, 1) := by decide +kernel
theorem dX5_bringBack_1 : decode cX5_bringBack 1 = .ok (.aload_n 0, 1) := by decide +kernel
theorem dX5_bringBack_2 : decode cX5_bringBack 2 = .ok (.iload_n 1, 1) := by decide +kernel
theorem dX5_bringBack_3 : decode cX5_bringBack 3 = .ok (.iload_n 2, 1) := by decide +kernel
theorem dX5_bringBack_4 : decode cX5_bringBack 4 = .ok (.invokevirtual 97, 3) := by decide +kernel
theorem dX5_bringBack_7 : decode cX5_bringBack 7 = .ok (.ifCond .ne 7, 3) := by decide +kernel
theorem dX5_bringBack_10 : decode cX5_bringBack 10 = .ok (.iconst 1, 1) := by decide +kernel
theorem dX5_bringBack_11 : decode cX5_bringBack 11 = .ok (.goto 33, 3) := by decide +kernel
theorem dX5_bringBack_14 : decode cX5_bringBack 14 = .ok (.aload_n 0, 1) := by decide +kernel
theorem dX5_bringBack_15 : decode cX5_bringBack 15 = .ok (.getfield 7, 3) := by decide +kernel
theorem dX5_bringBack_18 : decode cX5_bringBack 18 = .ok (.iload_n 1, 1) := by decide +kernel
theorem dX5_bringBack_19 : decode cX5_bringBack 19 = .ok (.bipush 7, 2) := by decide +kernel
theorem dX5_bringBack_21 : decode cX5_bringBack 21 = .ok (.iload_n 2, 1) := by decide +kernel
theorem dX5_bringBack_22 : decode cX5_bringBack 22 = .ok (.iadd, 1) := by decide +kernel
theorem dX5_bringBack_23 : decode cX5_bringBack 23 = .ok (.invokestatic 44, 3) := by decide +kernel
theorem dX5_bringBack_26 : decode cX5_bringBack 26 = .ok (.iaload, 1) := by decide +kernel
theorem dX5_bringBack_27 : decode cX5_bringBack 27 = .ok (.ifCond .eq 12, 3) := by decide +kernel
theorem dX5_bringBack_30 : decode cX5_bringBack 30 = .ok (.aload_n 0, 1) := by decide +kernel
theorem dX5_bringBack_31 : decode cX5_bringBack 31 = .ok (.iload_n 1, 1) := by decide +kernel
theorem dX5_bringBack_32 : decode cX5_bringBack 32 = .ok (.iload_n 2, 1) := by decide +kernel
theorem dX5_bringBack_33 : decode cX5_bringBack 33 = .ok (.invokevirtual 51, 3) := by decide +kernel
theorem dX5_bringBack_36 : decode cX5_bringBack 36 = .ok (.ifCond .eq 7, 3) := by decide +kernel
theorem dX5_bringBack_39 : decode cX5_bringBack 39 = .ok (.iconst 2, 1) := by decide +kernel
theorem dX5_bringBack_40 : decode cX5_bringBack 40 = .ok (.goto 4, 3) := by decide +kernel
theorem dX5_bringBack_43 : decode cX5_bringBack 43 = .ok (.iconst 0, 1) := by decide +kernel
theorem dX5_bringBack_44 : decode cX5_bringBack 44 = .ok (.invokevirtual 81, 3) := by decide +kernel
theorem dX5_bringBack_47 : decode cX5_bringBack 47 = .ok (.ifCond .eq 5, 3) := by decide +kernel
theorem dX5_bringBack_50 : decode cX5_bringBack 50 = .ok (.iconst 0, 1) := by decide +kernel
theorem dX5_bringBack_51 : decode cX5_bringBack 51 = .ok (.ireturn, 1) := by decide +kernel
theorem dX5_bringBack_52 : decode cX5_bringBack 52 = .ok (.aload_n 0, 1) := by decide +kernel
theorem dX5_bringBack_53 : decode cX5_bringBack 53 = .ok (.iload_n 1, 1) := by decide +kernel
theorem dX5_bringBack_54 : decode cX5_bringBack 54 = .ok (.bipush 7, 2) := by decide +kernel
theorem dX5_bringBack_56 : decode cX5_bringBack 56 = .ok (.iload_n 2, 1) := by decide +kernel
theorem dX5_bringBack_57 : decode cX5_bringBack 57 = .ok (.iadd, 1) := by decide +kernel
theorem dX5_bringBack_58 : decode cX5_bringBack 58 = .ok (.invokestatic 44, 3) := by decide +kernel
theorem dX5_bringBack_61 : decode cX5_bringBack 61 = .ok (.iconst 0, 1) := by decide +kernel
theorem dX5_bringBack_62 : decode cX5_bringBack 62 = .ok (.invokevirtual 94, 3) := by decide +kernel
theorem dX5_bringBack_65 : decode cX5_bringBack 65 = .ok (.istore_n 3, 1) := by decide +kernel
theorem dX5_bringBack_66 : decode cX5_bringBack 66 = .ok (.aload_n 0, 1) := by decide +kernel
theorem dX5_bringBack_67 : decode cX5_bringBack 67 = .ok (.getfield 7, 3) := by decide +kernel
theorem dX5_bringBack_70 : decode cX5_bringBack 70 = .ok (.iload_n 1, 1) := by decide +kernel
theorem dX5_bringBack_71 : decode cX5_bringBack 71 = .ok (.iconst 4, 1) := by decide +kernel
theorem dX5_bringBack_72 : decode cX5_bringBack 72 = .ok (.iload_n 2, 1) := by decide +kernel
theorem dX5_bringBack_73 : decode cX5_bringBack 73 = .ok (.iadd, 1) := by decide +kernel
theorem dX5_bringBack_74 : decode cX5_bringBack 74 = .ok (.invokestatic 44, 3) := by decide +kernel
theorem dX5_bringBack_77 : decode cX5_bringBack 77 = .ok (.dup2, 1) := by decide +kernel
theorem dX5_bringBack_78 : decode cX5_bringBack 78 = .ok (.iaload, 1) := by decide +kernel
theorem dX5_bringBack_79 : decode cX5_bringBack 79 = .ok (.iload_n 3, 1) := by decide +kernel
theorem dX5_bringBack_80 : decode cX5_bringBack 80 = .ok (.iadd, 1) := by decide +kernel
theorem dX5_bringBack_81 : decode cX5_bringBack 81 = .ok (.iastore, 1) := by decide +kernel
theorem dX5_bringBack_82 : decode cX5_bringBack 82 = .ok (.iload_n 3, 1) := by decide +kernel
theorem dX5_bringBack_83 : decode cX5_bringBack 83 = .ok (.ireturn, 1) := by decide +kernel
theorem dX5_isVoice_0 : decode cX5_isVoice 0 = .ok (.iload_n 0, 1) := by decide +kernel
theorem dX5_isVoice_1 : decode cX5_isVoice 1 = .ok (.invokestatic 78, 3) := by decide +kernel
theorem dX5_isVoice_4 : decode cX5_isVoice 4 = .ok (.ifCond .eq 14, 3) := by decide +kernel
theorem dX5_isVoice_7 : decode cX5_isVoice 7 = .ok (.iload_n 1, 1) := by decide +kernel
theorem dX5_isVoice_8 : decode cX5_isVoice 8 = .ok (.invokestatic 38, 3) := by decide +kernel
theorem dX5_isVoice_11 : decode cX5_isVoice 11 = .ok (.ifCond .eq 7, 3) := by decide +kernel
theorem dX5_isVoice_14 : decode cX5_isVoice 14 = .ok (.iconst 1, 1) := by decide +kernel
theorem dX5_isVoice_15 : decode cX5_isVoice 15 = .ok (.goto 4, 3) := by decide +kernel
theorem dX5_isVoice_18 : decode cX5_isVoice 18 = .ok (.iconst 0, 1) := by decide +kernel
theorem dX5_isVoice_19 : decode cX5_isVoice 19 = .ok (.ireturn, 1) := by decide +kernel
theorem dX5_cast_0 : decode cX5_cast 0 = .ok (.aload_n 0, 1) := by decide +kernel
theorem dX5_cast_1 : decode cX5_cast 1 = .ok (.iload_n 1, 1) := by decide +kernel
theorem dX5_cast_2 : decode cX5_cast 2 = .ok (.iload_n 2, 1) := by decide +kernel
theorem dX5_cast_3 : decode cX5_cast 3 = .ok (.invokestatic 104, 3) := by decide +kernel
theorem dX5_cast_6 : decode cX5_cast 6 = .ok (.ifCond .ne 7, 3) := by decide +kernel
theorem dX5_cast_9 : decode cX5_cast 9 = .ok (.iconst 1, 1) := by decide +kernel
theorem dX5_cast_10 : decode cX5_cast 10 = .ok (.goto 41, 3) := by decide +kernel
theorem dX5_cast_13 : decode cX5_cast 13 = .ok (.iload_n 3, 1) := by decide +kernel
theorem dX5_cast_14 : decode cX5_cast 14 = .ok (.bipush 20, 2) := by decide +kernel
theorem dX5_cast_16 : decode cX5_cast 16 = .ok (.bipush 120, 2) := by decide +kernel
theorem dX5_cast_18 : decode cX5_cast 18 = .ok (.invokestatic 30, 3) := by decide +kernel
theorem dX5_cast_21 : decode cX5_cast 21 = .ok (.ifCond .ne 7, 3) := by decide +kernel
theorem dX5_cast_24 : decode cX5_cast 24 = .ok (.iconst 2, 1) := by decide +kernel
theorem dX5_cast_25 : decode cX5_cast 25 = .ok (.goto 26, 3) := by decide +kernel
theorem dX5_cast_28 : decode cX5_cast 28 = .ok (.aload_n 0, 1) := by decide +kernel
theorem dX5_cast_29 : decode cX5_cast 29 = .ok (.getfield 7, 3) := by decide +kernel
theorem dX5_cast_32 : decode cX5_cast 32 = .ok (.sipush 327, 3) := by decide +kernel
theorem dX5_cast_35 : decode cX5_cast 35 = .ok (.iconst 3, 1) := by decide +kernel
theorem dX5_cast_36 : decode cX5_cast 36 = .ok (.iload_n 1, 1) := by decide +kernel
theorem dX5_cast_37 : decode cX5_cast 37 = .ok (.imul, 1) := by decide +kernel
theorem dX5_cast_38 : decode cX5_cast 38 = .ok (.iadd, 1) := by decide +kernel
theorem dX5_cast_39 : decode cX5_cast 39 = .ok (.iload_n 2, 1) := by decide +kernel
theorem dX5_cast_40 : decode cX5_cast 40 = .ok (.iadd, 1) := by decide +kernel
theorem dX5_cast_41 : decode cX5_cast 41 = .ok (.iaload, 1) := by decide +kernel
theorem dX5_cast_42 : decode cX5_cast 42 = .ok (.iload_n 3, 1) := by decide +kernel
theorem dX5_cast_43 : decode cX5_cast 43 = .ok (.if_icmp .le 7, 3) := by decide +kernel
theorem dX5_cast_46 : decode cX5_cast 46 = .ok (.iconst 3, 1) := by decide +kernel
theorem dX5_cast_47 : decode cX5_cast 47 = .ok (.goto 4, 3) := by decide +kernel
theorem dX5_cast_50 : decode cX5_cast 50 = .ok (.iconst 0, 1) := by decide +kernel
theorem dX5_cast_51 : decode cX5_cast 51 = .ok (.invokevirtual 81, 3) := by decide +kernel
theorem dX5_cast_54 : decode cX5_cast 54 = .ok (.ifCond .eq 7, 3) := by decide +kernel
theorem dX5_cast_57 : decode cX5_cast 57 = .ok (.iconst 0, 1) := by decide +kernel
theorem dX5_cast_58 : decode cX5_cast 58 = .ok (.goto 17, 3) := by decide +kernel
theorem dX5_cast_61 : decode cX5_cast 61 = .ok (.aload_n 0, 1) := by decide +kernel
theorem dX5_cast_62 : decode cX5_cast 62 = .ok (.sipush 312, 3) := by decide +kernel
theorem dX5_cast_65 : decode cX5_cast 65 = .ok (.iconst 3, 1) := by decide +kernel
theorem dX5_cast_66 : decode cX5_cast 66 = .ok (.iload_n 1, 1) := by decide +kernel
theorem dX5_cast_67 : decode cX5_cast 67 = .ok (.imul, 1) := by decide +kernel
theorem dX5_cast_68 : decode cX5_cast 68 = .ok (.iadd, 1) := by decide +kernel
theorem dX5_cast_69 : decode cX5_cast 69 = .ok (.iload_n 2, 1) := by decide +kernel
theorem dX5_cast_70 : decode cX5_cast 70 = .ok (.iadd, 1) := by decide +kernel
theorem dX5_cast_71 : decode cX5_cast 71 = .ok (.iload_n 3, 1) := by decide +kernel
theorem dX5_cast_72 : decode cX5_cast 72 = .ok (.invokevirtual 94, 3) := by decide +kernel
theorem dX5_cast_75 : decode cX5_cast 75 = .ok (.ireturn, 1) := by decide +kernel
theorem dX5_record_0 : decode cX5_record 0 = .ok (.aload_n 0, 1) := by decide +kernel
theorem dX5_record_1 : decode cX5_record 1 = .ok (.aload_n 0, 1) := by decide +kernel
theorem dX5_record_2 : decode cX5_record 2 = .ok (.iload_n 1, 1) := by decide +kernel
theorem dX5_record_3 : decode cX5_record 3 = .ok (.iload_n 2, 1) := by decide +kernel
theorem dX5_record_4 : decode cX5_record 4 = .ok (.invokevirtual 97, 3) := by decide +kernel
theorem dX5_record_7 : decode cX5_record 7 = .ok (.ifCond .ne 7, 3) := by decide +kernel
theorem dX5_record_10 : decode cX5_record 10 = .ok (.iconst 1, 1) := by decide +kernel
theorem dX5_record_11 : decode cX5_record 11 = .ok (.goto 17, 3) := by decide +kernel
theorem dX5_record_14 : decode cX5_record 14 = .ok (.aload_n 0, 1) := by decide +kernel
theorem dX5_record_15 : decode cX5_record 15 = .ok (.iload_n 1, 1) := by decide +kernel
theorem dX5_record_16 : decode cX5_record 16 = .ok (.iload_n 2, 1) := by decide +kernel
theorem dX5_record_17 : decode cX5_record 17 = .ok (.invokevirtual 68, 3) := by decide +kernel
theorem dX5_record_20 : decode cX5_record 20 = .ok (.ifCond .le 7, 3) := by decide +kernel
theorem dX5_record_23 : decode cX5_record 23 = .ok (.iconst 2, 1) := by decide +kernel
theorem dX5_record_24 : decode cX5_record 24 = .ok (.goto 4, 3) := by decide +kernel
theorem dX5_record_27 : decode cX5_record 27 = .ok (.iconst 0, 1) := by decide +kernel
theorem dX5_record_28 : decode cX5_record 28 = .ok (.invokevirtual 81, 3) := by decide +kernel
theorem dX5_record_31 : decode cX5_record 31 = .ok (.ifCond .eq 5, 3) := by decide +kernel
theorem dX5_record_34 : decode cX5_record 34 = .ok (.iconst 0, 1) := by decide +kernel
theorem dX5_record_35 : decode cX5_record 35 = .ok (.ireturn, 1) := by decide +kernel
theorem dX5_record_36 : decode cX5_record 36 = .ok (.aload_n 0, 1) := by decide +kernel
theorem dX5_record_37 : decode cX5_record 37 = .ok (.invokevirtual 84, 3) := by decide +kernel
theorem dX5_record_40 : decode cX5_record 40 = .ok (.aload_n 0, 1) := by decide +kernel
theorem dX5_record_41 : decode cX5_record 41 = .ok (.getfield 7, 3) := by decide +kernel
theorem dX5_record_44 : decode cX5_record 44 = .ok (.iload_n 1, 1) := by decide +kernel
theorem dX5_record_45 : decode cX5_record 45 = .ok (.iconst 1, 1) := by decide +kernel
theorem dX5_record_46 : decode cX5_record 46 = .ok (.invokestatic 44, 3) := by decide +kernel
theorem dX5_record_49 : decode cX5_record 49 = .ok (.iaload, 1) := by decide +kernel
theorem dX5_record_50 : decode cX5_record 50 = .ok (.istore_n 3, 1) := by decide +kernel
theorem dX5_record_51 : decode cX5_record 51 = .ok (.aload_n 0, 1) := by decide +kernel
theorem dX5_record_52 : decode cX5_record 52 = .ok (.getfield 7, 3) := by decide +kernel
theorem dX5_record_55 : decode cX5_record 55 = .ok (.sipush 327, 3) := by decide +kernel
theorem dX5_record_58 : decode cX5_record 58 = .ok (.iconst 3, 1) := by decide +kernel
theorem dX5_record_59 : decode cX5_record 59 = .ok (.iload_n 3, 1) := by decide +kernel
theorem dX5_record_60 : decode cX5_record 60 = .ok (.imul, 1) := by decide +kernel
theorem dX5_record_61 : decode cX5_record 61 = .ok (.iadd, 1) := by decide +kernel
theorem dX5_record_62 : decode cX5_record 62 = .ok (.iload_n 2, 1) := by decide +kernel
theorem dX5_record_63 : decode cX5_record 63 = .ok (.iadd, 1) := by decide +kernel
theorem dX5_record_64 : decode cX5_record 64 = .ok (.dup2, 1) := by decide +kernel
theorem dX5_record_65 : decode cX5_record 65 = .ok (.iaload, 1) := by decide +kernel
theorem dX5_record_66 : decode cX5_record 66 = .ok (.aload_n 0, 1) := by decide +kernel
theorem dX5_record_67 : decode cX5_record 67 = .ok (.iload_n 1, 1) := by decide +kernel
theorem dX5_record_68 : decode cX5_record 68 = .ok (.iload_n 2, 1) := by decide +kernel
theorem dX5_record_69 : decode cX5_record 69 = .ok (.invokevirtual 59, 3) := by decide +kernel
theorem dX5_record_72 : decode cX5_record 72 = .ok (.iadd, 1) := by decide +kernel
theorem dX5_record_73 : decode cX5_record 73 = .ok (.iastore, 1) := by decide +kernel
theorem dX5_record_74 : decode cX5_record 74 = .ok (.aload_n 0, 1) := by decide +kernel
theorem dX5_record_75 : decode cX5_record 75 = .ok (.getfield 7, 3) := by decide +kernel
theorem dX5_record_78 : decode cX5_record 78 = .ok (.iload_n 1, 1) := by decide +kernel
theorem dX5_record_79 : decode cX5_record 79 = .ok (.bipush 10, 2) := by decide +kernel
theorem dX5_record_81 : decode cX5_record 81 = .ok (.iload_n 2, 1) := by decide +kernel
theorem dX5_record_82 : decode cX5_record 82 = .ok (.iadd, 1) := by decide +kernel
theorem dX5_record_83 : decode cX5_record 83 = .ok (.invokestatic 44, 3) := by decide +kernel
theorem dX5_record_86 : decode cX5_record 86 = .ok (.aload_n 0, 1) := by decide +kernel
theorem dX5_record_87 : decode cX5_record 87 = .ok (.getfield 7, 3) := by decide +kernel
theorem dX5_record_90 : decode cX5_record 90 = .ok (.sipush 367, 3) := by decide +kernel
theorem dX5_record_93 : decode cX5_record 93 = .ok (.iaload, 1) := by decide +kernel
theorem dX5_record_94 : decode cX5_record 94 = .ok (.iconst 1, 1) := by decide +kernel
theorem dX5_record_95 : decode cX5_record 95 = .ok (.iadd, 1) := by decide +kernel
theorem dX5_record_96 : decode cX5_record 96 = .ok (.iastore, 1) := by decide +kernel
theorem dX5_record_97 : decode cX5_record 97 = .ok (.aload_n 0, 1) := by decide +kernel
theorem dX5_record_98 : decode cX5_record 98 = .ok (.getfield 7, 3) := by decide +kernel
theorem dX5_record_101 : decode cX5_record 101 = .ok (.sipush 368, 3) := by decide +kernel
theorem dX5_record_104 : decode cX5_record 104 = .ok (.dup2, 1) := by decide +kernel
theorem dX5_record_105 : decode cX5_record 105 = .ok (.iaload, 1) := by decide +kernel
theorem dX5_record_106 : decode cX5_record 106 = .ok (.iconst 1, 1) := by decide +kernel
theorem dX5_record_107 : decode cX5_record 107 = .ok (.iadd, 1) := by decide +kernel
theorem dX5_record_108 : decode cX5_record 108 = .ok (.iastore, 1) := by decide +kernel
theorem dX5_record_109 : decode cX5_record 109 = .ok (.aload_n 0, 1) := by decide +kernel
theorem dX5_record_110 : decode cX5_record 110 = .ok (.iload_n 3, 1) := by decide +kernel
theorem dX5_record_111 : decode cX5_record 111 = .ok (.iload_n 2, 1) := by decide +kernel
theorem dX5_record_112 : decode cX5_record 112 = .ok (.invokevirtual 65, 3) := by decide +kernel
theorem dX5_record_115 : decode cX5_record 115 = .ok (.ireturn, 1) := by decide +kernel
theorem dX5_wipe_0 : decode cX5_wipe 0 = .ok (.aload_n 0, 1) := by decide +kernel
theorem dX5_wipe_1 : decode cX5_wipe 1 = .ok (.aload_n 0, 1) := by decide +kernel
theorem dX5_wipe_2 : decode cX5_wipe 2 = .ok (.iload_n 1, 1) := by decide +kernel
theorem dX5_wipe_3 : decode cX5_wipe 3 = .ok (.iload_n 2, 1) := by decide +kernel
theorem dX5_wipe_4 : decode cX5_wipe 4 = .ok (.invokevirtual 97, 3) := by decide +kernel
theorem dX5_wipe_7 : decode cX5_wipe 7 = .ok (.ifCond .ne 7, 3) := by decide +kernel
theorem dX5_wipe_10 : decode cX5_wipe 10 = .ok (.iconst 1, 1) := by decide +kernel
theorem dX5_wipe_11 : decode cX5_wipe 11 = .ok (.goto 17, 3) := by decide +kernel
theorem dX5_wipe_14 : decode cX5_wipe 14 = .ok (.aload_n 0, 1) := by decide +kernel
theorem dX5_wipe_15 : decode cX5_wipe 15 = .ok (.iload_n 1, 1) := by decide +kernel
theorem dX5_wipe_16 : decode cX5_wipe 16 = .ok (.iload_n 2, 1) := by decide +kernel
theorem dX5_wipe_17 : decode cX5_wipe 17 = .ok (.invokevirtual 51, 3) := by decide +kernel
theorem dX5_wipe_20 : decode cX5_wipe 20 = .ok (.ifCond .eq 7, 3) := by decide +kernel
theorem dX5_wipe_23 : decode cX5_wipe 23 = .ok (.iconst 0, 1) := by decide +kernel
theorem dX5_wipe_24 : decode cX5_wipe 24 = .ok (.goto 4, 3) := by decide +kernel
theorem dX5_wipe_27 : decode cX5_wipe 27 = .ok (.iconst 2, 1) := by decide +kernel
theorem dX5_wipe_28 : decode cX5_wipe 28 = .ok (.invokevirtual 81, 3) := by decide +kernel
theorem dX5_wipe_31 : decode cX5_wipe 31 = .ok (.ifCond .eq 5, 3) := by decide +kernel
theorem dX5_wipe_34 : decode cX5_wipe 34 = .ok (.iconst 0, 1) := by decide +kernel
theorem dX5_wipe_35 : decode cX5_wipe 35 = .ok (.ireturn, 1) := by decide +kernel
theorem dX5_wipe_36 : decode cX5_wipe 36 = .ok (.aload_n 0, 1) := by decide +kernel
theorem dX5_wipe_37 : decode cX5_wipe 37 = .ok (.iload_n 1, 1) := by decide +kernel
theorem dX5_wipe_38 : decode cX5_wipe 38 = .ok (.bipush 10, 2) := by decide +kernel
theorem dX5_wipe_40 : decode cX5_wipe 40 = .ok (.iload_n 2, 1) := by decide +kernel
theorem dX5_wipe_41 : decode cX5_wipe 41 = .ok (.iadd, 1) := by decide +kernel
theorem dX5_wipe_42 : decode cX5_wipe 42 = .ok (.invokestatic 44, 3) := by decide +kernel
theorem dX5_wipe_45 : decode cX5_wipe 45 = .ok (.iconst 0, 1) := by decide +kernel
theorem dX5_wipe_46 : decode cX5_wipe 46 = .ok (.invokevirtual 94, 3) := by decide +kernel
theorem dX5_wipe_49 : decode cX5_wipe 49 = .ok (.iconst 1, 1) := by decide +kernel
theorem dX5_wipe_50 : decode cX5_wipe 50 = .ok (.isub, 1) := by decide +kernel
theorem dX5_wipe_51 : decode cX5_wipe 51 = .ok (.istore_n 3, 1) := by decide +kernel
theorem dX5_wipe_52 : decode cX5_wipe 52 = .ok (.aload_n 0, 1) := by decide +kernel
theorem dX5_wipe_53 : decode cX5_wipe 53 = .ok (.aload_n 0, 1) := by decide +kernel
theorem dX5_wipe_54 : decode cX5_wipe 54 = .ok (.getfield 7, 3) := by decide +kernel
theorem dX5_wipe_57 : decode cX5_wipe 57 = .ok (.iload_n 1, 1) := by decide +kernel
theorem dX5_wipe_58 : decode cX5_wipe 58 = .ok (.iconst 0, 1) := by decide +kernel
theorem dX5_wipe_59 : decode cX5_wipe 59 = .ok (.invokestatic 44, 3) := by decide +kernel
theorem dX5_wipe_62 : decode cX5_wipe 62 = .ok (.iaload, 1) := by decide +kernel
theorem dX5_wipe_63 : decode cX5_wipe 63 = .ok (.iload_n 2, 1) := by decide +kernel
theorem dX5_wipe_64 : decode cX5_wipe 64 = .ok (.invokevirtual 55, 3) := by decide +kernel
theorem dX5_wipe_67 : decode cX5_wipe 67 = .ok (.aload_n 0, 1) := by decide +kernel
theorem dX5_wipe_68 : decode cX5_wipe 68 = .ok (.getfield 7, 3) := by decide +kernel
theorem dX5_wipe_71 : decode cX5_wipe 71 = .ok (.sipush 369, 3) := by decide +kernel
theorem dX5_wipe_74 : decode cX5_wipe 74 = .ok (.dup2, 1) := by decide +kernel
theorem dX5_wipe_75 : decode cX5_wipe 75 = .ok (.iaload, 1) := by decide +kernel
theorem dX5_wipe_76 : decode cX5_wipe 76 = .ok (.iconst 1, 1) := by decide +kernel
theorem dX5_wipe_77 : decode cX5_wipe 77 = .ok (.iadd, 1) := by decide +kernel
theorem dX5_wipe_78 : decode cX5_wipe 78 = .ok (.iastore, 1) := by decide +kernel
theorem dX5_wipe_79 : decode cX5_wipe 79 = .ok (.iload_n 3, 1) := by decide +kernel
theorem dX5_wipe_80 : decode cX5_wipe 80 = .ok (.ireturn, 1) := by decide +kernel
theorem dX5_nextSession_0 : decode cX5_nextSession 0 = .ok (.aload_n 0, 1) := by decide +kernel
theorem dX5_nextSession_1 : decode cX5_nextSession 1 = .ok (.aload_n 0, 1) := by decide +kernel
theorem dX5_nextSession_2 : decode cX5_nextSession 2 = .ok (.getfield 7, 3) := by decide +kernel
theorem dX5_nextSession_5 : decode cX5_nextSession 5 = .ok (.sipush 367, 3) := by decide +kernel
theorem dX5_nextSession_8 : decode cX5_nextSession 8 = .ok (.iaload, 1) := by decide +kernel
theorem dX5_nextSession_9 : decode cX5_nextSession 9 = .ok (.sipush 999, 3) := by decide +kernel
theorem dX5_nextSession_12 : decode cX5_nextSession 12 = .ok (.if_icmp .ne 7, 3) := by decide +kernel
theorem dX5_nextSession_15 : decode cX5_nextSession 15 = .ok (.iconst 1, 1) := by decide +kernel
theorem dX5_nextSession_16 : decode cX5_nextSession 16 = .ok (.goto 4, 3) := by decide +kernel
theorem dX5_nextSession_19 : decode cX5_nextSession 19 = .ok (.iconst 0, 1) := by decide +kernel
theorem dX5_nextSession_20 : decode cX5_nextSession 20 = .ok (.invokevirtual 81, 3) := by decide +kernel
theorem dX5_nextSession_23 : decode cX5_nextSession 23 = .ok (.ifCond .eq 5, 3) := by decide +kernel
theorem dX5_nextSession_26 : decode cX5_nextSession 26 = .ok (.iconst 0, 1) := by decide +kernel
theorem dX5_nextSession_27 : decode cX5_nextSession 27 = .ok (.ireturn, 1) := by decide +kernel
theorem dX5_nextSession_28 : decode cX5_nextSession 28 = .ok (.aload_n 0, 1) := by decide +kernel
theorem dX5_nextSession_29 : decode cX5_nextSession 29 = .ok (.invokevirtual 84, 3) := by decide +kernel
theorem dX5_nextSession_32 : decode cX5_nextSession 32 = .ok (.aload_n 0, 1) := by decide +kernel
theorem dX5_nextSession_33 : decode cX5_nextSession 33 = .ok (.getfield 7, 3) := by decide +kernel
theorem dX5_nextSession_36 : decode cX5_nextSession 36 = .ok (.sipush 367, 3) := by decide +kernel
theorem dX5_nextSession_39 : decode cX5_nextSession 39 = .ok (.dup2, 1) := by decide +kernel
theorem dX5_nextSession_40 : decode cX5_nextSession 40 = .ok (.iaload, 1) := by decide +kernel
theorem dX5_nextSession_41 : decode cX5_nextSession 41 = .ok (.iconst 1, 1) := by decide +kernel
theorem dX5_nextSession_42 : decode cX5_nextSession 42 = .ok (.iadd, 1) := by decide +kernel
theorem dX5_nextSession_43 : decode cX5_nextSession 43 = .ok (.iastore, 1) := by decide +kernel
theorem dX5_nextSession_44 : decode cX5_nextSession 44 = .ok (.iconst 0, 1) := by decide +kernel
theorem dX5_nextSession_45 : decode cX5_nextSession 45 = .ok (.istore_n 1, 1) := by decide +kernel
theorem dX5_nextSession_46 : decode cX5_nextSession 46 = .ok (.iload_n 1, 1) := by decide +kernel
theorem dX5_nextSession_47 : decode cX5_nextSession 47 = .ok (.bipush 15, 2) := by decide +kernel
theorem dX5_nextSession_49 : decode cX5_nextSession 49 = .ok (.if_icmp .ge 20, 3) := by decide +kernel
theorem dX5_nextSession_52 : decode cX5_nextSession 52 = .ok (.aload_n 0, 1) := by decide +kernel
theorem dX5_nextSession_53 : decode cX5_nextSession 53 = .ok (.getfield 7, 3) := by decide +kernel
theorem dX5_nextSession_56 : decode cX5_nextSession 56 = .ok (.sipush 327, 3) := by decide +kernel
theorem dX5_nextSession_59 : decode cX5_nextSession 59 = .ok (.iload_n 1, 1) := by decide +kernel
theorem dX5_nextSession_60 : decode cX5_nextSession 60 = .ok (.iadd, 1) := by decide +kernel
theorem dX5_nextSession_61 : decode cX5_nextSession 61 = .ok (.iconst 0, 1) := by decide +kernel
theorem dX5_nextSession_62 : decode cX5_nextSession 62 = .ok (.iastore, 1) := by decide +kernel
theorem dX5_nextSession_63 : decode cX5_nextSession 63 = .ok (.iinc 1 1, 3) := by decide +kernel
theorem dX5_nextSession_66 : decode cX5_nextSession 66 = .ok (.goto (-20), 3) := by decide +kernel
theorem dX5_nextSession_69 : decode cX5_nextSession 69 = .ok (.aload_n 0, 1) := by decide +kernel
theorem dX5_nextSession_70 : decode cX5_nextSession 70 = .ok (.getfield 7, 3) := by decide +kernel
theorem dX5_nextSession_73 : decode cX5_nextSession 73 = .ok (.sipush 367, 3) := by decide +kernel
theorem dX5_nextSession_76 : decode cX5_nextSession 76 = .ok (.iaload, 1) := by decide +kernel
theorem dX5_nextSession_77 : decode cX5_nextSession 77 = .ok (.ireturn, 1) := by decide +kernel
theorem dX5_complete_0 : decode cX5_complete 0 = .ok (.iconst 0, 1) := by decide +kernel
theorem dX5_complete_1 : decode cX5_complete 1 = .ok (.istore_n 3, 1) := by decide +kernel
theorem dX5_complete_2 : decode cX5_complete 2 = .ok (.iconst 1, 1) := by decide +kernel
theorem dX5_complete_3 : decode cX5_complete 3 = .ok (.istore 4, 2) := by decide +kernel
theorem dX5_complete_5 : decode cX5_complete 5 = .ok (.iconst 0, 1) := by decide +kernel
theorem dX5_complete_6 : decode cX5_complete 6 = .ok (.istore 5, 2) := by decide +kernel
theorem dX5_complete_8 : decode cX5_complete 8 = .ok (.iload 5, 2) := by decide +kernel
theorem dX5_complete_10 : decode cX5_complete 10 = .ok (.aload_n 0, 1) := by decide +kernel
theorem dX5_complete_11 : decode cX5_complete 11 = .ok (.getfield 7, 3) := by decide +kernel
theorem dX5_complete_14 : decode cX5_complete 14 = .ok (.sipush 366, 3) := by decide +kernel
theorem dX5_complete_17 : decode cX5_complete 17 = .ok (.iaload, 1) := by decide +kernel
theorem dX5_complete_18 : decode cX5_complete 18 = .ok (.if_icmp .ge 71, 3) := by decide +kernel
theorem dX5_complete_21 : decode cX5_complete 21 = .ok (.aload_n 0, 1) := by decide +kernel
theorem dX5_complete_22 : decode cX5_complete 22 = .ok (.getfield 7, 3) := by decide +kernel
theorem dX5_complete_25 : decode cX5_complete 25 = .ok (.iload 5, 2) := by decide +kernel
theorem dX5_complete_27 : decode cX5_complete 27 = .ok (.iconst 0, 1) := by decide +kernel
theorem dX5_complete_28 : decode cX5_complete 28 = .ok (.invokestatic 44, 3) := by decide +kernel
theorem dX5_complete_31 : decode cX5_complete 31 = .ok (.iaload, 1) := by decide +kernel
theorem dX5_complete_32 : decode cX5_complete 32 = .ok (.iload_n 1, 1) := by decide +kernel
theorem dX5_complete_33 : decode cX5_complete 33 = .ok (.if_icmp .ne 7, 3) := by decide +kernel
theorem dX5_complete_36 : decode cX5_complete 36 = .ok (.iconst 1, 1) := by decide +kernel
theorem dX5_complete_37 : decode cX5_complete 37 = .ok (.goto 4, 3) := by decide +kernel
theorem dX5_complete_40 : decode cX5_complete 40 = .ok (.iconst 0, 1) := by decide +kernel
theorem dX5_complete_41 : decode cX5_complete 41 = .ok (.istore 6, 2) := by decide +kernel
theorem dX5_complete_43 : decode cX5_complete 43 = .ok (.iload_n 3, 1) := by decide +kernel
theorem dX5_complete_44 : decode cX5_complete 44 = .ok (.iload 6, 2) := by decide +kernel
theorem dX5_complete_46 : decode cX5_complete 46 = .ok (.ifCond .eq 7, 3) := by decide +kernel
theorem dX5_complete_49 : decode cX5_complete 49 = .ok (.iconst 1, 1) := by decide +kernel
theorem dX5_complete_50 : decode cX5_complete 50 = .ok (.goto 4, 3) := by decide +kernel
theorem dX5_complete_53 : decode cX5_complete 53 = .ok (.iconst 0, 1) := by decide +kernel
theorem dX5_complete_54 : decode cX5_complete 54 = .ok (.iadd, 1) := by decide +kernel
theorem dX5_complete_55 : decode cX5_complete 55 = .ok (.istore_n 3, 1) := by decide +kernel
theorem dX5_complete_56 : decode cX5_complete 56 = .ok (.iload 4, 2) := by decide +kernel
theorem dX5_complete_58 : decode cX5_complete 58 = .ok (.ifCond .eq 22, 3) := by decide +kernel
theorem dX5_complete_61 : decode cX5_complete 61 = .ok (.iload 6, 2) := by decide +kernel
theorem dX5_complete_63 : decode cX5_complete 63 = .ok (.ifCond .eq 13, 3) := by decide +kernel
theorem dX5_complete_66 : decode cX5_complete 66 = .ok (.aload_n 0, 1) := by decide +kernel
theorem dX5_complete_67 : decode cX5_complete 67 = .ok (.iload 5, 2) := by decide +kernel
theorem dX5_complete_69 : decode cX5_complete 69 = .ok (.iload_n 2, 1) := by decide +kernel
theorem dX5_complete_70 : decode cX5_complete 70 = .ok (.invokevirtual 51, 3) := by decide +kernel
theorem dX5_complete_73 : decode cX5_complete 73 = .ok (.ifCond .eq 7, 3) := by decide +kernel
theorem dX5_complete_76 : decode cX5_complete 76 = .ok (.iconst 1, 1) := by decide +kernel
theorem dX5_complete_77 : decode cX5_complete 77 = .ok (.goto 4, 3) := by decide +kernel
theorem dX5_complete_80 : decode cX5_complete 80 = .ok (.iconst 0, 1) := by decide +kernel
theorem dX5_complete_81 : decode cX5_complete 81 = .ok (.istore 4, 2) := by decide +kernel
theorem dX5_complete_83 : decode cX5_complete 83 = .ok (.iinc 5 1, 3) := by decide +kernel
theorem dX5_complete_86 : decode cX5_complete 86 = .ok (.goto (-78), 3) := by decide +kernel
theorem dX5_complete_89 : decode cX5_complete 89 = .ok (.iload_n 3, 1) := by decide +kernel
theorem dX5_complete_90 : decode cX5_complete 90 = .ok (.ifCond .le 12, 3) := by decide +kernel
theorem dX5_complete_93 : decode cX5_complete 93 = .ok (.iload 4, 2) := by decide +kernel
theorem dX5_complete_95 : decode cX5_complete 95 = .ok (.ifCond .eq 7, 3) := by decide +kernel
theorem dX5_complete_98 : decode cX5_complete 98 = .ok (.iconst 1, 1) := by decide +kernel
theorem dX5_complete_99 : decode cX5_complete 99 = .ok (.goto 4, 3) := by decide +kernel
theorem dX5_complete_102 : decode cX5_complete 102 = .ok (.iconst 0, 1) := by decide +kernel
theorem dX5_complete_103 : decode cX5_complete 103 = .ok (.ireturn, 1) := by decide +kernel
theorem dX5_mixed_0 : decode cX5_mixed 0 = .ok (.aload_n 0, 1) := by decide +kernel
theorem dX5_mixed_1 : decode cX5_mixed 1 = .ok (.getfield 7, 3) := by decide +kernel
theorem dX5_mixed_4 : decode cX5_mixed 4 = .ok (.sipush 342, 3) := by decide +kernel
theorem dX5_mixed_7 : decode cX5_mixed 7 = .ok (.iconst 3, 1) := by decide +kernel
theorem dX5_mixed_8 : decode cX5_mixed 8 = .ok (.iload_n 1, 1) := by decide +kernel
theorem dX5_mixed_9 : decode cX5_mixed 9 = .ok (.imul, 1) := by decide +kernel
theorem dX5_mixed_10 : decode cX5_mixed 10 = .ok (.iadd, 1) := by decide +kernel
theorem dX5_mixed_11 : decode cX5_mixed 11 = .ok (.iload_n 2, 1) := by decide +kernel
theorem dX5_mixed_12 : decode cX5_mixed 12 = .ok (.iadd, 1) := by decide +kernel
theorem dX5_mixed_13 : decode cX5_mixed 13 = .ok (.iaload, 1) := by decide +kernel
theorem dX5_mixed_14 : decode cX5_mixed 14 = .ok (.iconst 1, 1) := by decide +kernel
theorem dX5_mixed_15 : decode cX5_mixed 15 = .ok (.if_icmp .ne 7, 3) := by decide +kernel
theorem dX5_mixed_18 : decode cX5_mixed 18 = .ok (.iconst 1, 1) := by decide +kernel
theorem dX5_mixed_19 : decode cX5_mixed 19 = .ok (.goto 4, 3) := by decide +kernel
theorem dX5_mixed_22 : decode cX5_mixed 22 = .ok (.iconst 0, 1) := by decide +kernel
theorem dX5_mixed_23 : decode cX5_mixed 23 = .ok (.ireturn, 1) := by decide +kernel
theorem dX5_isPlace_0 : decode cX5_isPlace 0 = .ok (.iload_n 0, 1) := by decide +kernel
theorem dX5_isPlace_1 : decode cX5_isPlace 1 = .ok (.invokestatic 75, 3) := by decide +kernel
theorem dX5_isPlace_4 : decode cX5_isPlace 4 = .ok (.ifCond .eq 14, 3) := by decide +kernel
theorem dX5_isPlace_7 : decode cX5_isPlace 7 = .ok (.iload_n 1, 1) := by decide +kernel
theorem dX5_isPlace_8 : decode cX5_isPlace 8 = .ok (.invokestatic 38, 3) := by decide +kernel
theorem dX5_isPlace_11 : decode cX5_isPlace 11 = .ok (.ifCond .eq 7, 3) := by decide +kernel
theorem dX5_isPlace_14 : decode cX5_isPlace 14 = .ok (.iconst 1, 1) := by decide +kernel
theorem dX5_isPlace_15 : decode cX5_isPlace 15 = .ok (.goto 4, 3) := by decide +kernel
theorem dX5_isPlace_18 : decode cX5_isPlace 18 = .ok (.iconst 0, 1) := by decide +kernel
theorem dX5_isPlace_19 : decode cX5_isPlace 19 = .ok (.ireturn, 1) := by decide +kernel
theorem dX5_mix_0 : decode cX5_mix 0 = .ok (.aload_n 0, 1) := by decide +kernel
theorem dX5_mix_1 : decode cX5_mix 1 = .ok (.iload_n 1, 1) := by decide +kernel
theorem dX5_mix_2 : decode cX5_mix 2 = .ok (.iload_n 2, 1) := by decide +kernel
theorem dX5_mix_3 : decode cX5_mix 3 = .ok (.invokestatic 107, 3) := by decide +kernel
theorem dX5_mix_6 : decode cX5_mix 6 = .ok (.ifCond .ne 7, 3) := by decide +kernel
theorem dX5_mix_9 : decode cX5_mix 9 = .ok (.iconst 1, 1) := by decide +kernel
theorem dX5_mix_10 : decode cX5_mix 10 = .ok (.goto 26, 3) := by decide +kernel
theorem dX5_mix_13 : decode cX5_mix 13 = .ok (.aload_n 0, 1) := by decide +kernel
theorem dX5_mix_14 : decode cX5_mix 14 = .ok (.iload_n 1, 1) := by decide +kernel
theorem dX5_mix_15 : decode cX5_mix 15 = .ok (.iload_n 2, 1) := by decide +kernel
theorem dX5_mix_16 : decode cX5_mix 16 = .ok (.invokevirtual 110, 3) := by decide +kernel
theorem dX5_mix_19 : decode cX5_mix 19 = .ok (.ifCond .ne 12, 3) := by decide +kernel
theorem dX5_mix_22 : decode cX5_mix 22 = .ok (.aload_n 0, 1) := by decide +kernel
theorem dX5_mix_23 : decode cX5_mix 23 = .ok (.iload_n 1, 1) := by decide +kernel
theorem dX5_mix_24 : decode cX5_mix 24 = .ok (.iload_n 2, 1) := by decide +kernel
theorem dX5_mix_25 : decode cX5_mix 25 = .ok (.invokevirtual 113, 3) := by decide +kernel
theorem dX5_mix_28 : decode cX5_mix 28 = .ok (.ifCond .ne 7, 3) := by decide +kernel
theorem dX5_mix_31 : decode cX5_mix 31 = .ok (.iconst 2, 1) := by decide +kernel
theorem dX5_mix_32 : decode cX5_mix 32 = .ok (.goto 4, 3) := by decide +kernel
theorem dX5_mix_35 : decode cX5_mix 35 = .ok (.iconst 0, 1) := by decide +kernel
theorem dX5_mix_36 : decode cX5_mix 36 = .ok (.invokevirtual 81, 3) := by decide +kernel
theorem dX5_mix_39 : decode cX5_mix 39 = .ok (.ifCond .eq 5, 3) := by decide +kernel
theorem dX5_mix_42 : decode cX5_mix 42 = .ok (.iconst 0, 1) := by decide +kernel
theorem dX5_mix_43 : decode cX5_mix 43 = .ok (.ireturn, 1) := by decide +kernel
theorem dX5_mix_44 : decode cX5_mix 44 = .ok (.aload_n 0, 1) := by decide +kernel
theorem dX5_mix_45 : decode cX5_mix 45 = .ok (.invokevirtual 84, 3) := by decide +kernel
theorem dX5_mix_48 : decode cX5_mix 48 = .ok (.aload_n 0, 1) := by decide +kernel
theorem dX5_mix_49 : decode cX5_mix 49 = .ok (.getfield 7, 3) := by decide +kernel
theorem dX5_mix_52 : decode cX5_mix 52 = .ok (.sipush 342, 3) := by decide +kernel
theorem dX5_mix_55 : decode cX5_mix 55 = .ok (.iconst 3, 1) := by decide +kernel
theorem dX5_mix_56 : decode cX5_mix 56 = .ok (.iload_n 1, 1) := by decide +kernel
theorem dX5_mix_57 : decode cX5_mix 57 = .ok (.imul, 1) := by decide +kernel
theorem dX5_mix_58 : decode cX5_mix 58 = .ok (.iadd, 1) := by decide +kernel
theorem dX5_mix_59 : decode cX5_mix 59 = .ok (.iload_n 2, 1) := by decide +kernel
theorem dX5_mix_60 : decode cX5_mix 60 = .ok (.iadd, 1) := by decide +kernel
theorem dX5_mix_61 : decode cX5_mix 61 = .ok (.iconst 1, 1) := by decide +kernel
theorem dX5_mix_62 : decode cX5_mix 62 = .ok (.iastore, 1) := by decide +kernel
theorem dX5_mix_63 : decode cX5_mix 63 = .ok (.aload_n 0, 1) := by decide +kernel
theorem dX5_mix_64 : decode cX5_mix 64 = .ok (.getfield 7, 3) := by decide +kernel
theorem dX5_mix_67 : decode cX5_mix 67 = .ok (.sipush 370, 3) := by decide +kernel
theorem dX5_mix_70 : decode cX5_mix 70 = .ok (.dup2, 1) := by decide +kernel
theorem dX5_mix_71 : decode cX5_mix 71 = .ok (.iaload, 1) := by decide +kernel
theorem dX5_mix_72 : decode cX5_mix 72 = .ok (.iconst 1, 1) := by decide +kernel
theorem dX5_mix_73 : decode cX5_mix 73 = .ok (.iadd, 1) := by decide +kernel
theorem dX5_mix_74 : decode cX5_mix 74 = .ok (.iastore, 1) := by decide +kernel
theorem dX5_mix_75 : decode cX5_mix 75 = .ok (.iconst 0, 1) := by decide +kernel
theorem dX5_mix_76 : decode cX5_mix 76 = .ok (.istore_n 3, 1) := by decide +kernel
theorem dX5_mix_77 : decode cX5_mix 77 = .ok (.iconst 0, 1) := by decide +kernel
theorem dX5_mix_78 : decode cX5_mix 78 = .ok (.istore 4, 2) := by decide +kernel
theorem dX5_mix_80 : decode cX5_mix 80 = .ok (.iload 4, 2) := by decide +kernel
theorem dX5_mix_82 : decode cX5_mix 82 = .ok (.aload_n 0, 1) := by decide +kernel
theorem dX5_mix_83 : decode cX5_mix 83 = .ok (.getfield 7, 3) := by decide +kernel
theorem dX5_mix_86 : decode cX5_mix 86 = .ok (.sipush 366, 3) := by decide +kernel
theorem dX5_mix_89 : decode cX5_mix 89 = .ok (.iaload, 1) := by decide +kernel
theorem dX5_mix_90 : decode cX5_mix 90 = .ok (.if_icmp .ge 50, 3) := by decide +kernel
theorem dX5_mix_93 : decode cX5_mix 93 = .ok (.iload_n 3, 1) := by decide +kernel
theorem dX5_mix_94 : decode cX5_mix 94 = .ok (.aload_n 0, 1) := by decide +kernel
theorem dX5_mix_95 : decode cX5_mix 95 = .ok (.getfield 7, 3) := by decide +kernel
theorem dX5_mix_98 : decode cX5_mix 98 = .ok (.iload 4, 2) := by decide +kernel
theorem dX5_mix_100 : decode cX5_mix 100 = .ok (.iconst 0, 1) := by decide +kernel
theorem dX5_mix_101 : decode cX5_mix 101 = .ok (.invokestatic 44, 3) := by decide +kernel
theorem dX5_mix_104 : decode cX5_mix 104 = .ok (.iaload, 1) := by decide +kernel
theorem dX5_mix_105 : decode cX5_mix 105 = .ok (.iload_n 1, 1) := by decide +kernel
theorem dX5_mix_106 : decode cX5_mix 106 = .ok (.if_icmp .ne 25, 3) := by decide +kernel
theorem dX5_mix_109 : decode cX5_mix 109 = .ok (.aload_n 0, 1) := by decide +kernel
theorem dX5_mix_110 : decode cX5_mix 110 = .ok (.getfield 7, 3) := by decide +kernel
theorem dX5_mix_113 : decode cX5_mix 113 = .ok (.iload 4, 2) := by decide +kernel
theorem dX5_mix_115 : decode cX5_mix 115 = .ok (.iconst 2, 1) := by decide +kernel
theorem dX5_mix_116 : decode cX5_mix 116 = .ok (.invokestatic 44, 3) := by decide +kernel
theorem dX5_mix_119 : decode cX5_mix 119 = .ok (.iaload, 1) := by decide +kernel
theorem dX5_mix_120 : decode cX5_mix 120 = .ok (.aload_n 0, 1) := by decide +kernel
theorem dX5_mix_121 : decode cX5_mix 121 = .ok (.iload 4, 2) := by decide +kernel
theorem dX5_mix_123 : decode cX5_mix 123 = .ok (.iload_n 2, 1) := by decide +kernel
theorem dX5_mix_124 : decode cX5_mix 124 = .ok (.invokevirtual 59, 3) := by decide +kernel
theorem dX5_mix_127 : decode cX5_mix 127 = .ok (.isub, 1) := by decide +kernel
theorem dX5_mix_128 : decode cX5_mix 128 = .ok (.goto 4, 3) := by decide +kernel
theorem dX5_mix_131 : decode cX5_mix 131 = .ok (.iconst 0, 1) := by decide +kernel
theorem dX5_mix_132 : decode cX5_mix 132 = .ok (.iadd, 1) := by decide +kernel
theorem dX5_mix_133 : decode cX5_mix 133 = .ok (.istore_n 3, 1) := by decide +kernel
theorem dX5_mix_134 : decode cX5_mix 134 = .ok (.iinc 4 1, 3) := by decide +kernel
theorem dX5_mix_137 : decode cX5_mix 137 = .ok (.goto (-57), 3) := by decide +kernel
theorem dX5_mix_140 : decode cX5_mix 140 = .ok (.iload_n 3, 1) := by decide +kernel
theorem dX5_mix_141 : decode cX5_mix 141 = .ok (.ireturn, 1) := by decide +kernel
theorem dX5_speaks_0 : decode cX5_speaks 0 = .ok (.iconst 0, 1) := by decide +kernel
theorem dX5_speaks_1 : decode cX5_speaks 1 = .ok (.istore_n 3, 1) := by decide +kernel
theorem dX5_speaks_2 : decode cX5_speaks 2 = .ok (.iconst 0, 1) := by decide +kernel
theorem dX5_speaks_3 : decode cX5_speaks 3 = .ok (.istore 4, 2) := by decide +kernel
theorem dX5_speaks_5 : decode cX5_speaks 5 = .ok (.iload 4, 2) := by decide +kernel
theorem dX5_speaks_7 : decode cX5_speaks 7 = .ok (.aload_n 0, 1) := by decide +kernel
theorem dX5_speaks_8 : decode cX5_speaks 8 = .ok (.getfield 7, 3) := by decide +kernel
theorem dX5_speaks_11 : decode cX5_speaks 11 = .ok (.sipush 366, 3) := by decide +kernel
theorem dX5_speaks_14 : decode cX5_speaks 14 = .ok (.iaload, 1) := by decide +kernel
theorem dX5_speaks_15 : decode cX5_speaks 15 = .ok (.if_icmp .ge 49, 3) := by decide +kernel
theorem dX5_speaks_18 : decode cX5_speaks 18 = .ok (.iload_n 3, 1) := by decide +kernel
theorem dX5_speaks_19 : decode cX5_speaks 19 = .ok (.ifCond .ne 33, 3) := by decide +kernel
theorem dX5_speaks_22 : decode cX5_speaks 22 = .ok (.aload_n 0, 1) := by decide +kernel
theorem dX5_speaks_23 : decode cX5_speaks 23 = .ok (.getfield 7, 3) := by decide +kernel
theorem dX5_speaks_26 : decode cX5_speaks 26 = .ok (.iload 4, 2) := by decide +kernel
theorem dX5_speaks_28 : decode cX5_speaks 28 = .ok (.iconst 0, 1) := by decide +kernel
theorem dX5_speaks_29 : decode cX5_speaks 29 = .ok (.invokestatic 44, 3) := by decide +kernel
theorem dX5_speaks_32 : decode cX5_speaks 32 = .ok (.iaload, 1) := by decide +kernel
theorem dX5_speaks_33 : decode cX5_speaks 33 = .ok (.iload_n 2, 1) := by decide +kernel
theorem dX5_speaks_34 : decode cX5_speaks 34 = .ok (.if_icmp .ne 22, 3) := by decide +kernel
theorem dX5_speaks_37 : decode cX5_speaks 37 = .ok (.aload_n 0, 1) := by decide +kernel
theorem dX5_speaks_38 : decode cX5_speaks 38 = .ok (.getfield 7, 3) := by decide +kernel
theorem dX5_speaks_41 : decode cX5_speaks 41 = .ok (.iload 4, 2) := by decide +kernel
theorem dX5_speaks_43 : decode cX5_speaks 43 = .ok (.iconst 1, 1) := by decide +kernel
theorem dX5_speaks_44 : decode cX5_speaks 44 = .ok (.invokestatic 44, 3) := by decide +kernel
theorem dX5_speaks_47 : decode cX5_speaks 47 = .ok (.iaload, 1) := by decide +kernel
theorem dX5_speaks_48 : decode cX5_speaks 48 = .ok (.iload_n 1, 1) := by decide +kernel
theorem dX5_speaks_49 : decode cX5_speaks 49 = .ok (.if_icmp .ne 7, 3) := by decide +kernel
theorem dX5_speaks_52 : decode cX5_speaks 52 = .ok (.iconst 1, 1) := by decide +kernel
theorem dX5_speaks_53 : decode cX5_speaks 53 = .ok (.goto 4, 3) := by decide +kernel
theorem dX5_speaks_56 : decode cX5_speaks 56 = .ok (.iconst 0, 1) := by decide +kernel
theorem dX5_speaks_57 : decode cX5_speaks 57 = .ok (.istore_n 3, 1) := by decide +kernel
theorem dX5_speaks_58 : decode cX5_speaks 58 = .ok (.iinc 4 1, 3) := by decide +kernel
theorem dX5_speaks_61 : decode cX5_speaks 61 = .ok (.goto (-56), 3) := by decide +kernel
theorem dX5_speaks_64 : decode cX5_speaks 64 = .ok (.iload_n 3, 1) := by decide +kernel
theorem dX5_speaks_65 : decode cX5_speaks 65 = .ok (.ireturn, 1) := by decide +kernel
theorem dX5_signed_0 : decode cX5_signed 0 = .ok (.aload_n 0, 1) := by decide +kernel
theorem dX5_signed_1 : decode cX5_signed 1 = .ok (.getfield 7, 3) := by decide +kernel
theorem dX5_signed_4 : decode cX5_signed 4 = .ok (.sipush 354, 3) := by decide +kernel
theorem dX5_signed_7 : decode cX5_signed 7 = .ok (.iconst 3, 1) := by decide +kernel
theorem dX5_signed_8 : decode cX5_signed 8 = .ok (.iload_n 2, 1) := by decide +kernel
theorem dX5_signed_9 : decode cX5_signed 9 = .ok (.imul, 1) := by decide +kernel
theorem dX5_signed_10 : decode cX5_signed 10 = .ok (.iadd, 1) := by decide +kernel
theorem dX5_signed_11 : decode cX5_signed 11 = .ok (.iload_n 3, 1) := by decide +kernel
theorem dX5_signed_12 : decode cX5_signed 12 = .ok (.iadd, 1) := by decide +kernel
theorem dX5_signed_13 : decode cX5_signed 13 = .ok (.iaload, 1) := by decide +kernel
theorem dX5_signed_14 : decode cX5_signed 14 = .ok (.iload_n 1, 1) := by decide +kernel
theorem dX5_signed_15 : decode cX5_signed 15 = .ok (.ishr, 1) := by decide +kernel
theorem dX5_signed_16 : decode cX5_signed 16 = .ok (.iconst 1, 1) := by decide +kernel
theorem dX5_signed_17 : decode cX5_signed 17 = .ok (.iand, 1) := by decide +kernel
theorem dX5_signed_18 : decode cX5_signed 18 = .ok (.iconst 1, 1) := by decide +kernel
theorem dX5_signed_19 : decode cX5_signed 19 = .ok (.if_icmp .ne 7, 3) := by decide +kernel
theorem dX5_signed_22 : decode cX5_signed 22 = .ok (.iconst 1, 1) := by decide +kernel
theorem dX5_signed_23 : decode cX5_signed 23 = .ok (.goto 4, 3) := by decide +kernel
theorem dX5_signed_26 : decode cX5_signed 26 = .ok (.iconst 0, 1) := by decide +kernel
theorem dX5_signed_27 : decode cX5_signed 27 = .ok (.ireturn, 1) := by decide +kernel
theorem dX5_missing_0 : decode cX5_missing 0 = .ok (.iconst 0, 1) := by decide +kernel
theorem dX5_missing_1 : decode cX5_missing 1 = .ok (.istore_n 3, 1) := by decide +kernel
theorem dX5_missing_2 : decode cX5_missing 2 = .ok (.iconst 0, 1) := by decide +kernel
theorem dX5_missing_3 : decode cX5_missing 3 = .ok (.istore 4, 2) := by decide +kernel
theorem dX5_missing_5 : decode cX5_missing 5 = .ok (.iload 4, 2) := by decide +kernel
theorem dX5_missing_7 : decode cX5_missing 7 = .ok (.iconst 5, 1) := by decide +kernel
theorem dX5_missing_8 : decode cX5_missing 8 = .ok (.if_icmp .ge 38, 3) := by decide +kernel
theorem dX5_missing_11 : decode cX5_missing 11 = .ok (.iload_n 3, 1) := by decide +kernel
theorem dX5_missing_12 : decode cX5_missing 12 = .ok (.aload_n 0, 1) := by decide +kernel
theorem dX5_missing_13 : decode cX5_missing 13 = .ok (.iload 4, 2) := by decide +kernel
theorem dX5_missing_15 : decode cX5_missing 15 = .ok (.iload_n 1, 1) := by decide +kernel
theorem dX5_missing_16 : decode cX5_missing 16 = .ok (.invokevirtual 116, 3) := by decide +kernel
theorem dX5_missing_19 : decode cX5_missing 19 = .ok (.ifCond .eq 18, 3) := by decide +kernel
theorem dX5_missing_22 : decode cX5_missing 22 = .ok (.aload_n 0, 1) := by decide +kernel
theorem dX5_missing_23 : decode cX5_missing 23 = .ok (.iload 4, 2) := by decide +kernel
theorem dX5_missing_25 : decode cX5_missing 25 = .ok (.iload_n 1, 1) := by decide +kernel
theorem dX5_missing_26 : decode cX5_missing 26 = .ok (.iload_n 2, 1) := by decide +kernel
theorem dX5_missing_27 : decode cX5_missing 27 = .ok (.invokevirtual 119, 3) := by decide +kernel
theorem dX5_missing_30 : decode cX5_missing 30 = .ok (.ifCond .ne 7, 3) := by decide +kernel
theorem dX5_missing_33 : decode cX5_missing 33 = .ok (.iconst 1, 1) := by decide +kernel
theorem dX5_missing_34 : decode cX5_missing 34 = .ok (.goto 4, 3) := by decide +kernel
theorem dX5_missing_37 : decode cX5_missing 37 = .ok (.iconst 0, 1) := by decide +kernel
theorem dX5_missing_38 : decode cX5_missing 38 = .ok (.iadd, 1) := by decide +kernel
theorem dX5_missing_39 : decode cX5_missing 39 = .ok (.istore_n 3, 1) := by decide +kernel
theorem dX5_missing_40 : decode cX5_missing 40 = .ok (.iinc 4 1, 3) := by decide +kernel
theorem dX5_missing_43 : decode cX5_missing 43 = .ok (.goto (-38), 3) := by decide +kernel
theorem dX5_missing_46 : decode cX5_missing 46 = .ok (.iload_n 3, 1) := by decide +kernel
theorem dX5_missing_47 : decode cX5_missing 47 = .ok (.ireturn, 1) := by decide +kernel
theorem dX5_sign_0 : decode cX5_sign 0 = .ok (.aload_n 0, 1) := by decide +kernel
theorem dX5_sign_1 : decode cX5_sign 1 = .ok (.iload_n 1, 1) := by decide +kernel
theorem dX5_sign_2 : decode cX5_sign 2 = .ok (.invokestatic 78, 3) := by decide +kernel
theorem dX5_sign_5 : decode cX5_sign 5 = .ok (.ifCond .eq 11, 3) := by decide +kernel
theorem dX5_sign_8 : decode cX5_sign 8 = .ok (.iload_n 2, 1) := by decide +kernel
theorem dX5_sign_9 : decode cX5_sign 9 = .ok (.iload_n 3, 1) := by decide +kernel
theorem dX5_sign_10 : decode cX5_sign 10 = .ok (.invokestatic 107, 3) := by decide +kernel
theorem dX5_sign_13 : decode cX5_sign 13 = .ok (.ifCond .ne 7, 3) := by decide +kernel
theorem dX5_sign_16 : decode cX5_sign 16 = .ok (.iconst 1, 1) := by decide +kernel
theorem dX5_sign_17 : decode cX5_sign 17 = .ok (.goto 36, 3) := by decide +kernel
theorem dX5_sign_20 : decode cX5_sign 20 = .ok (.aload_n 0, 1) := by decide +kernel
theorem dX5_sign_21 : decode cX5_sign 21 = .ok (.iload_n 2, 1) := by decide +kernel
theorem dX5_sign_22 : decode cX5_sign 22 = .ok (.iload_n 3, 1) := by decide +kernel
theorem dX5_sign_23 : decode cX5_sign 23 = .ok (.invokevirtual 110, 3) := by decide +kernel
theorem dX5_sign_26 : decode cX5_sign 26 = .ok (.ifCond .eq 22, 3) := by decide +kernel
theorem dX5_sign_29 : decode cX5_sign 29 = .ok (.aload_n 0, 1) := by decide +kernel
theorem dX5_sign_30 : decode cX5_sign 30 = .ok (.iload_n 1, 1) := by decide +kernel
theorem dX5_sign_31 : decode cX5_sign 31 = .ok (.iload_n 2, 1) := by decide +kernel
theorem dX5_sign_32 : decode cX5_sign 32 = .ok (.invokevirtual 116, 3) := by decide +kernel
theorem dX5_sign_35 : decode cX5_sign 35 = .ok (.ifCond .eq 13, 3) := by decide +kernel
theorem dX5_sign_38 : decode cX5_sign 38 = .ok (.aload_n 0, 1) := by decide +kernel
theorem dX5_sign_39 : decode cX5_sign 39 = .ok (.iload_n 1, 1) := by decide +kernel
theorem dX5_sign_40 : decode cX5_sign 40 = .ok (.iload_n 2, 1) := by decide +kernel
theorem dX5_sign_41 : decode cX5_sign 41 = .ok (.iload_n 3, 1) := by decide +kernel
theorem dX5_sign_42 : decode cX5_sign 42 = .ok (.invokevirtual 119, 3) := by decide +kernel
theorem dX5_sign_45 : decode cX5_sign 45 = .ok (.ifCond .eq 7, 3) := by decide +kernel
theorem dX5_sign_48 : decode cX5_sign 48 = .ok (.iconst 2, 1) := by decide +kernel
theorem dX5_sign_49 : decode cX5_sign 49 = .ok (.goto 4, 3) := by decide +kernel
theorem dX5_sign_52 : decode cX5_sign 52 = .ok (.iconst 0, 1) := by decide +kernel
theorem dX5_sign_53 : decode cX5_sign 53 = .ok (.invokevirtual 81, 3) := by decide +kernel
theorem dX5_sign_56 : decode cX5_sign 56 = .ok (.ifCond .eq 5, 3) := by decide +kernel
theorem dX5_sign_59 : decode cX5_sign 59 = .ok (.iconst 0, 1) := by decide +kernel
theorem dX5_sign_60 : decode cX5_sign 60 = .ok (.ireturn, 1) := by decide +kernel
theorem dX5_sign_61 : decode cX5_sign 61 = .ok (.aload_n 0, 1) := by decide +kernel
theorem dX5_sign_62 : decode cX5_sign 62 = .ok (.invokevirtual 84, 3) := by decide +kernel
theorem dX5_sign_65 : decode cX5_sign 65 = .ok (.aload_n 0, 1) := by decide +kernel
theorem dX5_sign_66 : decode cX5_sign 66 = .ok (.getfield 7, 3) := by decide +kernel
theorem dX5_sign_69 : decode cX5_sign 69 = .ok (.sipush 354, 3) := by decide +kernel
theorem dX5_sign_72 : decode cX5_sign 72 = .ok (.iconst 3, 1) := by decide +kernel
theorem dX5_sign_73 : decode cX5_sign 73 = .ok (.iload_n 2, 1) := by decide +kernel
theorem dX5_sign_74 : decode cX5_sign 74 = .ok (.imul, 1) := by decide +kernel
theorem dX5_sign_75 : decode cX5_sign 75 = .ok (.iadd, 1) := by decide +kernel
theorem dX5_sign_76 : decode cX5_sign 76 = .ok (.iload_n 3, 1) := by decide +kernel
theorem dX5_sign_77 : decode cX5_sign 77 = .ok (.iadd, 1) := by decide +kernel
theorem dX5_sign_78 : decode cX5_sign 78 = .ok (.dup2, 1) := by decide +kernel
theorem dX5_sign_79 : decode cX5_sign 79 = .ok (.iaload, 1) := by decide +kernel
theorem dX5_sign_80 : decode cX5_sign 80 = .ok (.iconst 1, 1) := by decide +kernel
theorem dX5_sign_81 : decode cX5_sign 81 = .ok (.iload_n 1, 1) := by decide +kernel
theorem dX5_sign_82 : decode cX5_sign 82 = .ok (.ishl, 1) := by decide +kernel
theorem dX5_sign_83 : decode cX5_sign 83 = .ok (.ior, 1) := by decide +kernel
theorem dX5_sign_84 : decode cX5_sign 84 = .ok (.iastore, 1) := by decide +kernel
theorem dX5_sign_85 : decode cX5_sign 85 = .ok (.aload_n 0, 1) := by decide +kernel
theorem dX5_sign_86 : decode cX5_sign 86 = .ok (.iload_n 2, 1) := by decide +kernel
theorem dX5_sign_87 : decode cX5_sign 87 = .ok (.iload_n 3, 1) := by decide +kernel
theorem dX5_sign_88 : decode cX5_sign 88 = .ok (.invokevirtual 122, 3) := by decide +kernel
theorem dX5_sign_91 : decode cX5_sign 91 = .ok (.ireturn, 1) := by decide +kernel
theorem dX5_append_0 : decode cX5_append 0 = .ok (.aload_n 0, 1) := by decide +kernel
theorem dX5_append_1 : decode cX5_append 1 = .ok (.iload_n 1, 1) := by decide +kernel
theorem dX5_append_2 : decode cX5_append 2 = .ok (.bipush 33, 2) := by decide +kernel
theorem dX5_append_4 : decode cX5_append 4 = .ok (.bipush 126, 2) := by decide +kernel
theorem dX5_append_6 : decode cX5_append 6 = .ok (.invokestatic 30, 3) := by decide +kernel
theorem dX5_append_9 : decode cX5_append 9 = .ok (.ifCond .ne 7, 3) := by decide +kernel
theorem dX5_append_12 : decode cX5_append 12 = .ok (.iconst 1, 1) := by decide +kernel
theorem dX5_append_13 : decode cX5_append 13 = .ok (.goto 17, 3) := by decide +kernel
theorem dX5_append_16 : decode cX5_append 16 = .ok (.aload_n 0, 1) := by decide +kernel
theorem dX5_append_17 : decode cX5_append 17 = .ok (.getfield 125, 3) := by decide +kernel
theorem dX5_append_20 : decode cX5_append 20 = .ok (.bipush 60, 2) := by decide +kernel
theorem dX5_append_22 : decode cX5_append 22 = .ok (.if_icmp .ne 7, 3) := by decide +kernel
theorem dX5_append_25 : decode cX5_append 25 = .ok (.iconst 2, 1) := by decide +kernel
theorem dX5_append_26 : decode cX5_append 26 = .ok (.goto 4, 3) := by decide +kernel
theorem dX5_append_29 : decode cX5_append 29 = .ok (.iconst 0, 1) := by decide +kernel
theorem dX5_append_30 : decode cX5_append 30 = .ok (.invokevirtual 81, 3) := by decide +kernel
theorem dX5_append_33 : decode cX5_append 33 = .ok (.ifCond .eq 5, 3) := by decide +kernel
theorem dX5_append_36 : decode cX5_append 36 = .ok (.iconst 0, 1) := by decide +kernel
theorem dX5_append_37 : decode cX5_append 37 = .ok (.ireturn, 1) := by decide +kernel
theorem dX5_append_38 : decode cX5_append 38 = .ok (.aload_n 0, 1) := by decide +kernel
theorem dX5_append_39 : decode cX5_append 39 = .ok (.getfield 23, 3) := by decide +kernel
theorem dX5_append_42 : decode cX5_append 42 = .ok (.aload_n 0, 1) := by decide +kernel
theorem dX5_append_43 : decode cX5_append 43 = .ok (.getfield 125, 3) := by decide +kernel
theorem dX5_append_46 : decode cX5_append 46 = .ok (.iload_n 1, 1) := by decide +kernel
theorem dX5_append_47 : decode cX5_append 47 = .ok (.iastore, 1) := by decide +kernel
theorem dX5_append_48 : decode cX5_append 48 = .ok (.aload_n 0, 1) := by decide +kernel
theorem dX5_append_49 : decode cX5_append 49 = .ok (.dup, 1) := by decide +kernel
theorem dX5_append_50 : decode cX5_append 50 = .ok (.getfield 125, 3) := by decide +kernel
theorem dX5_append_53 : decode cX5_append 53 = .ok (.iconst 1, 1) := by decide +kernel
theorem dX5_append_54 : decode cX5_append 54 = .ok (.iadd, 1) := by decide +kernel
theorem dX5_append_55 : decode cX5_append 55 = .ok (.putfield 125, 3) := by decide +kernel
theorem dX5_append_58 : decode cX5_append 58 = .ok (.aload_n 0, 1) := by decide +kernel
theorem dX5_append_59 : decode cX5_append 59 = .ok (.getfield 125, 3) := by decide +kernel
theorem dX5_append_62 : decode cX5_append 62 = .ok (.ireturn, 1) := by decide +kernel
theorem dX5_clearBuffer_0 : decode cX5_clearBuffer 0 = .ok (.aload_n 0, 1) := by decide +kernel
theorem dX5_clearBuffer_1 : decode cX5_clearBuffer 1 = .ok (.iconst 0, 1) := by decide +kernel
theorem dX5_clearBuffer_2 : decode cX5_clearBuffer 2 = .ok (.putfield 26, 3) := by decide +kernel
theorem dX5_clearBuffer_5 : decode cX5_clearBuffer 5 = .ok (.aload_n 0, 1) := by decide +kernel
theorem dX5_clearBuffer_6 : decode cX5_clearBuffer 6 = .ok (.getfield 125, 3) := by decide +kernel
theorem dX5_clearBuffer_9 : decode cX5_clearBuffer 9 = .ok (.istore_n 1, 1) := by decide +kernel
theorem dX5_clearBuffer_10 : decode cX5_clearBuffer 10 = .ok (.aload_n 0, 1) := by decide +kernel
theorem dX5_clearBuffer_11 : decode cX5_clearBuffer 11 = .ok (.iconst 0, 1) := by decide +kernel
theorem dX5_clearBuffer_12 : decode cX5_clearBuffer 12 = .ok (.putfield 125, 3) := by decide +kernel
theorem dX5_clearBuffer_15 : decode cX5_clearBuffer 15 = .ok (.iload_n 1, 1) := by decide +kernel
theorem dX5_clearBuffer_16 : decode cX5_clearBuffer 16 = .ok (.ireturn, 1) := by decide +kernel
theorem dX5_next_0 : decode cX5_next 0 = .ok (.aload_n 0, 1) := by decide +kernel
theorem dX5_next_1 : decode cX5_next 1 = .ok (.getfield 128, 3) := by decide +kernel
theorem dX5_next_4 : decode cX5_next 4 = .ok (.aload_n 0, 1) := by decide +kernel
theorem dX5_next_5 : decode cX5_next 5 = .ok (.getfield 125, 3) := by decide +kernel
theorem dX5_next_8 : decode cX5_next 8 = .ok (.if_icmp .ge 15, 3) := by decide +kernel
theorem dX5_next_11 : decode cX5_next 11 = .ok (.aload_n 0, 1) := by decide +kernel
theorem dX5_next_12 : decode cX5_next 12 = .ok (.getfield 23, 3) := by decide +kernel
theorem dX5_next_15 : decode cX5_next 15 = .ok (.aload_n 0, 1) := by decide +kernel
theorem dX5_next_16 : decode cX5_next 16 = .ok (.getfield 128, 3) := by decide +kernel
theorem dX5_next_19 : decode cX5_next 19 = .ok (.iaload, 1) := by decide +kernel
theorem dX5_next_20 : decode cX5_next 20 = .ok (.goto 4, 3) := by decide +kernel
theorem dX5_next_23 : decode cX5_next 23 = .ok (.iconst 0, 1) := by decide +kernel
theorem dX5_next_24 : decode cX5_next 24 = .ok (.ireturn, 1) := by decide +kernel
theorem dX5_within_0 : decode cX5_within 0 = .ok (.aload_n 0, 1) := by decide +kernel
theorem dX5_within_1 : decode cX5_within 1 = .ok (.invokevirtual 131, 3) := by decide +kernel
theorem dX5_within_4 : decode cX5_within 4 = .ok (.istore_n 3, 1) := by decide +kernel
theorem dX5_within_5 : decode cX5_within 5 = .ok (.aload_n 0, 1) := by decide +kernel
theorem dX5_within_6 : decode cX5_within 6 = .ok (.aload_n 0, 1) := by decide +kernel
theorem dX5_within_7 : decode cX5_within 7 = .ok (.getfield 135, 3) := by decide +kernel
theorem dX5_within_10 : decode cX5_within 10 = .ok (.ifCond .ne 12, 3) := by decide +kernel
theorem dX5_within_13 : decode cX5_within 13 = .ok (.iload_n 3, 1) := by decide +kernel
theorem dX5_within_14 : decode cX5_within 14 = .ok (.iload_n 1, 1) := by decide +kernel
theorem dX5_within_15 : decode cX5_within 15 = .ok (.iload_n 2, 1) := by decide +kernel
theorem dX5_within_16 : decode cX5_within 16 = .ok (.invokestatic 30, 3) := by decide +kernel
theorem dX5_within_19 : decode cX5_within 19 = .ok (.ifCond .ne 7, 3) := by decide +kernel
theorem dX5_within_22 : decode cX5_within 22 = .ok (.iconst 1, 1) := by decide +kernel
theorem dX5_within_23 : decode cX5_within 23 = .ok (.goto 4, 3) := by decide +kernel
theorem dX5_within_26 : decode cX5_within 26 = .ok (.iconst 0, 1) := by decide +kernel
theorem dX5_within_27 : decode cX5_within 27 = .ok (.putfield 135, 3) := by decide +kernel
theorem dX5_within_30 : decode cX5_within 30 = .ok (.aload_n 0, 1) := by decide +kernel
theorem dX5_within_31 : decode cX5_within 31 = .ok (.dup, 1) := by decide +kernel
theorem dX5_within_32 : decode cX5_within 32 = .ok (.getfield 128, 3) := by decide +kernel
theorem dX5_within_35 : decode cX5_within 35 = .ok (.aload_n 0, 1) := by decide +kernel
theorem dX5_within_36 : decode cX5_within 36 = .ok (.getfield 135, 3) := by decide +kernel
theorem dX5_within_39 : decode cX5_within 39 = .ok (.ifCond .eq 7, 3) := by decide +kernel
theorem dX5_within_42 : decode cX5_within 42 = .ok (.iconst 0, 1) := by decide +kernel
theorem dX5_within_43 : decode cX5_within 43 = .ok (.goto 4, 3) := by decide +kernel
theorem dX5_within_46 : decode cX5_within 46 = .ok (.iconst 1, 1) := by decide +kernel
theorem dX5_within_47 : decode cX5_within 47 = .ok (.iadd, 1) := by decide +kernel
theorem dX5_within_48 : decode cX5_within 48 = .ok (.putfield 128, 3) := by decide +kernel
theorem dX5_within_51 : decode cX5_within 51 = .ok (.iload_n 3, 1) := by decide +kernel
theorem dX5_within_52 : decode cX5_within 52 = .ok (.iload_n 1, 1) := by decide +kernel
theorem dX5_within_53 : decode cX5_within 53 = .ok (.isub, 1) := by decide +kernel
theorem dX5_within_54 : decode cX5_within 54 = .ok (.ireturn, 1) := by decide +kernel
theorem dX5_number_0 : decode cX5_number 0 = .ok (.iconst 1, 1) := by decide +kernel
theorem dX5_number_1 : decode cX5_number 1 = .ok (.aload_n 0, 1) := by decide +kernel
theorem dX5_number_2 : decode cX5_number 2 = .ok (.bipush 49, 2) := by decide +kernel
theorem dX5_number_4 : decode cX5_number 4 = .ok (.bipush 57, 2) := by decide +kernel
theorem dX5_number_6 : decode cX5_number 6 = .ok (.invokevirtual 139, 3) := by decide +kernel
theorem dX5_number_9 : decode cX5_number 9 = .ok (.iadd, 1) := by decide +kernel
theorem dX5_number_10 : decode cX5_number 10 = .ok (.istore_n 3, 1) := by decide +kernel
theorem dX5_number_11 : decode cX5_number 11 = .ok (.bipush 10, 2) := by decide +kernel
theorem dX5_number_13 : decode cX5_number 13 = .ok (.iload_n 3, 1) := by decide +kernel
theorem dX5_number_14 : decode cX5_number 14 = .ok (.imul, 1) := by decide +kernel
theorem dX5_number_15 : decode cX5_number 15 = .ok (.aload_n 0, 1) := by decide +kernel
theorem dX5_number_16 : decode cX5_number 16 = .ok (.invokevirtual 131, 3) := by decide +kernel
theorem dX5_number_19 : decode cX5_number 19 = .ok (.iadd, 1) := by decide +kernel
theorem dX5_number_20 : decode cX5_number 20 = .ok (.bipush 48, 2) := by decide +kernel
theorem dX5_number_22 : decode cX5_number 22 = .ok (.isub, 1) := by decide +kernel
theorem dX5_number_23 : decode cX5_number 23 = .ok (.istore 4, 2) := by decide +kernel
theorem dX5_number_25 : decode cX5_number 25 = .ok (.aload_n 0, 1) := by decide +kernel
theorem dX5_number_26 : decode cX5_number 26 = .ok (.getfield 135, 3) := by decide +kernel
theorem dX5_number_29 : decode cX5_number 29 = .ok (.ifCond .ne 27, 3) := by decide +kernel
theorem dX5_number_32 : decode cX5_number 32 = .ok (.aload_n 0, 1) := by decide +kernel
theorem dX5_number_33 : decode cX5_number 33 = .ok (.invokevirtual 131, 3) := by decide +kernel
theorem dX5_number_36 : decode cX5_number 36 = .ok (.bipush 48, 2) := by decide +kernel
theorem dX5_number_38 : decode cX5_number 38 = .ok (.bipush 57, 2) := by decide +kernel
theorem dX5_number_40 : decode cX5_number 40 = .ok (.invokestatic 30, 3) := by decide +kernel
theorem dX5_number_43 : decode cX5_number 43 = .ok (.ifCond .eq 13, 3) := by decide +kernel
theorem dX5_number_46 : decode cX5_number 46 = .ok (.iload 4, 2) := by decide +kernel
theorem dX5_number_48 : decode cX5_number 48 = .ok (.iload_n 2, 1) := by decide +kernel
theorem dX5_number_49 : decode cX5_number 49 = .ok (.if_icmp .gt 7, 3) := by decide +kernel
theorem dX5_number_52 : decode cX5_number 52 = .ok (.iconst 1, 1) := by decide +kernel
theorem dX5_number_53 : decode cX5_number 53 = .ok (.goto 4, 3) := by decide +kernel
theorem dX5_number_56 : decode cX5_number 56 = .ok (.iconst 0, 1) := by decide +kernel
theorem dX5_number_57 : decode cX5_number 57 = .ok (.istore 5, 2) := by decide +kernel
theorem dX5_number_59 : decode cX5_number 59 = .ok (.aload_n 0, 1) := by decide +kernel
theorem dX5_number_60 : decode cX5_number 60 = .ok (.dup, 1) := by decide +kernel
theorem dX5_number_61 : decode cX5_number 61 = .ok (.getfield 128, 3) := by decide +kernel
theorem dX5_number_64 : decode cX5_number 64 = .ok (.iload 5, 2) := by decide +kernel
theorem dX5_number_66 : decode cX5_number 66 = .ok (.ifCond .eq 7, 3) := by decide +kernel
theorem dX5_number_69 : decode cX5_number 69 = .ok (.iconst 1, 1) := by decide +kernel
theorem dX5_number_70 : decode cX5_number 70 = .ok (.goto 4, 3) := by decide +kernel
theorem dX5_number_73 : decode cX5_number 73 = .ok (.iconst 0, 1) := by decide +kernel
theorem dX5_number_74 : decode cX5_number 74 = .ok (.iadd, 1) := by decide +kernel
theorem dX5_number_75 : decode cX5_number 75 = .ok (.putfield 128, 3) := by decide +kernel
theorem dX5_number_78 : decode cX5_number 78 = .ok (.aload_n 0, 1) := by decide +kernel
theorem dX5_number_79 : decode cX5_number 79 = .ok (.aload_n 0, 1) := by decide +kernel
theorem dX5_number_80 : decode cX5_number 80 = .ok (.getfield 135, 3) := by decide +kernel
theorem dX5_number_83 : decode cX5_number 83 = .ok (.ifCond .ne 13, 3) := by decide +kernel
theorem dX5_number_86 : decode cX5_number 86 = .ok (.iload 5, 2) := by decide +kernel
theorem dX5_number_88 : decode cX5_number 88 = .ok (.ifCond .ne 12, 3) := by decide +kernel
theorem dX5_number_91 : decode cX5_number 91 = .ok (.iload_n 3, 1) := by decide +kernel
theorem dX5_number_92 : decode cX5_number 92 = .ok (.iload_n 1, 1) := by decide +kernel
theorem dX5_number_93 : decode cX5_number 93 = .ok (.if_icmp .ge 7, 3) := by decide +kernel
theorem dX5_number_96 : decode cX5_number 96 = .ok (.iconst 1, 1) := by decide +kernel
theorem dX5_number_97 : decode cX5_number 97 = .ok (.goto 4, 3) := by decide +kernel
theorem dX5_number_100 : decode cX5_number 100 = .ok (.iconst 0, 1) := by decide +kernel
theorem dX5_number_101 : decode cX5_number 101 = .ok (.putfield 135, 3) := by decide +kernel
theorem dX5_number_104 : decode cX5_number 104 = .ok (.iload 5, 2) := by decide +kernel
theorem dX5_number_106 : decode cX5_number 106 = .ok (.ifCond .eq 8, 3) := by decide +kernel
theorem dX5_number_109 : decode cX5_number 109 = .ok (.iload 4, 2) := by decide +kernel
theorem dX5_number_111 : decode cX5_number 111 = .ok (.goto 4, 3) := by decide +kernel
theorem dX5_number_114 : decode cX5_number 114 = .ok (.iload_n 3, 1) := by decide +kernel
theorem dX5_number_115 : decode cX5_number 115 = .ok (.ireturn, 1) := by decide +kernel
theorem dX5_part_0 : decode cX5_part 0 = .ok (.aload_n 0, 1) := by decide +kernel
theorem dX5_part_1 : decode cX5_part 1 = .ok (.aload_n 0, 1) := by decide +kernel
theorem dX5_part_2 : decode cX5_part 2 = .ok (.bipush 48, 2) := by decide +kernel
theorem dX5_part_4 : decode cX5_part 4 = .ok (.bipush 51, 2) := by decide +kernel
theorem dX5_part_6 : decode cX5_part 6 = .ok (.invokevirtual 139, 3) := by decide +kernel
theorem dX5_part_9 : decode cX5_part 9 = .ok (.putfield 142, 3) := by decide +kernel
theorem dX5_part_12 : decode cX5_part 12 = .ok (.aload_n 0, 1) := by decide +kernel
theorem dX5_part_13 : decode cX5_part 13 = .ok (.aload_n 0, 1) := by decide +kernel
theorem dX5_part_14 : decode cX5_part 14 = .ok (.bipush 65, 2) := by decide +kernel
theorem dX5_part_16 : decode cX5_part 16 = .ok (.bipush 69, 2) := by decide +kernel
theorem dX5_part_18 : decode cX5_part 18 = .ok (.invokevirtual 139, 3) := by decide +kernel
theorem dX5_part_21 : decode cX5_part 21 = .ok (.putfield 145, 3) := by decide +kernel
theorem dX5_part_24 : decode cX5_part 24 = .ok (.aload_n 0, 1) := by decide +kernel
theorem dX5_part_25 : decode cX5_part 25 = .ok (.aload_n 0, 1) := by decide +kernel
theorem dX5_part_26 : decode cX5_part 26 = .ok (.iconst 4, 1) := by decide +kernel
theorem dX5_part_27 : decode cX5_part 27 = .ok (.bipush 60, 2) := by decide +kernel
theorem dX5_part_29 : decode cX5_part 29 = .ok (.invokevirtual 148, 3) := by decide +kernel
theorem dX5_part_32 : decode cX5_part 32 = .ok (.putfield 151, 3) := by decide +kernel
theorem dX5_part_35 : decode cX5_part 35 = .ok (.aload_n 0, 1) := by decide +kernel
theorem dX5_part_36 : decode cX5_part 36 = .ok (.iconst 0, 1) := by decide +kernel
theorem dX5_part_37 : decode cX5_part 37 = .ok (.putfield 154, 3) := by decide +kernel
theorem dX5_part_40 : decode cX5_part 40 = .ok (.aload_n 0, 1) := by decide +kernel
theorem dX5_part_41 : decode cX5_part 41 = .ok (.getfield 135, 3) := by decide +kernel
theorem dX5_part_44 : decode cX5_part 44 = .ok (.ifCond .ne 33, 3) := by decide +kernel
theorem dX5_part_47 : decode cX5_part 47 = .ok (.aload_n 0, 1) := by decide +kernel
theorem dX5_part_48 : decode cX5_part 48 = .ok (.invokevirtual 131, 3) := by decide +kernel
theorem dX5_part_51 : decode cX5_part 51 = .ok (.bipush 126, 2) := by decide +kernel
theorem dX5_part_53 : decode cX5_part 53 = .ok (.if_icmp .ne 24, 3) := by decide +kernel
theorem dX5_part_56 : decode cX5_part 56 = .ok (.aload_n 0, 1) := by decide +kernel
theorem dX5_part_57 : decode cX5_part 57 = .ok (.dup, 1) := by decide +kernel
theorem dX5_part_58 : decode cX5_part 58 = .ok (.getfield 128, 3) := by decide +kernel
theorem dX5_part_61 : decode cX5_part 61 = .ok (.iconst 1, 1) := by decide +kernel
theorem dX5_part_62 : decode cX5_part 62 = .ok (.iadd, 1) := by decide +kernel
theorem dX5_part_63 : decode cX5_part 63 = .ok (.putfield 128, 3) := by decide +kernel
theorem dX5_part_66 : decode cX5_part 66 = .ok (.aload_n 0, 1) := by decide +kernel
theorem dX5_part_67 : decode cX5_part 67 = .ok (.aload_n 0, 1) := by decide +kernel
theorem dX5_part_68 : decode cX5_part 68 = .ok (.iconst 1, 1) := by decide +kernel
theorem dX5_part_69 : decode cX5_part 69 = .ok (.bipush 20, 2) := by decide +kernel
theorem dX5_part_71 : decode cX5_part 71 = .ok (.invokevirtual 148, 3) := by decide +kernel
theorem dX5_part_74 : decode cX5_part 74 = .ok (.putfield 154, 3) := by decide +kernel
theorem dX5_part_77 : decode cX5_part 77 = .ok (.return_, 1) := by decide +kernel
theorem dX5_isWhole_0 : decode cX5_isWhole 0 = .ok (.aload_n 0, 1) := by decide +kernel
theorem dX5_isWhole_1 : decode cX5_isWhole 1 = .ok (.iconst 0, 1) := by decide +kernel
theorem dX5_isWhole_2 : decode cX5_isWhole 2 = .ok (.putfield 128, 3) := by decide +kernel
theorem dX5_isWhole_5 : decode cX5_isWhole 5 = .ok (.aload_n 0, 1) := by decide +kernel
theorem dX5_isWhole_6 : decode cX5_isWhole 6 = .ok (.iconst 0, 1) := by decide +kernel
theorem dX5_isWhole_7 : decode cX5_isWhole 7 = .ok (.putfield 135, 3) := by decide +kernel
theorem dX5_isWhole_10 : decode cX5_isWhole 10 = .ok (.iconst 1, 1) := by decide +kernel
theorem dX5_isWhole_11 : decode cX5_isWhole 11 = .ok (.istore_n 1, 1) := by decide +kernel
theorem dX5_isWhole_12 : decode cX5_isWhole 12 = .ok (.iload_n 1, 1) := by decide +kernel
theorem dX5_isWhole_13 : decode cX5_isWhole 13 = .ok (.ifCond .eq 60, 3) := by decide +kernel
theorem dX5_isWhole_16 : decode cX5_isWhole 16 = .ok (.aload_n 0, 1) := by decide +kernel
theorem dX5_isWhole_17 : decode cX5_isWhole 17 = .ok (.invokevirtual 157, 3) := by decide +kernel
theorem dX5_isWhole_20 : decode cX5_isWhole 20 = .ok (.aload_n 0, 1) := by decide +kernel
theorem dX5_isWhole_21 : decode cX5_isWhole 21 = .ok (.getfield 135, 3) := by decide +kernel
theorem dX5_isWhole_24 : decode cX5_isWhole 24 = .ok (.ifCond .ne 18, 3) := by decide +kernel
theorem dX5_isWhole_27 : decode cX5_isWhole 27 = .ok (.aload_n 0, 1) := by decide +kernel
theorem dX5_isWhole_28 : decode cX5_isWhole 28 = .ok (.getfield 128, 3) := by decide +kernel
theorem dX5_isWhole_31 : decode cX5_isWhole 31 = .ok (.aload_n 0, 1) := by decide +kernel
theorem dX5_isWhole_32 : decode cX5_isWhole 32 = .ok (.getfield 125, 3) := by decide +kernel
theorem dX5_isWhole_35 : decode cX5_isWhole 35 = .ok (.if_icmp .ge 7, 3) := by decide +kernel
theorem dX5_isWhole_38 : decode cX5_isWhole 38 = .ok (.iconst 1, 1) := by decide +kernel
theorem dX5_isWhole_39 : decode cX5_isWhole 39 = .ok (.goto 4, 3) := by decide +kernel
theorem dX5_isWhole_42 : decode cX5_isWhole 42 = .ok (.iconst 0, 1) := by decide +kernel
theorem dX5_isWhole_43 : decode cX5_isWhole 43 = .ok (.istore_n 1, 1) := by decide +kernel
theorem dX5_isWhole_44 : decode cX5_isWhole 44 = .ok (.iload_n 1, 1) := by decide +kernel
theorem dX5_isWhole_45 : decode cX5_isWhole 45 = .ok (.ifCond .eq (-33), 3) := by decide +kernel
theorem dX5_isWhole_48 : decode cX5_isWhole 48 = .ok (.aload_n 0, 1) := by decide +kernel
theorem dX5_isWhole_49 : decode cX5_isWhole 49 = .ok (.bipush 59, 2) := by decide +kernel
theorem dX5_isWhole_51 : decode cX5_isWhole 51 = .ok (.bipush 59, 2) := by decide +kernel
theorem dX5_isWhole_53 : decode cX5_isWhole 53 = .ok (.invokevirtual 139, 3) := by decide +kernel
theorem dX5_isWhole_56 : decode cX5_isWhole 56 = .ok (.istore_n 2, 1) := by decide +kernel
theorem dX5_isWhole_57 : decode cX5_isWhole 57 = .ok (.aload_n 0, 1) := by decide +kernel
theorem dX5_isWhole_58 : decode cX5_isWhole 58 = .ok (.getfield 135, 3) := by decide +kernel
theorem dX5_isWhole_61 : decode cX5_isWhole 61 = .ok (.ifCond .ne 7, 3) := by decide +kernel
theorem dX5_isWhole_64 : decode cX5_isWhole 64 = .ok (.iconst 1, 1) := by decide +kernel
theorem dX5_isWhole_65 : decode cX5_isWhole 65 = .ok (.goto 4, 3) := by decide +kernel
theorem dX5_isWhole_68 : decode cX5_isWhole 68 = .ok (.iconst 0, 1) := by decide +kernel
theorem dX5_isWhole_69 : decode cX5_isWhole 69 = .ok (.istore_n 1, 1) := by decide +kernel
theorem dX5_isWhole_70 : decode cX5_isWhole 70 = .ok (.goto (-58), 3) := by decide +kernel
theorem dX5_isWhole_73 : decode cX5_isWhole 73 = .ok (.aload_n 0, 1) := by decide +kernel
theorem dX5_isWhole_74 : decode cX5_isWhole 74 = .ok (.getfield 135, 3) := by decide +kernel
theorem dX5_isWhole_77 : decode cX5_isWhole 77 = .ok (.ifCond .ne 7, 3) := by decide +kernel
theorem dX5_isWhole_80 : decode cX5_isWhole 80 = .ok (.iconst 1, 1) := by decide +kernel
theorem dX5_isWhole_81 : decode cX5_isWhole 81 = .ok (.goto 4, 3) := by decide +kernel
theorem dX5_isWhole_84 : decode cX5_isWhole 84 = .ok (.iconst 0, 1) := by decide +kernel
theorem dX5_isWhole_85 : decode cX5_isWhole 85 = .ok (.ireturn, 1) := by decide +kernel
theorem dX5_firstError_0 : decode cX5_firstError 0 = .ok (.aload_n 0, 1) := by decide +kernel
theorem dX5_firstError_1 : decode cX5_firstError 1 = .ok (.iconst 0, 1) := by decide +kernel
theorem dX5_firstError_2 : decode cX5_firstError 2 = .ok (.putfield 26, 3) := by decide +kernel
theorem dX5_firstError_5 : decode cX5_firstError 5 = .ok (.aload_n 0, 1) := by decide +kernel
theorem dX5_firstError_6 : decode cX5_firstError 6 = .ok (.invokevirtual 160, 3) := by decide +kernel
theorem dX5_firstError_9 : decode cX5_firstError 9 = .ok (.ifCond .eq 10, 3) := by decide +kernel
theorem dX5_firstError_12 : decode cX5_firstError 12 = .ok (.aload_n 0, 1) := by decide +kernel
theorem dX5_firstError_13 : decode cX5_firstError 13 = .ok (.getfield 125, 3) := by decide +kernel
theorem dX5_firstError_16 : decode cX5_firstError 16 = .ok (.goto 7, 3) := by decide +kernel
theorem dX5_firstError_19 : decode cX5_firstError 19 = .ok (.aload_n 0, 1) := by decide +kernel
theorem dX5_firstError_20 : decode cX5_firstError 20 = .ok (.getfield 128, 3) := by decide +kernel
theorem dX5_firstError_23 : decode cX5_firstError 23 = .ok (.ireturn, 1) := by decide +kernel
theorem dX5_canLoad_0 : decode cX5_canLoad 0 = .ok (.aload_n 0, 1) := by decide +kernel
theorem dX5_canLoad_1 : decode cX5_canLoad 1 = .ok (.getfield 7, 3) := by decide +kernel
theorem dX5_canLoad_4 : decode cX5_canLoad 4 = .ok (.sipush 366, 3) := by decide +kernel
theorem dX5_canLoad_7 : decode cX5_canLoad 7 = .ok (.iaload, 1) := by decide +kernel
theorem dX5_canLoad_8 : decode cX5_canLoad 8 = .ok (.istore_n 1, 1) := by decide +kernel
theorem dX5_canLoad_9 : decode cX5_canLoad 9 = .ok (.iconst 1, 1) := by decide +kernel
theorem dX5_canLoad_10 : decode cX5_canLoad 10 = .ok (.istore_n 2, 1) := by decide +kernel
theorem dX5_canLoad_11 : decode cX5_canLoad 11 = .ok (.aload_n 0, 1) := by decide +kernel
theorem dX5_canLoad_12 : decode cX5_canLoad 12 = .ok (.iconst 0, 1) := by decide +kernel
theorem dX5_canLoad_13 : decode cX5_canLoad 13 = .ok (.putfield 128, 3) := by decide +kernel
theorem dX5_canLoad_16 : decode cX5_canLoad 16 = .ok (.aload_n 0, 1) := by decide +kernel
theorem dX5_canLoad_17 : decode cX5_canLoad 17 = .ok (.getfield 128, 3) := by decide +kernel
theorem dX5_canLoad_20 : decode cX5_canLoad 20 = .ok (.aload_n 0, 1) := by decide +kernel
theorem dX5_canLoad_21 : decode cX5_canLoad 21 = .ok (.getfield 125, 3) := by decide +kernel
theorem dX5_canLoad_24 : decode cX5_canLoad 24 = .ok (.if_icmp .ge 44, 3) := by decide +kernel
theorem dX5_canLoad_27 : decode cX5_canLoad 27 = .ok (.aload_n 0, 1) := by decide +kernel
theorem dX5_canLoad_28 : decode cX5_canLoad 28 = .ok (.invokevirtual 157, 3) := by decide +kernel
theorem dX5_canLoad_31 : decode cX5_canLoad 31 = .ok (.aload_n 0, 1) := by decide +kernel
theorem dX5_canLoad_32 : decode cX5_canLoad 32 = .ok (.dup, 1) := by decide +kernel
theorem dX5_canLoad_33 : decode cX5_canLoad 33 = .ok (.getfield 128, 3) := by decide +kernel
theorem dX5_canLoad_36 : decode cX5_canLoad 36 = .ok (.iconst 1, 1) := by decide +kernel
theorem dX5_canLoad_37 : decode cX5_canLoad 37 = .ok (.iadd, 1) := by decide +kernel
theorem dX5_canLoad_38 : decode cX5_canLoad 38 = .ok (.putfield 128, 3) := by decide +kernel
theorem dX5_canLoad_41 : decode cX5_canLoad 41 = .ok (.iinc 1 1, 3) := by decide +kernel
theorem dX5_canLoad_44 : decode cX5_canLoad 44 = .ok (.iload_n 2, 1) := by decide +kernel
theorem dX5_canLoad_45 : decode cX5_canLoad 45 = .ok (.ifCond .eq 18, 3) := by decide +kernel
theorem dX5_canLoad_48 : decode cX5_canLoad 48 = .ok (.aload_n 0, 1) := by decide +kernel
theorem dX5_canLoad_49 : decode cX5_canLoad 49 = .ok (.getfield 154, 3) := by decide +kernel
theorem dX5_canLoad_52 : decode cX5_canLoad 52 = .ok (.aload_n 0, 1) := by decide +kernel
theorem dX5_canLoad_53 : decode cX5_canLoad 53 = .ok (.getfield 151, 3) := by decide +kernel
theorem dX5_canLoad_56 : decode cX5_canLoad 56 = .ok (.if_icmp .gt 7, 3) := by decide +kernel
theorem dX5_canLoad_59 : decode cX5_canLoad 59 = .ok (.iconst 1, 1) := by decide +kernel
theorem dX5_canLoad_60 : decode cX5_canLoad 60 = .ok (.goto 4, 3) := by decide +kernel
theorem dX5_canLoad_63 : decode cX5_canLoad 63 = .ok (.iconst 0, 1) := by decide +kernel
theorem dX5_canLoad_64 : decode cX5_canLoad 64 = .ok (.istore_n 2, 1) := by decide +kernel
theorem dX5_canLoad_65 : decode cX5_canLoad 65 = .ok (.goto (-49), 3) := by decide +kernel
theorem dX5_canLoad_68 : decode cX5_canLoad 68 = .ok (.iload_n 2, 1) := by decide +kernel
theorem dX5_canLoad_69 : decode cX5_canLoad 69 = .ok (.ifCond .eq 13, 3) := by decide +kernel
theorem dX5_canLoad_72 : decode cX5_canLoad 72 = .ok (.iload_n 1, 1) := by decide +kernel
theorem dX5_canLoad_73 : decode cX5_canLoad 73 = .ok (.bipush 24, 2) := by decide +kernel
theorem dX5_canLoad_75 : decode cX5_canLoad 75 = .ok (.if_icmp .gt 7, 3) := by decide +kernel
theorem dX5_canLoad_78 : decode cX5_canLoad 78 = .ok (.iconst 1, 1) := by decide +kernel
theorem dX5_canLoad_79 : decode cX5_canLoad 79 = .ok (.goto 4, 3) := by decide +kernel
theorem dX5_canLoad_82 : decode cX5_canLoad 82 = .ok (.iconst 0, 1) := by decide +kernel
theorem dX5_canLoad_83 : decode cX5_canLoad 83 = .ok (.ireturn, 1) := by decide +kernel
theorem dX5_load_0 : decode cX5_load 0 = .ok (.aload_n 0, 1) := by decide +kernel
theorem dX5_load_1 : decode cX5_load 1 = .ok (.aload_n 0, 1) := by decide +kernel
theorem dX5_load_2 : decode cX5_load 2 = .ok (.invokevirtual 160, 3) := by decide +kernel
theorem dX5_load_5 : decode cX5_load 5 = .ok (.ifCond .ne 7, 3) := by decide +kernel
theorem dX5_load_8 : decode cX5_load 8 = .ok (.iconst 1, 1) := by decide +kernel
theorem dX5_load_9 : decode cX5_load 9 = .ok (.goto 15, 3) := by decide +kernel
theorem dX5_load_12 : decode cX5_load 12 = .ok (.aload_n 0, 1) := by decide +kernel
theorem dX5_load_13 : decode cX5_load 13 = .ok (.invokevirtual 164, 3) := by decide +kernel
theorem dX5_load_16 : decode cX5_load 16 = .ok (.ifCond .eq 7, 3) := by decide +kernel
theorem dX5_load_19 : decode cX5_load 19 = .ok (.iconst 0, 1) := by decide +kernel
theorem dX5_load_20 : decode cX5_load 20 = .ok (.goto 4, 3) := by decide +kernel
theorem dX5_load_23 : decode cX5_load 23 = .ok (.iconst 2, 1) := by decide +kernel
theorem dX5_load_24 : decode cX5_load 24 = .ok (.invokevirtual 81, 3) := by decide +kernel
theorem dX5_load_27 : decode cX5_load 27 = .ok (.ifCond .eq 5, 3) := by decide +kernel
theorem dX5_load_30 : decode cX5_load 30 = .ok (.iconst 0, 1) := by decide +kernel
theorem dX5_load_31 : decode cX5_load 31 = .ok (.ireturn, 1) := by decide +kernel
theorem dX5_load_32 : decode cX5_load 32 = .ok (.aload_n 0, 1) := by decide +kernel
theorem dX5_load_33 : decode cX5_load 33 = .ok (.invokevirtual 84, 3) := by decide +kernel
theorem dX5_load_36 : decode cX5_load 36 = .ok (.aload_n 0, 1) := by decide +kernel
theorem dX5_load_37 : decode cX5_load 37 = .ok (.iconst 0, 1) := by decide +kernel
theorem dX5_load_38 : decode cX5_load 38 = .ok (.putfield 128, 3) := by decide +kernel
theorem dX5_load_41 : decode cX5_load 41 = .ok (.aload_n 0, 1) := by decide +kernel
theorem dX5_load_42 : decode cX5_load 42 = .ok (.getfield 128, 3) := by decide +kernel
theorem dX5_load_45 : decode cX5_load 45 = .ok (.aload_n 0, 1) := by decide +kernel
theorem dX5_load_46 : decode cX5_load 46 = .ok (.getfield 125, 3) := by decide +kernel
theorem dX5_load_49 : decode cX5_load 49 = .ok (.if_icmp .ge 40, 3) := by decide +kernel
theorem dX5_load_52 : decode cX5_load 52 = .ok (.aload_n 0, 1) := by decide +kernel
theorem dX5_load_53 : decode cX5_load 53 = .ok (.invokevirtual 157, 3) := by decide +kernel
theorem dX5_load_56 : decode cX5_load 56 = .ok (.aload_n 0, 1) := by decide +kernel
theorem dX5_load_57 : decode cX5_load 57 = .ok (.dup, 1) := by decide +kernel
theorem dX5_load_58 : decode cX5_load 58 = .ok (.getfield 128, 3) := by decide +kernel
theorem dX5_load_61 : decode cX5_load 61 = .ok (.iconst 1, 1) := by decide +kernel
theorem dX5_load_62 : decode cX5_load 62 = .ok (.iadd, 1) := by decide +kernel
theorem dX5_load_63 : decode cX5_load 63 = .ok (.putfield 128, 3) := by decide +kernel
theorem dX5_load_66 : decode cX5_load 66 = .ok (.aload_n 0, 1) := by decide +kernel
theorem dX5_load_67 : decode cX5_load 67 = .ok (.aload_n 0, 1) := by decide +kernel
theorem dX5_load_68 : decode cX5_load 68 = .ok (.getfield 142, 3) := by decide +kernel
theorem dX5_load_71 : decode cX5_load 71 = .ok (.aload_n 0, 1) := by decide +kernel
theorem dX5_load_72 : decode cX5_load 72 = .ok (.getfield 145, 3) := by decide +kernel
theorem dX5_load_75 : decode cX5_load 75 = .ok (.aload_n 0, 1) := by decide +kernel
theorem dX5_load_76 : decode cX5_load 76 = .ok (.getfield 151, 3) := by decide +kernel
theorem dX5_load_79 : decode cX5_load 79 = .ok (.aload_n 0, 1) := by decide +kernel
theorem dX5_load_80 : decode cX5_load 80 = .ok (.getfield 154, 3) := by decide +kernel
theorem dX5_load_83 : decode cX5_load 83 = .ok (.invokevirtual 87, 3) := by decide +kernel
theorem dX5_load_86 : decode cX5_load 86 = .ok (.goto (-45), 3) := by decide +kernel
theorem dX5_load_89 : decode cX5_load 89 = .ok (.aload_n 0, 1) := by decide +kernel
theorem dX5_load_90 : decode cX5_load 90 = .ok (.iconst 0, 1) := by decide +kernel
theorem dX5_load_91 : decode cX5_load 91 = .ok (.putfield 125, 3) := by decide +kernel
theorem dX5_load_94 : decode cX5_load 94 = .ok (.aload_n 0, 1) := by decide +kernel
theorem dX5_load_95 : decode cX5_load 95 = .ok (.getfield 7, 3) := by decide +kernel
theorem dX5_load_98 : decode cX5_load 98 = .ok (.sipush 366, 3) := by decide +kernel
theorem dX5_load_101 : decode cX5_load 101 = .ok (.iaload, 1) := by decide +kernel
theorem dX5_load_102 : decode cX5_load 102 = .ok (.ireturn, 1) := by decide +kernel
theorem dX5_keep_0 : decode cX5_keep 0 = .ok (.aload_n 0, 1) := by decide +kernel
theorem dX5_keep_1 : decode cX5_keep 1 = .ok (.iload_n 1, 1) := by decide +kernel
theorem dX5_keep_2 : decode cX5_keep 2 = .ok (.iconst 0, 1) := by decide +kernel
theorem dX5_keep_3 : decode cX5_keep 3 = .ok (.iconst 1, 1) := by decide +kernel
theorem dX5_keep_4 : decode cX5_keep 4 = .ok (.invokestatic 30, 3) := by decide +kernel
theorem dX5_keep_7 : decode cX5_keep 7 = .ok (.ifCond .eq 7, 3) := by decide +kernel
theorem dX5_keep_10 : decode cX5_keep 10 = .ok (.iconst 0, 1) := by decide +kernel
theorem dX5_keep_11 : decode cX5_keep 11 = .ok (.goto 4, 3) := by decide +kernel
theorem dX5_keep_14 : decode cX5_keep 14 = .ok (.iconst 1, 1) := by decide +kernel
theorem dX5_keep_15 : decode cX5_keep 15 = .ok (.invokevirtual 81, 3) := by decide +kernel
theorem dX5_keep_18 : decode cX5_keep 18 = .ok (.ifCond .ne 43, 3) := by decide +kernel
theorem dX5_keep_21 : decode cX5_keep 21 = .ok (.iconst 0, 1) := by decide +kernel
theorem dX5_keep_22 : decode cX5_keep 22 = .ok (.istore_n 2, 1) := by decide +kernel
theorem dX5_keep_23 : decode cX5_keep 23 = .ok (.iload_n 2, 1) := by decide +kernel
theorem dX5_keep_24 : decode cX5_keep 24 = .ok (.sipush 371, 3) := by decide +kernel
theorem dX5_keep_27 : decode cX5_keep 27 = .ok (.if_icmp .ge 27, 3) := by decide +kernel
theorem dX5_keep_30 : decode cX5_keep 30 = .ok (.aload_n 0, 1) := by decide +kernel
theorem dX5_keep_31 : decode cX5_keep 31 = .ok (.getfield 16, 3) := by decide +kernel
theorem dX5_keep_34 : decode cX5_keep 34 = .ok (.sipush 371, 3) := by decide +kernel
theorem dX5_keep_37 : decode cX5_keep 37 = .ok (.iload_n 1, 1) := by decide +kernel
theorem dX5_keep_38 : decode cX5_keep 38 = .ok (.imul, 1) := by decide +kernel
theorem dX5_keep_39 : decode cX5_keep 39 = .ok (.iload_n 2, 1) := by decide +kernel
theorem dX5_keep_40 : decode cX5_keep 40 = .ok (.iadd, 1) := by decide +kernel
theorem dX5_keep_41 : decode cX5_keep 41 = .ok (.aload_n 0, 1) := by decide +kernel
theorem dX5_keep_42 : decode cX5_keep 42 = .ok (.getfield 7, 3) := by decide +kernel
theorem dX5_keep_45 : decode cX5_keep 45 = .ok (.iload_n 2, 1) := by decide +kernel
theorem dX5_keep_46 : decode cX5_keep 46 = .ok (.iaload, 1) := by decide +kernel
theorem dX5_keep_47 : decode cX5_keep 47 = .ok (.iastore, 1) := by decide +kernel
theorem dX5_keep_48 : decode cX5_keep 48 = .ok (.iinc 2 1, 3) := by decide +kernel
theorem dX5_keep_51 : decode cX5_keep 51 = .ok (.goto (-28), 3) := by decide +kernel
theorem dX5_keep_54 : decode cX5_keep 54 = .ok (.aload_n 0, 1) := by decide +kernel
theorem dX5_keep_55 : decode cX5_keep 55 = .ok (.getfield 19, 3) := by decide +kernel
theorem dX5_keep_58 : decode cX5_keep 58 = .ok (.iload_n 1, 1) := by decide +kernel
theorem dX5_keep_59 : decode cX5_keep 59 = .ok (.iconst 1, 1) := by decide +kernel
theorem dX5_keep_60 : decode cX5_keep 60 = .ok (.bastore, 1) := by decide +kernel
theorem dX5_keep_61 : decode cX5_keep 61 = .ok (.return_, 1) := by decide +kernel
theorem dX5_goBack_0 : decode cX5_goBack 0 = .ok (.aload_n 0, 1) := by decide +kernel
theorem dX5_goBack_1 : decode cX5_goBack 1 = .ok (.iload_n 1, 1) := by decide +kernel
theorem dX5_goBack_2 : decode cX5_goBack 2 = .ok (.iconst 0, 1) := by decide +kernel
theorem dX5_goBack_3 : decode cX5_goBack 3 = .ok (.iconst 1, 1) := by decide +kernel
theorem dX5_goBack_4 : decode cX5_goBack 4 = .ok (.invokestatic 30, 3) := by decide +kernel
theorem dX5_goBack_7 : decode cX5_goBack 7 = .ok (.ifCond .ne 7, 3) := by decide +kernel
theorem dX5_goBack_10 : decode cX5_goBack 10 = .ok (.iconst 1, 1) := by decide +kernel
theorem dX5_goBack_11 : decode cX5_goBack 11 = .ok (.goto 17, 3) := by decide +kernel
theorem dX5_goBack_14 : decode cX5_goBack 14 = .ok (.aload_n 0, 1) := by decide +kernel
theorem dX5_goBack_15 : decode cX5_goBack 15 = .ok (.getfield 19, 3) := by decide +kernel
theorem dX5_goBack_18 : decode cX5_goBack 18 = .ok (.iload_n 1, 1) := by decide +kernel
theorem dX5_goBack_19 : decode cX5_goBack 19 = .ok (.baload, 1) := by decide +kernel
theorem dX5_goBack_20 : decode cX5_goBack 20 = .ok (.ifCond .eq 7, 3) := by decide +kernel
theorem dX5_goBack_23 : decode cX5_goBack 23 = .ok (.iconst 0, 1) := by decide +kernel
theorem dX5_goBack_24 : decode cX5_goBack 24 = .ok (.goto 4, 3) := by decide +kernel
theorem dX5_goBack_27 : decode cX5_goBack 27 = .ok (.iconst 2, 1) := by decide +kernel
theorem dX5_goBack_28 : decode cX5_goBack 28 = .ok (.invokevirtual 81, 3) := by decide +kernel
theorem dX5_goBack_31 : decode cX5_goBack 31 = .ok (.ifCond .ne 40, 3) := by decide +kernel
theorem dX5_goBack_34 : decode cX5_goBack 34 = .ok (.aload_n 0, 1) := by decide +kernel
theorem dX5_goBack_35 : decode cX5_goBack 35 = .ok (.invokevirtual 84, 3) := by decide +kernel
theorem dX5_goBack_38 : decode cX5_goBack 38 = .ok (.iconst 0, 1) := by decide +kernel
theorem dX5_goBack_39 : decode cX5_goBack 39 = .ok (.istore_n 2, 1) := by decide +kernel
theorem dX5_goBack_40 : decode cX5_goBack 40 = .ok (.iload_n 2, 1) := by decide +kernel
theorem dX5_goBack_41 : decode cX5_goBack 41 = .ok (.sipush 371, 3) := by decide +kernel
theorem dX5_goBack_44 : decode cX5_goBack 44 = .ok (.if_icmp .ge 27, 3) := by decide +kernel
theorem dX5_goBack_47 : decode cX5_goBack 47 = .ok (.aload_n 0, 1) := by decide +kernel
theorem dX5_goBack_48 : decode cX5_goBack 48 = .ok (.getfield 7, 3) := by decide +kernel
theorem dX5_goBack_51 : decode cX5_goBack 51 = .ok (.iload_n 2, 1) := by decide +kernel
theorem dX5_goBack_52 : decode cX5_goBack 52 = .ok (.aload_n 0, 1) := by decide +kernel
theorem dX5_goBack_53 : decode cX5_goBack 53 = .ok (.getfield 16, 3) := by decide +kernel
theorem dX5_goBack_56 : decode cX5_goBack 56 = .ok (.sipush 371, 3) := by decide +kernel
theorem dX5_goBack_59 : decode cX5_goBack 59 = .ok (.iload_n 1, 1) := by decide +kernel
theorem dX5_goBack_60 : decode cX5_goBack 60 = .ok (.imul, 1) := by decide +kernel
theorem dX5_goBack_61 : decode cX5_goBack 61 = .ok (.iload_n 2, 1) := by decide +kernel
theorem dX5_goBack_62 : decode cX5_goBack 62 = .ok (.iadd, 1) := by decide +kernel
theorem dX5_goBack_63 : decode cX5_goBack 63 = .ok (.iaload, 1) := by decide +kernel
theorem dX5_goBack_64 : decode cX5_goBack 64 = .ok (.iastore, 1) := by decide +kernel
theorem dX5_goBack_65 : decode cX5_goBack 65 = .ok (.iinc 2 1, 3) := by decide +kernel
theorem dX5_goBack_68 : decode cX5_goBack 68 = .ok (.goto (-28), 3) := by decide +kernel
theorem dX5_goBack_71 : decode cX5_goBack 71 = .ok (.return_, 1) := by decide +kernel
theorem dX5_undo_0 : decode cX5_undo 0 = .ok (.aload_n 0, 1) := by decide +kernel
theorem dX5_undo_1 : decode cX5_undo 1 = .ok (.aload_n 0, 1) := by decide +kernel
theorem dX5_undo_2 : decode cX5_undo 2 = .ok (.getfield 41, 3) := by decide +kernel
theorem dX5_undo_5 : decode cX5_undo 5 = .ok (.ifCond .ne 7, 3) := by decide +kernel
theorem dX5_undo_8 : decode cX5_undo 8 = .ok (.iconst 1, 1) := by decide +kernel
theorem dX5_undo_9 : decode cX5_undo 9 = .ok (.goto 4, 3) := by decide +kernel
theorem dX5_undo_12 : decode cX5_undo 12 = .ok (.iconst 0, 1) := by decide +kernel
theorem dX5_undo_13 : decode cX5_undo 13 = .ok (.invokevirtual 81, 3) := by decide +kernel
theorem dX5_undo_16 : decode cX5_undo 16 = .ok (.ifCond .ne 49, 3) := by decide +kernel
theorem dX5_undo_19 : decode cX5_undo 19 = .ok (.aload_n 0, 1) := by decide +kernel
theorem dX5_undo_20 : decode cX5_undo 20 = .ok (.dup, 1) := by decide +kernel
theorem dX5_undo_21 : decode cX5_undo 21 = .ok (.getfield 41, 3) := by decide +kernel
theorem dX5_undo_24 : decode cX5_undo 24 = .ok (.iconst 1, 1) := by decide +kernel
theorem dX5_undo_25 : decode cX5_undo 25 = .ok (.isub, 1) := by decide +kernel
theorem dX5_undo_26 : decode cX5_undo 26 = .ok (.putfield 41, 3) := by decide +kernel
theorem dX5_undo_29 : decode cX5_undo 29 = .ok (.iconst 0, 1) := by decide +kernel
theorem dX5_undo_30 : decode cX5_undo 30 = .ok (.istore_n 1, 1) := by decide +kernel
theorem dX5_undo_31 : decode cX5_undo 31 = .ok (.iload_n 1, 1) := by decide +kernel
theorem dX5_undo_32 : decode cX5_undo 32 = .ok (.sipush 371, 3) := by decide +kernel
theorem dX5_undo_35 : decode cX5_undo 35 = .ok (.if_icmp .ge 30, 3) := by decide +kernel
theorem dX5_undo_38 : decode cX5_undo 38 = .ok (.aload_n 0, 1) := by decide +kernel
theorem dX5_undo_39 : decode cX5_undo 39 = .ok (.getfield 7, 3) := by decide +kernel
theorem dX5_undo_42 : decode cX5_undo 42 = .ok (.iload_n 1, 1) := by decide +kernel
theorem dX5_undo_43 : decode cX5_undo 43 = .ok (.aload_n 0, 1) := by decide +kernel
theorem dX5_undo_44 : decode cX5_undo 44 = .ok (.getfield 13, 3) := by decide +kernel
theorem dX5_undo_47 : decode cX5_undo 47 = .ok (.sipush 371, 3) := by decide +kernel
theorem dX5_undo_50 : decode cX5_undo 50 = .ok (.aload_n 0, 1) := by decide +kernel
theorem dX5_undo_51 : decode cX5_undo 51 = .ok (.getfield 41, 3) := by decide +kernel
theorem dX5_undo_54 : decode cX5_undo 54 = .ok (.imul, 1) := by decide +kernel
theorem dX5_undo_55 : decode cX5_undo 55 = .ok (.iload_n 1, 1) := by decide +kernel
theorem dX5_undo_56 : decode cX5_undo 56 = .ok (.iadd, 1) := by decide +kernel
theorem dX5_undo_57 : decode cX5_undo 57 = .ok (.iaload, 1) := by decide +kernel
theorem dX5_undo_58 : decode cX5_undo 58 = .ok (.iastore, 1) := by decide +kernel
theorem dX5_undo_59 : decode cX5_undo 59 = .ok (.iinc 1 1, 3) := by decide +kernel
theorem dX5_undo_62 : decode cX5_undo 62 = .ok (.goto (-31), 3) := by decide +kernel
theorem dX5_undo_65 : decode cX5_undo 65 = .ok (.return_, 1) := by decide +kernel
theorem dX5_savedStates_0 : decode cX5_savedStates 0 = .ok (.aload_n 0, 1) := by decide +kernel
theorem dX5_savedStates_1 : decode cX5_savedStates 1 = .ok (.aload_n 0, 1) := by decide +kernel
theorem dX5_savedStates_2 : decode cX5_savedStates 2 = .ok (.getfield 41, 3) := by decide +kernel
theorem dX5_savedStates_5 : decode cX5_savedStates 5 = .ok (.invokevirtual 167, 3) := by decide +kernel
theorem dX5_savedStates_8 : decode cX5_savedStates 8 = .ok (.ireturn, 1) := by decide +kernel
theorem dX5_clauses_0 : decode cX5_clauses 0 = .ok (.aload_n 0, 1) := by decide +kernel
theorem dX5_clauses_1 : decode cX5_clauses 1 = .ok (.aload_n 0, 1) := by decide +kernel
theorem dX5_clauses_2 : decode cX5_clauses 2 = .ok (.getfield 7, 3) := by decide +kernel
theorem dX5_clauses_5 : decode cX5_clauses 5 = .ok (.sipush 366, 3) := by decide +kernel
theorem dX5_clauses_8 : decode cX5_clauses 8 = .ok (.iaload, 1) := by decide +kernel
theorem dX5_clauses_9 : decode cX5_clauses 9 = .ok (.invokevirtual 167, 3) := by decide +kernel
theorem dX5_clauses_12 : decode cX5_clauses 12 = .ok (.ireturn, 1) := by decide +kernel
theorem dX5_ofClause_0 : decode cX5_ofClause 0 = .ok (.aload_n 0, 1) := by decide +kernel
theorem dX5_ofClause_1 : decode cX5_ofClause 1 = .ok (.aload_n 0, 1) := by decide +kernel
theorem dX5_ofClause_2 : decode cX5_ofClause 2 = .ok (.iload_n 1, 1) := by decide +kernel
theorem dX5_ofClause_3 : decode cX5_ofClause 3 = .ok (.invokevirtual 34, 3) := by decide +kernel
theorem dX5_ofClause_6 : decode cX5_ofClause 6 = .ok (.ifCond .eq 7, 3) := by decide +kernel
theorem dX5_ofClause_9 : decode cX5_ofClause 9 = .ok (.iconst 0, 1) := by decide +kernel
theorem dX5_ofClause_10 : decode cX5_ofClause 10 = .ok (.goto 4, 3) := by decide +kernel
theorem dX5_ofClause_13 : decode cX5_ofClause 13 = .ok (.iconst 1, 1) := by decide +kernel
theorem dX5_ofClause_14 : decode cX5_ofClause 14 = .ok (.invokevirtual 81, 3) := by decide +kernel
theorem dX5_ofClause_17 : decode cX5_ofClause 17 = .ok (.ifCond .eq 7, 3) := by decide +kernel
theorem dX5_ofClause_20 : decode cX5_ofClause 20 = .ok (.iconst 0, 1) := by decide +kernel
theorem dX5_ofClause_21 : decode cX5_ofClause 21 = .ok (.goto 13, 3) := by decide +kernel
theorem dX5_ofClause_24 : decode cX5_ofClause 24 = .ok (.aload_n 0, 1) := by decide +kernel
theorem dX5_ofClause_25 : decode cX5_ofClause 25 = .ok (.getfield 7, 3) := by decide +kernel
theorem dX5_ofClause_28 : decode cX5_ofClause 28 = .ok (.iload_n 1, 1) := by decide +kernel
theorem dX5_ofClause_29 : decode cX5_ofClause 29 = .ok (.iload_n 2, 1) := by decide +kernel
theorem dX5_ofClause_30 : decode cX5_ofClause 30 = .ok (.invokestatic 44, 3) := by decide +kernel
theorem dX5_ofClause_33 : decode cX5_ofClause 33 = .ok (.iaload, 1) := by decide +kernel
theorem dX5_ofClause_34 : decode cX5_ofClause 34 = .ok (.ireturn, 1) := by decide +kernel
theorem dX5_reelOf_0 : decode cX5_reelOf 0 = .ok (.aload_n 0, 1) := by decide +kernel
theorem dX5_reelOf_1 : decode cX5_reelOf 1 = .ok (.iload_n 1, 1) := by decide +kernel
theorem dX5_reelOf_2 : decode cX5_reelOf 2 = .ok (.iconst 0, 1) := by decide +kernel
theorem dX5_reelOf_3 : decode cX5_reelOf 3 = .ok (.invokevirtual 170, 3) := by decide +kernel
theorem dX5_reelOf_6 : decode cX5_reelOf 6 = .ok (.ireturn, 1) := by decide +kernel
theorem dX5_speakerOf_0 : decode cX5_speakerOf 0 = .ok (.aload_n 0, 1) := by decide +kernel
theorem dX5_speakerOf_1 : decode cX5_speakerOf 1 = .ok (.iload_n 1, 1) := by decide +kernel
theorem dX5_speakerOf_2 : decode cX5_speakerOf 2 = .ok (.iconst 1, 1) := by decide +kernel
theorem dX5_speakerOf_3 : decode cX5_speakerOf 3 = .ok (.invokevirtual 170, 3) := by decide +kernel
theorem dX5_speakerOf_6 : decode cX5_speakerOf 6 = .ok (.ireturn, 1) := by decide +kernel
theorem dX5_lipsOf_0 : decode cX5_lipsOf 0 = .ok (.aload_n 0, 1) := by decide +kernel
theorem dX5_lipsOf_1 : decode cX5_lipsOf 1 = .ok (.iload_n 1, 1) := by decide +kernel
theorem dX5_lipsOf_2 : decode cX5_lipsOf 2 = .ok (.iconst 2, 1) := by decide +kernel
theorem dX5_lipsOf_3 : decode cX5_lipsOf 3 = .ok (.invokevirtual 170, 3) := by decide +kernel
theorem dX5_lipsOf_6 : decode cX5_lipsOf 6 = .ok (.ireturn, 1) := by decide +kernel
theorem dX5_sighOf_0 : decode cX5_sighOf 0 = .ok (.aload_n 0, 1) := by decide +kernel
theorem dX5_sighOf_1 : decode cX5_sighOf 1 = .ok (.iload_n 1, 1) := by decide +kernel
theorem dX5_sighOf_2 : decode cX5_sighOf 2 = .ok (.iconst 3, 1) := by decide +kernel
theorem dX5_sighOf_3 : decode cX5_sighOf 3 = .ok (.invokevirtual 170, 3) := by decide +kernel
theorem dX5_sighOf_6 : decode cX5_sighOf 6 = .ok (.ireturn, 1) := by decide +kernel
theorem dX5_isTranslated_0 : decode cX5_isTranslated 0 = .ok (.aload_n 0, 1) := by decide +kernel
theorem dX5_isTranslated_1 : decode cX5_isTranslated 1 = .ok (.aload_n 0, 1) := by decide +kernel
theorem dX5_isTranslated_2 : decode cX5_isTranslated 2 = .ok (.iload_n 1, 1) := by decide +kernel
theorem dX5_isTranslated_3 : decode cX5_isTranslated 3 = .ok (.iload_n 2, 1) := by decide +kernel
theorem dX5_isTranslated_4 : decode cX5_isTranslated 4 = .ok (.invokevirtual 97, 3) := by decide +kernel
theorem dX5_isTranslated_7 : decode cX5_isTranslated 7 = .ok (.ifCond .eq 7, 3) := by decide +kernel
theorem dX5_isTranslated_10 : decode cX5_isTranslated 10 = .ok (.iconst 0, 1) := by decide +kernel
theorem dX5_isTranslated_11 : decode cX5_isTranslated 11 = .ok (.goto 4, 3) := by decide +kernel
theorem dX5_isTranslated_14 : decode cX5_isTranslated 14 = .ok (.iconst 1, 1) := by decide +kernel
theorem dX5_isTranslated_15 : decode cX5_isTranslated 15 = .ok (.invokevirtual 81, 3) := by decide +kernel
theorem dX5_isTranslated_18 : decode cX5_isTranslated 18 = .ok (.ifCond .ne 16, 3) := by decide +kernel
theorem dX5_isTranslated_21 : decode cX5_isTranslated 21 = .ok (.aload_n 0, 1) := by decide +kernel
theorem dX5_isTranslated_22 : decode cX5_isTranslated 22 = .ok (.iload_n 1, 1) := by decide +kernel
theorem dX5_isTranslated_23 : decode cX5_isTranslated 23 = .ok (.iload_n 2, 1) := by decide +kernel
theorem dX5_isTranslated_24 : decode cX5_isTranslated 24 = .ok (.invokevirtual 48, 3) := by decide +kernel
theorem dX5_isTranslated_27 : decode cX5_isTranslated 27 = .ok (.ifCond .le 7, 3) := by decide +kernel
theorem dX5_isTranslated_30 : decode cX5_isTranslated 30 = .ok (.iconst 1, 1) := by decide +kernel
theorem dX5_isTranslated_31 : decode cX5_isTranslated 31 = .ok (.goto 4, 3) := by decide +kernel
theorem dX5_isTranslated_34 : decode cX5_isTranslated 34 = .ok (.iconst 0, 1) := by decide +kernel
theorem dX5_isTranslated_35 : decode cX5_isTranslated 35 = .ok (.ireturn, 1) := by decide +kernel
theorem dX5_badTranslation_0 : decode cX5_badTranslation 0 = .ok (.aload_n 0, 1) := by decide +kernel
theorem dX5_badTranslation_1 : decode cX5_badTranslation 1 = .ok (.iload_n 1, 1) := by decide +kernel
theorem dX5_badTranslation_2 : decode cX5_badTranslation 2 = .ok (.iload_n 2, 1) := by decide +kernel
theorem dX5_badTranslation_3 : decode cX5_badTranslation 3 = .ok (.invokevirtual 97, 3) := by decide +kernel
theorem dX5_badTranslation_6 : decode cX5_badTranslation 6 = .ok (.ifCond .ne 7, 3) := by decide +kernel
theorem dX5_badTranslation_9 : decode cX5_badTranslation 9 = .ok (.iconst 1, 1) := by decide +kernel
theorem dX5_badTranslation_10 : decode cX5_badTranslation 10 = .ok (.goto 17, 3) := by decide +kernel
theorem dX5_badTranslation_13 : decode cX5_badTranslation 13 = .ok (.aload_n 0, 1) := by decide +kernel
theorem dX5_badTranslation_14 : decode cX5_badTranslation 14 = .ok (.iload_n 1, 1) := by decide +kernel
theorem dX5_badTranslation_15 : decode cX5_badTranslation 15 = .ok (.iload_n 2, 1) := by decide +kernel
theorem dX5_badTranslation_16 : decode cX5_badTranslation 16 = .ok (.invokevirtual 48, 3) := by decide +kernel
theorem dX5_badTranslation_19 : decode cX5_badTranslation 19 = .ok (.ifCond .le 7, 3) := by decide +kernel
theorem dX5_badTranslation_22 : decode cX5_badTranslation 22 = .ok (.iconst 0, 1) := by decide +kernel
theorem dX5_badTranslation_23 : decode cX5_badTranslation 23 = .ok (.goto 4, 3) := by decide +kernel
theorem dX5_badTranslation_26 : decode cX5_badTranslation 26 = .ok (.iconst 2, 1) := by decide +kernel
theorem dX5_badTranslation_27 : decode cX5_badTranslation 27 = .ok (.ireturn, 1) := by decide +kernel
theorem dX5_framesOf_0 : decode cX5_framesOf 0 = .ok (.aload_n 0, 1) := by decide +kernel
theorem dX5_framesOf_1 : decode cX5_framesOf 1 = .ok (.aload_n 0, 1) := by decide +kernel
theorem dX5_framesOf_2 : decode cX5_framesOf 2 = .ok (.iload_n 1, 1) := by decide +kernel
theorem dX5_framesOf_3 : decode cX5_framesOf 3 = .ok (.iload_n 2, 1) := by decide +kernel
theorem dX5_framesOf_4 : decode cX5_framesOf 4 = .ok (.invokevirtual 173, 3) := by decide +kernel
theorem dX5_framesOf_7 : decode cX5_framesOf 7 = .ok (.invokevirtual 81, 3) := by decide +kernel
theorem dX5_framesOf_10 : decode cX5_framesOf 10 = .ok (.ifCond .eq 7, 3) := by decide +kernel
theorem dX5_framesOf_13 : decode cX5_framesOf 13 = .ok (.iconst 0, 1) := by decide +kernel
theorem dX5_framesOf_14 : decode cX5_framesOf 14 = .ok (.goto 9, 3) := by decide +kernel
theorem dX5_framesOf_17 : decode cX5_framesOf 17 = .ok (.aload_n 0, 1) := by decide +kernel
theorem dX5_framesOf_18 : decode cX5_framesOf 18 = .ok (.iload_n 1, 1) := by decide +kernel
theorem dX5_framesOf_19 : decode cX5_framesOf 19 = .ok (.iload_n 2, 1) := by decide +kernel
theorem dX5_framesOf_20 : decode cX5_framesOf 20 = .ok (.invokevirtual 48, 3) := by decide +kernel
theorem dX5_framesOf_23 : decode cX5_framesOf 23 = .ok (.ireturn, 1) := by decide +kernel
theorem dX5_annexedOf_0 : decode cX5_annexedOf 0 = .ok (.aload_n 0, 1) := by decide +kernel
theorem dX5_annexedOf_1 : decode cX5_annexedOf 1 = .ok (.aload_n 0, 1) := by decide +kernel
theorem dX5_annexedOf_2 : decode cX5_annexedOf 2 = .ok (.iload_n 1, 1) := by decide +kernel
theorem dX5_annexedOf_3 : decode cX5_annexedOf 3 = .ok (.iload_n 2, 1) := by decide +kernel
theorem dX5_annexedOf_4 : decode cX5_annexedOf 4 = .ok (.invokevirtual 97, 3) := by decide +kernel
theorem dX5_annexedOf_7 : decode cX5_annexedOf 7 = .ok (.ifCond .eq 7, 3) := by decide +kernel
theorem dX5_annexedOf_10 : decode cX5_annexedOf 10 = .ok (.iconst 0, 1) := by decide +kernel
theorem dX5_annexedOf_11 : decode cX5_annexedOf 11 = .ok (.goto 4, 3) := by decide +kernel
theorem dX5_annexedOf_14 : decode cX5_annexedOf 14 = .ok (.iconst 1, 1) := by decide +kernel
theorem dX5_annexedOf_15 : decode cX5_annexedOf 15 = .ok (.invokevirtual 81, 3) := by decide +kernel
theorem dX5_annexedOf_18 : decode cX5_annexedOf 18 = .ok (.ifCond .eq 7, 3) := by decide +kernel
theorem dX5_annexedOf_21 : decode cX5_annexedOf 21 = .ok (.iconst 0, 1) := by decide +kernel
theorem dX5_annexedOf_22 : decode cX5_annexedOf 22 = .ok (.goto 16, 3) := by decide +kernel
theorem dX5_annexedOf_25 : decode cX5_annexedOf 25 = .ok (.aload_n 0, 1) := by decide +kernel
theorem dX5_annexedOf_26 : decode cX5_annexedOf 26 = .ok (.getfield 7, 3) := by decide +kernel
theorem dX5_annexedOf_29 : decode cX5_annexedOf 29 = .ok (.iload_n 1, 1) := by decide +kernel
theorem dX5_annexedOf_30 : decode cX5_annexedOf 30 = .ok (.bipush 7, 2) := by decide +kernel
theorem dX5_annexedOf_32 : decode cX5_annexedOf 32 = .ok (.iload_n 2, 1) := by decide +kernel
theorem dX5_annexedOf_33 : decode cX5_annexedOf 33 = .ok (.iadd, 1) := by decide +kernel
theorem dX5_annexedOf_34 : decode cX5_annexedOf 34 = .ok (.invokestatic 44, 3) := by decide +kernel
theorem dX5_annexedOf_37 : decode cX5_annexedOf 37 = .ok (.iaload, 1) := by decide +kernel
theorem dX5_annexedOf_38 : decode cX5_annexedOf 38 = .ok (.ireturn, 1) := by decide +kernel
theorem dX5_isRecorded_0 : decode cX5_isRecorded 0 = .ok (.aload_n 0, 1) := by decide +kernel
theorem dX5_isRecorded_1 : decode cX5_isRecorded 1 = .ok (.aload_n 0, 1) := by decide +kernel
theorem dX5_isRecorded_2 : decode cX5_isRecorded 2 = .ok (.iload_n 1, 1) := by decide +kernel
theorem dX5_isRecorded_3 : decode cX5_isRecorded 3 = .ok (.iload_n 2, 1) := by decide +kernel
theorem dX5_isRecorded_4 : decode cX5_isRecorded 4 = .ok (.invokevirtual 97, 3) := by decide +kernel
theorem dX5_isRecorded_7 : decode cX5_isRecorded 7 = .ok (.ifCond .eq 7, 3) := by decide +kernel
theorem dX5_isRecorded_10 : decode cX5_isRecorded 10 = .ok (.iconst 0, 1) := by decide +kernel
theorem dX5_isRecorded_11 : decode cX5_isRecorded 11 = .ok (.goto 4, 3) := by decide +kernel
theorem dX5_isRecorded_14 : decode cX5_isRecorded 14 = .ok (.iconst 1, 1) := by decide +kernel
theorem dX5_isRecorded_15 : decode cX5_isRecorded 15 = .ok (.invokevirtual 81, 3) := by decide +kernel
theorem dX5_isRecorded_18 : decode cX5_isRecorded 18 = .ok (.ifCond .ne 16, 3) := by decide +kernel
theorem dX5_isRecorded_21 : decode cX5_isRecorded 21 = .ok (.aload_n 0, 1) := by decide +kernel
theorem dX5_isRecorded_22 : decode cX5_isRecorded 22 = .ok (.iload_n 1, 1) := by decide +kernel
theorem dX5_isRecorded_23 : decode cX5_isRecorded 23 = .ok (.iload_n 2, 1) := by decide +kernel
theorem dX5_isRecorded_24 : decode cX5_isRecorded 24 = .ok (.invokevirtual 51, 3) := by decide +kernel
theorem dX5_isRecorded_27 : decode cX5_isRecorded 27 = .ok (.ifCond .eq 7, 3) := by decide +kernel
theorem dX5_isRecorded_30 : decode cX5_isRecorded 30 = .ok (.iconst 1, 1) := by decide +kernel
theorem dX5_isRecorded_31 : decode cX5_isRecorded 31 = .ok (.goto 4, 3) := by decide +kernel
theorem dX5_isRecorded_34 : decode cX5_isRecorded 34 = .ok (.iconst 0, 1) := by decide +kernel
theorem dX5_isRecorded_35 : decode cX5_isRecorded 35 = .ok (.ireturn, 1) := by decide +kernel
theorem dX5_sessionOf_0 : decode cX5_sessionOf 0 = .ok (.aload_n 0, 1) := by decide +kernel
theorem dX5_sessionOf_1 : decode cX5_sessionOf 1 = .ok (.aload_n 0, 1) := by decide +kernel
theorem dX5_sessionOf_2 : decode cX5_sessionOf 2 = .ok (.iload_n 1, 1) := by decide +kernel
theorem dX5_sessionOf_3 : decode cX5_sessionOf 3 = .ok (.iload_n 2, 1) := by decide +kernel
theorem dX5_sessionOf_4 : decode cX5_sessionOf 4 = .ok (.invokevirtual 97, 3) := by decide +kernel
theorem dX5_sessionOf_7 : decode cX5_sessionOf 7 = .ok (.ifCond .ne 7, 3) := by decide +kernel
theorem dX5_sessionOf_10 : decode cX5_sessionOf 10 = .ok (.iconst 1, 1) := by decide +kernel
theorem dX5_sessionOf_11 : decode cX5_sessionOf 11 = .ok (.goto 17, 3) := by decide +kernel
theorem dX5_sessionOf_14 : decode cX5_sessionOf 14 = .ok (.aload_n 0, 1) := by decide +kernel
theorem dX5_sessionOf_15 : decode cX5_sessionOf 15 = .ok (.iload_n 1, 1) := by decide +kernel
theorem dX5_sessionOf_16 : decode cX5_sessionOf 16 = .ok (.iload_n 2, 1) := by decide +kernel
theorem dX5_sessionOf_17 : decode cX5_sessionOf 17 = .ok (.invokevirtual 51, 3) := by decide +kernel
theorem dX5_sessionOf_20 : decode cX5_sessionOf 20 = .ok (.ifCond .eq 7, 3) := by decide +kernel
theorem dX5_sessionOf_23 : decode cX5_sessionOf 23 = .ok (.iconst 0, 1) := by decide +kernel
theorem dX5_sessionOf_24 : decode cX5_sessionOf 24 = .ok (.goto 4, 3) := by decide +kernel
theorem dX5_sessionOf_27 : decode cX5_sessionOf 27 = .ok (.iconst 2, 1) := by decide +kernel
theorem dX5_sessionOf_28 : decode cX5_sessionOf 28 = .ok (.invokevirtual 81, 3) := by decide +kernel
theorem dX5_sessionOf_31 : decode cX5_sessionOf 31 = .ok (.ifCond .eq 7, 3) := by decide +kernel
theorem dX5_sessionOf_34 : decode cX5_sessionOf 34 = .ok (.iconst 0, 1) := by decide +kernel
theorem dX5_sessionOf_35 : decode cX5_sessionOf 35 = .ok (.goto 18, 3) := by decide +kernel
theorem dX5_sessionOf_38 : decode cX5_sessionOf 38 = .ok (.aload_n 0, 1) := by decide +kernel
theorem dX5_sessionOf_39 : decode cX5_sessionOf 39 = .ok (.getfield 7, 3) := by decide +kernel
theorem dX5_sessionOf_42 : decode cX5_sessionOf 42 = .ok (.iload_n 1, 1) := by decide +kernel
theorem dX5_sessionOf_43 : decode cX5_sessionOf 43 = .ok (.bipush 10, 2) := by decide +kernel
theorem dX5_sessionOf_45 : decode cX5_sessionOf 45 = .ok (.iload_n 2, 1) := by decide +kernel
theorem dX5_sessionOf_46 : decode cX5_sessionOf 46 = .ok (.iadd, 1) := by decide +kernel
theorem dX5_sessionOf_47 : decode cX5_sessionOf 47 = .ok (.invokestatic 44, 3) := by decide +kernel
theorem dX5_sessionOf_50 : decode cX5_sessionOf 50 = .ok (.iaload, 1) := by decide +kernel
theorem dX5_sessionOf_51 : decode cX5_sessionOf 51 = .ok (.iconst 1, 1) := by decide +kernel
theorem dX5_sessionOf_52 : decode cX5_sessionOf 52 = .ok (.isub, 1) := by decide +kernel
theorem dX5_sessionOf_53 : decode cX5_sessionOf 53 = .ok (.ireturn, 1) := by decide +kernel
theorem dX5_room_0 : decode cX5_room 0 = .ok (.aload_n 0, 1) := by decide +kernel
theorem dX5_room_1 : decode cX5_room 1 = .ok (.getfield 7, 3) := by decide +kernel
theorem dX5_room_4 : decode cX5_room 4 = .ok (.iload_n 1, 1) := by decide +kernel
theorem dX5_room_5 : decode cX5_room 5 = .ok (.iconst 2, 1) := by decide +kernel
theorem dX5_room_6 : decode cX5_room 6 = .ok (.invokestatic 44, 3) := by decide +kernel
theorem dX5_room_9 : decode cX5_room 9 = .ok (.iaload, 1) := by decide +kernel
theorem dX5_room_10 : decode cX5_room 10 = .ok (.aload_n 0, 1) := by decide +kernel
theorem dX5_room_11 : decode cX5_room 11 = .ok (.iload_n 1, 1) := by decide +kernel
theorem dX5_room_12 : decode cX5_room 12 = .ok (.iload_n 2, 1) := by decide +kernel
theorem dX5_room_13 : decode cX5_room 13 = .ok (.invokevirtual 59, 3) := by decide +kernel
theorem dX5_room_16 : decode cX5_room 16 = .ok (.isub, 1) := by decide +kernel
theorem dX5_room_17 : decode cX5_room 17 = .ok (.ireturn, 1) := by decide +kernel
theorem dX5_roomFor_0 : decode cX5_roomFor 0 = .ok (.aload_n 0, 1) := by decide +kernel
theorem dX5_roomFor_1 : decode cX5_roomFor 1 = .ok (.aload_n 0, 1) := by decide +kernel
theorem dX5_roomFor_2 : decode cX5_roomFor 2 = .ok (.iload_n 1, 1) := by decide +kernel
theorem dX5_roomFor_3 : decode cX5_roomFor 3 = .ok (.iload_n 2, 1) := by decide +kernel
theorem dX5_roomFor_4 : decode cX5_roomFor 4 = .ok (.invokevirtual 173, 3) := by decide +kernel
theorem dX5_roomFor_7 : decode cX5_roomFor 7 = .ok (.invokevirtual 81, 3) := by decide +kernel
theorem dX5_roomFor_10 : decode cX5_roomFor 10 = .ok (.ifCond .eq 7, 3) := by decide +kernel
theorem dX5_roomFor_13 : decode cX5_roomFor 13 = .ok (.iconst 0, 1) := by decide +kernel
theorem dX5_roomFor_14 : decode cX5_roomFor 14 = .ok (.goto 9, 3) := by decide +kernel
theorem dX5_roomFor_17 : decode cX5_roomFor 17 = .ok (.aload_n 0, 1) := by decide +kernel
theorem dX5_roomFor_18 : decode cX5_roomFor 18 = .ok (.iload_n 1, 1) := by decide +kernel
theorem dX5_roomFor_19 : decode cX5_roomFor 19 = .ok (.iload_n 2, 1) := by decide +kernel
theorem dX5_roomFor_20 : decode cX5_roomFor 20 = .ok (.invokevirtual 176, 3) := by decide +kernel
theorem dX5_roomFor_23 : decode cX5_roomFor 23 = .ok (.ireturn, 1) := by decide +kernel
theorem dX5_fits_0 : decode cX5_fits 0 = .ok (.aload_n 0, 1) := by decide +kernel
theorem dX5_fits_1 : decode cX5_fits 1 = .ok (.aload_n 0, 1) := by decide +kernel
theorem dX5_fits_2 : decode cX5_fits 2 = .ok (.iload_n 1, 1) := by decide +kernel
theorem dX5_fits_3 : decode cX5_fits 3 = .ok (.iload_n 2, 1) := by decide +kernel
theorem dX5_fits_4 : decode cX5_fits 4 = .ok (.invokevirtual 97, 3) := by decide +kernel
theorem dX5_fits_7 : decode cX5_fits 7 = .ok (.ifCond .eq 7, 3) := by decide +kernel
theorem dX5_fits_10 : decode cX5_fits 10 = .ok (.iconst 0, 1) := by decide +kernel
theorem dX5_fits_11 : decode cX5_fits 11 = .ok (.goto 4, 3) := by decide +kernel
theorem dX5_fits_14 : decode cX5_fits 14 = .ok (.iconst 1, 1) := by decide +kernel
theorem dX5_fits_15 : decode cX5_fits 15 = .ok (.invokevirtual 81, 3) := by decide +kernel
theorem dX5_fits_18 : decode cX5_fits 18 = .ok (.ifCond .ne 16, 3) := by decide +kernel
theorem dX5_fits_21 : decode cX5_fits 21 = .ok (.aload_n 0, 1) := by decide +kernel
theorem dX5_fits_22 : decode cX5_fits 22 = .ok (.iload_n 1, 1) := by decide +kernel
theorem dX5_fits_23 : decode cX5_fits 23 = .ok (.iload_n 2, 1) := by decide +kernel
theorem dX5_fits_24 : decode cX5_fits 24 = .ok (.invokevirtual 62, 3) := by decide +kernel
theorem dX5_fits_27 : decode cX5_fits 27 = .ok (.ifCond .eq 7, 3) := by decide +kernel
theorem dX5_fits_30 : decode cX5_fits 30 = .ok (.iconst 1, 1) := by decide +kernel
theorem dX5_fits_31 : decode cX5_fits 31 = .ok (.goto 4, 3) := by decide +kernel
theorem dX5_fits_34 : decode cX5_fits 34 = .ok (.iconst 0, 1) := by decide +kernel
theorem dX5_fits_35 : decode cX5_fits 35 = .ok (.ireturn, 1) := by decide +kernel
theorem dX5_hundredths_0 : decode cX5_hundredths 0 = .ok (.bipush 100, 2) := by decide +kernel
theorem dX5_hundredths_2 : decode cX5_hundredths 2 = .ok (.aload_n 0, 1) := by decide +kernel
theorem dX5_hundredths_3 : decode cX5_hundredths 3 = .ok (.iload_n 1, 1) := by decide +kernel
theorem dX5_hundredths_4 : decode cX5_hundredths 4 = .ok (.iload_n 2, 1) := by decide +kernel
theorem dX5_hundredths_5 : decode cX5_hundredths 5 = .ok (.invokevirtual 59, 3) := by decide +kernel
theorem dX5_hundredths_8 : decode cX5_hundredths 8 = .ok (.imul, 1) := by decide +kernel
theorem dX5_hundredths_9 : decode cX5_hundredths 9 = .ok (.aload_n 0, 1) := by decide +kernel
theorem dX5_hundredths_10 : decode cX5_hundredths 10 = .ok (.getfield 7, 3) := by decide +kernel
theorem dX5_hundredths_13 : decode cX5_hundredths 13 = .ok (.iload_n 1, 1) := by decide +kernel
theorem dX5_hundredths_14 : decode cX5_hundredths 14 = .ok (.iconst 2, 1) := by decide +kernel
theorem dX5_hundredths_15 : decode cX5_hundredths 15 = .ok (.invokestatic 44, 3) := by decide +kernel
theorem dX5_hundredths_18 : decode cX5_hundredths 18 = .ok (.iaload, 1) := by decide +kernel
theorem dX5_hundredths_19 : decode cX5_hundredths 19 = .ok (.idiv, 1) := by decide +kernel
theorem dX5_hundredths_20 : decode cX5_hundredths 20 = .ok (.ireturn, 1) := by decide +kernel
theorem dX5_hundredthsOf_0 : decode cX5_hundredthsOf 0 = .ok (.aload_n 0, 1) := by decide +kernel
theorem dX5_hundredthsOf_1 : decode cX5_hundredthsOf 1 = .ok (.aload_n 0, 1) := by decide +kernel
theorem dX5_hundredthsOf_2 : decode cX5_hundredthsOf 2 = .ok (.iload_n 1, 1) := by decide +kernel
theorem dX5_hundredthsOf_3 : decode cX5_hundredthsOf 3 = .ok (.iload_n 2, 1) := by decide +kernel
theorem dX5_hundredthsOf_4 : decode cX5_hundredthsOf 4 = .ok (.invokevirtual 173, 3) := by decide +kernel
theorem dX5_hundredthsOf_7 : decode cX5_hundredthsOf 7 = .ok (.invokevirtual 81, 3) := by decide +kernel
theorem dX5_hundredthsOf_10 : decode cX5_hundredthsOf 10 = .ok (.ifCond .eq 7, 3) := by decide +kernel
theorem dX5_hundredthsOf_13 : decode cX5_hundredthsOf 13 = .ok (.iconst 0, 1) := by decide +kernel
theorem dX5_hundredthsOf_14 : decode cX5_hundredthsOf 14 = .ok (.goto 9, 3) := by decide +kernel
theorem dX5_hundredthsOf_17 : decode cX5_hundredthsOf 17 = .ok (.aload_n 0, 1) := by decide +kernel
theorem dX5_hundredthsOf_18 : decode cX5_hundredthsOf 18 = .ok (.iload_n 1, 1) := by decide +kernel
theorem dX5_hundredthsOf_19 : decode cX5_hundredthsOf 19 = .ok (.iload_n 2, 1) := by decide +kernel
theorem dX5_hundredthsOf_20 : decode cX5_hundredthsOf 20 = .ok (.invokevirtual 179, 3) := by decide +kernel
theorem dX5_hundredthsOf_23 : decode cX5_hundredthsOf 23 = .ok (.ireturn, 1) := by decide +kernel
theorem dX5_reasonAgainst_0 : decode cX5_reasonAgainst 0 = .ok (.aload_n 0, 1) := by decide +kernel
theorem dX5_reasonAgainst_1 : decode cX5_reasonAgainst 1 = .ok (.aload_n 0, 1) := by decide +kernel
theorem dX5_reasonAgainst_2 : decode cX5_reasonAgainst 2 = .ok (.iload_n 1, 1) := by decide +kernel
theorem dX5_reasonAgainst_3 : decode cX5_reasonAgainst 3 = .ok (.iload_n 2, 1) := by decide +kernel
theorem dX5_reasonAgainst_4 : decode cX5_reasonAgainst 4 = .ok (.invokevirtual 97, 3) := by decide +kernel
theorem dX5_reasonAgainst_7 : decode cX5_reasonAgainst 7 = .ok (.ifCond .eq 7, 3) := by decide +kernel
theorem dX5_reasonAgainst_10 : decode cX5_reasonAgainst 10 = .ok (.iconst 0, 1) := by decide +kernel
theorem dX5_reasonAgainst_11 : decode cX5_reasonAgainst 11 = .ok (.goto 4, 3) := by decide +kernel
theorem dX5_reasonAgainst_14 : decode cX5_reasonAgainst 14 = .ok (.iconst 1, 1) := by decide +kernel
theorem dX5_reasonAgainst_15 : decode cX5_reasonAgainst 15 = .ok (.invokevirtual 81, 3) := by decide +kernel
theorem dX5_reasonAgainst_18 : decode cX5_reasonAgainst 18 = .ok (.ifCond .eq 7, 3) := by decide +kernel
theorem dX5_reasonAgainst_21 : decode cX5_reasonAgainst 21 = .ok (.iconst 0, 1) := by decide +kernel
theorem dX5_reasonAgainst_22 : decode cX5_reasonAgainst 22 = .ok (.goto 9, 3) := by decide +kernel
theorem dX5_reasonAgainst_25 : decode cX5_reasonAgainst 25 = .ok (.aload_n 0, 1) := by decide +kernel
theorem dX5_reasonAgainst_26 : decode cX5_reasonAgainst 26 = .ok (.iload_n 1, 1) := by decide +kernel
theorem dX5_reasonAgainst_27 : decode cX5_reasonAgainst 27 = .ok (.iload_n 2, 1) := by decide +kernel
theorem dX5_reasonAgainst_28 : decode cX5_reasonAgainst 28 = .ok (.invokevirtual 68, 3) := by decide +kernel
theorem dX5_reasonAgainst_31 : decode cX5_reasonAgainst 31 = .ok (.ireturn, 1) := by decide +kernel
theorem dX5_staminaOf_0 : decode cX5_staminaOf 0 = .ok (.aload_n 0, 1) := by decide +kernel
theorem dX5_staminaOf_1 : decode cX5_staminaOf 1 = .ok (.iload_n 1, 1) := by decide +kernel
theorem dX5_staminaOf_2 : decode cX5_staminaOf 2 = .ok (.iload_n 2, 1) := by decide +kernel
theorem dX5_staminaOf_3 : decode cX5_staminaOf 3 = .ok (.invokestatic 104, 3) := by decide +kernel
theorem dX5_staminaOf_6 : decode cX5_staminaOf 6 = .ok (.ifCond .eq 7, 3) := by decide +kernel
theorem dX5_staminaOf_9 : decode cX5_staminaOf 9 = .ok (.iconst 0, 1) := by decide +kernel
theorem dX5_staminaOf_10 : decode cX5_staminaOf 10 = .ok (.goto 4, 3) := by decide +kernel
theorem dX5_staminaOf_13 : decode cX5_staminaOf 13 = .ok (.iconst 1, 1) := by decide +kernel
theorem dX5_staminaOf_14 : decode cX5_staminaOf 14 = .ok (.invokevirtual 81, 3) := by decide +kernel
theorem dX5_staminaOf_17 : decode cX5_staminaOf 17 = .ok (.ifCond .eq 7, 3) := by decide +kernel
theorem dX5_staminaOf_20 : decode cX5_staminaOf 20 = .ok (.iconst 0, 1) := by decide +kernel
theorem dX5_staminaOf_21 : decode cX5_staminaOf 21 = .ok (.goto 17, 3) := by decide +kernel
theorem dX5_staminaOf_24 : decode cX5_staminaOf 24 = .ok (.aload_n 0, 1) := by decide +kernel
theorem dX5_staminaOf_25 : decode cX5_staminaOf 25 = .ok (.getfield 7, 3) := by decide +kernel
theorem dX5_staminaOf_28 : decode cX5_staminaOf 28 = .ok (.sipush 312, 3) := by decide +kernel
theorem dX5_staminaOf_31 : decode cX5_staminaOf 31 = .ok (.iconst 3, 1) := by decide +kernel
theorem dX5_staminaOf_32 : decode cX5_staminaOf 32 = .ok (.iload_n 1, 1) := by decide +kernel
theorem dX5_staminaOf_33 : decode cX5_staminaOf 33 = .ok (.imul, 1) := by decide +kernel
theorem dX5_staminaOf_34 : decode cX5_staminaOf 34 = .ok (.iadd, 1) := by decide +kernel
theorem dX5_staminaOf_35 : decode cX5_staminaOf 35 = .ok (.iload_n 2, 1) := by decide +kernel
theorem dX5_staminaOf_36 : decode cX5_staminaOf 36 = .ok (.iadd, 1) := by decide +kernel
theorem dX5_staminaOf_37 : decode cX5_staminaOf 37 = .ok (.iaload, 1) := by decide +kernel
theorem dX5_staminaOf_38 : decode cX5_staminaOf 38 = .ok (.ireturn, 1) := by decide +kernel
theorem dX5_strengthLeft_0 : decode cX5_strengthLeft 0 = .ok (.aload_n 0, 1) := by decide +kernel
theorem dX5_strengthLeft_1 : decode cX5_strengthLeft 1 = .ok (.iload_n 1, 1) := by decide +kernel
theorem dX5_strengthLeft_2 : decode cX5_strengthLeft 2 = .ok (.iload_n 2, 1) := by decide +kernel
theorem dX5_strengthLeft_3 : decode cX5_strengthLeft 3 = .ok (.invokestatic 104, 3) := by decide +kernel
theorem dX5_strengthLeft_6 : decode cX5_strengthLeft 6 = .ok (.ifCond .eq 7, 3) := by decide +kernel
theorem dX5_strengthLeft_9 : decode cX5_strengthLeft 9 = .ok (.iconst 0, 1) := by decide +kernel
theorem dX5_strengthLeft_10 : decode cX5_strengthLeft 10 = .ok (.goto 4, 3) := by decide +kernel
theorem dX5_strengthLeft_13 : decode cX5_strengthLeft 13 = .ok (.iconst 1, 1) := by decide +kernel
theorem dX5_strengthLeft_14 : decode cX5_strengthLeft 14 = .ok (.invokevirtual 81, 3) := by decide +kernel
theorem dX5_strengthLeft_17 : decode cX5_strengthLeft 17 = .ok (.ifCond .eq 7, 3) := by decide +kernel
theorem dX5_strengthLeft_20 : decode cX5_strengthLeft 20 = .ok (.iconst 0, 1) := by decide +kernel
theorem dX5_strengthLeft_21 : decode cX5_strengthLeft 21 = .ok (.goto 9, 3) := by decide +kernel
theorem dX5_strengthLeft_24 : decode cX5_strengthLeft 24 = .ok (.aload_n 0, 1) := by decide +kernel
theorem dX5_strengthLeft_25 : decode cX5_strengthLeft 25 = .ok (.iload_n 1, 1) := by decide +kernel
theorem dX5_strengthLeft_26 : decode cX5_strengthLeft 26 = .ok (.iload_n 2, 1) := by decide +kernel
theorem dX5_strengthLeft_27 : decode cX5_strengthLeft 27 = .ok (.invokevirtual 65, 3) := by decide +kernel
theorem dX5_strengthLeft_30 : decode cX5_strengthLeft 30 = .ok (.ireturn, 1) := by decide +kernel
theorem dX5_voiced_0 : decode cX5_voiced 0 = .ok (.iconst 0, 1) := by decide +kernel
theorem dX5_voiced_1 : decode cX5_voiced 1 = .ok (.istore_n 3, 1) := by decide +kernel
theorem dX5_voiced_2 : decode cX5_voiced 2 = .ok (.iconst 0, 1) := by decide +kernel
theorem dX5_voiced_3 : decode cX5_voiced 3 = .ok (.istore 4, 2) := by decide +kernel
theorem dX5_voiced_5 : decode cX5_voiced 5 = .ok (.iload 4, 2) := by decide +kernel
theorem dX5_voiced_7 : decode cX5_voiced 7 = .ok (.aload_n 0, 1) := by decide +kernel
theorem dX5_voiced_8 : decode cX5_voiced 8 = .ok (.getfield 7, 3) := by decide +kernel
theorem dX5_voiced_11 : decode cX5_voiced 11 = .ok (.sipush 366, 3) := by decide +kernel
theorem dX5_voiced_14 : decode cX5_voiced 14 = .ok (.iaload, 1) := by decide +kernel
theorem dX5_voiced_15 : decode cX5_voiced 15 = .ok (.if_icmp .ge 48, 3) := by decide +kernel
theorem dX5_voiced_18 : decode cX5_voiced 18 = .ok (.iload_n 3, 1) := by decide +kernel
theorem dX5_voiced_19 : decode cX5_voiced 19 = .ok (.aload_n 0, 1) := by decide +kernel
theorem dX5_voiced_20 : decode cX5_voiced 20 = .ok (.getfield 7, 3) := by decide +kernel
theorem dX5_voiced_23 : decode cX5_voiced 23 = .ok (.iload 4, 2) := by decide +kernel
theorem dX5_voiced_25 : decode cX5_voiced 25 = .ok (.iconst 1, 1) := by decide +kernel
theorem dX5_voiced_26 : decode cX5_voiced 26 = .ok (.invokestatic 44, 3) := by decide +kernel
theorem dX5_voiced_29 : decode cX5_voiced 29 = .ok (.iaload, 1) := by decide +kernel
theorem dX5_voiced_30 : decode cX5_voiced 30 = .ok (.iload_n 1, 1) := by decide +kernel
theorem dX5_voiced_31 : decode cX5_voiced 31 = .ok (.if_icmp .ne 23, 3) := by decide +kernel
theorem dX5_voiced_34 : decode cX5_voiced 34 = .ok (.aload_n 0, 1) := by decide +kernel
theorem dX5_voiced_35 : decode cX5_voiced 35 = .ok (.iload 4, 2) := by decide +kernel
theorem dX5_voiced_37 : decode cX5_voiced 37 = .ok (.iload_n 2, 1) := by decide +kernel
theorem dX5_voiced_38 : decode cX5_voiced 38 = .ok (.invokevirtual 51, 3) := by decide +kernel
theorem dX5_voiced_41 : decode cX5_voiced 41 = .ok (.ifCond .eq 13, 3) := by decide +kernel
theorem dX5_voiced_44 : decode cX5_voiced 44 = .ok (.aload_n 0, 1) := by decide +kernel
theorem dX5_voiced_45 : decode cX5_voiced 45 = .ok (.iload 4, 2) := by decide +kernel
theorem dX5_voiced_47 : decode cX5_voiced 47 = .ok (.iload_n 2, 1) := by decide +kernel
theorem dX5_voiced_48 : decode cX5_voiced 48 = .ok (.invokevirtual 59, 3) := by decide +kernel
theorem dX5_voiced_51 : decode cX5_voiced 51 = .ok (.goto 4, 3) := by decide +kernel
theorem dX5_voiced_54 : decode cX5_voiced 54 = .ok (.iconst 0, 1) := by decide +kernel
theorem dX5_voiced_55 : decode cX5_voiced 55 = .ok (.iadd, 1) := by decide +kernel
theorem dX5_voiced_56 : decode cX5_voiced 56 = .ok (.istore_n 3, 1) := by decide +kernel
theorem dX5_voiced_57 : decode cX5_voiced 57 = .ok (.iinc 4 1, 3) := by decide +kernel
theorem dX5_voiced_60 : decode cX5_voiced 60 = .ok (.goto (-55), 3) := by decide +kernel
theorem dX5_voiced_63 : decode cX5_voiced 63 = .ok (.iload_n 3, 1) := by decide +kernel
theorem dX5_voiced_64 : decode cX5_voiced 64 = .ok (.ireturn, 1) := by decide +kernel
theorem dX5_framesOfVoice_0 : decode cX5_framesOfVoice 0 = .ok (.aload_n 0, 1) := by decide +kernel
theorem dX5_framesOfVoice_1 : decode cX5_framesOfVoice 1 = .ok (.iload_n 1, 1) := by decide +kernel
theorem dX5_framesOfVoice_2 : decode cX5_framesOfVoice 2 = .ok (.iload_n 2, 1) := by decide +kernel
theorem dX5_framesOfVoice_3 : decode cX5_framesOfVoice 3 = .ok (.invokestatic 104, 3) := by decide +kernel
theorem dX5_framesOfVoice_6 : decode cX5_framesOfVoice 6 = .ok (.ifCond .eq 7, 3) := by decide +kernel
theorem dX5_framesOfVoice_9 : decode cX5_framesOfVoice 9 = .ok (.iconst 0, 1) := by decide +kernel
theorem dX5_framesOfVoice_10 : decode cX5_framesOfVoice 10 = .ok (.goto 4, 3) := by decide +kernel
theorem dX5_framesOfVoice_13 : decode cX5_framesOfVoice 13 = .ok (.iconst 1, 1) := by decide +kernel
theorem dX5_framesOfVoice_14 : decode cX5_framesOfVoice 14 = .ok (.invokevirtual 81, 3) := by decide +kernel
theorem dX5_framesOfVoice_17 : decode cX5_framesOfVoice 17 = .ok (.ifCond .eq 7, 3) := by decide +kernel
theorem dX5_framesOfVoice_20 : decode cX5_framesOfVoice 20 = .ok (.iconst 0, 1) := by decide +kernel
theorem dX5_framesOfVoice_21 : decode cX5_framesOfVoice 21 = .ok (.goto 9, 3) := by decide +kernel
theorem dX5_framesOfVoice_24 : decode cX5_framesOfVoice 24 = .ok (.aload_n 0, 1) := by decide +kernel
theorem dX5_framesOfVoice_25 : decode cX5_framesOfVoice 25 = .ok (.iload_n 1, 1) := by decide +kernel
theorem dX5_framesOfVoice_26 : decode cX5_framesOfVoice 26 = .ok (.iload_n 2, 1) := by decide +kernel
theorem dX5_framesOfVoice_27 : decode cX5_framesOfVoice 27 = .ok (.invokevirtual 182, 3) := by decide +kernel
theorem dX5_framesOfVoice_30 : decode cX5_framesOfVoice 30 = .ok (.ireturn, 1) := by decide +kernel
theorem dX5_sessions_0 : decode cX5_sessions 0 = .ok (.aload_n 0, 1) := by decide +kernel
theorem dX5_sessions_1 : decode cX5_sessions 1 = .ok (.getfield 7, 3) := by decide +kernel
theorem dX5_sessions_4 : decode cX5_sessions 4 = .ok (.sipush 312, 3) := by decide +kernel
theorem dX5_sessions_7 : decode cX5_sessions 7 = .ok (.iconst 3, 1) := by decide +kernel
theorem dX5_sessions_8 : decode cX5_sessions 8 = .ok (.iload_n 1, 1) := by decide +kernel
theorem dX5_sessions_9 : decode cX5_sessions 9 = .ok (.imul, 1) := by decide +kernel
theorem dX5_sessions_10 : decode cX5_sessions 10 = .ok (.iadd, 1) := by decide +kernel
theorem dX5_sessions_11 : decode cX5_sessions 11 = .ok (.iload_n 2, 1) := by decide +kernel
theorem dX5_sessions_12 : decode cX5_sessions 12 = .ok (.iadd, 1) := by decide +kernel
theorem dX5_sessions_13 : decode cX5_sessions 13 = .ok (.iaload, 1) := by decide +kernel
theorem dX5_sessions_14 : decode cX5_sessions 14 = .ok (.istore_n 3, 1) := by decide +kernel
theorem dX5_sessions_15 : decode cX5_sessions 15 = .ok (.aload_n 0, 1) := by decide +kernel
theorem dX5_sessions_16 : decode cX5_sessions 16 = .ok (.iload_n 1, 1) := by decide +kernel
theorem dX5_sessions_17 : decode cX5_sessions 17 = .ok (.iload_n 2, 1) := by decide +kernel
theorem dX5_sessions_18 : decode cX5_sessions 18 = .ok (.invokevirtual 65, 3) := by decide +kernel
theorem dX5_sessions_21 : decode cX5_sessions 21 = .ok (.istore 4, 2) := by decide +kernel
theorem dX5_sessions_23 : decode cX5_sessions 23 = .ok (.iconst 0, 1) := by decide +kernel
theorem dX5_sessions_24 : decode cX5_sessions 24 = .ok (.istore 5, 2) := by decide +kernel
theorem dX5_sessions_26 : decode cX5_sessions 26 = .ok (.iconst 0, 1) := by decide +kernel
theorem dX5_sessions_27 : decode cX5_sessions 27 = .ok (.istore 6, 2) := by decide +kernel
theorem dX5_sessions_29 : decode cX5_sessions 29 = .ok (.iload 6, 2) := by decide +kernel
theorem dX5_sessions_31 : decode cX5_sessions 31 = .ok (.aload_n 0, 1) := by decide +kernel
theorem dX5_sessions_32 : decode cX5_sessions 32 = .ok (.getfield 7, 3) := by decide +kernel
theorem dX5_sessions_35 : decode cX5_sessions 35 = .ok (.sipush 366, 3) := by decide +kernel
theorem dX5_sessions_38 : decode cX5_sessions 38 = .ok (.iaload, 1) := by decide +kernel
theorem dX5_sessions_39 : decode cX5_sessions 39 = .ok (.if_icmp .ge 99, 3) := by decide +kernel
theorem dX5_sessions_42 : decode cX5_sessions 42 = .ok (.aload_n 0, 1) := by decide +kernel
theorem dX5_sessions_43 : decode cX5_sessions 43 = .ok (.getfield 7, 3) := by decide +kernel
theorem dX5_sessions_46 : decode cX5_sessions 46 = .ok (.iload 6, 2) := by decide +kernel
theorem dX5_sessions_48 : decode cX5_sessions 48 = .ok (.iconst 1, 1) := by decide +kernel
theorem dX5_sessions_49 : decode cX5_sessions 49 = .ok (.invokestatic 44, 3) := by decide +kernel
theorem dX5_sessions_52 : decode cX5_sessions 52 = .ok (.iaload, 1) := by decide +kernel
theorem dX5_sessions_53 : decode cX5_sessions 53 = .ok (.iload_n 1, 1) := by decide +kernel
theorem dX5_sessions_54 : decode cX5_sessions 54 = .ok (.if_icmp .ne 78, 3) := by decide +kernel
theorem dX5_sessions_57 : decode cX5_sessions 57 = .ok (.aload_n 0, 1) := by decide +kernel
theorem dX5_sessions_58 : decode cX5_sessions 58 = .ok (.iload 6, 2) := by decide +kernel
theorem dX5_sessions_60 : decode cX5_sessions 60 = .ok (.iload_n 2, 1) := by decide +kernel
theorem dX5_sessions_61 : decode cX5_sessions 61 = .ok (.invokevirtual 185, 3) := by decide +kernel
theorem dX5_sessions_64 : decode cX5_sessions 64 = .ok (.ifCond .eq 68, 3) := by decide +kernel
theorem dX5_sessions_67 : decode cX5_sessions 67 = .ok (.aload_n 0, 1) := by decide +kernel
theorem dX5_sessions_68 : decode cX5_sessions 68 = .ok (.iload 6, 2) := by decide +kernel
theorem dX5_sessions_70 : decode cX5_sessions 70 = .ok (.iload_n 2, 1) := by decide +kernel
theorem dX5_sessions_71 : decode cX5_sessions 71 = .ok (.invokevirtual 59, 3) := by decide +kernel
theorem dX5_sessions_74 : decode cX5_sessions 74 = .ok (.istore 7, 2) := by decide +kernel
theorem dX5_sessions_76 : decode cX5_sessions 76 = .ok (.iload 7, 2) := by decide +kernel
theorem dX5_sessions_78 : decode cX5_sessions 78 = .ok (.iload_n 3, 1) := by decide +kernel
theorem dX5_sessions_79 : decode cX5_sessions 79 = .ok (.if_icmp .le 5, 3) := by decide +kernel
theorem dX5_sessions_82 : decode cX5_sessions 82 = .ok (.iconst (-1), 1) := by decide +kernel
theorem dX5_sessions_83 : decode cX5_sessions 83 = .ok (.ireturn, 1) := by decide +kernel
theorem dX5_sessions_84 : decode cX5_sessions 84 = .ok (.iload 5, 2) := by decide +kernel
theorem dX5_sessions_86 : decode cX5_sessions 86 = .ok (.ifCond .ne 7, 3) := by decide +kernel
theorem dX5_sessions_89 : decode cX5_sessions 89 = .ok (.iconst 1, 1) := by decide +kernel
theorem dX5_sessions_90 : decode cX5_sessions 90 = .ok (.goto 5, 3) := by decide +kernel
theorem dX5_sessions_93 : decode cX5_sessions 93 = .ok (.iload 5, 2) := by decide +kernel
theorem dX5_sessions_95 : decode cX5_sessions 95 = .ok (.istore 5, 2) := by decide +kernel
theorem dX5_sessions_97 : decode cX5_sessions 97 = .ok (.iload 5, 2) := by decide +kernel
theorem dX5_sessions_99 : decode cX5_sessions 99 = .ok (.iload 7, 2) := by decide +kernel
theorem dX5_sessions_101 : decode cX5_sessions 101 = .ok (.iload 4, 2) := by decide +kernel
theorem dX5_sessions_103 : decode cX5_sessions 103 = .ok (.if_icmp .le 7, 3) := by decide +kernel
theorem dX5_sessions_106 : decode cX5_sessions 106 = .ok (.iconst 1, 1) := by decide +kernel
theorem dX5_sessions_107 : decode cX5_sessions 107 = .ok (.goto 4, 3) := by decide +kernel
theorem dX5_sessions_110 : decode cX5_sessions 110 = .ok (.iconst 0, 1) := by decide +kernel
theorem dX5_sessions_111 : decode cX5_sessions 111 = .ok (.iadd, 1) := by decide +kernel
theorem dX5_sessions_112 : decode cX5_sessions 112 = .ok (.istore 5, 2) := by decide +kernel
theorem dX5_sessions_114 : decode cX5_sessions 114 = .ok (.iload 7, 2) := by decide +kernel
theorem dX5_sessions_116 : decode cX5_sessions 116 = .ok (.iload 4, 2) := by decide +kernel
theorem dX5_sessions_118 : decode cX5_sessions 118 = .ok (.if_icmp .le 7, 3) := by decide +kernel
theorem dX5_sessions_121 : decode cX5_sessions 121 = .ok (.iload_n 3, 1) := by decide +kernel
theorem dX5_sessions_122 : decode cX5_sessions 122 = .ok (.goto 5, 3) := by decide +kernel
theorem dX5_sessions_125 : decode cX5_sessions 125 = .ok (.iload 4, 2) := by decide +kernel
theorem dX5_sessions_127 : decode cX5_sessions 127 = .ok (.iload 7, 2) := by decide +kernel
theorem dX5_sessions_129 : decode cX5_sessions 129 = .ok (.isub, 1) := by decide +kernel
theorem dX5_sessions_130 : decode cX5_sessions 130 = .ok (.istore 4, 2) := by decide +kernel
theorem dX5_sessions_132 : decode cX5_sessions 132 = .ok (.iinc 6 1, 3) := by decide +kernel
theorem dX5_sessions_135 : decode cX5_sessions 135 = .ok (.goto (-106), 3) := by decide +kernel
theorem dX5_sessions_138 : decode cX5_sessions 138 = .ok (.iload 5, 2) := by decide +kernel
theorem dX5_sessions_140 : decode cX5_sessions 140 = .ok (.ireturn, 1) := by decide +kernel
theorem dX5_inSessions_0 : decode cX5_inSessions 0 = .ok (.aload_n 0, 1) := by decide +kernel
theorem dX5_inSessions_1 : decode cX5_inSessions 1 = .ok (.iload_n 1, 1) := by decide +kernel
theorem dX5_inSessions_2 : decode cX5_inSessions 2 = .ok (.iload_n 2, 1) := by decide +kernel
theorem dX5_inSessions_3 : decode cX5_inSessions 3 = .ok (.invokestatic 104, 3) := by decide +kernel
theorem dX5_inSessions_6 : decode cX5_inSessions 6 = .ok (.ifCond .ne 7, 3) := by decide +kernel
theorem dX5_inSessions_9 : decode cX5_inSessions 9 = .ok (.iconst 1, 1) := by decide +kernel
theorem dX5_inSessions_10 : decode cX5_inSessions 10 = .ok (.goto 17, 3) := by decide +kernel
theorem dX5_inSessions_13 : decode cX5_inSessions 13 = .ok (.aload_n 0, 1) := by decide +kernel
theorem dX5_inSessions_14 : decode cX5_inSessions 14 = .ok (.iload_n 1, 1) := by decide +kernel
theorem dX5_inSessions_15 : decode cX5_inSessions 15 = .ok (.iload_n 2, 1) := by decide +kernel
theorem dX5_inSessions_16 : decode cX5_inSessions 16 = .ok (.invokevirtual 188, 3) := by decide +kernel
theorem dX5_inSessions_19 : decode cX5_inSessions 19 = .ok (.ifCond .ge 7, 3) := by decide +kernel
theorem dX5_inSessions_22 : decode cX5_inSessions 22 = .ok (.iconst 2, 1) := by decide +kernel
theorem dX5_inSessions_23 : decode cX5_inSessions 23 = .ok (.goto 4, 3) := by decide +kernel
theorem dX5_inSessions_26 : decode cX5_inSessions 26 = .ok (.iconst 0, 1) := by decide +kernel
theorem dX5_inSessions_27 : decode cX5_inSessions 27 = .ok (.invokevirtual 81, 3) := by decide +kernel
theorem dX5_inSessions_30 : decode cX5_inSessions 30 = .ok (.ifCond .eq 7, 3) := by decide +kernel
theorem dX5_inSessions_33 : decode cX5_inSessions 33 = .ok (.iconst 0, 1) := by decide +kernel
theorem dX5_inSessions_34 : decode cX5_inSessions 34 = .ok (.goto 9, 3) := by decide +kernel
theorem dX5_inSessions_37 : decode cX5_inSessions 37 = .ok (.aload_n 0, 1) := by decide +kernel
theorem dX5_inSessions_38 : decode cX5_inSessions 38 = .ok (.iload_n 1, 1) := by decide +kernel
theorem dX5_inSessions_39 : decode cX5_inSessions 39 = .ok (.iload_n 2, 1) := by decide +kernel
theorem dX5_inSessions_40 : decode cX5_inSessions 40 = .ok (.invokevirtual 188, 3) := by decide +kernel
theorem dX5_inSessions_43 : decode cX5_inSessions 43 = .ok (.ireturn, 1) := by decide +kernel
theorem dX5_sessionsByGoing_0 : decode cX5_sessionsByGoing 0 = .ok (.aload_n 0, 1) := by decide +kernel
theorem dX5_sessionsByGoing_1 : decode cX5_sessionsByGoing 1 = .ok (.iload_n 1, 1) := by decide +kernel
theorem dX5_sessionsByGoing_2 : decode cX5_sessionsByGoing 2 = .ok (.iload_n 2, 1) := by decide +kernel
theorem dX5_sessionsByGoing_3 : decode cX5_sessionsByGoing 3 = .ok (.invokevirtual 191, 3) := by decide +kernel
theorem dX5_sessionsByGoing_6 : decode cX5_sessionsByGoing 6 = .ok (.ireturn, 1) := by decide +kernel
theorem dX5_sessionsByTable_0 : decode cX5_sessionsByTable 0 = .ok (.aload_n 0, 1) := by decide +kernel
theorem dX5_sessionsByTable_1 : decode cX5_sessionsByTable 1 = .ok (.iload_n 1, 1) := by decide +kernel
theorem dX5_sessionsByTable_2 : decode cX5_sessionsByTable 2 = .ok (.iload_n 2, 1) := by decide +kernel
theorem dX5_sessionsByTable_3 : decode cX5_sessionsByTable 3 = .ok (.invokevirtual 191, 3) := by decide +kernel
theorem dX5_sessionsByTable_6 : decode cX5_sessionsByTable 6 = .ok (.ireturn, 1) := by decide +kernel
theorem dX5_many_0 : decode cX5_many 0 = .ok (.iconst 0, 1) := by decide +kernel
theorem dX5_many_1 : decode cX5_many 1 = .ok (.istore_n 2, 1) := by decide +kernel
theorem dX5_many_2 : decode cX5_many 2 = .ok (.iconst 0, 1) := by decide +kernel
theorem dX5_many_3 : decode cX5_many 3 = .ok (.istore_n 3, 1) := by decide +kernel
theorem dX5_many_4 : decode cX5_many 4 = .ok (.iload_n 3, 1) := by decide +kernel
theorem dX5_many_5 : decode cX5_many 5 = .ok (.aload_n 0, 1) := by decide +kernel
theorem dX5_many_6 : decode cX5_many 6 = .ok (.getfield 7, 3) := by decide +kernel
theorem dX5_many_9 : decode cX5_many 9 = .ok (.sipush 366, 3) := by decide +kernel
theorem dX5_many_12 : decode cX5_many 12 = .ok (.iaload, 1) := by decide +kernel
theorem dX5_many_13 : decode cX5_many 13 = .ok (.if_icmp .ge 31, 3) := by decide +kernel
theorem dX5_many_16 : decode cX5_many 16 = .ok (.iload_n 2, 1) := by decide +kernel
theorem dX5_many_17 : decode cX5_many 17 = .ok (.aload_n 0, 1) := by decide +kernel
theorem dX5_many_18 : decode cX5_many 18 = .ok (.getfield 7, 3) := by decide +kernel
theorem dX5_many_21 : decode cX5_many 21 = .ok (.iload_n 3, 1) := by decide +kernel
theorem dX5_many_22 : decode cX5_many 22 = .ok (.iconst 0, 1) := by decide +kernel
theorem dX5_many_23 : decode cX5_many 23 = .ok (.invokestatic 44, 3) := by decide +kernel
theorem dX5_many_26 : decode cX5_many 26 = .ok (.iaload, 1) := by decide +kernel
theorem dX5_many_27 : decode cX5_many 27 = .ok (.iload_n 1, 1) := by decide +kernel
theorem dX5_many_28 : decode cX5_many 28 = .ok (.if_icmp .ne 7, 3) := by decide +kernel
theorem dX5_many_31 : decode cX5_many 31 = .ok (.iconst 1, 1) := by decide +kernel
theorem dX5_many_32 : decode cX5_many 32 = .ok (.goto 4, 3) := by decide +kernel
theorem dX5_many_35 : decode cX5_many 35 = .ok (.iconst 0, 1) := by decide +kernel
theorem dX5_many_36 : decode cX5_many 36 = .ok (.iadd, 1) := by decide +kernel
theorem dX5_many_37 : decode cX5_many 37 = .ok (.istore_n 2, 1) := by decide +kernel
theorem dX5_many_38 : decode cX5_many 38 = .ok (.iinc 3 1, 3) := by decide +kernel
theorem dX5_many_41 : decode cX5_many 41 = .ok (.goto (-37), 3) := by decide +kernel
theorem dX5_many_44 : decode cX5_many 44 = .ok (.iload_n 2, 1) := by decide +kernel
theorem dX5_many_45 : decode cX5_many 45 = .ok (.ireturn, 1) := by decide +kernel
theorem dX5_clausesIn_0 : decode cX5_clausesIn 0 = .ok (.aload_n 0, 1) := by decide +kernel
theorem dX5_clausesIn_1 : decode cX5_clausesIn 1 = .ok (.iload_n 1, 1) := by decide +kernel
theorem dX5_clausesIn_2 : decode cX5_clausesIn 2 = .ok (.invokestatic 75, 3) := by decide +kernel
theorem dX5_clausesIn_5 : decode cX5_clausesIn 5 = .ok (.ifCond .eq 7, 3) := by decide +kernel
theorem dX5_clausesIn_8 : decode cX5_clausesIn 8 = .ok (.iconst 0, 1) := by decide +kernel
theorem dX5_clausesIn_9 : decode cX5_clausesIn 9 = .ok (.goto 4, 3) := by decide +kernel
theorem dX5_clausesIn_12 : decode cX5_clausesIn 12 = .ok (.iconst 1, 1) := by decide +kernel
theorem dX5_clausesIn_13 : decode cX5_clausesIn 13 = .ok (.invokevirtual 81, 3) := by decide +kernel
theorem dX5_clausesIn_16 : decode cX5_clausesIn 16 = .ok (.ifCond .eq 7, 3) := by decide +kernel
theorem dX5_clausesIn_19 : decode cX5_clausesIn 19 = .ok (.iconst 0, 1) := by decide +kernel
theorem dX5_clausesIn_20 : decode cX5_clausesIn 20 = .ok (.goto 8, 3) := by decide +kernel
theorem dX5_clausesIn_23 : decode cX5_clausesIn 23 = .ok (.aload_n 0, 1) := by decide +kernel
theorem dX5_clausesIn_24 : decode cX5_clausesIn 24 = .ok (.iload_n 1, 1) := by decide +kernel
theorem dX5_clausesIn_25 : decode cX5_clausesIn 25 = .ok (.invokevirtual 194, 3) := by decide +kernel
theorem dX5_clausesIn_28 : decode cX5_clausesIn 28 = .ok (.ireturn, 1) := by decide +kernel
theorem dX5_long1_0 : decode cX5_long1 0 = .ok (.iconst 0, 1) := by decide +kernel
theorem dX5_long1_1 : decode cX5_long1 1 = .ok (.istore_n 2, 1) := by decide +kernel
theorem dX5_long1_2 : decode cX5_long1 2 = .ok (.iconst 0, 1) := by decide +kernel
theorem dX5_long1_3 : decode cX5_long1 3 = .ok (.istore_n 3, 1) := by decide +kernel
theorem dX5_long1_4 : decode cX5_long1 4 = .ok (.iload_n 3, 1) := by decide +kernel
theorem dX5_long1_5 : decode cX5_long1 5 = .ok (.aload_n 0, 1) := by decide +kernel
theorem dX5_long1_6 : decode cX5_long1 6 = .ok (.getfield 7, 3) := by decide +kernel
theorem dX5_long1_9 : decode cX5_long1 9 = .ok (.sipush 366, 3) := by decide +kernel
theorem dX5_long1_12 : decode cX5_long1 12 = .ok (.iaload, 1) := by decide +kernel
theorem dX5_long1_13 : decode cX5_long1 13 = .ok (.if_icmp .ge 40, 3) := by decide +kernel
theorem dX5_long1_16 : decode cX5_long1 16 = .ok (.iload_n 2, 1) := by decide +kernel
theorem dX5_long1_17 : decode cX5_long1 17 = .ok (.aload_n 0, 1) := by decide +kernel
theorem dX5_long1_18 : decode cX5_long1 18 = .ok (.getfield 7, 3) := by decide +kernel
theorem dX5_long1_21 : decode cX5_long1 21 = .ok (.iload_n 3, 1) := by decide +kernel
theorem dX5_long1_22 : decode cX5_long1 22 = .ok (.iconst 0, 1) := by decide +kernel
theorem dX5_long1_23 : decode cX5_long1 23 = .ok (.invokestatic 44, 3) := by decide +kernel
theorem dX5_long1_26 : decode cX5_long1 26 = .ok (.iaload, 1) := by decide +kernel
theorem dX5_long1_27 : decode cX5_long1 27 = .ok (.iload_n 1, 1) := by decide +kernel
theorem dX5_long1_28 : decode cX5_long1 28 = .ok (.if_icmp .ne 16, 3) := by decide +kernel
theorem dX5_long1_31 : decode cX5_long1 31 = .ok (.aload_n 0, 1) := by decide +kernel
theorem dX5_long1_32 : decode cX5_long1 32 = .ok (.getfield 7, 3) := by decide +kernel
theorem dX5_long1_35 : decode cX5_long1 35 = .ok (.iload_n 3, 1) := by decide +kernel
theorem dX5_long1_36 : decode cX5_long1 36 = .ok (.iconst 2, 1) := by decide +kernel
theorem dX5_long1_37 : decode cX5_long1 37 = .ok (.invokestatic 44, 3) := by decide +kernel
theorem dX5_long1_40 : decode cX5_long1 40 = .ok (.iaload, 1) := by decide +kernel
theorem dX5_long1_41 : decode cX5_long1 41 = .ok (.goto 4, 3) := by decide +kernel
theorem dX5_long1_44 : decode cX5_long1 44 = .ok (.iconst 0, 1) := by decide +kernel
theorem dX5_long1_45 : decode cX5_long1 45 = .ok (.iadd, 1) := by decide +kernel
theorem dX5_long1_46 : decode cX5_long1 46 = .ok (.istore_n 2, 1) := by decide +kernel
theorem dX5_long1_47 : decode cX5_long1 47 = .ok (.iinc 3 1, 3) := by decide +kernel
theorem dX5_long1_50 : decode cX5_long1 50 = .ok (.goto (-46), 3) := by decide +kernel
theorem dX5_long1_53 : decode cX5_long1 53 = .ok (.iload_n 2, 1) := by decide +kernel
theorem dX5_long1_54 : decode cX5_long1 54 = .ok (.ireturn, 1) := by decide +kernel
theorem dX5_lengthOf_0 : decode cX5_lengthOf 0 = .ok (.aload_n 0, 1) := by decide +kernel
theorem dX5_lengthOf_1 : decode cX5_lengthOf 1 = .ok (.iload_n 1, 1) := by decide +kernel
theorem dX5_lengthOf_2 : decode cX5_lengthOf 2 = .ok (.invokestatic 75, 3) := by decide +kernel
theorem dX5_lengthOf_5 : decode cX5_lengthOf 5 = .ok (.ifCond .eq 7, 3) := by decide +kernel
theorem dX5_lengthOf_8 : decode cX5_lengthOf 8 = .ok (.iconst 0, 1) := by decide +kernel
theorem dX5_lengthOf_9 : decode cX5_lengthOf 9 = .ok (.goto 4, 3) := by decide +kernel
theorem dX5_lengthOf_12 : decode cX5_lengthOf 12 = .ok (.iconst 1, 1) := by decide +kernel
theorem dX5_lengthOf_13 : decode cX5_lengthOf 13 = .ok (.invokevirtual 81, 3) := by decide +kernel
theorem dX5_lengthOf_16 : decode cX5_lengthOf 16 = .ok (.ifCond .eq 7, 3) := by decide +kernel
theorem dX5_lengthOf_19 : decode cX5_lengthOf 19 = .ok (.iconst 0, 1) := by decide +kernel
theorem dX5_lengthOf_20 : decode cX5_lengthOf 20 = .ok (.goto 8, 3) := by decide +kernel
theorem dX5_lengthOf_23 : decode cX5_lengthOf 23 = .ok (.aload_n 0, 1) := by decide +kernel
theorem dX5_lengthOf_24 : decode cX5_lengthOf 24 = .ok (.iload_n 1, 1) := by decide +kernel
theorem dX5_lengthOf_25 : decode cX5_lengthOf 25 = .ok (.invokevirtual 197, 3) := by decide +kernel
theorem dX5_lengthOf_28 : decode cX5_lengthOf 28 = .ok (.ireturn, 1) := by decide +kernel
theorem dX5_speaksIn_0 : decode cX5_speaksIn 0 = .ok (.aload_n 0, 1) := by decide +kernel
theorem dX5_speaksIn_1 : decode cX5_speaksIn 1 = .ok (.iload_n 1, 1) := by decide +kernel
theorem dX5_speaksIn_2 : decode cX5_speaksIn 2 = .ok (.invokestatic 78, 3) := by decide +kernel
theorem dX5_speaksIn_5 : decode cX5_speaksIn 5 = .ok (.ifCond .eq 14, 3) := by decide +kernel
theorem dX5_speaksIn_8 : decode cX5_speaksIn 8 = .ok (.iload_n 2, 1) := by decide +kernel
theorem dX5_speaksIn_9 : decode cX5_speaksIn 9 = .ok (.invokestatic 75, 3) := by decide +kernel
theorem dX5_speaksIn_12 : decode cX5_speaksIn 12 = .ok (.ifCond .eq 7, 3) := by decide +kernel
theorem dX5_speaksIn_15 : decode cX5_speaksIn 15 = .ok (.iconst 0, 1) := by decide +kernel
theorem dX5_speaksIn_16 : decode cX5_speaksIn 16 = .ok (.goto 4, 3) := by decide +kernel
theorem dX5_speaksIn_19 : decode cX5_speaksIn 19 = .ok (.iconst 1, 1) := by decide +kernel
theorem dX5_speaksIn_20 : decode cX5_speaksIn 20 = .ok (.invokevirtual 81, 3) := by decide +kernel
theorem dX5_speaksIn_23 : decode cX5_speaksIn 23 = .ok (.ifCond .ne 16, 3) := by decide +kernel
theorem dX5_speaksIn_26 : decode cX5_speaksIn 26 = .ok (.aload_n 0, 1) := by decide +kernel
theorem dX5_speaksIn_27 : decode cX5_speaksIn 27 = .ok (.iload_n 1, 1) := by decide +kernel
theorem dX5_speaksIn_28 : decode cX5_speaksIn 28 = .ok (.iload_n 2, 1) := by decide +kernel
theorem dX5_speaksIn_29 : decode cX5_speaksIn 29 = .ok (.invokevirtual 116, 3) := by decide +kernel
theorem dX5_speaksIn_32 : decode cX5_speaksIn 32 = .ok (.ifCond .eq 7, 3) := by decide +kernel
theorem dX5_speaksIn_35 : decode cX5_speaksIn 35 = .ok (.iconst 1, 1) := by decide +kernel
theorem dX5_speaksIn_36 : decode cX5_speaksIn 36 = .ok (.goto 4, 3) := by decide +kernel
theorem dX5_speaksIn_39 : decode cX5_speaksIn 39 = .ok (.iconst 0, 1) := by decide +kernel
theorem dX5_speaksIn_40 : decode cX5_speaksIn 40 = .ok (.ireturn, 1) := by decide +kernel
theorem dX5_isComplete_0 : decode cX5_isComplete 0 = .ok (.aload_n 0, 1) := by decide +kernel
theorem dX5_isComplete_1 : decode cX5_isComplete 1 = .ok (.iload_n 1, 1) := by decide +kernel
theorem dX5_isComplete_2 : decode cX5_isComplete 2 = .ok (.iload_n 2, 1) := by decide +kernel
theorem dX5_isComplete_3 : decode cX5_isComplete 3 = .ok (.invokestatic 107, 3) := by decide +kernel
theorem dX5_isComplete_6 : decode cX5_isComplete 6 = .ok (.ifCond .eq 7, 3) := by decide +kernel
theorem dX5_isComplete_9 : decode cX5_isComplete 9 = .ok (.iconst 0, 1) := by decide +kernel
theorem dX5_isComplete_10 : decode cX5_isComplete 10 = .ok (.goto 4, 3) := by decide +kernel
theorem dX5_isComplete_13 : decode cX5_isComplete 13 = .ok (.iconst 1, 1) := by decide +kernel
theorem dX5_isComplete_14 : decode cX5_isComplete 14 = .ok (.invokevirtual 81, 3) := by decide +kernel
theorem dX5_isComplete_17 : decode cX5_isComplete 17 = .ok (.ifCond .ne 16, 3) := by decide +kernel
theorem dX5_isComplete_20 : decode cX5_isComplete 20 = .ok (.aload_n 0, 1) := by decide +kernel
theorem dX5_isComplete_21 : decode cX5_isComplete 21 = .ok (.iload_n 1, 1) := by decide +kernel
theorem dX5_isComplete_22 : decode cX5_isComplete 22 = .ok (.iload_n 2, 1) := by decide +kernel
theorem dX5_isComplete_23 : decode cX5_isComplete 23 = .ok (.invokevirtual 113, 3) := by decide +kernel
theorem dX5_isComplete_26 : decode cX5_isComplete 26 = .ok (.ifCond .eq 7, 3) := by decide +kernel
theorem dX5_isComplete_29 : decode cX5_isComplete 29 = .ok (.iconst 1, 1) := by decide +kernel
theorem dX5_isComplete_30 : decode cX5_isComplete 30 = .ok (.goto 4, 3) := by decide +kernel
theorem dX5_isComplete_33 : decode cX5_isComplete 33 = .ok (.iconst 0, 1) := by decide +kernel
theorem dX5_isComplete_34 : decode cX5_isComplete 34 = .ok (.ireturn, 1) := by decide +kernel
theorem dX5_isMixed_0 : decode cX5_isMixed 0 = .ok (.aload_n 0, 1) := by decide +kernel
theorem dX5_isMixed_1 : decode cX5_isMixed 1 = .ok (.iload_n 1, 1) := by decide +kernel
theorem dX5_isMixed_2 : decode cX5_isMixed 2 = .ok (.iload_n 2, 1) := by decide +kernel
theorem dX5_isMixed_3 : decode cX5_isMixed 3 = .ok (.invokestatic 107, 3) := by decide +kernel
theorem dX5_isMixed_6 : decode cX5_isMixed 6 = .ok (.ifCond .eq 7, 3) := by decide +kernel
theorem dX5_isMixed_9 : decode cX5_isMixed 9 = .ok (.iconst 0, 1) := by decide +kernel
theorem dX5_isMixed_10 : decode cX5_isMixed 10 = .ok (.goto 4, 3) := by decide +kernel
theorem dX5_isMixed_13 : decode cX5_isMixed 13 = .ok (.iconst 1, 1) := by decide +kernel
theorem dX5_isMixed_14 : decode cX5_isMixed 14 = .ok (.invokevirtual 81, 3) := by decide +kernel
theorem dX5_isMixed_17 : decode cX5_isMixed 17 = .ok (.ifCond .ne 16, 3) := by decide +kernel
theorem dX5_isMixed_20 : decode cX5_isMixed 20 = .ok (.aload_n 0, 1) := by decide +kernel
theorem dX5_isMixed_21 : decode cX5_isMixed 21 = .ok (.iload_n 1, 1) := by decide +kernel
theorem dX5_isMixed_22 : decode cX5_isMixed 22 = .ok (.iload_n 2, 1) := by decide +kernel
theorem dX5_isMixed_23 : decode cX5_isMixed 23 = .ok (.invokevirtual 110, 3) := by decide +kernel
theorem dX5_isMixed_26 : decode cX5_isMixed 26 = .ok (.ifCond .eq 7, 3) := by decide +kernel
theorem dX5_isMixed_29 : decode cX5_isMixed 29 = .ok (.iconst 1, 1) := by decide +kernel
theorem dX5_isMixed_30 : decode cX5_isMixed 30 = .ok (.goto 4, 3) := by decide +kernel
theorem dX5_isMixed_33 : decode cX5_isMixed 33 = .ok (.iconst 0, 1) := by decide +kernel
theorem dX5_isMixed_34 : decode cX5_isMixed 34 = .ok (.ireturn, 1) := by decide +kernel
theorem dX5_hasSigned_0 : decode cX5_hasSigned 0 = .ok (.aload_n 0, 1) := by decide +kernel
theorem dX5_hasSigned_1 : decode cX5_hasSigned 1 = .ok (.iload_n 1, 1) := by decide +kernel
theorem dX5_hasSigned_2 : decode cX5_hasSigned 2 = .ok (.invokestatic 78, 3) := by decide +kernel
theorem dX5_hasSigned_5 : decode cX5_hasSigned 5 = .ok (.ifCond .eq 15, 3) := by decide +kernel
theorem dX5_hasSigned_8 : decode cX5_hasSigned 8 = .ok (.iload_n 2, 1) := by decide +kernel
theorem dX5_hasSigned_9 : decode cX5_hasSigned 9 = .ok (.iload_n 3, 1) := by decide +kernel
theorem dX5_hasSigned_10 : decode cX5_hasSigned 10 = .ok (.invokestatic 107, 3) := by decide +kernel
theorem dX5_hasSigned_13 : decode cX5_hasSigned 13 = .ok (.ifCond .eq 7, 3) := by decide +kernel
theorem dX5_hasSigned_16 : decode cX5_hasSigned 16 = .ok (.iconst 0, 1) := by decide +kernel
theorem dX5_hasSigned_17 : decode cX5_hasSigned 17 = .ok (.goto 4, 3) := by decide +kernel
theorem dX5_hasSigned_20 : decode cX5_hasSigned 20 = .ok (.iconst 1, 1) := by decide +kernel
theorem dX5_hasSigned_21 : decode cX5_hasSigned 21 = .ok (.invokevirtual 81, 3) := by decide +kernel
theorem dX5_hasSigned_24 : decode cX5_hasSigned 24 = .ok (.ifCond .ne 17, 3) := by decide +kernel
theorem dX5_hasSigned_27 : decode cX5_hasSigned 27 = .ok (.aload_n 0, 1) := by decide +kernel
theorem dX5_hasSigned_28 : decode cX5_hasSigned 28 = .ok (.iload_n 1, 1) := by decide +kernel
theorem dX5_hasSigned_29 : decode cX5_hasSigned 29 = .ok (.iload_n 2, 1) := by decide +kernel
theorem dX5_hasSigned_30 : decode cX5_hasSigned 30 = .ok (.iload_n 3, 1) := by decide +kernel
theorem dX5_hasSigned_31 : decode cX5_hasSigned 31 = .ok (.invokevirtual 119, 3) := by decide +kernel
theorem dX5_hasSigned_34 : decode cX5_hasSigned 34 = .ok (.ifCond .eq 7, 3) := by decide +kernel
theorem dX5_hasSigned_37 : decode cX5_hasSigned 37 = .ok (.iconst 1, 1) := by decide +kernel
theorem dX5_hasSigned_38 : decode cX5_hasSigned 38 = .ok (.goto 4, 3) := by decide +kernel
theorem dX5_hasSigned_41 : decode cX5_hasSigned 41 = .ok (.iconst 0, 1) := by decide +kernel
theorem dX5_hasSigned_42 : decode cX5_hasSigned 42 = .ok (.ireturn, 1) := by decide +kernel
theorem dX5_signatures_0 : decode cX5_signatures 0 = .ok (.iconst 0, 1) := by decide +kernel
theorem dX5_signatures_1 : decode cX5_signatures 1 = .ok (.istore_n 3, 1) := by decide +kernel
theorem dX5_signatures_2 : decode cX5_signatures 2 = .ok (.iconst 0, 1) := by decide +kernel
theorem dX5_signatures_3 : decode cX5_signatures 3 = .ok (.istore 4, 2) := by decide +kernel
theorem dX5_signatures_5 : decode cX5_signatures 5 = .ok (.iload 4, 2) := by decide +kernel
theorem dX5_signatures_7 : decode cX5_signatures 7 = .ok (.iconst 5, 1) := by decide +kernel
theorem dX5_signatures_8 : decode cX5_signatures 8 = .ok (.if_icmp .ge 28, 3) := by decide +kernel
theorem dX5_signatures_11 : decode cX5_signatures 11 = .ok (.iload_n 3, 1) := by decide +kernel
theorem dX5_signatures_12 : decode cX5_signatures 12 = .ok (.aload_n 0, 1) := by decide +kernel
theorem dX5_signatures_13 : decode cX5_signatures 13 = .ok (.iload 4, 2) := by decide +kernel
theorem dX5_signatures_15 : decode cX5_signatures 15 = .ok (.iload_n 1, 1) := by decide +kernel
theorem dX5_signatures_16 : decode cX5_signatures 16 = .ok (.iload_n 2, 1) := by decide +kernel
theorem dX5_signatures_17 : decode cX5_signatures 17 = .ok (.invokevirtual 119, 3) := by decide +kernel
theorem dX5_signatures_20 : decode cX5_signatures 20 = .ok (.ifCond .eq 7, 3) := by decide +kernel
theorem dX5_signatures_23 : decode cX5_signatures 23 = .ok (.iconst 1, 1) := by decide +kernel
theorem dX5_signatures_24 : decode cX5_signatures 24 = .ok (.goto 4, 3) := by decide +kernel
theorem dX5_signatures_27 : decode cX5_signatures 27 = .ok (.iconst 0, 1) := by decide +kernel
theorem dX5_signatures_28 : decode cX5_signatures 28 = .ok (.iadd, 1) := by decide +kernel
theorem dX5_signatures_29 : decode cX5_signatures 29 = .ok (.istore_n 3, 1) := by decide +kernel
theorem dX5_signatures_30 : decode cX5_signatures 30 = .ok (.iinc 4 1, 3) := by decide +kernel
theorem dX5_signatures_33 : decode cX5_signatures 33 = .ok (.goto (-28), 3) := by decide +kernel
theorem dX5_signatures_36 : decode cX5_signatures 36 = .ok (.iload_n 3, 1) := by decide +kernel
theorem dX5_signatures_37 : decode cX5_signatures 37 = .ok (.ireturn, 1) := by decide +kernel
theorem dX5_signaturesOn_0 : decode cX5_signaturesOn 0 = .ok (.aload_n 0, 1) := by decide +kernel
theorem dX5_signaturesOn_1 : decode cX5_signaturesOn 1 = .ok (.iload_n 1, 1) := by decide +kernel
theorem dX5_signaturesOn_2 : decode cX5_signaturesOn 2 = .ok (.iload_n 2, 1) := by decide +kernel
theorem dX5_signaturesOn_3 : decode cX5_signaturesOn 3 = .ok (.invokestatic 107, 3) := by decide +kernel
theorem dX5_signaturesOn_6 : decode cX5_signaturesOn 6 = .ok (.ifCond .eq 7, 3) := by decide +kernel
theorem dX5_signaturesOn_9 : decode cX5_signaturesOn 9 = .ok (.iconst 0, 1) := by decide +kernel
theorem dX5_signaturesOn_10 : decode cX5_signaturesOn 10 = .ok (.goto 4, 3) := by decide +kernel
theorem dX5_signaturesOn_13 : decode cX5_signaturesOn 13 = .ok (.iconst 1, 1) := by decide +kernel
theorem dX5_signaturesOn_14 : decode cX5_signaturesOn 14 = .ok (.invokevirtual 81, 3) := by decide +kernel
theorem dX5_signaturesOn_17 : decode cX5_signaturesOn 17 = .ok (.ifCond .eq 7, 3) := by decide +kernel
theorem dX5_signaturesOn_20 : decode cX5_signaturesOn 20 = .ok (.iconst 0, 1) := by decide +kernel
theorem dX5_signaturesOn_21 : decode cX5_signaturesOn 21 = .ok (.goto 9, 3) := by decide +kernel
theorem dX5_signaturesOn_24 : decode cX5_signaturesOn 24 = .ok (.aload_n 0, 1) := by decide +kernel
theorem dX5_signaturesOn_25 : decode cX5_signaturesOn 25 = .ok (.iload_n 1, 1) := by decide +kernel
theorem dX5_signaturesOn_26 : decode cX5_signaturesOn 26 = .ok (.iload_n 2, 1) := by decide +kernel
theorem dX5_signaturesOn_27 : decode cX5_signaturesOn 27 = .ok (.invokevirtual 200, 3) := by decide +kernel
theorem dX5_signaturesOn_30 : decode cX5_signaturesOn 30 = .ok (.ireturn, 1) := by decide +kernel
theorem dX5_missingOn_0 : decode cX5_missingOn 0 = .ok (.aload_n 0, 1) := by decide +kernel
theorem dX5_missingOn_1 : decode cX5_missingOn 1 = .ok (.iload_n 1, 1) := by decide +kernel
theorem dX5_missingOn_2 : decode cX5_missingOn 2 = .ok (.iload_n 2, 1) := by decide +kernel
theorem dX5_missingOn_3 : decode cX5_missingOn 3 = .ok (.invokestatic 107, 3) := by decide +kernel
theorem dX5_missingOn_6 : decode cX5_missingOn 6 = .ok (.ifCond .eq 7, 3) := by decide +kernel
theorem dX5_missingOn_9 : decode cX5_missingOn 9 = .ok (.iconst 0, 1) := by decide +kernel
theorem dX5_missingOn_10 : decode cX5_missingOn 10 = .ok (.goto 4, 3) := by decide +kernel
theorem dX5_missingOn_13 : decode cX5_missingOn 13 = .ok (.iconst 1, 1) := by decide +kernel
theorem dX5_missingOn_14 : decode cX5_missingOn 14 = .ok (.invokevirtual 81, 3) := by decide +kernel
theorem dX5_missingOn_17 : decode cX5_missingOn 17 = .ok (.ifCond .eq 7, 3) := by decide +kernel
theorem dX5_missingOn_20 : decode cX5_missingOn 20 = .ok (.iconst 0, 1) := by decide +kernel
theorem dX5_missingOn_21 : decode cX5_missingOn 21 = .ok (.goto 9, 3) := by decide +kernel
theorem dX5_missingOn_24 : decode cX5_missingOn 24 = .ok (.aload_n 0, 1) := by decide +kernel
theorem dX5_missingOn_25 : decode cX5_missingOn 25 = .ok (.iload_n 1, 1) := by decide +kernel
theorem dX5_missingOn_26 : decode cX5_missingOn 26 = .ok (.iload_n 2, 1) := by decide +kernel
theorem dX5_missingOn_27 : decode cX5_missingOn 27 = .ok (.invokevirtual 122, 3) := by decide +kernel
theorem dX5_missingOn_30 : decode cX5_missingOn 30 = .ok (.ireturn, 1) := by decide +kernel
theorem dX5_annexOf_0 : decode cX5_annexOf 0 = .ok (.aload_n 0, 1) := by decide +kernel
theorem dX5_annexOf_1 : decode cX5_annexOf 1 = .ok (.iload_n 1, 1) := by decide +kernel
theorem dX5_annexOf_2 : decode cX5_annexOf 2 = .ok (.invokestatic 38, 3) := by decide +kernel
theorem dX5_annexOf_5 : decode cX5_annexOf 5 = .ok (.ifCond .eq 7, 3) := by decide +kernel
theorem dX5_annexOf_8 : decode cX5_annexOf 8 = .ok (.iconst 0, 1) := by decide +kernel
theorem dX5_annexOf_9 : decode cX5_annexOf 9 = .ok (.goto 4, 3) := by decide +kernel
theorem dX5_annexOf_12 : decode cX5_annexOf 12 = .ok (.iconst 1, 1) := by decide +kernel
theorem dX5_annexOf_13 : decode cX5_annexOf 13 = .ok (.invokevirtual 81, 3) := by decide +kernel
theorem dX5_annexOf_16 : decode cX5_annexOf 16 = .ok (.ifCond .eq 7, 3) := by decide +kernel
theorem dX5_annexOf_19 : decode cX5_annexOf 19 = .ok (.iconst 0, 1) := by decide +kernel
theorem dX5_annexOf_20 : decode cX5_annexOf 20 = .ok (.goto 8, 3) := by decide +kernel
theorem dX5_annexOf_23 : decode cX5_annexOf 23 = .ok (.aload_n 0, 1) := by decide +kernel
theorem dX5_annexOf_24 : decode cX5_annexOf 24 = .ok (.iload_n 1, 1) := by decide +kernel
theorem dX5_annexOf_25 : decode cX5_annexOf 25 = .ok (.invokevirtual 100, 3) := by decide +kernel
theorem dX5_annexOf_28 : decode cX5_annexOf 28 = .ok (.ireturn, 1) := by decide +kernel
theorem dX5_taken_0 : decode cX5_taken 0 = .ok (.iconst 0, 1) := by decide +kernel
theorem dX5_taken_1 : decode cX5_taken 1 = .ok (.istore_n 2, 1) := by decide +kernel
theorem dX5_taken_2 : decode cX5_taken 2 = .ok (.iconst 0, 1) := by decide +kernel
theorem dX5_taken_3 : decode cX5_taken 3 = .ok (.istore_n 3, 1) := by decide +kernel
theorem dX5_taken_4 : decode cX5_taken 4 = .ok (.iload_n 3, 1) := by decide +kernel
theorem dX5_taken_5 : decode cX5_taken 5 = .ok (.aload_n 0, 1) := by decide +kernel
theorem dX5_taken_6 : decode cX5_taken 6 = .ok (.getfield 7, 3) := by decide +kernel
theorem dX5_taken_9 : decode cX5_taken 9 = .ok (.sipush 366, 3) := by decide +kernel
theorem dX5_taken_12 : decode cX5_taken 12 = .ok (.iaload, 1) := by decide +kernel
theorem dX5_taken_13 : decode cX5_taken 13 = .ok (.if_icmp .ge 26, 3) := by decide +kernel
theorem dX5_taken_16 : decode cX5_taken 16 = .ok (.iload_n 2, 1) := by decide +kernel
theorem dX5_taken_17 : decode cX5_taken 17 = .ok (.aload_n 0, 1) := by decide +kernel
theorem dX5_taken_18 : decode cX5_taken 18 = .ok (.iload_n 3, 1) := by decide +kernel
theorem dX5_taken_19 : decode cX5_taken 19 = .ok (.iload_n 1, 1) := by decide +kernel
theorem dX5_taken_20 : decode cX5_taken 20 = .ok (.invokevirtual 51, 3) := by decide +kernel
theorem dX5_taken_23 : decode cX5_taken 23 = .ok (.ifCond .eq 7, 3) := by decide +kernel
theorem dX5_taken_26 : decode cX5_taken 26 = .ok (.iconst 1, 1) := by decide +kernel
theorem dX5_taken_27 : decode cX5_taken 27 = .ok (.goto 4, 3) := by decide +kernel
theorem dX5_taken_30 : decode cX5_taken 30 = .ok (.iconst 0, 1) := by decide +kernel
theorem dX5_taken_31 : decode cX5_taken 31 = .ok (.iadd, 1) := by decide +kernel
theorem dX5_taken_32 : decode cX5_taken 32 = .ok (.istore_n 2, 1) := by decide +kernel
theorem dX5_taken_33 : decode cX5_taken 33 = .ok (.iinc 3 1, 3) := by decide +kernel
theorem dX5_taken_36 : decode cX5_taken 36 = .ok (.goto (-32), 3) := by decide +kernel
theorem dX5_taken_39 : decode cX5_taken 39 = .ok (.iload_n 2, 1) := by decide +kernel
theorem dX5_taken_40 : decode cX5_taken 40 = .ok (.ireturn, 1) := by decide +kernel
theorem dX5_recordedIn_0 : decode cX5_recordedIn 0 = .ok (.aload_n 0, 1) := by decide +kernel
theorem dX5_recordedIn_1 : decode cX5_recordedIn 1 = .ok (.iload_n 1, 1) := by decide +kernel
theorem dX5_recordedIn_2 : decode cX5_recordedIn 2 = .ok (.invokestatic 38, 3) := by decide +kernel
theorem dX5_recordedIn_5 : decode cX5_recordedIn 5 = .ok (.ifCond .eq 7, 3) := by decide +kernel
theorem dX5_recordedIn_8 : decode cX5_recordedIn 8 = .ok (.iconst 0, 1) := by decide +kernel
theorem dX5_recordedIn_9 : decode cX5_recordedIn 9 = .ok (.goto 4, 3) := by decide +kernel
theorem dX5_recordedIn_12 : decode cX5_recordedIn 12 = .ok (.iconst 1, 1) := by decide +kernel
theorem dX5_recordedIn_13 : decode cX5_recordedIn 13 = .ok (.invokevirtual 81, 3) := by decide +kernel
theorem dX5_recordedIn_16 : decode cX5_recordedIn 16 = .ok (.ifCond .eq 7, 3) := by decide +kernel
theorem dX5_recordedIn_19 : decode cX5_recordedIn 19 = .ok (.iconst 0, 1) := by decide +kernel
theorem dX5_recordedIn_20 : decode cX5_recordedIn 20 = .ok (.goto 8, 3) := by decide +kernel
theorem dX5_recordedIn_23 : decode cX5_recordedIn 23 = .ok (.aload_n 0, 1) := by decide +kernel
theorem dX5_recordedIn_24 : decode cX5_recordedIn 24 = .ok (.iload_n 1, 1) := by decide +kernel
theorem dX5_recordedIn_25 : decode cX5_recordedIn 25 = .ok (.invokevirtual 203, 3) := by decide +kernel
theorem dX5_recordedIn_28 : decode cX5_recordedIn 28 = .ok (.ireturn, 1) := by decide +kernel
theorem dX5_ready_0 : decode cX5_ready 0 = .ok (.iconst 0, 1) := by decide +kernel
theorem dX5_ready_1 : decode cX5_ready 1 = .ok (.istore_n 2, 1) := by decide +kernel
theorem dX5_ready_2 : decode cX5_ready 2 = .ok (.iconst 0, 1) := by decide +kernel
theorem dX5_ready_3 : decode cX5_ready 3 = .ok (.istore_n 3, 1) := by decide +kernel
theorem dX5_ready_4 : decode cX5_ready 4 = .ok (.iload_n 3, 1) := by decide +kernel
theorem dX5_ready_5 : decode cX5_ready 5 = .ok (.aload_n 0, 1) := by decide +kernel
theorem dX5_ready_6 : decode cX5_ready 6 = .ok (.getfield 7, 3) := by decide +kernel
theorem dX5_ready_9 : decode cX5_ready 9 = .ok (.sipush 366, 3) := by decide +kernel
theorem dX5_ready_12 : decode cX5_ready 12 = .ok (.iaload, 1) := by decide +kernel
theorem dX5_ready_13 : decode cX5_ready 13 = .ok (.if_icmp .ge 31, 3) := by decide +kernel
theorem dX5_ready_16 : decode cX5_ready 16 = .ok (.iload_n 2, 1) := by decide +kernel
theorem dX5_ready_17 : decode cX5_ready 17 = .ok (.aload_n 0, 1) := by decide +kernel
theorem dX5_ready_18 : decode cX5_ready 18 = .ok (.iload_n 3, 1) := by decide +kernel
theorem dX5_ready_19 : decode cX5_ready 19 = .ok (.iload_n 1, 1) := by decide +kernel
theorem dX5_ready_20 : decode cX5_ready 20 = .ok (.invokevirtual 185, 3) := by decide +kernel
theorem dX5_ready_23 : decode cX5_ready 23 = .ok (.ifCond .eq 12, 3) := by decide +kernel
theorem dX5_ready_26 : decode cX5_ready 26 = .ok (.aload_n 0, 1) := by decide +kernel
theorem dX5_ready_27 : decode cX5_ready 27 = .ok (.iload_n 3, 1) := by decide +kernel
theorem dX5_ready_28 : decode cX5_ready 28 = .ok (.iload_n 1, 1) := by decide +kernel
theorem dX5_ready_29 : decode cX5_ready 29 = .ok (.invokevirtual 59, 3) := by decide +kernel
theorem dX5_ready_32 : decode cX5_ready 32 = .ok (.goto 4, 3) := by decide +kernel
theorem dX5_ready_35 : decode cX5_ready 35 = .ok (.iconst 0, 1) := by decide +kernel
theorem dX5_ready_36 : decode cX5_ready 36 = .ok (.iadd, 1) := by decide +kernel
theorem dX5_ready_37 : decode cX5_ready 37 = .ok (.istore_n 2, 1) := by decide +kernel
theorem dX5_ready_38 : decode cX5_ready 38 = .ok (.iinc 3 1, 3) := by decide +kernel
theorem dX5_ready_41 : decode cX5_ready 41 = .ok (.goto (-37), 3) := by decide +kernel
theorem dX5_ready_44 : decode cX5_ready 44 = .ok (.iload_n 2, 1) := by decide +kernel
theorem dX5_ready_45 : decode cX5_ready 45 = .ok (.ireturn, 1) := by decide +kernel
theorem dX5_readyByClauses_0 : decode cX5_readyByClauses 0 = .ok (.aload_n 0, 1) := by decide +kernel
theorem dX5_readyByClauses_1 : decode cX5_readyByClauses 1 = .ok (.iload_n 1, 1) := by decide +kernel
theorem dX5_readyByClauses_2 : decode cX5_readyByClauses 2 = .ok (.invokestatic 38, 3) := by decide +kernel
theorem dX5_readyByClauses_5 : decode cX5_readyByClauses 5 = .ok (.ifCond .eq 7, 3) := by decide +kernel
theorem dX5_readyByClauses_8 : decode cX5_readyByClauses 8 = .ok (.iconst 0, 1) := by decide +kernel
theorem dX5_readyByClauses_9 : decode cX5_readyByClauses 9 = .ok (.goto 4, 3) := by decide +kernel
theorem dX5_readyByClauses_12 : decode cX5_readyByClauses 12 = .ok (.iconst 1, 1) := by decide +kernel
theorem dX5_readyByClauses_13 : decode cX5_readyByClauses 13 = .ok (.invokevirtual 81, 3) := by decide +kernel
theorem dX5_readyByClauses_16 : decode cX5_readyByClauses 16 = .ok (.ifCond .eq 7, 3) := by decide +kernel
theorem dX5_readyByClauses_19 : decode cX5_readyByClauses 19 = .ok (.iconst 0, 1) := by decide +kernel
theorem dX5_readyByClauses_20 : decode cX5_readyByClauses 20 = .ok (.goto 8, 3) := by decide +kernel
theorem dX5_readyByClauses_23 : decode cX5_readyByClauses 23 = .ok (.aload_n 0, 1) := by decide +kernel
theorem dX5_readyByClauses_24 : decode cX5_readyByClauses 24 = .ok (.iload_n 1, 1) := by decide +kernel
theorem dX5_readyByClauses_25 : decode cX5_readyByClauses 25 = .ok (.invokevirtual 206, 3) := by decide +kernel
theorem dX5_readyByClauses_28 : decode cX5_readyByClauses 28 = .ok (.ireturn, 1) := by decide +kernel
theorem dX5_readyByVoices_0 : decode cX5_readyByVoices 0 = .ok (.aload_n 0, 1) := by decide +kernel
theorem dX5_readyByVoices_1 : decode cX5_readyByVoices 1 = .ok (.iload_n 1, 1) := by decide +kernel
theorem dX5_readyByVoices_2 : decode cX5_readyByVoices 2 = .ok (.invokestatic 38, 3) := by decide +kernel
theorem dX5_readyByVoices_5 : decode cX5_readyByVoices 5 = .ok (.ifCond .eq 7, 3) := by decide +kernel
theorem dX5_readyByVoices_8 : decode cX5_readyByVoices 8 = .ok (.iconst 0, 1) := by decide +kernel
theorem dX5_readyByVoices_9 : decode cX5_readyByVoices 9 = .ok (.goto 4, 3) := by decide +kernel
theorem dX5_readyByVoices_12 : decode cX5_readyByVoices 12 = .ok (.iconst 1, 1) := by decide +kernel
theorem dX5_readyByVoices_13 : decode cX5_readyByVoices 13 = .ok (.invokevirtual 81, 3) := by decide +kernel
theorem dX5_readyByVoices_16 : decode cX5_readyByVoices 16 = .ok (.ifCond .eq 7, 3) := by decide +kernel
theorem dX5_readyByVoices_19 : decode cX5_readyByVoices 19 = .ok (.iconst 0, 1) := by decide +kernel
theorem dX5_readyByVoices_20 : decode cX5_readyByVoices 20 = .ok (.goto 8, 3) := by decide +kernel
theorem dX5_readyByVoices_23 : decode cX5_readyByVoices 23 = .ok (.aload_n 0, 1) := by decide +kernel
theorem dX5_readyByVoices_24 : decode cX5_readyByVoices 24 = .ok (.iload_n 1, 1) := by decide +kernel
theorem dX5_readyByVoices_25 : decode cX5_readyByVoices 25 = .ok (.invokevirtual 206, 3) := by decide +kernel
theorem dX5_readyByVoices_28 : decode cX5_readyByVoices 28 = .ok (.ireturn, 1) := by decide +kernel
theorem dX5_ratified_0 : decode cX5_ratified 0 = .ok (.aload_n 0, 1) := by decide +kernel
theorem dX5_ratified_1 : decode cX5_ratified 1 = .ok (.getfield 7, 3) := by decide +kernel
theorem dX5_ratified_4 : decode cX5_ratified 4 = .ok (.sipush 366, 3) := by decide +kernel
theorem dX5_ratified_7 : decode cX5_ratified 7 = .ok (.iaload, 1) := by decide +kernel
theorem dX5_ratified_8 : decode cX5_ratified 8 = .ok (.ifCond .le 7, 3) := by decide +kernel
theorem dX5_ratified_11 : decode cX5_ratified 11 = .ok (.iconst 1, 1) := by decide +kernel
theorem dX5_ratified_12 : decode cX5_ratified 12 = .ok (.goto 4, 3) := by decide +kernel
theorem dX5_ratified_15 : decode cX5_ratified 15 = .ok (.iconst 0, 1) := by decide +kernel
theorem dX5_ratified_16 : decode cX5_ratified 16 = .ok (.istore_n 2, 1) := by decide +kernel
theorem dX5_ratified_17 : decode cX5_ratified 17 = .ok (.iconst 0, 1) := by decide +kernel
theorem dX5_ratified_18 : decode cX5_ratified 18 = .ok (.istore_n 3, 1) := by decide +kernel
theorem dX5_ratified_19 : decode cX5_ratified 19 = .ok (.iload_n 3, 1) := by decide +kernel
theorem dX5_ratified_20 : decode cX5_ratified 20 = .ok (.iconst 4, 1) := by decide +kernel
theorem dX5_ratified_21 : decode cX5_ratified 21 = .ok (.if_icmp .ge 45, 3) := by decide +kernel
theorem dX5_ratified_24 : decode cX5_ratified 24 = .ok (.iload_n 2, 1) := by decide +kernel
theorem dX5_ratified_25 : decode cX5_ratified 25 = .ok (.ifCond .eq 33, 3) := by decide +kernel
theorem dX5_ratified_28 : decode cX5_ratified 28 = .ok (.aload_n 0, 1) := by decide +kernel
theorem dX5_ratified_29 : decode cX5_ratified 29 = .ok (.iload_n 3, 1) := by decide +kernel
theorem dX5_ratified_30 : decode cX5_ratified 30 = .ok (.invokevirtual 194, 3) := by decide +kernel
theorem dX5_ratified_33 : decode cX5_ratified 33 = .ok (.ifCond .eq 21, 3) := by decide +kernel
theorem dX5_ratified_36 : decode cX5_ratified 36 = .ok (.aload_n 0, 1) := by decide +kernel
theorem dX5_ratified_37 : decode cX5_ratified 37 = .ok (.iload_n 3, 1) := by decide +kernel
theorem dX5_ratified_38 : decode cX5_ratified 38 = .ok (.iload_n 1, 1) := by decide +kernel
theorem dX5_ratified_39 : decode cX5_ratified 39 = .ok (.invokevirtual 110, 3) := by decide +kernel
theorem dX5_ratified_42 : decode cX5_ratified 42 = .ok (.ifCond .eq 16, 3) := by decide +kernel
theorem dX5_ratified_45 : decode cX5_ratified 45 = .ok (.aload_n 0, 1) := by decide +kernel
theorem dX5_ratified_46 : decode cX5_ratified 46 = .ok (.iload_n 3, 1) := by decide +kernel
theorem dX5_ratified_47 : decode cX5_ratified 47 = .ok (.iload_n 1, 1) := by decide +kernel
theorem dX5_ratified_48 : decode cX5_ratified 48 = .ok (.invokevirtual 122, 3) := by decide +kernel
theorem dX5_ratified_51 : decode cX5_ratified 51 = .ok (.ifCond .ne 7, 3) := by decide +kernel
theorem dX5_ratified_54 : decode cX5_ratified 54 = .ok (.iconst 1, 1) := by decide +kernel
theorem dX5_ratified_55 : decode cX5_ratified 55 = .ok (.goto 4, 3) := by decide +kernel
theorem dX5_ratified_58 : decode cX5_ratified 58 = .ok (.iconst 0, 1) := by decide +kernel
theorem dX5_ratified_59 : decode cX5_ratified 59 = .ok (.istore_n 2, 1) := by decide +kernel
theorem dX5_ratified_60 : decode cX5_ratified 60 = .ok (.iinc 3 1, 3) := by decide +kernel
theorem dX5_ratified_63 : decode cX5_ratified 63 = .ok (.goto (-44), 3) := by decide +kernel
theorem dX5_ratified_66 : decode cX5_ratified 66 = .ok (.iload_n 2, 1) := by decide +kernel
theorem dX5_ratified_67 : decode cX5_ratified 67 = .ok (.ireturn, 1) := by decide +kernel
theorem dX5_isRatified_0 : decode cX5_isRatified 0 = .ok (.aload_n 0, 1) := by decide +kernel
theorem dX5_isRatified_1 : decode cX5_isRatified 1 = .ok (.iload_n 1, 1) := by decide +kernel
theorem dX5_isRatified_2 : decode cX5_isRatified 2 = .ok (.invokestatic 38, 3) := by decide +kernel
theorem dX5_isRatified_5 : decode cX5_isRatified 5 = .ok (.ifCond .eq 7, 3) := by decide +kernel
theorem dX5_isRatified_8 : decode cX5_isRatified 8 = .ok (.iconst 0, 1) := by decide +kernel
theorem dX5_isRatified_9 : decode cX5_isRatified 9 = .ok (.goto 4, 3) := by decide +kernel
theorem dX5_isRatified_12 : decode cX5_isRatified 12 = .ok (.iconst 1, 1) := by decide +kernel
theorem dX5_isRatified_13 : decode cX5_isRatified 13 = .ok (.invokevirtual 81, 3) := by decide +kernel
theorem dX5_isRatified_16 : decode cX5_isRatified 16 = .ok (.ifCond .ne 15, 3) := by decide +kernel
theorem dX5_isRatified_19 : decode cX5_isRatified 19 = .ok (.aload_n 0, 1) := by decide +kernel
theorem dX5_isRatified_20 : decode cX5_isRatified 20 = .ok (.iload_n 1, 1) := by decide +kernel
theorem dX5_isRatified_21 : decode cX5_isRatified 21 = .ok (.invokevirtual 209, 3) := by decide +kernel
theorem dX5_isRatified_24 : decode cX5_isRatified 24 = .ok (.ifCond .eq 7, 3) := by decide +kernel
theorem dX5_isRatified_27 : decode cX5_isRatified 27 = .ok (.iconst 1, 1) := by decide +kernel
theorem dX5_isRatified_28 : decode cX5_isRatified 28 = .ok (.goto 4, 3) := by decide +kernel
theorem dX5_isRatified_31 : decode cX5_isRatified 31 = .ok (.iconst 0, 1) := by decide +kernel
theorem dX5_isRatified_32 : decode cX5_isRatified 32 = .ok (.ireturn, 1) := by decide +kernel
theorem dX5_misfits_0 : decode cX5_misfits 0 = .ok (.iconst 0, 1) := by decide +kernel
theorem dX5_misfits_1 : decode cX5_misfits 1 = .ok (.istore_n 2, 1) := by decide +kernel
theorem dX5_misfits_2 : decode cX5_misfits 2 = .ok (.iconst 0, 1) := by decide +kernel
theorem dX5_misfits_3 : decode cX5_misfits 3 = .ok (.istore_n 3, 1) := by decide +kernel
theorem dX5_misfits_4 : decode cX5_misfits 4 = .ok (.iload_n 3, 1) := by decide +kernel
theorem dX5_misfits_5 : decode cX5_misfits 5 = .ok (.aload_n 0, 1) := by decide +kernel
theorem dX5_misfits_6 : decode cX5_misfits 6 = .ok (.getfield 7, 3) := by decide +kernel
theorem dX5_misfits_9 : decode cX5_misfits 9 = .ok (.sipush 366, 3) := by decide +kernel
theorem dX5_misfits_12 : decode cX5_misfits 12 = .ok (.iaload, 1) := by decide +kernel
theorem dX5_misfits_13 : decode cX5_misfits 13 = .ok (.if_icmp .ge 35, 3) := by decide +kernel
theorem dX5_misfits_16 : decode cX5_misfits 16 = .ok (.iload_n 2, 1) := by decide +kernel
theorem dX5_misfits_17 : decode cX5_misfits 17 = .ok (.aload_n 0, 1) := by decide +kernel
theorem dX5_misfits_18 : decode cX5_misfits 18 = .ok (.iload_n 3, 1) := by decide +kernel
theorem dX5_misfits_19 : decode cX5_misfits 19 = .ok (.iload_n 1, 1) := by decide +kernel
theorem dX5_misfits_20 : decode cX5_misfits 20 = .ok (.invokevirtual 48, 3) := by decide +kernel
theorem dX5_misfits_23 : decode cX5_misfits 23 = .ok (.ifCond .le 16, 3) := by decide +kernel
theorem dX5_misfits_26 : decode cX5_misfits 26 = .ok (.aload_n 0, 1) := by decide +kernel
theorem dX5_misfits_27 : decode cX5_misfits 27 = .ok (.iload_n 3, 1) := by decide +kernel
theorem dX5_misfits_28 : decode cX5_misfits 28 = .ok (.iload_n 1, 1) := by decide +kernel
theorem dX5_misfits_29 : decode cX5_misfits 29 = .ok (.invokevirtual 62, 3) := by decide +kernel
theorem dX5_misfits_32 : decode cX5_misfits 32 = .ok (.ifCond .ne 7, 3) := by decide +kernel
theorem dX5_misfits_35 : decode cX5_misfits 35 = .ok (.iconst 1, 1) := by decide +kernel
theorem dX5_misfits_36 : decode cX5_misfits 36 = .ok (.goto 4, 3) := by decide +kernel
theorem dX5_misfits_39 : decode cX5_misfits 39 = .ok (.iconst 0, 1) := by decide +kernel
theorem dX5_misfits_40 : decode cX5_misfits 40 = .ok (.iadd, 1) := by decide +kernel
theorem dX5_misfits_41 : decode cX5_misfits 41 = .ok (.istore_n 2, 1) := by decide +kernel
theorem dX5_misfits_42 : decode cX5_misfits 42 = .ok (.iinc 3 1, 3) := by decide +kernel
theorem dX5_misfits_45 : decode cX5_misfits 45 = .ok (.goto (-41), 3) := by decide +kernel
theorem dX5_misfits_48 : decode cX5_misfits 48 = .ok (.iload_n 2, 1) := by decide +kernel
theorem dX5_misfits_49 : decode cX5_misfits 49 = .ok (.ireturn, 1) := by decide +kernel
theorem dX5_misfitsIn_0 : decode cX5_misfitsIn 0 = .ok (.aload_n 0, 1) := by decide +kernel
theorem dX5_misfitsIn_1 : decode cX5_misfitsIn 1 = .ok (.iload_n 1, 1) := by decide +kernel
theorem dX5_misfitsIn_2 : decode cX5_misfitsIn 2 = .ok (.invokestatic 38, 3) := by decide +kernel
theorem dX5_misfitsIn_5 : decode cX5_misfitsIn 5 = .ok (.ifCond .eq 7, 3) := by decide +kernel
theorem dX5_misfitsIn_8 : decode cX5_misfitsIn 8 = .ok (.iconst 0, 1) := by decide +kernel
theorem dX5_misfitsIn_9 : decode cX5_misfitsIn 9 = .ok (.goto 4, 3) := by decide +kernel
theorem dX5_misfitsIn_12 : decode cX5_misfitsIn 12 = .ok (.iconst 1, 1) := by decide +kernel
theorem dX5_misfitsIn_13 : decode cX5_misfitsIn 13 = .ok (.invokevirtual 81, 3) := by decide +kernel
theorem dX5_misfitsIn_16 : decode cX5_misfitsIn 16 = .ok (.ifCond .eq 7, 3) := by decide +kernel
theorem dX5_misfitsIn_19 : decode cX5_misfitsIn 19 = .ok (.iconst 0, 1) := by decide +kernel
theorem dX5_misfitsIn_20 : decode cX5_misfitsIn 20 = .ok (.goto 8, 3) := by decide +kernel
theorem dX5_misfitsIn_23 : decode cX5_misfitsIn 23 = .ok (.aload_n 0, 1) := by decide +kernel
theorem dX5_misfitsIn_24 : decode cX5_misfitsIn 24 = .ok (.iload_n 1, 1) := by decide +kernel
theorem dX5_misfitsIn_25 : decode cX5_misfitsIn 25 = .ok (.invokevirtual 212, 3) := by decide +kernel
theorem dX5_misfitsIn_28 : decode cX5_misfitsIn 28 = .ok (.ireturn, 1) := by decide +kernel
theorem dX5_session_0 : decode cX5_session 0 = .ok (.aload_n 0, 1) := by decide +kernel
theorem dX5_session_1 : decode cX5_session 1 = .ok (.aload_n 0, 1) := by decide +kernel
theorem dX5_session_2 : decode cX5_session 2 = .ok (.getfield 7, 3) := by decide +kernel
theorem dX5_session_5 : decode cX5_session 5 = .ok (.sipush 367, 3) := by decide +kernel
theorem dX5_session_8 : decode cX5_session 8 = .ok (.iaload, 1) := by decide +kernel
theorem dX5_session_9 : decode cX5_session 9 = .ok (.invokevirtual 167, 3) := by decide +kernel
theorem dX5_session_12 : decode cX5_session 12 = .ok (.ireturn, 1) := by decide +kernel
theorem dX5_recordings_0 : decode cX5_recordings 0 = .ok (.aload_n 0, 1) := by decide +kernel
theorem dX5_recordings_1 : decode cX5_recordings 1 = .ok (.aload_n 0, 1) := by decide +kernel
theorem dX5_recordings_2 : decode cX5_recordings 2 = .ok (.getfield 7, 3) := by decide +kernel
theorem dX5_recordings_5 : decode cX5_recordings 5 = .ok (.sipush 368, 3) := by decide +kernel
theorem dX5_recordings_8 : decode cX5_recordings 8 = .ok (.iaload, 1) := by decide +kernel
theorem dX5_recordings_9 : decode cX5_recordings 9 = .ok (.invokevirtual 167, 3) := by decide +kernel
theorem dX5_recordings_12 : decode cX5_recordings 12 = .ok (.ireturn, 1) := by decide +kernel
theorem dX5_wiped_0 : decode cX5_wiped 0 = .ok (.aload_n 0, 1) := by decide +kernel
theorem dX5_wiped_1 : decode cX5_wiped 1 = .ok (.aload_n 0, 1) := by decide +kernel
theorem dX5_wiped_2 : decode cX5_wiped 2 = .ok (.getfield 7, 3) := by decide +kernel
theorem dX5_wiped_5 : decode cX5_wiped 5 = .ok (.sipush 369, 3) := by decide +kernel
theorem dX5_wiped_8 : decode cX5_wiped 8 = .ok (.iaload, 1) := by decide +kernel
theorem dX5_wiped_9 : decode cX5_wiped 9 = .ok (.invokevirtual 167, 3) := by decide +kernel
theorem dX5_wiped_12 : decode cX5_wiped 12 = .ok (.ireturn, 1) := by decide +kernel
theorem dX5_mixes_0 : decode cX5_mixes 0 = .ok (.aload_n 0, 1) := by decide +kernel
theorem dX5_mixes_1 : decode cX5_mixes 1 = .ok (.aload_n 0, 1) := by decide +kernel
theorem dX5_mixes_2 : decode cX5_mixes 2 = .ok (.getfield 7, 3) := by decide +kernel
theorem dX5_mixes_5 : decode cX5_mixes 5 = .ok (.sipush 370, 3) := by decide +kernel
theorem dX5_mixes_8 : decode cX5_mixes 8 = .ok (.iaload, 1) := by decide +kernel
theorem dX5_mixes_9 : decode cX5_mixes 9 = .ok (.invokevirtual 167, 3) := by decide +kernel
theorem dX5_mixes_12 : decode cX5_mixes 12 = .ok (.ireturn, 1) := by decide +kernel
theorem dX5_needed_0 : decode cX5_needed 0 = .ok (.aload_n 0, 1) := by decide +kernel
theorem dX5_needed_1 : decode cX5_needed 1 = .ok (.iload_n 1, 1) := by decide +kernel
theorem dX5_needed_2 : decode cX5_needed 2 = .ok (.iload_n 2, 1) := by decide +kernel
theorem dX5_needed_3 : decode cX5_needed 3 = .ok (.invokevirtual 176, 3) := by decide +kernel
theorem dX5_needed_6 : decode cX5_needed 6 = .ok (.ineg, 1) := by decide +kernel
theorem dX5_needed_7 : decode cX5_needed 7 = .ok (.istore_n 3, 1) := by decide +kernel
theorem dX5_needed_8 : decode cX5_needed 8 = .ok (.iload_n 3, 1) := by decide +kernel
theorem dX5_needed_9 : decode cX5_needed 9 = .ok (.ifCond .gt 7, 3) := by decide +kernel
theorem dX5_needed_12 : decode cX5_needed 12 = .ok (.iconst 0, 1) := by decide +kernel
theorem dX5_needed_13 : decode cX5_needed 13 = .ok (.goto 18, 3) := by decide +kernel
theorem dX5_needed_16 : decode cX5_needed 16 = .ok (.iload_n 3, 1) := by decide +kernel
theorem dX5_needed_17 : decode cX5_needed 17 = .ok (.aload_n 0, 1) := by decide +kernel
theorem dX5_needed_18 : decode cX5_needed 18 = .ok (.iload_n 1, 1) := by decide +kernel
theorem dX5_needed_19 : decode cX5_needed 19 = .ok (.iload_n 2, 1) := by decide +kernel
theorem dX5_needed_20 : decode cX5_needed 20 = .ok (.invokevirtual 48, 3) := by decide +kernel
theorem dX5_needed_23 : decode cX5_needed 23 = .ok (.if_icmp .ge 7, 3) := by decide +kernel
theorem dX5_needed_26 : decode cX5_needed 26 = .ok (.iload_n 3, 1) := by decide +kernel
theorem dX5_needed_27 : decode cX5_needed 27 = .ok (.goto 4, 3) := by decide +kernel
theorem dX5_needed_30 : decode cX5_needed 30 = .ok (.iconst (-1), 1) := by decide +kernel
theorem dX5_needed_31 : decode cX5_needed 31 = .ok (.ireturn, 1) := by decide +kernel
theorem dX5_leastAnnex_0 : decode cX5_leastAnnex 0 = .ok (.aload_n 0, 1) := by decide +kernel
theorem dX5_leastAnnex_1 : decode cX5_leastAnnex 1 = .ok (.iload_n 1, 1) := by decide +kernel
theorem dX5_leastAnnex_2 : decode cX5_leastAnnex 2 = .ok (.iload_n 2, 1) := by decide +kernel
theorem dX5_leastAnnex_3 : decode cX5_leastAnnex 3 = .ok (.invokevirtual 173, 3) := by decide +kernel
theorem dX5_leastAnnex_6 : decode cX5_leastAnnex 6 = .ok (.istore_n 3, 1) := by decide +kernel
theorem dX5_leastAnnex_7 : decode cX5_leastAnnex 7 = .ok (.aload_n 0, 1) := by decide +kernel
theorem dX5_leastAnnex_8 : decode cX5_leastAnnex 8 = .ok (.iload_n 3, 1) := by decide +kernel
theorem dX5_leastAnnex_9 : decode cX5_leastAnnex 9 = .ok (.ifCond .le 7, 3) := by decide +kernel
theorem dX5_leastAnnex_12 : decode cX5_leastAnnex 12 = .ok (.iload_n 3, 1) := by decide +kernel
theorem dX5_leastAnnex_13 : decode cX5_leastAnnex 13 = .ok (.goto 17, 3) := by decide +kernel
theorem dX5_leastAnnex_16 : decode cX5_leastAnnex 16 = .ok (.aload_n 0, 1) := by decide +kernel
theorem dX5_leastAnnex_17 : decode cX5_leastAnnex 17 = .ok (.iload_n 1, 1) := by decide +kernel
theorem dX5_leastAnnex_18 : decode cX5_leastAnnex 18 = .ok (.iload_n 2, 1) := by decide +kernel
theorem dX5_leastAnnex_19 : decode cX5_leastAnnex 19 = .ok (.invokevirtual 215, 3) := by decide +kernel
theorem dX5_leastAnnex_22 : decode cX5_leastAnnex 22 = .ok (.ifCond .ge 7, 3) := by decide +kernel
theorem dX5_leastAnnex_25 : decode cX5_leastAnnex 25 = .ok (.iconst 2, 1) := by decide +kernel
theorem dX5_leastAnnex_26 : decode cX5_leastAnnex 26 = .ok (.goto 4, 3) := by decide +kernel
theorem dX5_leastAnnex_29 : decode cX5_leastAnnex 29 = .ok (.iconst 0, 1) := by decide +kernel
theorem dX5_leastAnnex_30 : decode cX5_leastAnnex 30 = .ok (.invokevirtual 81, 3) := by decide +kernel
theorem dX5_leastAnnex_33 : decode cX5_leastAnnex 33 = .ok (.ifCond .eq 7, 3) := by decide +kernel
theorem dX5_leastAnnex_36 : decode cX5_leastAnnex 36 = .ok (.iconst 0, 1) := by decide +kernel
theorem dX5_leastAnnex_37 : decode cX5_leastAnnex 37 = .ok (.goto 9, 3) := by decide +kernel
theorem dX5_leastAnnex_40 : decode cX5_leastAnnex 40 = .ok (.aload_n 0, 1) := by decide +kernel
theorem dX5_leastAnnex_41 : decode cX5_leastAnnex 41 = .ok (.iload_n 1, 1) := by decide +kernel
theorem dX5_leastAnnex_42 : decode cX5_leastAnnex 42 = .ok (.iload_n 2, 1) := by decide +kernel
theorem dX5_leastAnnex_43 : decode cX5_leastAnnex 43 = .ok (.invokevirtual 215, 3) := by decide +kernel
theorem dX5_leastAnnex_46 : decode cX5_leastAnnex 46 = .ok (.ireturn, 1) := by decide +kernel
theorem dX5_longest_0 : decode cX5_longest 0 = .ok (.aload_n 0, 1) := by decide +kernel
theorem dX5_longest_1 : decode cX5_longest 1 = .ok (.getfield 7, 3) := by decide +kernel
theorem dX5_longest_4 : decode cX5_longest 4 = .ok (.iload_n 1, 1) := by decide +kernel
theorem dX5_longest_5 : decode cX5_longest 5 = .ok (.iconst 2, 1) := by decide +kernel
theorem dX5_longest_6 : decode cX5_longest 6 = .ok (.invokestatic 44, 3) := by decide +kernel
theorem dX5_longest_9 : decode cX5_longest 9 = .ok (.iaload, 1) := by decide +kernel
theorem dX5_longest_10 : decode cX5_longest 10 = .ok (.istore_n 2, 1) := by decide +kernel
theorem dX5_longest_11 : decode cX5_longest 11 = .ok (.iconst 0, 1) := by decide +kernel
theorem dX5_longest_12 : decode cX5_longest 12 = .ok (.istore_n 3, 1) := by decide +kernel
theorem dX5_longest_13 : decode cX5_longest 13 = .ok (.iload_n 3, 1) := by decide +kernel
theorem dX5_longest_14 : decode cX5_longest 14 = .ok (.iconst 3, 1) := by decide +kernel
theorem dX5_longest_15 : decode cX5_longest 15 = .ok (.if_icmp .ge 41, 3) := by decide +kernel
theorem dX5_longest_18 : decode cX5_longest 18 = .ok (.aload_n 0, 1) := by decide +kernel
theorem dX5_longest_19 : decode cX5_longest 19 = .ok (.getfield 7, 3) := by decide +kernel
theorem dX5_longest_22 : decode cX5_longest 22 = .ok (.iload_n 1, 1) := by decide +kernel
theorem dX5_longest_23 : decode cX5_longest 23 = .ok (.iconst 2, 1) := by decide +kernel
theorem dX5_longest_24 : decode cX5_longest 24 = .ok (.invokestatic 44, 3) := by decide +kernel
theorem dX5_longest_27 : decode cX5_longest 27 = .ok (.iaload, 1) := by decide +kernel
theorem dX5_longest_28 : decode cX5_longest 28 = .ok (.aload_n 0, 1) := by decide +kernel
theorem dX5_longest_29 : decode cX5_longest 29 = .ok (.iload_n 1, 1) := by decide +kernel
theorem dX5_longest_30 : decode cX5_longest 30 = .ok (.iload_n 3, 1) := by decide +kernel
theorem dX5_longest_31 : decode cX5_longest 31 = .ok (.invokevirtual 48, 3) := by decide +kernel
theorem dX5_longest_34 : decode cX5_longest 34 = .ok (.isub, 1) := by decide +kernel
theorem dX5_longest_35 : decode cX5_longest 35 = .ok (.istore 4, 2) := by decide +kernel
theorem dX5_longest_37 : decode cX5_longest 37 = .ok (.iload 4, 2) := by decide +kernel
theorem dX5_longest_39 : decode cX5_longest 39 = .ok (.iload_n 2, 1) := by decide +kernel
theorem dX5_longest_40 : decode cX5_longest 40 = .ok (.if_icmp .ge 8, 3) := by decide +kernel
theorem dX5_longest_43 : decode cX5_longest 43 = .ok (.iload 4, 2) := by decide +kernel
theorem dX5_longest_45 : decode cX5_longest 45 = .ok (.goto 4, 3) := by decide +kernel
theorem dX5_longest_48 : decode cX5_longest 48 = .ok (.iload_n 2, 1) := by decide +kernel
theorem dX5_longest_49 : decode cX5_longest 49 = .ok (.istore_n 2, 1) := by decide +kernel
theorem dX5_longest_50 : decode cX5_longest 50 = .ok (.iinc 3 1, 3) := by decide +kernel
theorem dX5_longest_53 : decode cX5_longest 53 = .ok (.goto (-40), 3) := by decide +kernel
theorem dX5_longest_56 : decode cX5_longest 56 = .ok (.iload_n 2, 1) := by decide +kernel
theorem dX5_longest_57 : decode cX5_longest 57 = .ok (.ifCond .ge 7, 3) := by decide +kernel
theorem dX5_longest_60 : decode cX5_longest 60 = .ok (.iconst (-1), 1) := by decide +kernel
theorem dX5_longest_61 : decode cX5_longest 61 = .ok (.goto 15, 3) := by decide +kernel
theorem dX5_longest_64 : decode cX5_longest 64 = .ok (.iload_n 2, 1) := by decide +kernel
theorem dX5_longest_65 : decode cX5_longest 65 = .ok (.bipush 20, 2) := by decide +kernel
theorem dX5_longest_67 : decode cX5_longest 67 = .ok (.if_icmp .le 8, 3) := by decide +kernel
theorem dX5_longest_70 : decode cX5_longest 70 = .ok (.bipush 20, 2) := by decide +kernel
theorem dX5_longest_72 : decode cX5_longest 72 = .ok (.goto 4, 3) := by decide +kernel
theorem dX5_longest_75 : decode cX5_longest 75 = .ok (.iload_n 2, 1) := by decide +kernel
theorem dX5_longest_76 : decode cX5_longest 76 = .ok (.ireturn, 1) := by decide +kernel
theorem dX5_longestSigh_0 : decode cX5_longestSigh 0 = .ok (.aload_n 0, 1) := by decide +kernel
theorem dX5_longestSigh_1 : decode cX5_longestSigh 1 = .ok (.aload_n 0, 1) := by decide +kernel
theorem dX5_longestSigh_2 : decode cX5_longestSigh 2 = .ok (.iload_n 1, 1) := by decide +kernel
theorem dX5_longestSigh_3 : decode cX5_longestSigh 3 = .ok (.invokevirtual 34, 3) := by decide +kernel
theorem dX5_longestSigh_6 : decode cX5_longestSigh 6 = .ok (.ifCond .ne 7, 3) := by decide +kernel
theorem dX5_longestSigh_9 : decode cX5_longestSigh 9 = .ok (.iconst 1, 1) := by decide +kernel
theorem dX5_longestSigh_10 : decode cX5_longestSigh 10 = .ok (.goto 16, 3) := by decide +kernel
theorem dX5_longestSigh_13 : decode cX5_longestSigh 13 = .ok (.aload_n 0, 1) := by decide +kernel
theorem dX5_longestSigh_14 : decode cX5_longestSigh 14 = .ok (.iload_n 1, 1) := by decide +kernel
theorem dX5_longestSigh_15 : decode cX5_longestSigh 15 = .ok (.invokevirtual 218, 3) := by decide +kernel
theorem dX5_longestSigh_18 : decode cX5_longestSigh 18 = .ok (.ifCond .ge 7, 3) := by decide +kernel
theorem dX5_longestSigh_21 : decode cX5_longestSigh 21 = .ok (.iconst 2, 1) := by decide +kernel
theorem dX5_longestSigh_22 : decode cX5_longestSigh 22 = .ok (.goto 4, 3) := by decide +kernel
theorem dX5_longestSigh_25 : decode cX5_longestSigh 25 = .ok (.iconst 0, 1) := by decide +kernel
theorem dX5_longestSigh_26 : decode cX5_longestSigh 26 = .ok (.invokevirtual 81, 3) := by decide +kernel
theorem dX5_longestSigh_29 : decode cX5_longestSigh 29 = .ok (.ifCond .eq 7, 3) := by decide +kernel
theorem dX5_longestSigh_32 : decode cX5_longestSigh 32 = .ok (.iconst 0, 1) := by decide +kernel
theorem dX5_longestSigh_33 : decode cX5_longestSigh 33 = .ok (.goto 8, 3) := by decide +kernel
theorem dX5_longestSigh_36 : decode cX5_longestSigh 36 = .ok (.aload_n 0, 1) := by decide +kernel
theorem dX5_longestSigh_37 : decode cX5_longestSigh 37 = .ok (.iload_n 1, 1) := by decide +kernel
theorem dX5_longestSigh_38 : decode cX5_longestSigh 38 = .ok (.invokevirtual 218, 3) := by decide +kernel
theorem dX5_longestSigh_41 : decode cX5_longestSigh 41 = .ok (.ireturn, 1) := by decide +kernel
theorem dX5_nextOne_0 : decode cX5_nextOne 0 = .ok (.iconst (-1), 1) := by decide +kernel
theorem dX5_nextOne_1 : decode cX5_nextOne 1 = .ok (.istore_n 2, 1) := by decide +kernel
theorem dX5_nextOne_2 : decode cX5_nextOne 2 = .ok (.iconst 0, 1) := by decide +kernel
theorem dX5_nextOne_3 : decode cX5_nextOne 3 = .ok (.istore_n 3, 1) := by decide +kernel
theorem dX5_nextOne_4 : decode cX5_nextOne 4 = .ok (.iload_n 3, 1) := by decide +kernel
theorem dX5_nextOne_5 : decode cX5_nextOne 5 = .ok (.aload_n 0, 1) := by decide +kernel
theorem dX5_nextOne_6 : decode cX5_nextOne 6 = .ok (.getfield 7, 3) := by decide +kernel
theorem dX5_nextOne_9 : decode cX5_nextOne 9 = .ok (.sipush 366, 3) := by decide +kernel
theorem dX5_nextOne_12 : decode cX5_nextOne 12 = .ok (.iaload, 1) := by decide +kernel
theorem dX5_nextOne_13 : decode cX5_nextOne 13 = .ok (.if_icmp .ge 43, 3) := by decide +kernel
theorem dX5_nextOne_16 : decode cX5_nextOne 16 = .ok (.aload_n 0, 1) := by decide +kernel
theorem dX5_nextOne_17 : decode cX5_nextOne 17 = .ok (.iload_n 3, 1) := by decide +kernel
theorem dX5_nextOne_18 : decode cX5_nextOne 18 = .ok (.iload_n 1, 1) := by decide +kernel
theorem dX5_nextOne_19 : decode cX5_nextOne 19 = .ok (.invokevirtual 68, 3) := by decide +kernel
theorem dX5_nextOne_22 : decode cX5_nextOne 22 = .ok (.ifCond .ne 26, 3) := by decide +kernel
theorem dX5_nextOne_25 : decode cX5_nextOne 25 = .ok (.iload_n 2, 1) := by decide +kernel
theorem dX5_nextOne_26 : decode cX5_nextOne 26 = .ok (.ifCond .lt 18, 3) := by decide +kernel
theorem dX5_nextOne_29 : decode cX5_nextOne 29 = .ok (.aload_n 0, 1) := by decide +kernel
theorem dX5_nextOne_30 : decode cX5_nextOne 30 = .ok (.iload_n 3, 1) := by decide +kernel
theorem dX5_nextOne_31 : decode cX5_nextOne 31 = .ok (.iload_n 1, 1) := by decide +kernel
theorem dX5_nextOne_32 : decode cX5_nextOne 32 = .ok (.invokevirtual 59, 3) := by decide +kernel
theorem dX5_nextOne_35 : decode cX5_nextOne 35 = .ok (.aload_n 0, 1) := by decide +kernel
theorem dX5_nextOne_36 : decode cX5_nextOne 36 = .ok (.iload_n 2, 1) := by decide +kernel
theorem dX5_nextOne_37 : decode cX5_nextOne 37 = .ok (.iload_n 1, 1) := by decide +kernel
theorem dX5_nextOne_38 : decode cX5_nextOne 38 = .ok (.invokevirtual 59, 3) := by decide +kernel
theorem dX5_nextOne_41 : decode cX5_nextOne 41 = .ok (.if_icmp .le 7, 3) := by decide +kernel
theorem dX5_nextOne_44 : decode cX5_nextOne 44 = .ok (.iload_n 3, 1) := by decide +kernel
theorem dX5_nextOne_45 : decode cX5_nextOne 45 = .ok (.goto 4, 3) := by decide +kernel
theorem dX5_nextOne_48 : decode cX5_nextOne 48 = .ok (.iload_n 2, 1) := by decide +kernel
theorem dX5_nextOne_49 : decode cX5_nextOne 49 = .ok (.istore_n 2, 1) := by decide +kernel
theorem dX5_nextOne_50 : decode cX5_nextOne 50 = .ok (.iinc 3 1, 3) := by decide +kernel
theorem dX5_nextOne_53 : decode cX5_nextOne 53 = .ok (.goto (-49), 3) := by decide +kernel
theorem dX5_nextOne_56 : decode cX5_nextOne 56 = .ok (.iload_n 2, 1) := by decide +kernel
theorem dX5_nextOne_57 : decode cX5_nextOne 57 = .ok (.ireturn, 1) := by decide +kernel
theorem dX5_nextClause_0 : decode cX5_nextClause 0 = .ok (.aload_n 0, 1) := by decide +kernel
theorem dX5_nextClause_1 : decode cX5_nextClause 1 = .ok (.iload_n 1, 1) := by decide +kernel
theorem dX5_nextClause_2 : decode cX5_nextClause 2 = .ok (.invokestatic 38, 3) := by decide +kernel
theorem dX5_nextClause_5 : decode cX5_nextClause 5 = .ok (.ifCond .ne 7, 3) := by decide +kernel
theorem dX5_nextClause_8 : decode cX5_nextClause 8 = .ok (.iconst 1, 1) := by decide +kernel
theorem dX5_nextClause_9 : decode cX5_nextClause 9 = .ok (.goto 16, 3) := by decide +kernel
theorem dX5_nextClause_12 : decode cX5_nextClause 12 = .ok (.aload_n 0, 1) := by decide +kernel
theorem dX5_nextClause_13 : decode cX5_nextClause 13 = .ok (.iload_n 1, 1) := by decide +kernel
theorem dX5_nextClause_14 : decode cX5_nextClause 14 = .ok (.invokevirtual 221, 3) := by decide +kernel
theorem dX5_nextClause_17 : decode cX5_nextClause 17 = .ok (.ifCond .ge 7, 3) := by decide +kernel
theorem dX5_nextClause_20 : decode cX5_nextClause 20 = .ok (.iconst 2, 1) := by decide +kernel
theorem dX5_nextClause_21 : decode cX5_nextClause 21 = .ok (.goto 4, 3) := by decide +kernel
theorem dX5_nextClause_24 : decode cX5_nextClause 24 = .ok (.iconst 0, 1) := by decide +kernel
theorem dX5_nextClause_25 : decode cX5_nextClause 25 = .ok (.invokevirtual 81, 3) := by decide +kernel
theorem dX5_nextClause_28 : decode cX5_nextClause 28 = .ok (.ifCond .eq 7, 3) := by decide +kernel
theorem dX5_nextClause_31 : decode cX5_nextClause 31 = .ok (.iconst 0, 1) := by decide +kernel
theorem dX5_nextClause_32 : decode cX5_nextClause 32 = .ok (.goto 8, 3) := by decide +kernel
theorem dX5_nextClause_35 : decode cX5_nextClause 35 = .ok (.aload_n 0, 1) := by decide +kernel
theorem dX5_nextClause_36 : decode cX5_nextClause 36 = .ok (.iload_n 1, 1) := by decide +kernel
theorem dX5_nextClause_37 : decode cX5_nextClause 37 = .ok (.invokevirtual 221, 3) := by decide +kernel
theorem dX5_nextClause_40 : decode cX5_nextClause 40 = .ok (.ireturn, 1) := by decide +kernel
theorem dX5_best_0 : decode cX5_best 0 = .ok (.iconst 0, 1) := by decide +kernel
theorem dX5_best_1 : decode cX5_best 1 = .ok (.istore_n 1, 1) := by decide +kernel
theorem dX5_best_2 : decode cX5_best 2 = .ok (.iconst 1, 1) := by decide +kernel
theorem dX5_best_3 : decode cX5_best 3 = .ok (.istore_n 2, 1) := by decide +kernel
theorem dX5_best_4 : decode cX5_best 4 = .ok (.iload_n 2, 1) := by decide +kernel
theorem dX5_best_5 : decode cX5_best 5 = .ok (.iconst 3, 1) := by decide +kernel
theorem dX5_best_6 : decode cX5_best 6 = .ok (.if_icmp .ge 28, 3) := by decide +kernel
theorem dX5_best_9 : decode cX5_best 9 = .ok (.aload_n 0, 1) := by decide +kernel
theorem dX5_best_10 : decode cX5_best 10 = .ok (.iload_n 2, 1) := by decide +kernel
theorem dX5_best_11 : decode cX5_best 11 = .ok (.invokevirtual 203, 3) := by decide +kernel
theorem dX5_best_14 : decode cX5_best 14 = .ok (.aload_n 0, 1) := by decide +kernel
theorem dX5_best_15 : decode cX5_best 15 = .ok (.iload_n 1, 1) := by decide +kernel
theorem dX5_best_16 : decode cX5_best 16 = .ok (.invokevirtual 203, 3) := by decide +kernel
theorem dX5_best_19 : decode cX5_best 19 = .ok (.if_icmp .le 7, 3) := by decide +kernel
theorem dX5_best_22 : decode cX5_best 22 = .ok (.iload_n 2, 1) := by decide +kernel
theorem dX5_best_23 : decode cX5_best 23 = .ok (.goto 4, 3) := by decide +kernel
theorem dX5_best_26 : decode cX5_best 26 = .ok (.iload_n 1, 1) := by decide +kernel
theorem dX5_best_27 : decode cX5_best 27 = .ok (.istore_n 1, 1) := by decide +kernel
theorem dX5_best_28 : decode cX5_best 28 = .ok (.iinc 2 1, 3) := by decide +kernel
theorem dX5_best_31 : decode cX5_best 31 = .ok (.goto (-27), 3) := by decide +kernel
theorem dX5_best_34 : decode cX5_best 34 = .ok (.iload_n 1, 1) := by decide +kernel
theorem dX5_best_35 : decode cX5_best 35 = .ok (.ireturn, 1) := by decide +kernel
theorem dX5_bestTongue_0 : decode cX5_bestTongue 0 = .ok (.aload_n 0, 1) := by decide +kernel
theorem dX5_bestTongue_1 : decode cX5_bestTongue 1 = .ok (.aload_n 0, 1) := by decide +kernel
theorem dX5_bestTongue_2 : decode cX5_bestTongue 2 = .ok (.invokevirtual 224, 3) := by decide +kernel
theorem dX5_bestTongue_5 : decode cX5_bestTongue 5 = .ok (.invokevirtual 167, 3) := by decide +kernel
theorem dX5_bestTongue_8 : decode cX5_bestTongue 8 = .ok (.ireturn, 1) := by decide +kernel
theorem dX5_spoken_0 : decode cX5_spoken 0 = .ok (.iconst 0, 1) := by decide +kernel
theorem dX5_spoken_1 : decode cX5_spoken 1 = .ok (.istore_n 2, 1) := by decide +kernel
theorem dX5_spoken_2 : decode cX5_spoken 2 = .ok (.iconst 0, 1) := by decide +kernel
theorem dX5_spoken_3 : decode cX5_spoken 3 = .ok (.istore_n 3, 1) := by decide +kernel
theorem dX5_spoken_4 : decode cX5_spoken 4 = .ok (.iload_n 3, 1) := by decide +kernel
theorem dX5_spoken_5 : decode cX5_spoken 5 = .ok (.aload_n 0, 1) := by decide +kernel
theorem dX5_spoken_6 : decode cX5_spoken 6 = .ok (.getfield 7, 3) := by decide +kernel
theorem dX5_spoken_9 : decode cX5_spoken 9 = .ok (.sipush 366, 3) := by decide +kernel
theorem dX5_spoken_12 : decode cX5_spoken 12 = .ok (.iaload, 1) := by decide +kernel
theorem dX5_spoken_13 : decode cX5_spoken 13 = .ok (.if_icmp .ge 40, 3) := by decide +kernel
theorem dX5_spoken_16 : decode cX5_spoken 16 = .ok (.iload_n 2, 1) := by decide +kernel
theorem dX5_spoken_17 : decode cX5_spoken 17 = .ok (.aload_n 0, 1) := by decide +kernel
theorem dX5_spoken_18 : decode cX5_spoken 18 = .ok (.getfield 7, 3) := by decide +kernel
theorem dX5_spoken_21 : decode cX5_spoken 21 = .ok (.iload_n 3, 1) := by decide +kernel
theorem dX5_spoken_22 : decode cX5_spoken 22 = .ok (.iconst 1, 1) := by decide +kernel
theorem dX5_spoken_23 : decode cX5_spoken 23 = .ok (.invokestatic 44, 3) := by decide +kernel
theorem dX5_spoken_26 : decode cX5_spoken 26 = .ok (.iaload, 1) := by decide +kernel
theorem dX5_spoken_27 : decode cX5_spoken 27 = .ok (.iload_n 1, 1) := by decide +kernel
theorem dX5_spoken_28 : decode cX5_spoken 28 = .ok (.if_icmp .ne 16, 3) := by decide +kernel
theorem dX5_spoken_31 : decode cX5_spoken 31 = .ok (.aload_n 0, 1) := by decide +kernel
theorem dX5_spoken_32 : decode cX5_spoken 32 = .ok (.getfield 7, 3) := by decide +kernel
theorem dX5_spoken_35 : decode cX5_spoken 35 = .ok (.iload_n 3, 1) := by decide +kernel
theorem dX5_spoken_36 : decode cX5_spoken 36 = .ok (.iconst 2, 1) := by decide +kernel
theorem dX5_spoken_37 : decode cX5_spoken 37 = .ok (.invokestatic 44, 3) := by decide +kernel
theorem dX5_spoken_40 : decode cX5_spoken 40 = .ok (.iaload, 1) := by decide +kernel
theorem dX5_spoken_41 : decode cX5_spoken 41 = .ok (.goto 4, 3) := by decide +kernel
theorem dX5_spoken_44 : decode cX5_spoken 44 = .ok (.iconst 0, 1) := by decide +kernel
theorem dX5_spoken_45 : decode cX5_spoken 45 = .ok (.iadd, 1) := by decide +kernel
theorem dX5_spoken_46 : decode cX5_spoken 46 = .ok (.istore_n 2, 1) := by decide +kernel
theorem dX5_spoken_47 : decode cX5_spoken 47 = .ok (.iinc 3 1, 3) := by decide +kernel
theorem dX5_spoken_50 : decode cX5_spoken 50 = .ok (.goto (-46), 3) := by decide +kernel
theorem dX5_spoken_53 : decode cX5_spoken 53 = .ok (.iload_n 2, 1) := by decide +kernel
theorem dX5_spoken_54 : decode cX5_spoken 54 = .ok (.ireturn, 1) := by decide +kernel
theorem dX5_loudest_0 : decode cX5_loudest 0 = .ok (.iconst 0, 1) := by decide +kernel
theorem dX5_loudest_1 : decode cX5_loudest 1 = .ok (.istore_n 1, 1) := by decide +kernel
theorem dX5_loudest_2 : decode cX5_loudest 2 = .ok (.iconst 1, 1) := by decide +kernel
theorem dX5_loudest_3 : decode cX5_loudest 3 = .ok (.istore_n 2, 1) := by decide +kernel
theorem dX5_loudest_4 : decode cX5_loudest 4 = .ok (.iload_n 2, 1) := by decide +kernel
theorem dX5_loudest_5 : decode cX5_loudest 5 = .ok (.iconst 5, 1) := by decide +kernel
theorem dX5_loudest_6 : decode cX5_loudest 6 = .ok (.if_icmp .ge 28, 3) := by decide +kernel
theorem dX5_loudest_9 : decode cX5_loudest 9 = .ok (.aload_n 0, 1) := by decide +kernel
theorem dX5_loudest_10 : decode cX5_loudest 10 = .ok (.iload_n 2, 1) := by decide +kernel
theorem dX5_loudest_11 : decode cX5_loudest 11 = .ok (.invokevirtual 227, 3) := by decide +kernel
theorem dX5_loudest_14 : decode cX5_loudest 14 = .ok (.aload_n 0, 1) := by decide +kernel
theorem dX5_loudest_15 : decode cX5_loudest 15 = .ok (.iload_n 1, 1) := by decide +kernel
theorem dX5_loudest_16 : decode cX5_loudest 16 = .ok (.invokevirtual 227, 3) := by decide +kernel
theorem dX5_loudest_19 : decode cX5_loudest 19 = .ok (.if_icmp .le 7, 3) := by decide +kernel
theorem dX5_loudest_22 : decode cX5_loudest 22 = .ok (.iload_n 2, 1) := by decide +kernel
theorem dX5_loudest_23 : decode cX5_loudest 23 = .ok (.goto 4, 3) := by decide +kernel
theorem dX5_loudest_26 : decode cX5_loudest 26 = .ok (.iload_n 1, 1) := by decide +kernel
theorem dX5_loudest_27 : decode cX5_loudest 27 = .ok (.istore_n 1, 1) := by decide +kernel
theorem dX5_loudest_28 : decode cX5_loudest 28 = .ok (.iinc 2 1, 3) := by decide +kernel
theorem dX5_loudest_31 : decode cX5_loudest 31 = .ok (.goto (-27), 3) := by decide +kernel
theorem dX5_loudest_34 : decode cX5_loudest 34 = .ok (.iload_n 1, 1) := by decide +kernel
theorem dX5_loudest_35 : decode cX5_loudest 35 = .ok (.ireturn, 1) := by decide +kernel
theorem dX5_loudestState_0 : decode cX5_loudestState 0 = .ok (.aload_n 0, 1) := by decide +kernel
theorem dX5_loudestState_1 : decode cX5_loudestState 1 = .ok (.aload_n 0, 1) := by decide +kernel
theorem dX5_loudestState_2 : decode cX5_loudestState 2 = .ok (.invokevirtual 230, 3) := by decide +kernel
theorem dX5_loudestState_5 : decode cX5_loudestState 5 = .ok (.invokevirtual 167, 3) := by decide +kernel
theorem dX5_loudestState_8 : decode cX5_loudestState 8 = .ok (.ireturn, 1) := by decide +kernel
theorem dX5_mean_0 : decode cX5_mean 0 = .ok (.iconst 0, 1) := by decide +kernel
theorem dX5_mean_1 : decode cX5_mean 1 = .ok (.istore_n 2, 1) := by decide +kernel
theorem dX5_mean_2 : decode cX5_mean 2 = .ok (.iconst 0, 1) := by decide +kernel
theorem dX5_mean_3 : decode cX5_mean 3 = .ok (.istore_n 3, 1) := by decide +kernel
theorem dX5_mean_4 : decode cX5_mean 4 = .ok (.iconst 0, 1) := by decide +kernel
theorem dX5_mean_5 : decode cX5_mean 5 = .ok (.istore 4, 2) := by decide +kernel
theorem dX5_mean_7 : decode cX5_mean 7 = .ok (.iload 4, 2) := by decide +kernel
theorem dX5_mean_9 : decode cX5_mean 9 = .ok (.aload_n 0, 1) := by decide +kernel
theorem dX5_mean_10 : decode cX5_mean 10 = .ok (.getfield 7, 3) := by decide +kernel
theorem dX5_mean_13 : decode cX5_mean 13 = .ok (.sipush 366, 3) := by decide +kernel
theorem dX5_mean_16 : decode cX5_mean 16 = .ok (.iaload, 1) := by decide +kernel
theorem dX5_mean_17 : decode cX5_mean 17 = .ok (.if_icmp .ge 58, 3) := by decide +kernel
theorem dX5_mean_20 : decode cX5_mean 20 = .ok (.aload_n 0, 1) := by decide +kernel
theorem dX5_mean_21 : decode cX5_mean 21 = .ok (.iload 4, 2) := by decide +kernel
theorem dX5_mean_23 : decode cX5_mean 23 = .ok (.iload_n 1, 1) := by decide +kernel
theorem dX5_mean_24 : decode cX5_mean 24 = .ok (.invokevirtual 48, 3) := by decide +kernel
theorem dX5_mean_27 : decode cX5_mean 27 = .ok (.ifCond .le 7, 3) := by decide +kernel
theorem dX5_mean_30 : decode cX5_mean 30 = .ok (.iconst 1, 1) := by decide +kernel
theorem dX5_mean_31 : decode cX5_mean 31 = .ok (.goto 4, 3) := by decide +kernel
theorem dX5_mean_34 : decode cX5_mean 34 = .ok (.iconst 0, 1) := by decide +kernel
theorem dX5_mean_35 : decode cX5_mean 35 = .ok (.istore 5, 2) := by decide +kernel
theorem dX5_mean_37 : decode cX5_mean 37 = .ok (.iload_n 2, 1) := by decide +kernel
theorem dX5_mean_38 : decode cX5_mean 38 = .ok (.iload 5, 2) := by decide +kernel
theorem dX5_mean_40 : decode cX5_mean 40 = .ok (.ifCond .eq 13, 3) := by decide +kernel
theorem dX5_mean_43 : decode cX5_mean 43 = .ok (.aload_n 0, 1) := by decide +kernel
theorem dX5_mean_44 : decode cX5_mean 44 = .ok (.iload 4, 2) := by decide +kernel
theorem dX5_mean_46 : decode cX5_mean 46 = .ok (.iload_n 1, 1) := by decide +kernel
theorem dX5_mean_47 : decode cX5_mean 47 = .ok (.invokevirtual 179, 3) := by decide +kernel
theorem dX5_mean_50 : decode cX5_mean 50 = .ok (.goto 4, 3) := by decide +kernel
theorem dX5_mean_53 : decode cX5_mean 53 = .ok (.iconst 0, 1) := by decide +kernel
theorem dX5_mean_54 : decode cX5_mean 54 = .ok (.iadd, 1) := by decide +kernel
theorem dX5_mean_55 : decode cX5_mean 55 = .ok (.istore_n 2, 1) := by decide +kernel
theorem dX5_mean_56 : decode cX5_mean 56 = .ok (.iload_n 3, 1) := by decide +kernel
theorem dX5_mean_57 : decode cX5_mean 57 = .ok (.iload 5, 2) := by decide +kernel
theorem dX5_mean_59 : decode cX5_mean 59 = .ok (.ifCond .eq 7, 3) := by decide +kernel
theorem dX5_mean_62 : decode cX5_mean 62 = .ok (.iconst 1, 1) := by decide +kernel
theorem dX5_mean_63 : decode cX5_mean 63 = .ok (.goto 4, 3) := by decide +kernel
theorem dX5_mean_66 : decode cX5_mean 66 = .ok (.iconst 0, 1) := by decide +kernel
theorem dX5_mean_67 : decode cX5_mean 67 = .ok (.iadd, 1) := by decide +kernel
theorem dX5_mean_68 : decode cX5_mean 68 = .ok (.istore_n 3, 1) := by decide +kernel
theorem dX5_mean_69 : decode cX5_mean 69 = .ok (.iinc 4 1, 3) := by decide +kernel
theorem dX5_mean_72 : decode cX5_mean 72 = .ok (.goto (-65), 3) := by decide +kernel
theorem dX5_mean_75 : decode cX5_mean 75 = .ok (.iload_n 3, 1) := by decide +kernel
theorem dX5_mean_76 : decode cX5_mean 76 = .ok (.ifCond .ne 7, 3) := by decide +kernel
theorem dX5_mean_79 : decode cX5_mean 79 = .ok (.dconst 0, 1) := by decide +kernel
theorem dX5_mean_80 : decode cX5_mean 80 = .ok (.goto 8, 3) := by decide +kernel
theorem dX5_mean_83 : decode cX5_mean 83 = .ok (.iload_n 2, 1) := by decide +kernel
theorem dX5_mean_84 : decode cX5_mean 84 = .ok (.i2d, 1) := by decide +kernel
theorem dX5_mean_85 : decode cX5_mean 85 = .ok (.iload_n 3, 1) := by decide +kernel
theorem dX5_mean_86 : decode cX5_mean 86 = .ok (.i2d, 1) := by decide +kernel
theorem dX5_mean_87 : decode cX5_mean 87 = .ok (.ddiv, 1) := by decide +kernel
theorem dX5_mean_88 : decode cX5_mean 88 = .ok (.dreturn, 1) := by decide +kernel
theorem dX5_meanFit_0 : decode cX5_meanFit 0 = .ok (.aload_n 0, 1) := by decide +kernel
theorem dX5_meanFit_1 : decode cX5_meanFit 1 = .ok (.iload_n 1, 1) := by decide +kernel
theorem dX5_meanFit_2 : decode cX5_meanFit 2 = .ok (.invokestatic 38, 3) := by decide +kernel
theorem dX5_meanFit_5 : decode cX5_meanFit 5 = .ok (.ifCond .eq 7, 3) := by decide +kernel
theorem dX5_meanFit_8 : decode cX5_meanFit 8 = .ok (.iconst 0, 1) := by decide +kernel
theorem dX5_meanFit_9 : decode cX5_meanFit 9 = .ok (.goto 4, 3) := by decide +kernel
theorem dX5_meanFit_12 : decode cX5_meanFit 12 = .ok (.iconst 1, 1) := by decide +kernel
theorem dX5_meanFit_13 : decode cX5_meanFit 13 = .ok (.invokevirtual 81, 3) := by decide +kernel
theorem dX5_meanFit_16 : decode cX5_meanFit 16 = .ok (.ifCond .eq 7, 3) := by decide +kernel
theorem dX5_meanFit_19 : decode cX5_meanFit 19 = .ok (.dconst 0, 1) := by decide +kernel
theorem dX5_meanFit_20 : decode cX5_meanFit 20 = .ok (.goto 8, 3) := by decide +kernel
theorem dX5_meanFit_23 : decode cX5_meanFit 23 = .ok (.aload_n 0, 1) := by decide +kernel
theorem dX5_meanFit_24 : decode cX5_meanFit 24 = .ok (.iload_n 1, 1) := by decide +kernel
theorem dX5_meanFit_25 : decode cX5_meanFit 25 = .ok (.invokevirtual 233, 3) := by decide +kernel
theorem dX5_meanFit_28 : decode cX5_meanFit 28 = .ok (.dreturn, 1) := by decide +kernel
theorem dX5_mixIn_0 : decode cX5_mixIn 0 = .ok (.aload_n 0, 1) := by decide +kernel
theorem dX5_mixIn_1 : decode cX5_mixIn 1 = .ok (.ldc2_w 237, 3) := by decide +kernel
theorem dX5_mixIn_4 : decode cX5_mixIn 4 = .ok (.aload_n 0, 1) := by decide +kernel
theorem dX5_mixIn_5 : decode cX5_mixIn 5 = .ok (.getfield 239, 3) := by decide +kernel
theorem dX5_mixIn_8 : decode cX5_mixIn 8 = .ok (.lmul, 1) := by decide +kernel
theorem dX5_mixIn_9 : decode cX5_mixIn 9 = .ok (.lload_n 1, 1) := by decide +kernel
theorem dX5_mixIn_10 : decode cX5_mixIn 10 = .ok (.ladd, 1) := by decide +kernel
theorem dX5_mixIn_11 : decode cX5_mixIn 11 = .ok (.putfield 239, 3) := by decide +kernel
theorem dX5_mixIn_14 : decode cX5_mixIn 14 = .ok (.return_, 1) := by decide +kernel
theorem dX5_digest_0 : decode cX5_digest 0 = .ok (.aload_n 0, 1) := by decide +kernel
theorem dX5_digest_1 : decode cX5_digest 1 = .ok (.iconst 0, 1) := by decide +kernel
theorem dX5_digest_2 : decode cX5_digest 2 = .ok (.putfield 26, 3) := by decide +kernel
theorem dX5_digest_5 : decode cX5_digest 5 = .ok (.aload_n 0, 1) := by decide +kernel
theorem dX5_digest_6 : decode cX5_digest 6 = .ok (.ldc2_w 243, 3) := by decide +kernel
theorem dX5_digest_9 : decode cX5_digest 9 = .ok (.putfield 239, 3) := by decide +kernel
theorem dX5_digest_12 : decode cX5_digest 12 = .ok (.aload_n 0, 1) := by decide +kernel
theorem dX5_digest_13 : decode cX5_digest 13 = .ok (.aload_n 0, 1) := by decide +kernel
theorem dX5_digest_14 : decode cX5_digest 14 = .ok (.getfield 7, 3) := by decide +kernel
theorem dX5_digest_17 : decode cX5_digest 17 = .ok (.sipush 366, 3) := by decide +kernel
theorem dX5_digest_20 : decode cX5_digest 20 = .ok (.iaload, 1) := by decide +kernel
theorem dX5_digest_21 : decode cX5_digest 21 = .ok (.i2l, 1) := by decide +kernel
theorem dX5_digest_22 : decode cX5_digest 22 = .ok (.invokevirtual 245, 3) := by decide +kernel
theorem dX5_digest_25 : decode cX5_digest 25 = .ok (.iconst 0, 1) := by decide +kernel
theorem dX5_digest_26 : decode cX5_digest 26 = .ok (.istore_n 1, 1) := by decide +kernel
theorem dX5_digest_27 : decode cX5_digest 27 = .ok (.iload_n 1, 1) := by decide +kernel
theorem dX5_digest_28 : decode cX5_digest 28 = .ok (.aload_n 0, 1) := by decide +kernel
theorem dX5_digest_29 : decode cX5_digest 29 = .ok (.getfield 7, 3) := by decide +kernel
theorem dX5_digest_32 : decode cX5_digest 32 = .ok (.sipush 366, 3) := by decide +kernel
theorem dX5_digest_35 : decode cX5_digest 35 = .ok (.iaload, 1) := by decide +kernel
theorem dX5_digest_36 : decode cX5_digest 36 = .ok (.if_icmp .ge 164, 3) := by decide +kernel
theorem dX5_digest_39 : decode cX5_digest 39 = .ok (.iconst 0, 1) := by decide +kernel
theorem dX5_digest_40 : decode cX5_digest 40 = .ok (.istore_n 2, 1) := by decide +kernel
theorem dX5_digest_41 : decode cX5_digest 41 = .ok (.iload_n 2, 1) := by decide +kernel
theorem dX5_digest_42 : decode cX5_digest 42 = .ok (.iconst 3, 1) := by decide +kernel
theorem dX5_digest_43 : decode cX5_digest 43 = .ok (.if_icmp .gt 24, 3) := by decide +kernel
theorem dX5_digest_46 : decode cX5_digest 46 = .ok (.aload_n 0, 1) := by decide +kernel
theorem dX5_digest_47 : decode cX5_digest 47 = .ok (.aload_n 0, 1) := by decide +kernel
theorem dX5_digest_48 : decode cX5_digest 48 = .ok (.getfield 7, 3) := by decide +kernel
theorem dX5_digest_51 : decode cX5_digest 51 = .ok (.iload_n 1, 1) := by decide +kernel
theorem dX5_digest_52 : decode cX5_digest 52 = .ok (.iload_n 2, 1) := by decide +kernel
theorem dX5_digest_53 : decode cX5_digest 53 = .ok (.invokestatic 44, 3) := by decide +kernel
theorem dX5_digest_56 : decode cX5_digest 56 = .ok (.iaload, 1) := by decide +kernel
theorem dX5_digest_57 : decode cX5_digest 57 = .ok (.i2l, 1) := by decide +kernel
theorem dX5_digest_58 : decode cX5_digest 58 = .ok (.invokevirtual 245, 3) := by decide +kernel
theorem dX5_digest_61 : decode cX5_digest 61 = .ok (.iinc 2 1, 3) := by decide +kernel
theorem dX5_digest_64 : decode cX5_digest 64 = .ok (.goto (-23), 3) := by decide +kernel
theorem dX5_digest_67 : decode cX5_digest 67 = .ok (.aload_n 0, 1) := by decide +kernel
theorem dX5_digest_68 : decode cX5_digest 68 = .ok (.aload_n 0, 1) := by decide +kernel
theorem dX5_digest_69 : decode cX5_digest 69 = .ok (.iload_n 1, 1) := by decide +kernel
theorem dX5_digest_70 : decode cX5_digest 70 = .ok (.invokevirtual 218, 3) := by decide +kernel
theorem dX5_digest_73 : decode cX5_digest 73 = .ok (.iconst 1, 1) := by decide +kernel
theorem dX5_digest_74 : decode cX5_digest 74 = .ok (.iadd, 1) := by decide +kernel
theorem dX5_digest_75 : decode cX5_digest 75 = .ok (.i2l, 1) := by decide +kernel
theorem dX5_digest_76 : decode cX5_digest 76 = .ok (.invokevirtual 245, 3) := by decide +kernel
theorem dX5_digest_79 : decode cX5_digest 79 = .ok (.iconst 0, 1) := by decide +kernel
theorem dX5_digest_80 : decode cX5_digest 80 = .ok (.istore_n 2, 1) := by decide +kernel
theorem dX5_digest_81 : decode cX5_digest 81 = .ok (.iload_n 2, 1) := by decide +kernel
theorem dX5_digest_82 : decode cX5_digest 82 = .ok (.iconst 3, 1) := by decide +kernel
theorem dX5_digest_83 : decode cX5_digest 83 = .ok (.if_icmp .ge 111, 3) := by decide +kernel
theorem dX5_digest_86 : decode cX5_digest 86 = .ok (.aload_n 0, 1) := by decide +kernel
theorem dX5_digest_87 : decode cX5_digest 87 = .ok (.aload_n 0, 1) := by decide +kernel
theorem dX5_digest_88 : decode cX5_digest 88 = .ok (.iload_n 1, 1) := by decide +kernel
theorem dX5_digest_89 : decode cX5_digest 89 = .ok (.iload_n 2, 1) := by decide +kernel
theorem dX5_digest_90 : decode cX5_digest 90 = .ok (.invokevirtual 48, 3) := by decide +kernel
theorem dX5_digest_93 : decode cX5_digest 93 = .ok (.i2l, 1) := by decide +kernel
theorem dX5_digest_94 : decode cX5_digest 94 = .ok (.invokevirtual 245, 3) := by decide +kernel
theorem dX5_digest_97 : decode cX5_digest 97 = .ok (.aload_n 0, 1) := by decide +kernel
theorem dX5_digest_98 : decode cX5_digest 98 = .ok (.aload_n 0, 1) := by decide +kernel
theorem dX5_digest_99 : decode cX5_digest 99 = .ok (.getfield 7, 3) := by decide +kernel
theorem dX5_digest_102 : decode cX5_digest 102 = .ok (.iload_n 1, 1) := by decide +kernel
theorem dX5_digest_103 : decode cX5_digest 103 = .ok (.bipush 7, 2) := by decide +kernel
theorem dX5_digest_105 : decode cX5_digest 105 = .ok (.iload_n 2, 1) := by decide +kernel
theorem dX5_digest_106 : decode cX5_digest 106 = .ok (.iadd, 1) := by decide +kernel
theorem dX5_digest_107 : decode cX5_digest 107 = .ok (.invokestatic 44, 3) := by decide +kernel
theorem dX5_digest_110 : decode cX5_digest 110 = .ok (.iaload, 1) := by decide +kernel
theorem dX5_digest_111 : decode cX5_digest 111 = .ok (.i2l, 1) := by decide +kernel
theorem dX5_digest_112 : decode cX5_digest 112 = .ok (.invokevirtual 245, 3) := by decide +kernel
theorem dX5_digest_115 : decode cX5_digest 115 = .ok (.aload_n 0, 1) := by decide +kernel
theorem dX5_digest_116 : decode cX5_digest 116 = .ok (.aload_n 0, 1) := by decide +kernel
theorem dX5_digest_117 : decode cX5_digest 117 = .ok (.iload_n 1, 1) := by decide +kernel
theorem dX5_digest_118 : decode cX5_digest 118 = .ok (.iload_n 2, 1) := by decide +kernel
theorem dX5_digest_119 : decode cX5_digest 119 = .ok (.invokevirtual 51, 3) := by decide +kernel
theorem dX5_digest_122 : decode cX5_digest 122 = .ok (.ifCond .eq 7, 3) := by decide +kernel
theorem dX5_digest_125 : decode cX5_digest 125 = .ok (.lconst 1, 1) := by decide +kernel
theorem dX5_digest_126 : decode cX5_digest 126 = .ok (.goto 4, 3) := by decide +kernel
theorem dX5_digest_129 : decode cX5_digest 129 = .ok (.lconst 0, 1) := by decide +kernel
theorem dX5_digest_130 : decode cX5_digest 130 = .ok (.invokevirtual 245, 3) := by decide +kernel
theorem dX5_digest_133 : decode cX5_digest 133 = .ok (.aload_n 0, 1) := by decide +kernel
theorem dX5_digest_134 : decode cX5_digest 134 = .ok (.aload_n 0, 1) := by decide +kernel
theorem dX5_digest_135 : decode cX5_digest 135 = .ok (.iload_n 1, 1) := by decide +kernel
theorem dX5_digest_136 : decode cX5_digest 136 = .ok (.iload_n 2, 1) := by decide +kernel
theorem dX5_digest_137 : decode cX5_digest 137 = .ok (.invokevirtual 68, 3) := by decide +kernel
theorem dX5_digest_140 : decode cX5_digest 140 = .ok (.i2l, 1) := by decide +kernel
theorem dX5_digest_141 : decode cX5_digest 141 = .ok (.invokevirtual 245, 3) := by decide +kernel
theorem dX5_digest_144 : decode cX5_digest 144 = .ok (.aload_n 0, 1) := by decide +kernel
theorem dX5_digest_145 : decode cX5_digest 145 = .ok (.iload_n 1, 1) := by decide +kernel
theorem dX5_digest_146 : decode cX5_digest 146 = .ok (.iload_n 2, 1) := by decide +kernel
theorem dX5_digest_147 : decode cX5_digest 147 = .ok (.invokevirtual 48, 3) := by decide +kernel
theorem dX5_digest_150 : decode cX5_digest 150 = .ok (.ifCond .le 38, 3) := by decide +kernel
theorem dX5_digest_153 : decode cX5_digest 153 = .ok (.aload_n 0, 1) := by decide +kernel
theorem dX5_digest_154 : decode cX5_digest 154 = .ok (.aload_n 0, 1) := by decide +kernel
theorem dX5_digest_155 : decode cX5_digest 155 = .ok (.iload_n 1, 1) := by decide +kernel
theorem dX5_digest_156 : decode cX5_digest 156 = .ok (.iload_n 2, 1) := by decide +kernel
theorem dX5_digest_157 : decode cX5_digest 157 = .ok (.invokevirtual 176, 3) := by decide +kernel
theorem dX5_digest_160 : decode cX5_digest 160 = .ok (.i2l, 1) := by decide +kernel
theorem dX5_digest_161 : decode cX5_digest 161 = .ok (.invokevirtual 245, 3) := by decide +kernel
theorem dX5_digest_164 : decode cX5_digest 164 = .ok (.aload_n 0, 1) := by decide +kernel
theorem dX5_digest_165 : decode cX5_digest 165 = .ok (.aload_n 0, 1) := by decide +kernel
theorem dX5_digest_166 : decode cX5_digest 166 = .ok (.iload_n 1, 1) := by decide +kernel
theorem dX5_digest_167 : decode cX5_digest 167 = .ok (.iload_n 2, 1) := by decide +kernel
theorem dX5_digest_168 : decode cX5_digest 168 = .ok (.invokevirtual 179, 3) := by decide +kernel
theorem dX5_digest_171 : decode cX5_digest 171 = .ok (.i2l, 1) := by decide +kernel
theorem dX5_digest_172 : decode cX5_digest 172 = .ok (.invokevirtual 245, 3) := by decide +kernel
theorem dX5_digest_175 : decode cX5_digest 175 = .ok (.aload_n 0, 1) := by decide +kernel
theorem dX5_digest_176 : decode cX5_digest 176 = .ok (.aload_n 0, 1) := by decide +kernel
theorem dX5_digest_177 : decode cX5_digest 177 = .ok (.iload_n 1, 1) := by decide +kernel
theorem dX5_digest_178 : decode cX5_digest 178 = .ok (.iload_n 2, 1) := by decide +kernel
theorem dX5_digest_179 : decode cX5_digest 179 = .ok (.invokevirtual 215, 3) := by decide +kernel
theorem dX5_digest_182 : decode cX5_digest 182 = .ok (.iconst 1, 1) := by decide +kernel
theorem dX5_digest_183 : decode cX5_digest 183 = .ok (.iadd, 1) := by decide +kernel
theorem dX5_digest_184 : decode cX5_digest 184 = .ok (.i2l, 1) := by decide +kernel
theorem dX5_digest_185 : decode cX5_digest 185 = .ok (.invokevirtual 245, 3) := by decide +kernel
theorem dX5_digest_188 : decode cX5_digest 188 = .ok (.iinc 2 1, 3) := by decide +kernel
theorem dX5_digest_191 : decode cX5_digest 191 = .ok (.goto (-110), 3) := by decide +kernel
theorem dX5_digest_194 : decode cX5_digest 194 = .ok (.iinc 1 1, 3) := by decide +kernel
theorem dX5_digest_197 : decode cX5_digest 197 = .ok (.goto (-170), 3) := by decide +kernel
theorem dX5_digest_200 : decode cX5_digest 200 = .ok (.iconst 0, 1) := by decide +kernel
theorem dX5_digest_201 : decode cX5_digest 201 = .ok (.istore_n 1, 1) := by decide +kernel
theorem dX5_digest_202 : decode cX5_digest 202 = .ok (.iload_n 1, 1) := by decide +kernel
theorem dX5_digest_203 : decode cX5_digest 203 = .ok (.iconst 5, 1) := by decide +kernel
theorem dX5_digest_204 : decode cX5_digest 204 = .ok (.if_icmp .ge 89, 3) := by decide +kernel
theorem dX5_digest_207 : decode cX5_digest 207 = .ok (.iconst 0, 1) := by decide +kernel
theorem dX5_digest_208 : decode cX5_digest 208 = .ok (.istore_n 2, 1) := by decide +kernel
theorem dX5_digest_209 : decode cX5_digest 209 = .ok (.iload_n 2, 1) := by decide +kernel
theorem dX5_digest_210 : decode cX5_digest 210 = .ok (.iconst 3, 1) := by decide +kernel
theorem dX5_digest_211 : decode cX5_digest 211 = .ok (.if_icmp .ge 76, 3) := by decide +kernel
theorem dX5_digest_214 : decode cX5_digest 214 = .ok (.aload_n 0, 1) := by decide +kernel
theorem dX5_digest_215 : decode cX5_digest 215 = .ok (.aload_n 0, 1) := by decide +kernel
theorem dX5_digest_216 : decode cX5_digest 216 = .ok (.getfield 7, 3) := by decide +kernel
theorem dX5_digest_219 : decode cX5_digest 219 = .ok (.sipush 312, 3) := by decide +kernel
theorem dX5_digest_222 : decode cX5_digest 222 = .ok (.iconst 3, 1) := by decide +kernel
theorem dX5_digest_223 : decode cX5_digest 223 = .ok (.iload_n 1, 1) := by decide +kernel
theorem dX5_digest_224 : decode cX5_digest 224 = .ok (.imul, 1) := by decide +kernel
theorem dX5_digest_225 : decode cX5_digest 225 = .ok (.iadd, 1) := by decide +kernel
theorem dX5_digest_226 : decode cX5_digest 226 = .ok (.iload_n 2, 1) := by decide +kernel
theorem dX5_digest_227 : decode cX5_digest 227 = .ok (.iadd, 1) := by decide +kernel
theorem dX5_digest_228 : decode cX5_digest 228 = .ok (.iaload, 1) := by decide +kernel
theorem dX5_digest_229 : decode cX5_digest 229 = .ok (.i2l, 1) := by decide +kernel
theorem dX5_digest_230 : decode cX5_digest 230 = .ok (.invokevirtual 245, 3) := by decide +kernel
theorem dX5_digest_233 : decode cX5_digest 233 = .ok (.aload_n 0, 1) := by decide +kernel
theorem dX5_digest_234 : decode cX5_digest 234 = .ok (.aload_n 0, 1) := by decide +kernel
theorem dX5_digest_235 : decode cX5_digest 235 = .ok (.iload_n 1, 1) := by decide +kernel
theorem dX5_digest_236 : decode cX5_digest 236 = .ok (.iload_n 2, 1) := by decide +kernel
theorem dX5_digest_237 : decode cX5_digest 237 = .ok (.invokevirtual 65, 3) := by decide +kernel
theorem dX5_digest_240 : decode cX5_digest 240 = .ok (.i2l, 1) := by decide +kernel
theorem dX5_digest_241 : decode cX5_digest 241 = .ok (.invokevirtual 245, 3) := by decide +kernel
theorem dX5_digest_244 : decode cX5_digest 244 = .ok (.aload_n 0, 1) := by decide +kernel
theorem dX5_digest_245 : decode cX5_digest 245 = .ok (.aload_n 0, 1) := by decide +kernel
theorem dX5_digest_246 : decode cX5_digest 246 = .ok (.iload_n 1, 1) := by decide +kernel
theorem dX5_digest_247 : decode cX5_digest 247 = .ok (.iload_n 2, 1) := by decide +kernel
theorem dX5_digest_248 : decode cX5_digest 248 = .ok (.invokevirtual 182, 3) := by decide +kernel
theorem dX5_digest_251 : decode cX5_digest 251 = .ok (.i2l, 1) := by decide +kernel
theorem dX5_digest_252 : decode cX5_digest 252 = .ok (.invokevirtual 245, 3) := by decide +kernel
theorem dX5_digest_255 : decode cX5_digest 255 = .ok (.aload_n 0, 1) := by decide +kernel
theorem dX5_digest_256 : decode cX5_digest 256 = .ok (.aload_n 0, 1) := by decide +kernel
theorem dX5_digest_257 : decode cX5_digest 257 = .ok (.iload_n 1, 1) := by decide +kernel
theorem dX5_digest_258 : decode cX5_digest 258 = .ok (.iload_n 2, 1) := by decide +kernel
theorem dX5_digest_259 : decode cX5_digest 259 = .ok (.invokevirtual 188, 3) := by decide +kernel
theorem dX5_digest_262 : decode cX5_digest 262 = .ok (.iconst 1, 1) := by decide +kernel
theorem dX5_digest_263 : decode cX5_digest 263 = .ok (.iadd, 1) := by decide +kernel
theorem dX5_digest_264 : decode cX5_digest 264 = .ok (.i2l, 1) := by decide +kernel
theorem dX5_digest_265 : decode cX5_digest 265 = .ok (.invokevirtual 245, 3) := by decide +kernel
theorem dX5_digest_268 : decode cX5_digest 268 = .ok (.aload_n 0, 1) := by decide +kernel
theorem dX5_digest_269 : decode cX5_digest 269 = .ok (.aload_n 0, 1) := by decide +kernel
theorem dX5_digest_270 : decode cX5_digest 270 = .ok (.iload_n 1, 1) := by decide +kernel
theorem dX5_digest_271 : decode cX5_digest 271 = .ok (.iload_n 2, 1) := by decide +kernel
theorem dX5_digest_272 : decode cX5_digest 272 = .ok (.invokevirtual 188, 3) := by decide +kernel
theorem dX5_digest_275 : decode cX5_digest 275 = .ok (.iconst 1, 1) := by decide +kernel
theorem dX5_digest_276 : decode cX5_digest 276 = .ok (.iadd, 1) := by decide +kernel
theorem dX5_digest_277 : decode cX5_digest 277 = .ok (.i2l, 1) := by decide +kernel
theorem dX5_digest_278 : decode cX5_digest 278 = .ok (.invokevirtual 245, 3) := by decide +kernel
theorem dX5_digest_281 : decode cX5_digest 281 = .ok (.iinc 2 1, 3) := by decide +kernel
theorem dX5_digest_284 : decode cX5_digest 284 = .ok (.goto (-75), 3) := by decide +kernel
theorem dX5_digest_287 : decode cX5_digest 287 = .ok (.iinc 1 1, 3) := by decide +kernel
theorem dX5_digest_290 : decode cX5_digest 290 = .ok (.goto (-88), 3) := by decide +kernel
theorem dX5_digest_293 : decode cX5_digest 293 = .ok (.iconst 0, 1) := by decide +kernel
theorem dX5_digest_294 : decode cX5_digest 294 = .ok (.istore_n 1, 1) := by decide +kernel
theorem dX5_digest_295 : decode cX5_digest 295 = .ok (.iload_n 1, 1) := by decide +kernel
theorem dX5_digest_296 : decode cX5_digest 296 = .ok (.iconst 4, 1) := by decide +kernel
theorem dX5_digest_297 : decode cX5_digest 297 = .ok (.if_icmp .ge 100, 3) := by decide +kernel
theorem dX5_digest_300 : decode cX5_digest 300 = .ok (.aload_n 0, 1) := by decide +kernel
theorem dX5_digest_301 : decode cX5_digest 301 = .ok (.aload_n 0, 1) := by decide +kernel
theorem dX5_digest_302 : decode cX5_digest 302 = .ok (.iload_n 1, 1) := by decide +kernel
theorem dX5_digest_303 : decode cX5_digest 303 = .ok (.invokevirtual 194, 3) := by decide +kernel
theorem dX5_digest_306 : decode cX5_digest 306 = .ok (.i2l, 1) := by decide +kernel
theorem dX5_digest_307 : decode cX5_digest 307 = .ok (.invokevirtual 245, 3) := by decide +kernel
theorem dX5_digest_310 : decode cX5_digest 310 = .ok (.aload_n 0, 1) := by decide +kernel
theorem dX5_digest_311 : decode cX5_digest 311 = .ok (.aload_n 0, 1) := by decide +kernel
theorem dX5_digest_312 : decode cX5_digest 312 = .ok (.iload_n 1, 1) := by decide +kernel
theorem dX5_digest_313 : decode cX5_digest 313 = .ok (.invokevirtual 197, 3) := by decide +kernel
theorem dX5_digest_316 : decode cX5_digest 316 = .ok (.i2l, 1) := by decide +kernel
theorem dX5_digest_317 : decode cX5_digest 317 = .ok (.invokevirtual 245, 3) := by decide +kernel
theorem dX5_digest_320 : decode cX5_digest 320 = .ok (.iconst 0, 1) := by decide +kernel
theorem dX5_digest_321 : decode cX5_digest 321 = .ok (.istore_n 2, 1) := by decide +kernel
theorem dX5_digest_322 : decode cX5_digest 322 = .ok (.iload_n 2, 1) := by decide +kernel
theorem dX5_digest_323 : decode cX5_digest 323 = .ok (.iconst 3, 1) := by decide +kernel
theorem dX5_digest_324 : decode cX5_digest 324 = .ok (.if_icmp .ge 67, 3) := by decide +kernel
theorem dX5_digest_327 : decode cX5_digest 327 = .ok (.aload_n 0, 1) := by decide +kernel
theorem dX5_digest_328 : decode cX5_digest 328 = .ok (.aload_n 0, 1) := by decide +kernel
theorem dX5_digest_329 : decode cX5_digest 329 = .ok (.iload_n 1, 1) := by decide +kernel
theorem dX5_digest_330 : decode cX5_digest 330 = .ok (.iload_n 2, 1) := by decide +kernel
theorem dX5_digest_331 : decode cX5_digest 331 = .ok (.invokevirtual 113, 3) := by decide +kernel
theorem dX5_digest_334 : decode cX5_digest 334 = .ok (.ifCond .eq 7, 3) := by decide +kernel
theorem dX5_digest_337 : decode cX5_digest 337 = .ok (.lconst 1, 1) := by decide +kernel
theorem dX5_digest_338 : decode cX5_digest 338 = .ok (.goto 4, 3) := by decide +kernel
theorem dX5_digest_341 : decode cX5_digest 341 = .ok (.lconst 0, 1) := by decide +kernel
theorem dX5_digest_342 : decode cX5_digest 342 = .ok (.invokevirtual 245, 3) := by decide +kernel
theorem dX5_digest_345 : decode cX5_digest 345 = .ok (.aload_n 0, 1) := by decide +kernel
theorem dX5_digest_346 : decode cX5_digest 346 = .ok (.aload_n 0, 1) := by decide +kernel
theorem dX5_digest_347 : decode cX5_digest 347 = .ok (.iload_n 1, 1) := by decide +kernel
theorem dX5_digest_348 : decode cX5_digest 348 = .ok (.iload_n 2, 1) := by decide +kernel
theorem dX5_digest_349 : decode cX5_digest 349 = .ok (.invokevirtual 110, 3) := by decide +kernel
theorem dX5_digest_352 : decode cX5_digest 352 = .ok (.ifCond .eq 7, 3) := by decide +kernel
theorem dX5_digest_355 : decode cX5_digest 355 = .ok (.lconst 1, 1) := by decide +kernel
theorem dX5_digest_356 : decode cX5_digest 356 = .ok (.goto 4, 3) := by decide +kernel
theorem dX5_digest_359 : decode cX5_digest 359 = .ok (.lconst 0, 1) := by decide +kernel
theorem dX5_digest_360 : decode cX5_digest 360 = .ok (.invokevirtual 245, 3) := by decide +kernel
theorem dX5_digest_363 : decode cX5_digest 363 = .ok (.aload_n 0, 1) := by decide +kernel
theorem dX5_digest_364 : decode cX5_digest 364 = .ok (.aload_n 0, 1) := by decide +kernel
theorem dX5_digest_365 : decode cX5_digest 365 = .ok (.iload_n 1, 1) := by decide +kernel
theorem dX5_digest_366 : decode cX5_digest 366 = .ok (.iload_n 2, 1) := by decide +kernel
theorem dX5_digest_367 : decode cX5_digest 367 = .ok (.invokevirtual 200, 3) := by decide +kernel
theorem dX5_digest_370 : decode cX5_digest 370 = .ok (.i2l, 1) := by decide +kernel
theorem dX5_digest_371 : decode cX5_digest 371 = .ok (.invokevirtual 245, 3) := by decide +kernel
theorem dX5_digest_374 : decode cX5_digest 374 = .ok (.aload_n 0, 1) := by decide +kernel
theorem dX5_digest_375 : decode cX5_digest 375 = .ok (.aload_n 0, 1) := by decide +kernel
theorem dX5_digest_376 : decode cX5_digest 376 = .ok (.iload_n 1, 1) := by decide +kernel
theorem dX5_digest_377 : decode cX5_digest 377 = .ok (.iload_n 2, 1) := by decide +kernel
theorem dX5_digest_378 : decode cX5_digest 378 = .ok (.invokevirtual 122, 3) := by decide +kernel
theorem dX5_digest_381 : decode cX5_digest 381 = .ok (.i2l, 1) := by decide +kernel
theorem dX5_digest_382 : decode cX5_digest 382 = .ok (.invokevirtual 245, 3) := by decide +kernel
theorem dX5_digest_385 : decode cX5_digest 385 = .ok (.iinc 2 1, 3) := by decide +kernel
theorem dX5_digest_388 : decode cX5_digest 388 = .ok (.goto (-66), 3) := by decide +kernel
theorem dX5_digest_391 : decode cX5_digest 391 = .ok (.iinc 1 1, 3) := by decide +kernel
theorem dX5_digest_394 : decode cX5_digest 394 = .ok (.goto (-99), 3) := by decide +kernel
theorem dX5_digest_397 : decode cX5_digest 397 = .ok (.iconst 0, 1) := by decide +kernel
theorem dX5_digest_398 : decode cX5_digest 398 = .ok (.istore_n 1, 1) := by decide +kernel
theorem dX5_digest_399 : decode cX5_digest 399 = .ok (.iload_n 1, 1) := by decide +kernel
theorem dX5_digest_400 : decode cX5_digest 400 = .ok (.iconst 3, 1) := by decide +kernel
theorem dX5_digest_401 : decode cX5_digest 401 = .ok (.if_icmp .ge 100, 3) := by decide +kernel
theorem dX5_digest_404 : decode cX5_digest 404 = .ok (.aload_n 0, 1) := by decide +kernel
theorem dX5_digest_405 : decode cX5_digest 405 = .ok (.aload_n 0, 1) := by decide +kernel
theorem dX5_digest_406 : decode cX5_digest 406 = .ok (.iload_n 1, 1) := by decide +kernel
theorem dX5_digest_407 : decode cX5_digest 407 = .ok (.invokevirtual 100, 3) := by decide +kernel
theorem dX5_digest_410 : decode cX5_digest 410 = .ok (.i2l, 1) := by decide +kernel
theorem dX5_digest_411 : decode cX5_digest 411 = .ok (.invokevirtual 245, 3) := by decide +kernel
theorem dX5_digest_414 : decode cX5_digest 414 = .ok (.aload_n 0, 1) := by decide +kernel
theorem dX5_digest_415 : decode cX5_digest 415 = .ok (.aload_n 0, 1) := by decide +kernel
theorem dX5_digest_416 : decode cX5_digest 416 = .ok (.iload_n 1, 1) := by decide +kernel
theorem dX5_digest_417 : decode cX5_digest 417 = .ok (.invokevirtual 203, 3) := by decide +kernel
theorem dX5_digest_420 : decode cX5_digest 420 = .ok (.i2l, 1) := by decide +kernel
theorem dX5_digest_421 : decode cX5_digest 421 = .ok (.invokevirtual 245, 3) := by decide +kernel
theorem dX5_digest_424 : decode cX5_digest 424 = .ok (.aload_n 0, 1) := by decide +kernel
theorem dX5_digest_425 : decode cX5_digest 425 = .ok (.aload_n 0, 1) := by decide +kernel
theorem dX5_digest_426 : decode cX5_digest 426 = .ok (.iload_n 1, 1) := by decide +kernel
theorem dX5_digest_427 : decode cX5_digest 427 = .ok (.invokevirtual 206, 3) := by decide +kernel
theorem dX5_digest_430 : decode cX5_digest 430 = .ok (.i2l, 1) := by decide +kernel
theorem dX5_digest_431 : decode cX5_digest 431 = .ok (.invokevirtual 245, 3) := by decide +kernel
theorem dX5_digest_434 : decode cX5_digest 434 = .ok (.aload_n 0, 1) := by decide +kernel
theorem dX5_digest_435 : decode cX5_digest 435 = .ok (.aload_n 0, 1) := by decide +kernel
theorem dX5_digest_436 : decode cX5_digest 436 = .ok (.iload_n 1, 1) := by decide +kernel
theorem dX5_digest_437 : decode cX5_digest 437 = .ok (.invokevirtual 206, 3) := by decide +kernel
theorem dX5_digest_440 : decode cX5_digest 440 = .ok (.i2l, 1) := by decide +kernel
theorem dX5_digest_441 : decode cX5_digest 441 = .ok (.invokevirtual 245, 3) := by decide +kernel
theorem dX5_digest_444 : decode cX5_digest 444 = .ok (.aload_n 0, 1) := by decide +kernel
theorem dX5_digest_445 : decode cX5_digest 445 = .ok (.aload_n 0, 1) := by decide +kernel
theorem dX5_digest_446 : decode cX5_digest 446 = .ok (.iload_n 1, 1) := by decide +kernel
theorem dX5_digest_447 : decode cX5_digest 447 = .ok (.invokevirtual 209, 3) := by decide +kernel
theorem dX5_digest_450 : decode cX5_digest 450 = .ok (.ifCond .eq 7, 3) := by decide +kernel
theorem dX5_digest_453 : decode cX5_digest 453 = .ok (.lconst 1, 1) := by decide +kernel
theorem dX5_digest_454 : decode cX5_digest 454 = .ok (.goto 4, 3) := by decide +kernel
theorem dX5_digest_457 : decode cX5_digest 457 = .ok (.lconst 0, 1) := by decide +kernel
theorem dX5_digest_458 : decode cX5_digest 458 = .ok (.invokevirtual 245, 3) := by decide +kernel
theorem dX5_digest_461 : decode cX5_digest 461 = .ok (.aload_n 0, 1) := by decide +kernel
theorem dX5_digest_462 : decode cX5_digest 462 = .ok (.aload_n 0, 1) := by decide +kernel
theorem dX5_digest_463 : decode cX5_digest 463 = .ok (.iload_n 1, 1) := by decide +kernel
theorem dX5_digest_464 : decode cX5_digest 464 = .ok (.invokevirtual 212, 3) := by decide +kernel
theorem dX5_digest_467 : decode cX5_digest 467 = .ok (.i2l, 1) := by decide +kernel
theorem dX5_digest_468 : decode cX5_digest 468 = .ok (.invokevirtual 245, 3) := by decide +kernel
theorem dX5_digest_471 : decode cX5_digest 471 = .ok (.aload_n 0, 1) := by decide +kernel
theorem dX5_digest_472 : decode cX5_digest 472 = .ok (.aload_n 0, 1) := by decide +kernel
theorem dX5_digest_473 : decode cX5_digest 473 = .ok (.iload_n 1, 1) := by decide +kernel
theorem dX5_digest_474 : decode cX5_digest 474 = .ok (.invokevirtual 221, 3) := by decide +kernel
theorem dX5_digest_477 : decode cX5_digest 477 = .ok (.iconst 1, 1) := by decide +kernel
theorem dX5_digest_478 : decode cX5_digest 478 = .ok (.iadd, 1) := by decide +kernel
theorem dX5_digest_479 : decode cX5_digest 479 = .ok (.i2l, 1) := by decide +kernel
theorem dX5_digest_480 : decode cX5_digest 480 = .ok (.invokevirtual 245, 3) := by decide +kernel
theorem dX5_digest_483 : decode cX5_digest 483 = .ok (.aload_n 0, 1) := by decide +kernel
theorem dX5_digest_484 : decode cX5_digest 484 = .ok (.aload_n 0, 1) := by decide +kernel
theorem dX5_digest_485 : decode cX5_digest 485 = .ok (.iload_n 1, 1) := by decide +kernel
theorem dX5_digest_486 : decode cX5_digest 486 = .ok (.invokevirtual 233, 3) := by decide +kernel
theorem dX5_digest_489 : decode cX5_digest 489 = .ok (.invokestatic 249, 3) := by decide +kernel
theorem dX5_digest_492 : decode cX5_digest 492 = .ok (.invokevirtual 245, 3) := by decide +kernel
theorem dX5_digest_495 : decode cX5_digest 495 = .ok (.iinc 1 1, 3) := by decide +kernel
theorem dX5_digest_498 : decode cX5_digest 498 = .ok (.goto (-99), 3) := by decide +kernel
theorem dX5_digest_501 : decode cX5_digest 501 = .ok (.sipush 367, 3) := by decide +kernel
theorem dX5_digest_504 : decode cX5_digest 504 = .ok (.istore_n 1, 1) := by decide +kernel
theorem dX5_digest_505 : decode cX5_digest 505 = .ok (.iload_n 1, 1) := by decide +kernel
theorem dX5_digest_506 : decode cX5_digest 506 = .ok (.sipush 370, 3) := by decide +kernel
theorem dX5_digest_509 : decode cX5_digest 509 = .ok (.if_icmp .gt 20, 3) := by decide +kernel
theorem dX5_digest_512 : decode cX5_digest 512 = .ok (.aload_n 0, 1) := by decide +kernel
theorem dX5_digest_513 : decode cX5_digest 513 = .ok (.aload_n 0, 1) := by decide +kernel
theorem dX5_digest_514 : decode cX5_digest 514 = .ok (.getfield 7, 3) := by decide +kernel
theorem dX5_digest_517 : decode cX5_digest 517 = .ok (.iload_n 1, 1) := by decide +kernel
theorem dX5_digest_518 : decode cX5_digest 518 = .ok (.iaload, 1) := by decide +kernel
theorem dX5_digest_519 : decode cX5_digest 519 = .ok (.i2l, 1) := by decide +kernel
theorem dX5_digest_520 : decode cX5_digest 520 = .ok (.invokevirtual 245, 3) := by decide +kernel
theorem dX5_digest_523 : decode cX5_digest 523 = .ok (.iinc 1 1, 3) := by decide +kernel
theorem dX5_digest_526 : decode cX5_digest 526 = .ok (.goto (-21), 3) := by decide +kernel
theorem dX5_digest_529 : decode cX5_digest 529 = .ok (.aload_n 0, 1) := by decide +kernel
theorem dX5_digest_530 : decode cX5_digest 530 = .ok (.aload_n 0, 1) := by decide +kernel
theorem dX5_digest_531 : decode cX5_digest 531 = .ok (.invokevirtual 224, 3) := by decide +kernel
theorem dX5_digest_534 : decode cX5_digest 534 = .ok (.i2l, 1) := by decide +kernel
theorem dX5_digest_535 : decode cX5_digest 535 = .ok (.invokevirtual 245, 3) := by decide +kernel
theorem dX5_digest_538 : decode cX5_digest 538 = .ok (.aload_n 0, 1) := by decide +kernel
theorem dX5_digest_539 : decode cX5_digest 539 = .ok (.aload_n 0, 1) := by decide +kernel
theorem dX5_digest_540 : decode cX5_digest 540 = .ok (.invokevirtual 230, 3) := by decide +kernel
theorem dX5_digest_543 : decode cX5_digest 543 = .ok (.i2l, 1) := by decide +kernel
theorem dX5_digest_544 : decode cX5_digest 544 = .ok (.invokevirtual 245, 3) := by decide +kernel
theorem dX5_digest_547 : decode cX5_digest 547 = .ok (.aload_n 0, 1) := by decide +kernel
theorem dX5_digest_548 : decode cX5_digest 548 = .ok (.aload_n 0, 1) := by decide +kernel
theorem dX5_digest_549 : decode cX5_digest 549 = .ok (.getfield 41, 3) := by decide +kernel
theorem dX5_digest_552 : decode cX5_digest 552 = .ok (.i2l, 1) := by decide +kernel
theorem dX5_digest_553 : decode cX5_digest 553 = .ok (.invokevirtual 245, 3) := by decide +kernel
theorem dX5_digest_556 : decode cX5_digest 556 = .ok (.aload_n 0, 1) := by decide +kernel
theorem dX5_digest_557 : decode cX5_digest 557 = .ok (.aload_n 0, 1) := by decide +kernel
theorem dX5_digest_558 : decode cX5_digest 558 = .ok (.getfield 19, 3) := by decide +kernel
theorem dX5_digest_561 : decode cX5_digest 561 = .ok (.iconst 0, 1) := by decide +kernel
theorem dX5_digest_562 : decode cX5_digest 562 = .ok (.baload, 1) := by decide +kernel
theorem dX5_digest_563 : decode cX5_digest 563 = .ok (.ifCond .eq 7, 3) := by decide +kernel
theorem dX5_digest_566 : decode cX5_digest 566 = .ok (.lconst 1, 1) := by decide +kernel
theorem dX5_digest_567 : decode cX5_digest 567 = .ok (.goto 4, 3) := by decide +kernel
theorem dX5_digest_570 : decode cX5_digest 570 = .ok (.lconst 0, 1) := by decide +kernel
theorem dX5_digest_571 : decode cX5_digest 571 = .ok (.invokevirtual 245, 3) := by decide +kernel
theorem dX5_digest_574 : decode cX5_digest 574 = .ok (.aload_n 0, 1) := by decide +kernel
theorem dX5_digest_575 : decode cX5_digest 575 = .ok (.aload_n 0, 1) := by decide +kernel
theorem dX5_digest_576 : decode cX5_digest 576 = .ok (.getfield 19, 3) := by decide +kernel
theorem dX5_digest_579 : decode cX5_digest 579 = .ok (.iconst 1, 1) := by decide +kernel
theorem dX5_digest_580 : decode cX5_digest 580 = .ok (.baload, 1) := by decide +kernel
theorem dX5_digest_581 : decode cX5_digest 581 = .ok (.ifCond .eq 7, 3) := by decide +kernel
theorem dX5_digest_584 : decode cX5_digest 584 = .ok (.lconst 1, 1) := by decide +kernel
theorem dX5_digest_585 : decode cX5_digest 585 = .ok (.goto 4, 3) := by decide +kernel
theorem dX5_digest_588 : decode cX5_digest 588 = .ok (.lconst 0, 1) := by decide +kernel
theorem dX5_digest_589 : decode cX5_digest 589 = .ok (.invokevirtual 245, 3) := by decide +kernel
theorem dX5_digest_592 : decode cX5_digest 592 = .ok (.aload_n 0, 1) := by decide +kernel
theorem dX5_digest_593 : decode cX5_digest 593 = .ok (.aload_n 0, 1) := by decide +kernel
theorem dX5_digest_594 : decode cX5_digest 594 = .ok (.getfield 125, 3) := by decide +kernel
theorem dX5_digest_597 : decode cX5_digest 597 = .ok (.i2l, 1) := by decide +kernel
theorem dX5_digest_598 : decode cX5_digest 598 = .ok (.invokevirtual 245, 3) := by decide +kernel
theorem dX5_digest_601 : decode cX5_digest 601 = .ok (.iconst 0, 1) := by decide +kernel
theorem dX5_digest_602 : decode cX5_digest 602 = .ok (.istore_n 1, 1) := by decide +kernel
theorem dX5_digest_603 : decode cX5_digest 603 = .ok (.iload_n 1, 1) := by decide +kernel
theorem dX5_digest_604 : decode cX5_digest 604 = .ok (.aload_n 0, 1) := by decide +kernel
theorem dX5_digest_605 : decode cX5_digest 605 = .ok (.getfield 125, 3) := by decide +kernel
theorem dX5_digest_608 : decode cX5_digest 608 = .ok (.if_icmp .ge 20, 3) := by decide +kernel
theorem dX5_digest_611 : decode cX5_digest 611 = .ok (.aload_n 0, 1) := by decide +kernel
theorem dX5_digest_612 : decode cX5_digest 612 = .ok (.aload_n 0, 1) := by decide +kernel
theorem dX5_digest_613 : decode cX5_digest 613 = .ok (.getfield 23, 3) := by decide +kernel
theorem dX5_digest_616 : decode cX5_digest 616 = .ok (.iload_n 1, 1) := by decide +kernel
theorem dX5_digest_617 : decode cX5_digest 617 = .ok (.iaload, 1) := by decide +kernel
theorem dX5_digest_618 : decode cX5_digest 618 = .ok (.i2l, 1) := by decide +kernel
theorem dX5_digest_619 : decode cX5_digest 619 = .ok (.invokevirtual 245, 3) := by decide +kernel
theorem dX5_digest_622 : decode cX5_digest 622 = .ok (.iinc 1 1, 3) := by decide +kernel
theorem dX5_digest_625 : decode cX5_digest 625 = .ok (.goto (-22), 3) := by decide +kernel
theorem dX5_digest_628 : decode cX5_digest 628 = .ok (.aload_n 0, 1) := by decide +kernel
theorem dX5_digest_629 : decode cX5_digest 629 = .ok (.getfield 239, 3) := by decide +kernel
theorem dX5_digest_632 : decode cX5_digest 632 = .ok (.lreturn, 1) := by decide +kernel
