theorem dX4_init_0 : decode cX4_init 0 = .ok (.aload_n 0, 1) := by decide +kernel
theorem dX4_init_1 : decode cX4_init 1 = .ok (.invokespecial 1, 3) := by decide +kernel
theorem dX4_init_4 : decode cX4_init 4 = .ok (.aload_n 0, 1) := by decide +kernel
theorem dX4_init_5 : decode cX4_init 5 = .ok (.new 7, 3) := by decide +kernel
theorem dX4_init_8 : decode cX4_init 8 = .ok (.dup, 1) := by decide +kernel
theorem dX4_init_9 : decode cX4_init 9 = .ok (.invokespecial 9, 3) := by decide +kernel
theorem dX4_init_12 : decode cX4_init 12 = .ok (.putfield 10, 3) := by decide +kernel
theorem dX4_init_15 : decode cX4_init 15 = .ok (.aload_n 0, 1) := by decide +kernel
theorem dX4_init_16 : decode cX4_init 16 = .ok (.new 16, 3) := by decide +kernel
theorem dX4_init_19 : decode cX4_init 19 = .ok (.dup, 1) := by decide +kernel
theorem dX4_init_20 : decode cX4_init 20 = .ok (.invokespecial 18, 3) := by decide +kernel
theorem dX4_init_23 : decode cX4_init 23 = .ok (.putfield 19, 3) := by decide +kernel
theorem dX4_init_26 : decode cX4_init 26 = .ok (.aload_n 0, 1) := by decide +kernel
theorem dX4_init_27 : decode cX4_init 27 = .ok (.iconst 2, 1) := by decide +kernel
theorem dX4_init_28 : decode cX4_init 28 = .ok (.anewarray 7, 3) := by decide +kernel
theorem dX4_init_31 : decode cX4_init 31 = .ok (.putfield 23, 3) := by decide +kernel
theorem dX4_init_34 : decode cX4_init 34 = .ok (.iconst 0, 1) := by decide +kernel
theorem dX4_init_35 : decode cX4_init 35 = .ok (.istore_n 1, 1) := by decide +kernel
theorem dX4_init_36 : decode cX4_init 36 = .ok (.iload_n 1, 1) := by decide +kernel
theorem dX4_init_37 : decode cX4_init 37 = .ok (.aload_n 0, 1) := by decide +kernel
theorem dX4_init_38 : decode cX4_init 38 = .ok (.getfield 23, 3) := by decide +kernel
theorem dX4_init_41 : decode cX4_init 41 = .ok (.arraylength, 1) := by decide +kernel
theorem dX4_init_42 : decode cX4_init 42 = .ok (.if_icmp .ge 22, 3) := by decide +kernel
theorem dX4_init_45 : decode cX4_init 45 = .ok (.aload_n 0, 1) := by decide +kernel
theorem dX4_init_46 : decode cX4_init 46 = .ok (.getfield 23, 3) := by decide +kernel
theorem dX4_init_49 : decode cX4_init 49 = .ok (.iload_n 1, 1) := by decide +kernel
theorem dX4_init_50 : decode cX4_init 50 = .ok (.new 7, 3) := by decide +kernel
theorem dX4_init_53 : decode cX4_init 53 = .ok (.dup, 1) := by decide +kernel
theorem dX4_init_54 : decode cX4_init 54 = .ok (.invokespecial 9, 3) := by decide +kernel
theorem dX4_init_57 : decode cX4_init 57 = .ok (.aastore, 1) := by decide +kernel
theorem dX4_init_58 : decode cX4_init 58 = .ok (.iinc 1 1, 3) := by decide +kernel
theorem dX4_init_61 : decode cX4_init 61 = .ok (.goto (-25), 3) := by decide +kernel
theorem dX4_init_64 : decode cX4_init 64 = .ok (.aload_n 0, 1) := by decide +kernel
theorem dX4_init_65 : decode cX4_init 65 = .ok (.iconst 2, 1) := by decide +kernel
theorem dX4_init_66 : decode cX4_init 66 = .ok (.newarray .boolean, 2) := by decide +kernel
theorem dX4_init_68 : decode cX4_init 68 = .ok (.putfield 27, 3) := by decide +kernel
theorem dX4_init_71 : decode cX4_init 71 = .ok (.aload_n 0, 1) := by decide +kernel
theorem dX4_init_72 : decode cX4_init 72 = .ok (.new 31, 3) := by decide +kernel
theorem dX4_init_75 : decode cX4_init 75 = .ok (.dup, 1) := by decide +kernel
theorem dX4_init_76 : decode cX4_init 76 = .ok (.invokespecial 33, 3) := by decide +kernel
theorem dX4_init_79 : decode cX4_init 79 = .ok (.putfield 34, 3) := by decide +kernel
theorem dX4_init_82 : decode cX4_init 82 = .ok (.aload_n 0, 1) := by decide +kernel
theorem dX4_init_83 : decode cX4_init 83 = .ok (.new 38, 3) := by decide +kernel
theorem dX4_init_86 : decode cX4_init 86 = .ok (.dup, 1) := by decide +kernel
theorem dX4_init_87 : decode cX4_init 87 = .ok (.invokespecial 40, 3) := by decide +kernel
theorem dX4_init_90 : decode cX4_init 90 = .ok (.putfield 41, 3) := by decide +kernel
theorem dX4_init_93 : decode cX4_init 93 = .ok (.return_, 1) := by decide +kernel
theorem dX4_addClause_0 : decode cX4_addClause 0 = .ok (.iload_n 1, 1) := by decide +kernel
theorem dX4_addClause_1 : decode cX4_addClause 1 = .ok (.invokestatic 45, 3) := by decide +kernel
theorem dX4_addClause_4 : decode cX4_addClause 4 = .ok (.iload_n 2, 1) := by decide +kernel
theorem dX4_addClause_5 : decode cX4_addClause 5 = .ok (.invokestatic 49, 3) := by decide +kernel
theorem dX4_addClause_8 : decode cX4_addClause 8 = .ok (.iload_n 3, 1) := by decide +kernel
theorem dX4_addClause_9 : decode cX4_addClause 9 = .ok (.iconst 4, 1) := by decide +kernel
theorem dX4_addClause_10 : decode cX4_addClause 10 = .ok (.bipush 60, 2) := by decide +kernel
theorem dX4_addClause_12 : decode cX4_addClause 12 = .ok (.invokestatic 52, 3) := by decide +kernel
theorem dX4_addClause_15 : decode cX4_addClause 15 = .ok (.aload_n 0, 1) := by decide +kernel
theorem dX4_addClause_16 : decode cX4_addClause 16 = .ok (.getfield 10, 3) := by decide +kernel
theorem dX4_addClause_19 : decode cX4_addClause 19 = .ok (.getfield 56, 3) := by decide +kernel
theorem dX4_addClause_22 : decode cX4_addClause 22 = .ok (.bipush 24, 2) := by decide +kernel
theorem dX4_addClause_24 : decode cX4_addClause 24 = .ok (.if_icmp .lt 13, 3) := by decide +kernel
theorem dX4_addClause_27 : decode cX4_addClause 27 = .ok (.new 60, 3) := by decide +kernel
theorem dX4_addClause_30 : decode cX4_addClause 30 = .ok (.dup, 1) := by decide +kernel
theorem dX4_addClause_31 : decode cX4_addClause 31 = .ok (.ldc 62, 2) := by decide +kernel
theorem dX4_addClause_33 : decode cX4_addClause 33 = .ok (.invokespecial 64, 3) := by decide +kernel
theorem dX4_addClause_36 : decode cX4_addClause 36 = .ok (.athrow, 1) := by decide +kernel
theorem dX4_addClause_37 : decode cX4_addClause 37 = .ok (.aload_n 0, 1) := by decide +kernel
theorem dX4_addClause_38 : decode cX4_addClause 38 = .ok (.getfield 19, 3) := by decide +kernel
theorem dX4_addClause_41 : decode cX4_addClause 41 = .ok (.aload_n 0, 1) := by decide +kernel
theorem dX4_addClause_42 : decode cX4_addClause 42 = .ok (.getfield 10, 3) := by decide +kernel
theorem dX4_addClause_45 : decode cX4_addClause 45 = .ok (.invokevirtual 67, 3) := by decide +kernel
theorem dX4_addClause_48 : decode cX4_addClause 48 = .ok (.aload_n 0, 1) := by decide +kernel
theorem dX4_addClause_49 : decode cX4_addClause 49 = .ok (.getfield 10, 3) := by decide +kernel
theorem dX4_addClause_52 : decode cX4_addClause 52 = .ok (.iload_n 1, 1) := by decide +kernel
theorem dX4_addClause_53 : decode cX4_addClause 53 = .ok (.iload_n 2, 1) := by decide +kernel
theorem dX4_addClause_54 : decode cX4_addClause 54 = .ok (.iload_n 3, 1) := by decide +kernel
theorem dX4_addClause_55 : decode cX4_addClause 55 = .ok (.iconst 0, 1) := by decide +kernel
theorem dX4_addClause_56 : decode cX4_addClause 56 = .ok (.invokevirtual 71, 3) := by decide +kernel
theorem dX4_addClause_59 : decode cX4_addClause 59 = .ok (.ireturn, 1) := by decide +kernel
theorem dX4_changeLips_0 : decode cX4_changeLips 0 = .ok (.aload_n 0, 1) := by decide +kernel
theorem dX4_changeLips_1 : decode cX4_changeLips 1 = .ok (.iload_n 1, 1) := by decide +kernel
theorem dX4_changeLips_2 : decode cX4_changeLips 2 = .ok (.invokevirtual 75, 3) := by decide +kernel
theorem dX4_changeLips_5 : decode cX4_changeLips 5 = .ok (.iload_n 2, 1) := by decide +kernel
theorem dX4_changeLips_6 : decode cX4_changeLips 6 = .ok (.iconst 4, 1) := by decide +kernel
theorem dX4_changeLips_7 : decode cX4_changeLips 7 = .ok (.bipush 60, 2) := by decide +kernel
theorem dX4_changeLips_9 : decode cX4_changeLips 9 = .ok (.invokestatic 52, 3) := by decide +kernel
theorem dX4_changeLips_12 : decode cX4_changeLips 12 = .ok (.aload_n 0, 1) := by decide +kernel
theorem dX4_changeLips_13 : decode cX4_changeLips 13 = .ok (.getfield 10, 3) := by decide +kernel
theorem dX4_changeLips_16 : decode cX4_changeLips 16 = .ok (.iload_n 1, 1) := by decide +kernel
theorem dX4_changeLips_17 : decode cX4_changeLips 17 = .ok (.invokevirtual 78, 3) := by decide +kernel
theorem dX4_changeLips_20 : decode cX4_changeLips 20 = .ok (.ifCond .ne 15, 3) := by decide +kernel
theorem dX4_changeLips_23 : decode cX4_changeLips 23 = .ok (.aload_n 0, 1) := by decide +kernel
theorem dX4_changeLips_24 : decode cX4_changeLips 24 = .ok (.getfield 10, 3) := by decide +kernel
theorem dX4_changeLips_27 : decode cX4_changeLips 27 = .ok (.iload_n 1, 1) := by decide +kernel
theorem dX4_changeLips_28 : decode cX4_changeLips 28 = .ok (.invokevirtual 82, 3) := by decide +kernel
theorem dX4_changeLips_31 : decode cX4_changeLips 31 = .ok (.iload_n 2, 1) := by decide +kernel
theorem dX4_changeLips_32 : decode cX4_changeLips 32 = .ok (.if_icmp .le 13, 3) := by decide +kernel
theorem dX4_changeLips_35 : decode cX4_changeLips 35 = .ok (.new 60, 3) := by decide +kernel
theorem dX4_changeLips_38 : decode cX4_changeLips 38 = .ok (.dup, 1) := by decide +kernel
theorem dX4_changeLips_39 : decode cX4_changeLips 39 = .ok (.ldc 86, 2) := by decide +kernel
theorem dX4_changeLips_41 : decode cX4_changeLips 41 = .ok (.invokespecial 64, 3) := by decide +kernel
theorem dX4_changeLips_44 : decode cX4_changeLips 44 = .ok (.athrow, 1) := by decide +kernel
theorem dX4_changeLips_45 : decode cX4_changeLips 45 = .ok (.aload_n 0, 1) := by decide +kernel
theorem dX4_changeLips_46 : decode cX4_changeLips 46 = .ok (.getfield 19, 3) := by decide +kernel
theorem dX4_changeLips_49 : decode cX4_changeLips 49 = .ok (.aload_n 0, 1) := by decide +kernel
theorem dX4_changeLips_50 : decode cX4_changeLips 50 = .ok (.getfield 10, 3) := by decide +kernel
theorem dX4_changeLips_53 : decode cX4_changeLips 53 = .ok (.invokevirtual 67, 3) := by decide +kernel
theorem dX4_changeLips_56 : decode cX4_changeLips 56 = .ok (.aload_n 0, 1) := by decide +kernel
theorem dX4_changeLips_57 : decode cX4_changeLips 57 = .ok (.getfield 10, 3) := by decide +kernel
theorem dX4_changeLips_60 : decode cX4_changeLips 60 = .ok (.iload_n 1, 1) := by decide +kernel
theorem dX4_changeLips_61 : decode cX4_changeLips 61 = .ok (.invokevirtual 88, 3) := by decide +kernel
theorem dX4_changeLips_64 : decode cX4_changeLips 64 = .ok (.istore_n 3, 1) := by decide +kernel
theorem dX4_changeLips_65 : decode cX4_changeLips 65 = .ok (.aload_n 0, 1) := by decide +kernel
theorem dX4_changeLips_66 : decode cX4_changeLips 66 = .ok (.getfield 10, 3) := by decide +kernel
theorem dX4_changeLips_69 : decode cX4_changeLips 69 = .ok (.getfield 91, 3) := by decide +kernel
theorem dX4_changeLips_72 : decode cX4_changeLips 72 = .ok (.iload_n 1, 1) := by decide +kernel
theorem dX4_changeLips_73 : decode cX4_changeLips 73 = .ok (.iload_n 2, 1) := by decide +kernel
theorem dX4_changeLips_74 : decode cX4_changeLips 74 = .ok (.invokestatic 95, 3) := by decide +kernel
theorem dX4_changeLips_77 : decode cX4_changeLips 77 = .ok (.iload_n 3, 1) := by decide +kernel
theorem dX4_changeLips_78 : decode cX4_changeLips 78 = .ok (.ireturn, 1) := by decide +kernel
theorem dX4_changeSigh_0 : decode cX4_changeSigh 0 = .ok (.aload_n 0, 1) := by decide +kernel
theorem dX4_changeSigh_1 : decode cX4_changeSigh 1 = .ok (.iload_n 1, 1) := by decide +kernel
theorem dX4_changeSigh_2 : decode cX4_changeSigh 2 = .ok (.invokevirtual 75, 3) := by decide +kernel
theorem dX4_changeSigh_5 : decode cX4_changeSigh 5 = .ok (.iload_n 2, 1) := by decide +kernel
theorem dX4_changeSigh_6 : decode cX4_changeSigh 6 = .ok (.iconst 0, 1) := by decide +kernel
theorem dX4_changeSigh_7 : decode cX4_changeSigh 7 = .ok (.bipush 20, 2) := by decide +kernel
theorem dX4_changeSigh_9 : decode cX4_changeSigh 9 = .ok (.invokestatic 52, 3) := by decide +kernel
theorem dX4_changeSigh_12 : decode cX4_changeSigh 12 = .ok (.aload_n 0, 1) := by decide +kernel
theorem dX4_changeSigh_13 : decode cX4_changeSigh 13 = .ok (.getfield 10, 3) := by decide +kernel
theorem dX4_changeSigh_16 : decode cX4_changeSigh 16 = .ok (.iload_n 1, 1) := by decide +kernel
theorem dX4_changeSigh_17 : decode cX4_changeSigh 17 = .ok (.invokevirtual 78, 3) := by decide +kernel
theorem dX4_changeSigh_20 : decode cX4_changeSigh 20 = .ok (.ifCond .ne 15, 3) := by decide +kernel
theorem dX4_changeSigh_23 : decode cX4_changeSigh 23 = .ok (.iload_n 2, 1) := by decide +kernel
theorem dX4_changeSigh_24 : decode cX4_changeSigh 24 = .ok (.aload_n 0, 1) := by decide +kernel
theorem dX4_changeSigh_25 : decode cX4_changeSigh 25 = .ok (.getfield 10, 3) := by decide +kernel
theorem dX4_changeSigh_28 : decode cX4_changeSigh 28 = .ok (.iload_n 1, 1) := by decide +kernel
theorem dX4_changeSigh_29 : decode cX4_changeSigh 29 = .ok (.invokevirtual 88, 3) := by decide +kernel
theorem dX4_changeSigh_32 : decode cX4_changeSigh 32 = .ok (.if_icmp .le 13, 3) := by decide +kernel
theorem dX4_changeSigh_35 : decode cX4_changeSigh 35 = .ok (.new 60, 3) := by decide +kernel
theorem dX4_changeSigh_38 : decode cX4_changeSigh 38 = .ok (.dup, 1) := by decide +kernel
theorem dX4_changeSigh_39 : decode cX4_changeSigh 39 = .ok (.ldc 99, 2) := by decide +kernel
theorem dX4_changeSigh_41 : decode cX4_changeSigh 41 = .ok (.invokespecial 64, 3) := by decide +kernel
theorem dX4_changeSigh_44 : decode cX4_changeSigh 44 = .ok (.athrow, 1) := by decide +kernel
theorem dX4_changeSigh_45 : decode cX4_changeSigh 45 = .ok (.aload_n 0, 1) := by decide +kernel
theorem dX4_changeSigh_46 : decode cX4_changeSigh 46 = .ok (.getfield 19, 3) := by decide +kernel
theorem dX4_changeSigh_49 : decode cX4_changeSigh 49 = .ok (.aload_n 0, 1) := by decide +kernel
theorem dX4_changeSigh_50 : decode cX4_changeSigh 50 = .ok (.getfield 10, 3) := by decide +kernel
theorem dX4_changeSigh_53 : decode cX4_changeSigh 53 = .ok (.invokevirtual 67, 3) := by decide +kernel
theorem dX4_changeSigh_56 : decode cX4_changeSigh 56 = .ok (.aload_n 0, 1) := by decide +kernel
theorem dX4_changeSigh_57 : decode cX4_changeSigh 57 = .ok (.getfield 10, 3) := by decide +kernel
theorem dX4_changeSigh_60 : decode cX4_changeSigh 60 = .ok (.iload_n 1, 1) := by decide +kernel
theorem dX4_changeSigh_61 : decode cX4_changeSigh 61 = .ok (.invokevirtual 82, 3) := by decide +kernel
theorem dX4_changeSigh_64 : decode cX4_changeSigh 64 = .ok (.istore_n 3, 1) := by decide +kernel
theorem dX4_changeSigh_65 : decode cX4_changeSigh 65 = .ok (.aload_n 0, 1) := by decide +kernel
theorem dX4_changeSigh_66 : decode cX4_changeSigh 66 = .ok (.getfield 10, 3) := by decide +kernel
theorem dX4_changeSigh_69 : decode cX4_changeSigh 69 = .ok (.getfield 101, 3) := by decide +kernel
theorem dX4_changeSigh_72 : decode cX4_changeSigh 72 = .ok (.iload_n 1, 1) := by decide +kernel
theorem dX4_changeSigh_73 : decode cX4_changeSigh 73 = .ok (.iload_n 2, 1) := by decide +kernel
theorem dX4_changeSigh_74 : decode cX4_changeSigh 74 = .ok (.invokestatic 95, 3) := by decide +kernel
theorem dX4_changeSigh_77 : decode cX4_changeSigh 77 = .ok (.iload_n 3, 1) := by decide +kernel
theorem dX4_changeSigh_78 : decode cX4_changeSigh 78 = .ok (.ireturn, 1) := by decide +kernel
theorem dX4_moveClause_0 : decode cX4_moveClause 0 = .ok (.aload_n 0, 1) := by decide +kernel
theorem dX4_moveClause_1 : decode cX4_moveClause 1 = .ok (.iload_n 1, 1) := by decide +kernel
theorem dX4_moveClause_2 : decode cX4_moveClause 2 = .ok (.invokevirtual 75, 3) := by decide +kernel
theorem dX4_moveClause_5 : decode cX4_moveClause 5 = .ok (.iload_n 2, 1) := by decide +kernel
theorem dX4_moveClause_6 : decode cX4_moveClause 6 = .ok (.invokestatic 45, 3) := by decide +kernel
theorem dX4_moveClause_9 : decode cX4_moveClause 9 = .ok (.aload_n 0, 1) := by decide +kernel
theorem dX4_moveClause_10 : decode cX4_moveClause 10 = .ok (.getfield 10, 3) := by decide +kernel
theorem dX4_moveClause_13 : decode cX4_moveClause 13 = .ok (.iload_n 1, 1) := by decide +kernel
theorem dX4_moveClause_14 : decode cX4_moveClause 14 = .ok (.invokevirtual 78, 3) := by decide +kernel
theorem dX4_moveClause_17 : decode cX4_moveClause 17 = .ok (.ifCond .ne 15, 3) := by decide +kernel
theorem dX4_moveClause_20 : decode cX4_moveClause 20 = .ok (.aload_n 0, 1) := by decide +kernel
theorem dX4_moveClause_21 : decode cX4_moveClause 21 = .ok (.getfield 10, 3) := by decide +kernel
theorem dX4_moveClause_24 : decode cX4_moveClause 24 = .ok (.iload_n 1, 1) := by decide +kernel
theorem dX4_moveClause_25 : decode cX4_moveClause 25 = .ok (.invokevirtual 104, 3) := by decide +kernel
theorem dX4_moveClause_28 : decode cX4_moveClause 28 = .ok (.iload_n 2, 1) := by decide +kernel
theorem dX4_moveClause_29 : decode cX4_moveClause 29 = .ok (.if_icmp .ne 13, 3) := by decide +kernel
theorem dX4_moveClause_32 : decode cX4_moveClause 32 = .ok (.new 60, 3) := by decide +kernel
theorem dX4_moveClause_35 : decode cX4_moveClause 35 = .ok (.dup, 1) := by decide +kernel
theorem dX4_moveClause_36 : decode cX4_moveClause 36 = .ok (.ldc 107, 2) := by decide +kernel
theorem dX4_moveClause_38 : decode cX4_moveClause 38 = .ok (.invokespecial 64, 3) := by decide +kernel
theorem dX4_moveClause_41 : decode cX4_moveClause 41 = .ok (.athrow, 1) := by decide +kernel
theorem dX4_moveClause_42 : decode cX4_moveClause 42 = .ok (.aload_n 0, 1) := by decide +kernel
theorem dX4_moveClause_43 : decode cX4_moveClause 43 = .ok (.getfield 19, 3) := by decide +kernel
theorem dX4_moveClause_46 : decode cX4_moveClause 46 = .ok (.aload_n 0, 1) := by decide +kernel
theorem dX4_moveClause_47 : decode cX4_moveClause 47 = .ok (.getfield 10, 3) := by decide +kernel
theorem dX4_moveClause_50 : decode cX4_moveClause 50 = .ok (.invokevirtual 67, 3) := by decide +kernel
theorem dX4_moveClause_53 : decode cX4_moveClause 53 = .ok (.aload_n 0, 1) := by decide +kernel
theorem dX4_moveClause_54 : decode cX4_moveClause 54 = .ok (.getfield 10, 3) := by decide +kernel
theorem dX4_moveClause_57 : decode cX4_moveClause 57 = .ok (.iload_n 1, 1) := by decide +kernel
theorem dX4_moveClause_58 : decode cX4_moveClause 58 = .ok (.invokevirtual 104, 3) := by decide +kernel
theorem dX4_moveClause_61 : decode cX4_moveClause 61 = .ok (.istore_n 3, 1) := by decide +kernel
theorem dX4_moveClause_62 : decode cX4_moveClause 62 = .ok (.aload_n 0, 1) := by decide +kernel
theorem dX4_moveClause_63 : decode cX4_moveClause 63 = .ok (.getfield 10, 3) := by decide +kernel
theorem dX4_moveClause_66 : decode cX4_moveClause 66 = .ok (.getfield 109, 3) := by decide +kernel
theorem dX4_moveClause_69 : decode cX4_moveClause 69 = .ok (.iload_n 1, 1) := by decide +kernel
theorem dX4_moveClause_70 : decode cX4_moveClause 70 = .ok (.iload_n 2, 1) := by decide +kernel
theorem dX4_moveClause_71 : decode cX4_moveClause 71 = .ok (.invokestatic 95, 3) := by decide +kernel
theorem dX4_moveClause_74 : decode cX4_moveClause 74 = .ok (.aload_n 0, 1) := by decide +kernel
theorem dX4_moveClause_75 : decode cX4_moveClause 75 = .ok (.getfield 10, 3) := by decide +kernel
theorem dX4_moveClause_78 : decode cX4_moveClause 78 = .ok (.iload_n 2, 1) := by decide +kernel
theorem dX4_moveClause_79 : decode cX4_moveClause 79 = .ok (.invokevirtual 112, 3) := by decide +kernel
theorem dX4_moveClause_82 : decode cX4_moveClause 82 = .ok (.iload_n 3, 1) := by decide +kernel
theorem dX4_moveClause_83 : decode cX4_moveClause 83 = .ok (.ireturn, 1) := by decide +kernel
theorem dX4_translate_0 : decode cX4_translate 0 = .ok (.aload_n 0, 1) := by decide +kernel
theorem dX4_translate_1 : decode cX4_translate 1 = .ok (.iload_n 1, 1) := by decide +kernel
theorem dX4_translate_2 : decode cX4_translate 2 = .ok (.iload_n 2, 1) := by decide +kernel
theorem dX4_translate_3 : decode cX4_translate 3 = .ok (.invokevirtual 115, 3) := by decide +kernel
theorem dX4_translate_6 : decode cX4_translate 6 = .ok (.iload_n 3, 1) := by decide +kernel
theorem dX4_translate_7 : decode cX4_translate 7 = .ok (.iconst 1, 1) := by decide +kernel
theorem dX4_translate_8 : decode cX4_translate 8 = .ok (.bipush 60, 2) := by decide +kernel
theorem dX4_translate_10 : decode cX4_translate 10 = .ok (.invokestatic 52, 3) := by decide +kernel
theorem dX4_translate_13 : decode cX4_translate 13 = .ok (.aload_n 0, 1) := by decide +kernel
theorem dX4_translate_14 : decode cX4_translate 14 = .ok (.getfield 10, 3) := by decide +kernel
theorem dX4_translate_17 : decode cX4_translate 17 = .ok (.iload_n 1, 1) := by decide +kernel
theorem dX4_translate_18 : decode cX4_translate 18 = .ok (.iload_n 2, 1) := by decide +kernel
theorem dX4_translate_19 : decode cX4_translate 19 = .ok (.invokevirtual 119, 3) := by decide +kernel
theorem dX4_translate_22 : decode cX4_translate 22 = .ok (.ifCond .eq 13, 3) := by decide +kernel
theorem dX4_translate_25 : decode cX4_translate 25 = .ok (.new 60, 3) := by decide +kernel
theorem dX4_translate_28 : decode cX4_translate 28 = .ok (.dup, 1) := by decide +kernel
theorem dX4_translate_29 : decode cX4_translate 29 = .ok (.ldc 123, 2) := by decide +kernel
theorem dX4_translate_31 : decode cX4_translate 31 = .ok (.invokespecial 64, 3) := by decide +kernel
theorem dX4_translate_34 : decode cX4_translate 34 = .ok (.athrow, 1) := by decide +kernel
theorem dX4_translate_35 : decode cX4_translate 35 = .ok (.aload_n 0, 1) := by decide +kernel
theorem dX4_translate_36 : decode cX4_translate 36 = .ok (.getfield 19, 3) := by decide +kernel
theorem dX4_translate_39 : decode cX4_translate 39 = .ok (.aload_n 0, 1) := by decide +kernel
theorem dX4_translate_40 : decode cX4_translate 40 = .ok (.getfield 10, 3) := by decide +kernel
theorem dX4_translate_43 : decode cX4_translate 43 = .ok (.invokevirtual 67, 3) := by decide +kernel
theorem dX4_translate_46 : decode cX4_translate 46 = .ok (.aload_n 0, 1) := by decide +kernel
theorem dX4_translate_47 : decode cX4_translate 47 = .ok (.getfield 10, 3) := by decide +kernel
theorem dX4_translate_50 : decode cX4_translate 50 = .ok (.iload_n 1, 1) := by decide +kernel
theorem dX4_translate_51 : decode cX4_translate 51 = .ok (.iload_n 2, 1) := by decide +kernel
theorem dX4_translate_52 : decode cX4_translate 52 = .ok (.iload_n 3, 1) := by decide +kernel
theorem dX4_translate_53 : decode cX4_translate 53 = .ok (.iconst 0, 1) := by decide +kernel
theorem dX4_translate_54 : decode cX4_translate 54 = .ok (.invokevirtual 125, 3) := by decide +kernel
theorem dX4_translate_57 : decode cX4_translate 57 = .ok (.aload_n 0, 1) := by decide +kernel
theorem dX4_translate_58 : decode cX4_translate 58 = .ok (.getfield 10, 3) := by decide +kernel
theorem dX4_translate_61 : decode cX4_translate 61 = .ok (.iload_n 1, 1) := by decide +kernel
theorem dX4_translate_62 : decode cX4_translate 62 = .ok (.iload_n 2, 1) := by decide +kernel
theorem dX4_translate_63 : decode cX4_translate 63 = .ok (.invokevirtual 129, 3) := by decide +kernel
theorem dX4_translate_66 : decode cX4_translate 66 = .ok (.ireturn, 1) := by decide +kernel
theorem dX4_annex_0 : decode cX4_annex 0 = .ok (.aload_n 0, 1) := by decide +kernel
theorem dX4_annex_1 : decode cX4_annex 1 = .ok (.iload_n 1, 1) := by decide +kernel
theorem dX4_annex_2 : decode cX4_annex 2 = .ok (.iload_n 2, 1) := by decide +kernel
theorem dX4_annex_3 : decode cX4_annex 3 = .ok (.invokevirtual 115, 3) := by decide +kernel
theorem dX4_annex_6 : decode cX4_annex 6 = .ok (.iload_n 3, 1) := by decide +kernel
theorem dX4_annex_7 : decode cX4_annex 7 = .ok (.iconst 1, 1) := by decide +kernel
theorem dX4_annex_8 : decode cX4_annex 8 = .ok (.bipush 59, 2) := by decide +kernel
theorem dX4_annex_10 : decode cX4_annex 10 = .ok (.invokestatic 52, 3) := by decide +kernel
theorem dX4_annex_13 : decode cX4_annex 13 = .ok (.aload_n 0, 1) := by decide +kernel
theorem dX4_annex_14 : decode cX4_annex 14 = .ok (.getfield 10, 3) := by decide +kernel
theorem dX4_annex_17 : decode cX4_annex 17 = .ok (.iload_n 1, 1) := by decide +kernel
theorem dX4_annex_18 : decode cX4_annex 18 = .ok (.iload_n 2, 1) := by decide +kernel
theorem dX4_annex_19 : decode cX4_annex 19 = .ok (.iload_n 3, 1) := by decide +kernel
theorem dX4_annex_20 : decode cX4_annex 20 = .ok (.invokevirtual 133, 3) := by decide +kernel
theorem dX4_annex_23 : decode cX4_annex 23 = .ok (.ifCond .ne 13, 3) := by decide +kernel
theorem dX4_annex_26 : decode cX4_annex 26 = .ok (.new 60, 3) := by decide +kernel
theorem dX4_annex_29 : decode cX4_annex 29 = .ok (.dup, 1) := by decide +kernel
theorem dX4_annex_30 : decode cX4_annex 30 = .ok (.ldc 137, 2) := by decide +kernel
theorem dX4_annex_32 : decode cX4_annex 32 = .ok (.invokespecial 64, 3) := by decide +kernel
theorem dX4_annex_35 : decode cX4_annex 35 = .ok (.athrow, 1) := by decide +kernel
theorem dX4_annex_36 : decode cX4_annex 36 = .ok (.aload_n 0, 1) := by decide +kernel
theorem dX4_annex_37 : decode cX4_annex 37 = .ok (.getfield 19, 3) := by decide +kernel
theorem dX4_annex_40 : decode cX4_annex 40 = .ok (.aload_n 0, 1) := by decide +kernel
theorem dX4_annex_41 : decode cX4_annex 41 = .ok (.getfield 10, 3) := by decide +kernel
theorem dX4_annex_44 : decode cX4_annex 44 = .ok (.invokevirtual 67, 3) := by decide +kernel
theorem dX4_annex_47 : decode cX4_annex 47 = .ok (.aload_n 0, 1) := by decide +kernel
theorem dX4_annex_48 : decode cX4_annex 48 = .ok (.getfield 10, 3) := by decide +kernel
theorem dX4_annex_51 : decode cX4_annex 51 = .ok (.iload_n 1, 1) := by decide +kernel
theorem dX4_annex_52 : decode cX4_annex 52 = .ok (.iload_n 2, 1) := by decide +kernel
theorem dX4_annex_53 : decode cX4_annex 53 = .ok (.invokevirtual 139, 3) := by decide +kernel
theorem dX4_annex_56 : decode cX4_annex 56 = .ok (.iload_n 3, 1) := by decide +kernel
theorem dX4_annex_57 : decode cX4_annex 57 = .ok (.isub, 1) := by decide +kernel
theorem dX4_annex_58 : decode cX4_annex 58 = .ok (.istore 4, 2) := by decide +kernel
theorem dX4_annex_60 : decode cX4_annex 60 = .ok (.aload_n 0, 1) := by decide +kernel
theorem dX4_annex_61 : decode cX4_annex 61 = .ok (.getfield 10, 3) := by decide +kernel
theorem dX4_annex_64 : decode cX4_annex 64 = .ok (.iload_n 1, 1) := by decide +kernel
theorem dX4_annex_65 : decode cX4_annex 65 = .ok (.iload_n 2, 1) := by decide +kernel
theorem dX4_annex_66 : decode cX4_annex 66 = .ok (.iload 4, 2) := by decide +kernel
theorem dX4_annex_68 : decode cX4_annex 68 = .ok (.aload_n 0, 1) := by decide +kernel
theorem dX4_annex_69 : decode cX4_annex 69 = .ok (.getfield 10, 3) := by decide +kernel
theorem dX4_annex_72 : decode cX4_annex 72 = .ok (.iload_n 1, 1) := by decide +kernel
theorem dX4_annex_73 : decode cX4_annex 73 = .ok (.iload_n 2, 1) := by decide +kernel
theorem dX4_annex_74 : decode cX4_annex 74 = .ok (.invokevirtual 142, 3) := by decide +kernel
theorem dX4_annex_77 : decode cX4_annex 77 = .ok (.iload_n 3, 1) := by decide +kernel
theorem dX4_annex_78 : decode cX4_annex 78 = .ok (.iadd, 1) := by decide +kernel
theorem dX4_annex_79 : decode cX4_annex 79 = .ok (.invokevirtual 125, 3) := by decide +kernel
theorem dX4_annex_82 : decode cX4_annex 82 = .ok (.aload_n 0, 1) := by decide +kernel
theorem dX4_annex_83 : decode cX4_annex 83 = .ok (.getfield 10, 3) := by decide +kernel
theorem dX4_annex_86 : decode cX4_annex 86 = .ok (.iload_n 2, 1) := by decide +kernel
theorem dX4_annex_87 : decode cX4_annex 87 = .ok (.invokevirtual 145, 3) := by decide +kernel
theorem dX4_annex_90 : decode cX4_annex 90 = .ok (.ireturn, 1) := by decide +kernel
theorem dX4_bringBack_0 : decode cX4_bringBack 0 = .ok (.aload_n 0, 1) := by decide +kernel
theorem dX4_bringBack_1 : decode cX4_bringBack 1 = .ok (.iload_n 1, 1) := by decide +kernel
theorem dX4_bringBack_2 : decode cX4_bringBack 2 = .ok (.iload_n 2, 1) := by decide +kernel
theorem dX4_bringBack_3 : decode cX4_bringBack 3 = .ok (.invokevirtual 115, 3) := by decide +kernel
theorem dX4_bringBack_6 : decode cX4_bringBack 6 = .ok (.aload_n 0, 1) := by decide +kernel
theorem dX4_bringBack_7 : decode cX4_bringBack 7 = .ok (.getfield 10, 3) := by decide +kernel
theorem dX4_bringBack_10 : decode cX4_bringBack 10 = .ok (.iload_n 1, 1) := by decide +kernel
theorem dX4_bringBack_11 : decode cX4_bringBack 11 = .ok (.iload_n 2, 1) := by decide +kernel
theorem dX4_bringBack_12 : decode cX4_bringBack 12 = .ok (.invokevirtual 142, 3) := by decide +kernel
theorem dX4_bringBack_15 : decode cX4_bringBack 15 = .ok (.istore_n 3, 1) := by decide +kernel
theorem dX4_bringBack_16 : decode cX4_bringBack 16 = .ok (.iload_n 3, 1) := by decide +kernel
theorem dX4_bringBack_17 : decode cX4_bringBack 17 = .ok (.ifCond .eq 15, 3) := by decide +kernel
theorem dX4_bringBack_20 : decode cX4_bringBack 20 = .ok (.aload_n 0, 1) := by decide +kernel
theorem dX4_bringBack_21 : decode cX4_bringBack 21 = .ok (.getfield 10, 3) := by decide +kernel
theorem dX4_bringBack_24 : decode cX4_bringBack 24 = .ok (.iload_n 1, 1) := by decide +kernel
theorem dX4_bringBack_25 : decode cX4_bringBack 25 = .ok (.iload_n 2, 1) := by decide +kernel
theorem dX4_bringBack_26 : decode cX4_bringBack 26 = .ok (.invokevirtual 119, 3) := by decide +kernel
theorem dX4_bringBack_29 : decode cX4_bringBack 29 = .ok (.ifCond .eq 13, 3) := by decide +kernel
theorem dX4_bringBack_32 : decode cX4_bringBack 32 = .ok (.new 60, 3) := by decide +kernel
theorem dX4_bringBack_35 : decode cX4_bringBack 35 = .ok (.dup, 1) := by decide +kernel
theorem dX4_bringBack_36 : decode cX4_bringBack 36 = .ok (.ldc 148, 2) := by decide +kernel
theorem dX4_bringBack_38 : decode cX4_bringBack 38 = .ok (.invokespecial 64, 3) := by decide +kernel
theorem dX4_bringBack_41 : decode cX4_bringBack 41 = .ok (.athrow, 1) := by decide +kernel
theorem dX4_bringBack_42 : decode cX4_bringBack 42 = .ok (.aload_n 0, 1) := by decide +kernel
theorem dX4_bringBack_43 : decode cX4_bringBack 43 = .ok (.getfield 19, 3) := by decide +kernel
theorem dX4_bringBack_46 : decode cX4_bringBack 46 = .ok (.aload_n 0, 1) := by decide +kernel
theorem dX4_bringBack_47 : decode cX4_bringBack 47 = .ok (.getfield 10, 3) := by decide +kernel
theorem dX4_bringBack_50 : decode cX4_bringBack 50 = .ok (.invokevirtual 67, 3) := by decide +kernel
theorem dX4_bringBack_53 : decode cX4_bringBack 53 = .ok (.aload_n 0, 1) := by decide +kernel
theorem dX4_bringBack_54 : decode cX4_bringBack 54 = .ok (.getfield 10, 3) := by decide +kernel
theorem dX4_bringBack_57 : decode cX4_bringBack 57 = .ok (.iload_n 1, 1) := by decide +kernel
theorem dX4_bringBack_58 : decode cX4_bringBack 58 = .ok (.iload_n 2, 1) := by decide +kernel
theorem dX4_bringBack_59 : decode cX4_bringBack 59 = .ok (.aload_n 0, 1) := by decide +kernel
theorem dX4_bringBack_60 : decode cX4_bringBack 60 = .ok (.getfield 10, 3) := by decide +kernel
theorem dX4_bringBack_63 : decode cX4_bringBack 63 = .ok (.iload_n 1, 1) := by decide +kernel
theorem dX4_bringBack_64 : decode cX4_bringBack 64 = .ok (.iload_n 2, 1) := by decide +kernel
theorem dX4_bringBack_65 : decode cX4_bringBack 65 = .ok (.invokevirtual 139, 3) := by decide +kernel
theorem dX4_bringBack_68 : decode cX4_bringBack 68 = .ok (.iload_n 3, 1) := by decide +kernel
theorem dX4_bringBack_69 : decode cX4_bringBack 69 = .ok (.iadd, 1) := by decide +kernel
theorem dX4_bringBack_70 : decode cX4_bringBack 70 = .ok (.iconst 0, 1) := by decide +kernel
theorem dX4_bringBack_71 : decode cX4_bringBack 71 = .ok (.invokevirtual 125, 3) := by decide +kernel
theorem dX4_bringBack_74 : decode cX4_bringBack 74 = .ok (.iload_n 3, 1) := by decide +kernel
theorem dX4_bringBack_75 : decode cX4_bringBack 75 = .ok (.ireturn, 1) := by decide +kernel
theorem dX4_cast_0 : decode cX4_cast 0 = .ok (.iload_n 1, 1) := by decide +kernel
theorem dX4_cast_1 : decode cX4_cast 1 = .ok (.iload_n 2, 1) := by decide +kernel
theorem dX4_cast_2 : decode cX4_cast 2 = .ok (.invokestatic 150, 3) := by decide +kernel
theorem dX4_cast_5 : decode cX4_cast 5 = .ok (.iload_n 3, 1) := by decide +kernel
theorem dX4_cast_6 : decode cX4_cast 6 = .ok (.bipush 20, 2) := by decide +kernel
theorem dX4_cast_8 : decode cX4_cast 8 = .ok (.bipush 120, 2) := by decide +kernel
theorem dX4_cast_10 : decode cX4_cast 10 = .ok (.invokestatic 52, 3) := by decide +kernel
theorem dX4_cast_13 : decode cX4_cast 13 = .ok (.aload_n 0, 1) := by decide +kernel
theorem dX4_cast_14 : decode cX4_cast 14 = .ok (.getfield 10, 3) := by decide +kernel
theorem dX4_cast_17 : decode cX4_cast 17 = .ok (.iload_n 1, 1) := by decide +kernel
theorem dX4_cast_18 : decode cX4_cast 18 = .ok (.iload_n 2, 1) := by decide +kernel
theorem dX4_cast_19 : decode cX4_cast 19 = .ok (.invokevirtual 153, 3) := by decide +kernel
theorem dX4_cast_22 : decode cX4_cast 22 = .ok (.iload_n 3, 1) := by decide +kernel
theorem dX4_cast_23 : decode cX4_cast 23 = .ok (.if_icmp .le 13, 3) := by decide +kernel
theorem dX4_cast_26 : decode cX4_cast 26 = .ok (.new 60, 3) := by decide +kernel
theorem dX4_cast_29 : decode cX4_cast 29 = .ok (.dup, 1) := by decide +kernel
theorem dX4_cast_30 : decode cX4_cast 30 = .ok (.ldc 156, 2) := by decide +kernel
theorem dX4_cast_32 : decode cX4_cast 32 = .ok (.invokespecial 64, 3) := by decide +kernel
theorem dX4_cast_35 : decode cX4_cast 35 = .ok (.athrow, 1) := by decide +kernel
theorem dX4_cast_36 : decode cX4_cast 36 = .ok (.aload_n 0, 1) := by decide +kernel
theorem dX4_cast_37 : decode cX4_cast 37 = .ok (.getfield 19, 3) := by decide +kernel
theorem dX4_cast_40 : decode cX4_cast 40 = .ok (.aload_n 0, 1) := by decide +kernel
theorem dX4_cast_41 : decode cX4_cast 41 = .ok (.getfield 10, 3) := by decide +kernel
theorem dX4_cast_44 : decode cX4_cast 44 = .ok (.invokevirtual 67, 3) := by decide +kernel
theorem dX4_cast_47 : decode cX4_cast 47 = .ok (.aload_n 0, 1) := by decide +kernel
theorem dX4_cast_48 : decode cX4_cast 48 = .ok (.getfield 10, 3) := by decide +kernel
theorem dX4_cast_51 : decode cX4_cast 51 = .ok (.iload_n 1, 1) := by decide +kernel
theorem dX4_cast_52 : decode cX4_cast 52 = .ok (.iload_n 2, 1) := by decide +kernel
theorem dX4_cast_53 : decode cX4_cast 53 = .ok (.invokevirtual 158, 3) := by decide +kernel
theorem dX4_cast_56 : decode cX4_cast 56 = .ok (.istore 4, 2) := by decide +kernel
theorem dX4_cast_58 : decode cX4_cast 58 = .ok (.aload_n 0, 1) := by decide +kernel
theorem dX4_cast_59 : decode cX4_cast 59 = .ok (.getfield 10, 3) := by decide +kernel
theorem dX4_cast_62 : decode cX4_cast 62 = .ok (.iload_n 1, 1) := by decide +kernel
theorem dX4_cast_63 : decode cX4_cast 63 = .ok (.iload_n 2, 1) := by decide +kernel
theorem dX4_cast_64 : decode cX4_cast 64 = .ok (.iload_n 3, 1) := by decide +kernel
theorem dX4_cast_65 : decode cX4_cast 65 = .ok (.invokevirtual 161, 3) := by decide +kernel
theorem dX4_cast_68 : decode cX4_cast 68 = .ok (.iload 4, 2) := by decide +kernel
theorem dX4_cast_70 : decode cX4_cast 70 = .ok (.ireturn, 1) := by decide +kernel
theorem dX4_record_0 : decode cX4_record 0 = .ok (.aload_n 0, 1) := by decide +kernel
theorem dX4_record_1 : decode cX4_record 1 = .ok (.iload_n 1, 1) := by decide +kernel
theorem dX4_record_2 : decode cX4_record 2 = .ok (.iload_n 2, 1) := by decide +kernel
theorem dX4_record_3 : decode cX4_record 3 = .ok (.invokevirtual 115, 3) := by decide +kernel
theorem dX4_record_6 : decode cX4_record 6 = .ok (.aload_n 0, 1) := by decide +kernel
theorem dX4_record_7 : decode cX4_record 7 = .ok (.getfield 10, 3) := by decide +kernel
theorem dX4_record_10 : decode cX4_record 10 = .ok (.iload_n 1, 1) := by decide +kernel
theorem dX4_record_11 : decode cX4_record 11 = .ok (.iload_n 2, 1) := by decide +kernel
theorem dX4_record_12 : decode cX4_record 12 = .ok (.invokevirtual 164, 3) := by decide +kernel
theorem dX4_record_15 : decode cX4_record 15 = .ok (.ifCond .eq 13, 3) := by decide +kernel
theorem dX4_record_18 : decode cX4_record 18 = .ok (.new 60, 3) := by decide +kernel
theorem dX4_record_21 : decode cX4_record 21 = .ok (.dup, 1) := by decide +kernel
theorem dX4_record_22 : decode cX4_record 22 = .ok (.ldc 167, 2) := by decide +kernel
theorem dX4_record_24 : decode cX4_record 24 = .ok (.invokespecial 64, 3) := by decide +kernel
theorem dX4_record_27 : decode cX4_record 27 = .ok (.athrow, 1) := by decide +kernel
theorem dX4_record_28 : decode cX4_record 28 = .ok (.aload_n 0, 1) := by decide +kernel
theorem dX4_record_29 : decode cX4_record 29 = .ok (.getfield 19, 3) := by decide +kernel
theorem dX4_record_32 : decode cX4_record 32 = .ok (.aload_n 0, 1) := by decide +kernel
theorem dX4_record_33 : decode cX4_record 33 = .ok (.getfield 10, 3) := by decide +kernel
theorem dX4_record_36 : decode cX4_record 36 = .ok (.invokevirtual 67, 3) := by decide +kernel
theorem dX4_record_39 : decode cX4_record 39 = .ok (.aload_n 0, 1) := by decide +kernel
theorem dX4_record_40 : decode cX4_record 40 = .ok (.getfield 10, 3) := by decide +kernel
theorem dX4_record_43 : decode cX4_record 43 = .ok (.iload_n 1, 1) := by decide +kernel
theorem dX4_record_44 : decode cX4_record 44 = .ok (.iload_n 2, 1) := by decide +kernel
theorem dX4_record_45 : decode cX4_record 45 = .ok (.invokevirtual 169, 3) := by decide +kernel
theorem dX4_record_48 : decode cX4_record 48 = .ok (.aload_n 0, 1) := by decide +kernel
theorem dX4_record_49 : decode cX4_record 49 = .ok (.getfield 10, 3) := by decide +kernel
theorem dX4_record_52 : decode cX4_record 52 = .ok (.aload_n 0, 1) := by decide +kernel
theorem dX4_record_53 : decode cX4_record 53 = .ok (.getfield 10, 3) := by decide +kernel
theorem dX4_record_56 : decode cX4_record 56 = .ok (.iload_n 1, 1) := by decide +kernel
theorem dX4_record_57 : decode cX4_record 57 = .ok (.invokevirtual 172, 3) := by decide +kernel
theorem dX4_record_60 : decode cX4_record 60 = .ok (.iload_n 2, 1) := by decide +kernel
theorem dX4_record_61 : decode cX4_record 61 = .ok (.invokevirtual 175, 3) := by decide +kernel
theorem dX4_record_64 : decode cX4_record 64 = .ok (.ireturn, 1) := by decide +kernel
theorem dX4_wipe_0 : decode cX4_wipe 0 = .ok (.aload_n 0, 1) := by decide +kernel
theorem dX4_wipe_1 : decode cX4_wipe 1 = .ok (.iload_n 1, 1) := by decide +kernel
theorem dX4_wipe_2 : decode cX4_wipe 2 = .ok (.iload_n 2, 1) := by decide +kernel
theorem dX4_wipe_3 : decode cX4_wipe 3 = .ok (.invokevirtual 115, 3) := by decide +kernel
theorem dX4_wipe_6 : decode cX4_wipe 6 = .ok (.aload_n 0, 1) := by decide +kernel
theorem dX4_wipe_7 : decode cX4_wipe 7 = .ok (.iload_n 1, 1) := by decide +kernel
theorem dX4_wipe_8 : decode cX4_wipe 8 = .ok (.iload_n 2, 1) := by decide +kernel
theorem dX4_wipe_9 : decode cX4_wipe 9 = .ok (.invokevirtual 178, 3) := by decide +kernel
theorem dX4_wipe_12 : decode cX4_wipe 12 = .ok (.aload_n 0, 1) := by decide +kernel
theorem dX4_wipe_13 : decode cX4_wipe 13 = .ok (.getfield 19, 3) := by decide +kernel
theorem dX4_wipe_16 : decode cX4_wipe 16 = .ok (.aload_n 0, 1) := by decide +kernel
theorem dX4_wipe_17 : decode cX4_wipe 17 = .ok (.getfield 10, 3) := by decide +kernel
theorem dX4_wipe_20 : decode cX4_wipe 20 = .ok (.invokevirtual 67, 3) := by decide +kernel
theorem dX4_wipe_23 : decode cX4_wipe 23 = .ok (.aload_n 0, 1) := by decide +kernel
theorem dX4_wipe_24 : decode cX4_wipe 24 = .ok (.getfield 10, 3) := by decide +kernel
theorem dX4_wipe_27 : decode cX4_wipe 27 = .ok (.iload_n 1, 1) := by decide +kernel
theorem dX4_wipe_28 : decode cX4_wipe 28 = .ok (.iload_n 2, 1) := by decide +kernel
theorem dX4_wipe_29 : decode cX4_wipe 29 = .ok (.invokevirtual 181, 3) := by decide +kernel
theorem dX4_wipe_32 : decode cX4_wipe 32 = .ok (.istore_n 3, 1) := by decide +kernel
theorem dX4_wipe_33 : decode cX4_wipe 33 = .ok (.aload_n 0, 1) := by decide +kernel
theorem dX4_wipe_34 : decode cX4_wipe 34 = .ok (.getfield 10, 3) := by decide +kernel
theorem dX4_wipe_37 : decode cX4_wipe 37 = .ok (.iload_n 1, 1) := by decide +kernel
theorem dX4_wipe_38 : decode cX4_wipe 38 = .ok (.iload_n 2, 1) := by decide +kernel
theorem dX4_wipe_39 : decode cX4_wipe 39 = .ok (.invokevirtual 184, 3) := by decide +kernel
theorem dX4_wipe_42 : decode cX4_wipe 42 = .ok (.iload_n 3, 1) := by decide +kernel
theorem dX4_wipe_43 : decode cX4_wipe 43 = .ok (.ireturn, 1) := by decide +kernel
theorem dX4_nextSession_0 : decode cX4_nextSession 0 = .ok (.aload_n 0, 1) := by decide +kernel
theorem dX4_nextSession_1 : decode cX4_nextSession 1 = .ok (.getfield 10, 3) := by decide +kernel
theorem dX4_nextSession_4 : decode cX4_nextSession 4 = .ok (.getfield 187, 3) := by decide +kernel
theorem dX4_nextSession_7 : decode cX4_nextSession 7 = .ok (.sipush 999, 3) := by decide +kernel
theorem dX4_nextSession_10 : decode cX4_nextSession 10 = .ok (.if_icmp .lt 13, 3) := by decide +kernel
theorem dX4_nextSession_13 : decode cX4_nextSession 13 = .ok (.new 60, 3) := by decide +kernel
theorem dX4_nextSession_16 : decode cX4_nextSession 16 = .ok (.dup, 1) := by decide +kernel
theorem dX4_nextSession_17 : decode cX4_nextSession 17 = .ok (.ldc 190, 2) := by decide +kernel
theorem dX4_nextSession_19 : decode cX4_nextSession 19 = .ok (.invokespecial 64, 3) := by decide +kernel
theorem dX4_nextSession_22 : decode cX4_nextSession 22 = .ok (.athrow, 1) := by decide +kernel
theorem dX4_nextSession_23 : decode cX4_nextSession 23 = .ok (.aload_n 0, 1) := by decide +kernel
theorem dX4_nextSession_24 : decode cX4_nextSession 24 = .ok (.getfield 19, 3) := by decide +kernel
theorem dX4_nextSession_27 : decode cX4_nextSession 27 = .ok (.aload_n 0, 1) := by decide +kernel
theorem dX4_nextSession_28 : decode cX4_nextSession 28 = .ok (.getfield 10, 3) := by decide +kernel
theorem dX4_nextSession_31 : decode cX4_nextSession 31 = .ok (.invokevirtual 67, 3) := by decide +kernel
theorem dX4_nextSession_34 : decode cX4_nextSession 34 = .ok (.aload_n 0, 1) := by decide +kernel
theorem dX4_nextSession_35 : decode cX4_nextSession 35 = .ok (.getfield 10, 3) := by decide +kernel
theorem dX4_nextSession_38 : decode cX4_nextSession 38 = .ok (.invokevirtual 192, 3) := by decide +kernel
theorem dX4_nextSession_41 : decode cX4_nextSession 41 = .ok (.aload_n 0, 1) := by decide +kernel
theorem dX4_nextSession_42 : decode cX4_nextSession 42 = .ok (.getfield 10, 3) := by decide +kernel
theorem dX4_nextSession_45 : decode cX4_nextSession 45 = .ok (.getfield 187, 3) := by decide +kernel
theorem dX4_nextSession_48 : decode cX4_nextSession 48 = .ok (.ireturn, 1) := by decide +kernel
theorem dX4_mix_0 : decode cX4_mix 0 = .ok (.iload_n 1, 1) := by decide +kernel
theorem dX4_mix_1 : decode cX4_mix 1 = .ok (.invokestatic 45, 3) := by decide +kernel
theorem dX4_mix_4 : decode cX4_mix 4 = .ok (.iload_n 2, 1) := by decide +kernel
theorem dX4_mix_5 : decode cX4_mix 5 = .ok (.invokestatic 195, 3) := by decide +kernel
theorem dX4_mix_8 : decode cX4_mix 8 = .ok (.aload_n 0, 1) := by decide +kernel
theorem dX4_mix_9 : decode cX4_mix 9 = .ok (.getfield 10, 3) := by decide +kernel
theorem dX4_mix_12 : decode cX4_mix 12 = .ok (.iload_n 1, 1) := by decide +kernel
theorem dX4_mix_13 : decode cX4_mix 13 = .ok (.iload_n 2, 1) := by decide +kernel
theorem dX4_mix_14 : decode cX4_mix 14 = .ok (.invokevirtual 198, 3) := by decide +kernel
theorem dX4_mix_17 : decode cX4_mix 17 = .ok (.ifCond .ne 15, 3) := by decide +kernel
theorem dX4_mix_20 : decode cX4_mix 20 = .ok (.aload_n 0, 1) := by decide +kernel
theorem dX4_mix_21 : decode cX4_mix 21 = .ok (.getfield 10, 3) := by decide +kernel
theorem dX4_mix_24 : decode cX4_mix 24 = .ok (.iload_n 1, 1) := by decide +kernel
theorem dX4_mix_25 : decode cX4_mix 25 = .ok (.iload_n 2, 1) := by decide +kernel
theorem dX4_mix_26 : decode cX4_mix 26 = .ok (.invokevirtual 201, 3) := by decide +kernel
theorem dX4_mix_29 : decode cX4_mix 29 = .ok (.ifCond .ne 13, 3) := by decide +kernel
theorem dX4_mix_32 : decode cX4_mix 32 = .ok (.new 60, 3) := by decide +kernel
theorem dX4_mix_35 : decode cX4_mix 35 = .ok (.dup, 1) := by decide +kernel
theorem dX4_mix_36 : decode cX4_mix 36 = .ok (.ldc 204, 2) := by decide +kernel
theorem dX4_mix_38 : decode cX4_mix 38 = .ok (.invokespecial 64, 3) := by decide +kernel
theorem dX4_mix_41 : decode cX4_mix 41 = .ok (.athrow, 1) := by decide +kernel
theorem dX4_mix_42 : decode cX4_mix 42 = .ok (.aload_n 0, 1) := by decide +kernel
theorem dX4_mix_43 : decode cX4_mix 43 = .ok (.getfield 19, 3) := by decide +kernel
theorem dX4_mix_46 : decode cX4_mix 46 = .ok (.aload_n 0, 1) := by decide +kernel
theorem dX4_mix_47 : decode cX4_mix 47 = .ok (.getfield 10, 3) := by decide +kernel
theorem dX4_mix_50 : decode cX4_mix 50 = .ok (.invokevirtual 67, 3) := by decide +kernel
theorem dX4_mix_53 : decode cX4_mix 53 = .ok (.aload_n 0, 1) := by decide +kernel
theorem dX4_mix_54 : decode cX4_mix 54 = .ok (.getfield 10, 3) := by decide +kernel
theorem dX4_mix_57 : decode cX4_mix 57 = .ok (.iload_n 1, 1) := by decide +kernel
theorem dX4_mix_58 : decode cX4_mix 58 = .ok (.iload_n 2, 1) := by decide +kernel
theorem dX4_mix_59 : decode cX4_mix 59 = .ok (.invokevirtual 206, 3) := by decide +kernel
theorem dX4_mix_62 : decode cX4_mix 62 = .ok (.aload_n 0, 1) := by decide +kernel
theorem dX4_mix_63 : decode cX4_mix 63 = .ok (.getfield 10, 3) := by decide +kernel
theorem dX4_mix_66 : decode cX4_mix 66 = .ok (.iload_n 1, 1) := by decide +kernel
theorem dX4_mix_67 : decode cX4_mix 67 = .ok (.iload_n 2, 1) := by decide +kernel
theorem dX4_mix_68 : decode cX4_mix 68 = .ok (.invokevirtual 209, 3) := by decide +kernel
theorem dX4_mix_71 : decode cX4_mix 71 = .ok (.ireturn, 1) := by decide +kernel
theorem dX4_sign_0 : decode cX4_sign 0 = .ok (.iload_n 1, 1) := by decide +kernel
theorem dX4_sign_1 : decode cX4_sign 1 = .ok (.invokestatic 49, 3) := by decide +kernel
theorem dX4_sign_4 : decode cX4_sign 4 = .ok (.iload_n 2, 1) := by decide +kernel
theorem dX4_sign_5 : decode cX4_sign 5 = .ok (.invokestatic 45, 3) := by decide +kernel
theorem dX4_sign_8 : decode cX4_sign 8 = .ok (.iload_n 3, 1) := by decide +kernel
theorem dX4_sign_9 : decode cX4_sign 9 = .ok (.invokestatic 195, 3) := by decide +kernel
theorem dX4_sign_12 : decode cX4_sign 12 = .ok (.aload_n 0, 1) := by decide +kernel
theorem dX4_sign_13 : decode cX4_sign 13 = .ok (.getfield 10, 3) := by decide +kernel
theorem dX4_sign_16 : decode cX4_sign 16 = .ok (.iload_n 2, 1) := by decide +kernel
theorem dX4_sign_17 : decode cX4_sign 17 = .ok (.iload_n 3, 1) := by decide +kernel
theorem dX4_sign_18 : decode cX4_sign 18 = .ok (.invokevirtual 198, 3) := by decide +kernel
theorem dX4_sign_21 : decode cX4_sign 21 = .ok (.ifCond .eq 28, 3) := by decide +kernel
theorem dX4_sign_24 : decode cX4_sign 24 = .ok (.aload_n 0, 1) := by decide +kernel
theorem dX4_sign_25 : decode cX4_sign 25 = .ok (.getfield 10, 3) := by decide +kernel
theorem dX4_sign_28 : decode cX4_sign 28 = .ok (.iload_n 1, 1) := by decide +kernel
theorem dX4_sign_29 : decode cX4_sign 29 = .ok (.iload_n 2, 1) := by decide +kernel
theorem dX4_sign_30 : decode cX4_sign 30 = .ok (.invokevirtual 212, 3) := by decide +kernel
theorem dX4_sign_33 : decode cX4_sign 33 = .ok (.ifCond .eq 16, 3) := by decide +kernel
theorem dX4_sign_36 : decode cX4_sign 36 = .ok (.aload_n 0, 1) := by decide +kernel
theorem dX4_sign_37 : decode cX4_sign 37 = .ok (.getfield 10, 3) := by decide +kernel
theorem dX4_sign_40 : decode cX4_sign 40 = .ok (.iload_n 1, 1) := by decide +kernel
theorem dX4_sign_41 : decode cX4_sign 41 = .ok (.iload_n 2, 1) := by decide +kernel
theorem dX4_sign_42 : decode cX4_sign 42 = .ok (.iload_n 3, 1) := by decide +kernel
theorem dX4_sign_43 : decode cX4_sign 43 = .ok (.invokevirtual 215, 3) := by decide +kernel
theorem dX4_sign_46 : decode cX4_sign 46 = .ok (.ifCond .eq 13, 3) := by decide +kernel
theorem dX4_sign_49 : decode cX4_sign 49 = .ok (.new 60, 3) := by decide +kernel
theorem dX4_sign_52 : decode cX4_sign 52 = .ok (.dup, 1) := by decide +kernel
theorem dX4_sign_53 : decode cX4_sign 53 = .ok (.ldc 218, 2) := by decide +kernel
theorem dX4_sign_55 : decode cX4_sign 55 = .ok (.invokespecial 64, 3) := by decide +kernel
theorem dX4_sign_58 : decode cX4_sign 58 = .ok (.athrow, 1) := by decide +kernel
theorem dX4_sign_59 : decode cX4_sign 59 = .ok (.aload_n 0, 1) := by decide +kernel
theorem dX4_sign_60 : decode cX4_sign 60 = .ok (.getfield 19, 3) := by decide +kernel
theorem dX4_sign_63 : decode cX4_sign 63 = .ok (.aload_n 0, 1) := by decide +kernel
theorem dX4_sign_64 : decode cX4_sign 64 = .ok (.getfield 10, 3) := by decide +kernel
theorem dX4_sign_67 : decode cX4_sign 67 = .ok (.invokevirtual 67, 3) := by decide +kernel
theorem dX4_sign_70 : decode cX4_sign 70 = .ok (.aload_n 0, 1) := by decide +kernel
theorem dX4_sign_71 : decode cX4_sign 71 = .ok (.getfield 10, 3) := by decide +kernel
theorem dX4_sign_74 : decode cX4_sign 74 = .ok (.iload_n 1, 1) := by decide +kernel
theorem dX4_sign_75 : decode cX4_sign 75 = .ok (.iload_n 2, 1) := by decide +kernel
theorem dX4_sign_76 : decode cX4_sign 76 = .ok (.iload_n 3, 1) := by decide +kernel
theorem dX4_sign_77 : decode cX4_sign 77 = .ok (.invokevirtual 220, 3) := by decide +kernel
theorem dX4_sign_80 : decode cX4_sign 80 = .ok (.aload_n 0, 1) := by decide +kernel
theorem dX4_sign_81 : decode cX4_sign 81 = .ok (.getfield 10, 3) := by decide +kernel
theorem dX4_sign_84 : decode cX4_sign 84 = .ok (.iload_n 2, 1) := by decide +kernel
theorem dX4_sign_85 : decode cX4_sign 85 = .ok (.iload_n 3, 1) := by decide +kernel
theorem dX4_sign_86 : decode cX4_sign 86 = .ok (.invokevirtual 223, 3) := by decide +kernel
theorem dX4_sign_89 : decode cX4_sign 89 = .ok (.ireturn, 1) := by decide +kernel
theorem dX4_append_0 : decode cX4_append 0 = .ok (.iload_n 1, 1) := by decide +kernel
theorem dX4_append_1 : decode cX4_append 1 = .ok (.bipush 33, 2) := by decide +kernel
theorem dX4_append_3 : decode cX4_append 3 = .ok (.bipush 126, 2) := by decide +kernel
theorem dX4_append_5 : decode cX4_append 5 = .ok (.invokestatic 52, 3) := by decide +kernel
theorem dX4_append_8 : decode cX4_append 8 = .ok (.aload_n 0, 1) := by decide +kernel
theorem dX4_append_9 : decode cX4_append 9 = .ok (.getfield 34, 3) := by decide +kernel
theorem dX4_append_12 : decode cX4_append 12 = .ok (.getfield 226, 3) := by decide +kernel
theorem dX4_append_15 : decode cX4_append 15 = .ok (.bipush 60, 2) := by decide +kernel
theorem dX4_append_17 : decode cX4_append 17 = .ok (.if_icmp .lt 13, 3) := by decide +kernel
theorem dX4_append_20 : decode cX4_append 20 = .ok (.new 60, 3) := by decide +kernel
theorem dX4_append_23 : decode cX4_append 23 = .ok (.dup, 1) := by decide +kernel
theorem dX4_append_24 : decode cX4_append 24 = .ok (.ldc 229, 2) := by decide +kernel
theorem dX4_append_26 : decode cX4_append 26 = .ok (.invokespecial 64, 3) := by decide +kernel
theorem dX4_append_29 : decode cX4_append 29 = .ok (.athrow, 1) := by decide +kernel
theorem dX4_append_30 : decode cX4_append 30 = .ok (.aload_n 0, 1) := by decide +kernel
theorem dX4_append_31 : decode cX4_append 31 = .ok (.getfield 34, 3) := by decide +kernel
theorem dX4_append_34 : decode cX4_append 34 = .ok (.iload_n 1, 1) := by decide +kernel
theorem dX4_append_35 : decode cX4_append 35 = .ok (.invokevirtual 231, 3) := by decide +kernel
theorem dX4_append_38 : decode cX4_append 38 = .ok (.aload_n 0, 1) := by decide +kernel
theorem dX4_append_39 : decode cX4_append 39 = .ok (.getfield 34, 3) := by decide +kernel
theorem dX4_append_42 : decode cX4_append 42 = .ok (.getfield 226, 3) := by decide +kernel
theorem dX4_append_45 : decode cX4_append 45 = .ok (.ireturn, 1) := by decide +kernel
theorem dX4_clearBuffer_0 : decode cX4_clearBuffer 0 = .ok (.aload_n 0, 1) := by decide +kernel
theorem dX4_clearBuffer_1 : decode cX4_clearBuffer 1 = .ok (.getfield 34, 3) := by decide +kernel
theorem dX4_clearBuffer_4 : decode cX4_clearBuffer 4 = .ok (.getfield 226, 3) := by decide +kernel
theorem dX4_clearBuffer_7 : decode cX4_clearBuffer 7 = .ok (.istore_n 1, 1) := by decide +kernel
theorem dX4_clearBuffer_8 : decode cX4_clearBuffer 8 = .ok (.aload_n 0, 1) := by decide +kernel
theorem dX4_clearBuffer_9 : decode cX4_clearBuffer 9 = .ok (.getfield 34, 3) := by decide +kernel
theorem dX4_clearBuffer_12 : decode cX4_clearBuffer 12 = .ok (.iconst 0, 1) := by decide +kernel
theorem dX4_clearBuffer_13 : decode cX4_clearBuffer 13 = .ok (.putfield 226, 3) := by decide +kernel
theorem dX4_clearBuffer_16 : decode cX4_clearBuffer 16 = .ok (.iload_n 1, 1) := by decide +kernel
theorem dX4_clearBuffer_17 : decode cX4_clearBuffer 17 = .ok (.ireturn, 1) := by decide +kernel
theorem dX4_firstError_0 : decode cX4_firstError 0 = .ok (.aload_n 0, 1) := by decide +kernel
theorem dX4_firstError_1 : decode cX4_firstError 1 = .ok (.getfield 34, 3) := by decide +kernel
theorem dX4_firstError_4 : decode cX4_firstError 4 = .ok (.invokevirtual 234, 3) := by decide +kernel
theorem dX4_firstError_7 : decode cX4_firstError 7 = .ok (.ireturn, 1) := by decide +kernel
theorem dX4_load_0 : decode cX4_load 0 = .ok (.aload_n 0, 1) := by decide +kernel
theorem dX4_load_1 : decode cX4_load 1 = .ok (.getfield 34, 3) := by decide +kernel
theorem dX4_load_4 : decode cX4_load 4 = .ok (.invokevirtual 238, 3) := by decide +kernel
theorem dX4_load_7 : decode cX4_load 7 = .ok (.ifCond .ne 13, 3) := by decide +kernel
theorem dX4_load_10 : decode cX4_load 10 = .ok (.new 242, 3) := by decide +kernel
theorem dX4_load_13 : decode cX4_load 13 = .ok (.dup, 1) := by decide +kernel
theorem dX4_load_14 : decode cX4_load 14 = .ok (.ldc 244, 2) := by decide +kernel
theorem dX4_load_16 : decode cX4_load 16 = .ok (.invokespecial 246, 3) := by decide +kernel
theorem dX4_load_19 : decode cX4_load 19 = .ok (.athrow, 1) := by decide +kernel
theorem dX4_load_20 : decode cX4_load 20 = .ok (.aload_n 0, 1) := by decide +kernel
theorem dX4_load_21 : decode cX4_load 21 = .ok (.getfield 34, 3) := by decide +kernel
theorem dX4_load_24 : decode cX4_load 24 = .ok (.getfield 247, 3) := by decide +kernel
theorem dX4_load_27 : decode cX4_load 27 = .ok (.iconst 1, 1) := by decide +kernel
theorem dX4_load_28 : decode cX4_load 28 = .ok (.iadd, 1) := by decide +kernel
theorem dX4_load_29 : decode cX4_load 29 = .ok (.istore_n 1, 1) := by decide +kernel
theorem dX4_load_30 : decode cX4_load 30 = .ok (.aload_n 0, 1) := by decide +kernel
theorem dX4_load_31 : decode cX4_load 31 = .ok (.getfield 10, 3) := by decide +kernel
theorem dX4_load_34 : decode cX4_load 34 = .ok (.getfield 56, 3) := by decide +kernel
theorem dX4_load_37 : decode cX4_load 37 = .ok (.iload_n 1, 1) := by decide +kernel
theorem dX4_load_38 : decode cX4_load 38 = .ok (.iadd, 1) := by decide +kernel
theorem dX4_load_39 : decode cX4_load 39 = .ok (.bipush 24, 2) := by decide +kernel
theorem dX4_load_41 : decode cX4_load 41 = .ok (.if_icmp .gt 14, 3) := by decide +kernel
theorem dX4_load_44 : decode cX4_load 44 = .ok (.aload_n 0, 1) := by decide +kernel
theorem dX4_load_45 : decode cX4_load 45 = .ok (.getfield 34, 3) := by decide +kernel
theorem dX4_load_48 : decode cX4_load 48 = .ok (.iload_n 1, 1) := by decide +kernel
theorem dX4_load_49 : decode cX4_load 49 = .ok (.invokevirtual 250, 3) := by decide +kernel
theorem dX4_load_52 : decode cX4_load 52 = .ok (.ifCond .eq 13, 3) := by decide +kernel
theorem dX4_load_55 : decode cX4_load 55 = .ok (.new 60, 3) := by decide +kernel
theorem dX4_load_58 : decode cX4_load 58 = .ok (.dup, 1) := by decide +kernel
theorem dX4_load_59 : decode cX4_load 59 = .ok (.ldc 253, 2) := by decide +kernel
theorem dX4_load_61 : decode cX4_load 61 = .ok (.invokespecial 64, 3) := by decide +kernel
theorem dX4_load_64 : decode cX4_load 64 = .ok (.athrow, 1) := by decide +kernel
theorem dX4_load_65 : decode cX4_load 65 = .ok (.aload_n 0, 1) := by decide +kernel
theorem dX4_load_66 : decode cX4_load 66 = .ok (.getfield 19, 3) := by decide +kernel
theorem dX4_load_69 : decode cX4_load 69 = .ok (.aload_n 0, 1) := by decide +kernel
theorem dX4_load_70 : decode cX4_load 70 = .ok (.getfield 10, 3) := by decide +kernel
theorem dX4_load_73 : decode cX4_load 73 = .ok (.invokevirtual 67, 3) := by decide +kernel
theorem dX4_load_76 : decode cX4_load 76 = .ok (.iconst 0, 1) := by decide +kernel
theorem dX4_load_77 : decode cX4_load 77 = .ok (.istore_n 2, 1) := by decide +kernel
theorem dX4_load_78 : decode cX4_load 78 = .ok (.iload_n 2, 1) := by decide +kernel
theorem dX4_load_79 : decode cX4_load 79 = .ok (.iload_n 1, 1) := by decide +kernel
theorem dX4_load_80 : decode cX4_load 80 = .ok (.if_icmp .ge 61, 3) := by decide +kernel
theorem dX4_load_83 : decode cX4_load 83 = .ok (.aload_n 0, 1) := by decide +kernel
theorem dX4_load_84 : decode cX4_load 84 = .ok (.getfield 10, 3) := by decide +kernel
theorem dX4_load_87 : decode cX4_load 87 = .ok (.aload_n 0, 1) := by decide +kernel
theorem dX4_load_88 : decode cX4_load 88 = .ok (.getfield 34, 3) := by decide +kernel
theorem dX4_load_91 : decode cX4_load 91 = .ok (.getfield 255, 3) := by decide +kernel
theorem dX4_load_94 : decode cX4_load 94 = .ok (.iload_n 2, 1) := by decide +kernel
theorem dX4_load_95 : decode cX4_load 95 = .ok (.invokestatic 256, 3) := by decide +kernel
theorem dX4_load_98 : decode cX4_load 98 = .ok (.aload_n 0, 1) := by decide +kernel
theorem dX4_load_99 : decode cX4_load 99 = .ok (.getfield 34, 3) := by decide +kernel
theorem dX4_load_102 : decode cX4_load 102 = .ok (.getfield 260, 3) := by decide +kernel
theorem dX4_load_105 : decode cX4_load 105 = .ok (.iload_n 2, 1) := by decide +kernel
theorem dX4_load_106 : decode cX4_load 106 = .ok (.invokestatic 256, 3) := by decide +kernel
theorem dX4_load_109 : decode cX4_load 109 = .ok (.aload_n 0, 1) := by decide +kernel
theorem dX4_load_110 : decode cX4_load 110 = .ok (.getfield 34, 3) := by decide +kernel
theorem dX4_load_113 : decode cX4_load 113 = .ok (.getfield 263, 3) := by decide +kernel
theorem dX4_load_116 : decode cX4_load 116 = .ok (.iload_n 2, 1) := by decide +kernel
theorem dX4_load_117 : decode cX4_load 117 = .ok (.invokestatic 256, 3) := by decide +kernel
theorem dX4_load_120 : decode cX4_load 120 = .ok (.aload_n 0, 1) := by decide +kernel
theorem dX4_load_121 : decode cX4_load 121 = .ok (.getfield 34, 3) := by decide +kernel
theorem dX4_load_124 : decode cX4_load 124 = .ok (.getfield 264, 3) := by decide +kernel
theorem dX4_load_127 : decode cX4_load 127 = .ok (.iload_n 2, 1) := by decide +kernel
theorem dX4_load_128 : decode cX4_load 128 = .ok (.invokestatic 256, 3) := by decide +kernel
theorem dX4_load_131 : decode cX4_load 131 = .ok (.invokevirtual 71, 3) := by decide +kernel
theorem dX4_load_134 : decode cX4_load 134 = .ok (.pop, 1) := by decide +kernel
theorem dX4_load_135 : decode cX4_load 135 = .ok (.iinc 2 1, 3) := by decide +kernel
theorem dX4_load_138 : decode cX4_load 138 = .ok (.goto (-60), 3) := by decide +kernel
theorem dX4_load_141 : decode cX4_load 141 = .ok (.aload_n 0, 1) := by decide +kernel
theorem dX4_load_142 : decode cX4_load 142 = .ok (.getfield 34, 3) := by decide +kernel
theorem dX4_load_145 : decode cX4_load 145 = .ok (.iconst 0, 1) := by decide +kernel
theorem dX4_load_146 : decode cX4_load 146 = .ok (.putfield 226, 3) := by decide +kernel
theorem dX4_load_149 : decode cX4_load 149 = .ok (.aload_n 0, 1) := by decide +kernel
theorem dX4_load_150 : decode cX4_load 150 = .ok (.getfield 10, 3) := by decide +kernel
theorem dX4_load_153 : decode cX4_load 153 = .ok (.getfield 56, 3) := by decide +kernel
theorem dX4_load_156 : decode cX4_load 156 = .ok (.ireturn, 1) := by decide +kernel
theorem dX4_keep_0 : decode cX4_keep 0 = .ok (.iload_n 1, 1) := by decide +kernel
theorem dX4_keep_1 : decode cX4_keep 1 = .ok (.iconst 0, 1) := by decide +kernel
theorem dX4_keep_2 : decode cX4_keep 2 = .ok (.iconst 1, 1) := by decide +kernel
theorem dX4_keep_3 : decode cX4_keep 3 = .ok (.invokestatic 52, 3) := by decide +kernel
theorem dX4_keep_6 : decode cX4_keep 6 = .ok (.aload_n 0, 1) := by decide +kernel
theorem dX4_keep_7 : decode cX4_keep 7 = .ok (.getfield 23, 3) := by decide +kernel
theorem dX4_keep_10 : decode cX4_keep 10 = .ok (.iload_n 1, 1) := by decide +kernel
theorem dX4_keep_11 : decode cX4_keep 11 = .ok (.invokestatic 265, 3) := by decide +kernel
theorem dX4_keep_14 : decode cX4_keep 14 = .ok (.astore_n 2, 1) := by decide +kernel
theorem dX4_keep_15 : decode cX4_keep 15 = .ok (.aload_n 2, 1) := by decide +kernel
theorem dX4_keep_16 : decode cX4_keep 16 = .ok (.ifnull 31, 3) := by decide +kernel
theorem dX4_keep_19 : decode cX4_keep 19 = .ok (.iload_n 1, 1) := by decide +kernel
theorem dX4_keep_20 : decode cX4_keep 20 = .ok (.ifCond .lt 27, 3) := by decide +kernel
theorem dX4_keep_23 : decode cX4_keep 23 = .ok (.iload_n 1, 1) := by decide +kernel
theorem dX4_keep_24 : decode cX4_keep 24 = .ok (.aload_n 0, 1) := by decide +kernel
theorem dX4_keep_25 : decode cX4_keep 25 = .ok (.getfield 27, 3) := by decide +kernel
theorem dX4_keep_28 : decode cX4_keep 28 = .ok (.arraylength, 1) := by decide +kernel
theorem dX4_keep_29 : decode cX4_keep 29 = .ok (.if_icmp .ge 18, 3) := by decide +kernel
theorem dX4_keep_32 : decode cX4_keep 32 = .ok (.aload_n 2, 1) := by decide +kernel
theorem dX4_keep_33 : decode cX4_keep 33 = .ok (.aload_n 0, 1) := by decide +kernel
theorem dX4_keep_34 : decode cX4_keep 34 = .ok (.getfield 10, 3) := by decide +kernel
theorem dX4_keep_37 : decode cX4_keep 37 = .ok (.invokevirtual 269, 3) := by decide +kernel
theorem dX4_keep_40 : decode cX4_keep 40 = .ok (.aload_n 0, 1) := by decide +kernel
theorem dX4_keep_41 : decode cX4_keep 41 = .ok (.getfield 27, 3) := by decide +kernel
theorem dX4_keep_44 : decode cX4_keep 44 = .ok (.iload_n 1, 1) := by decide +kernel
theorem dX4_keep_45 : decode cX4_keep 45 = .ok (.iconst 1, 1) := by decide +kernel
theorem dX4_keep_46 : decode cX4_keep 46 = .ok (.bastore, 1) := by decide +kernel
theorem dX4_keep_47 : decode cX4_keep 47 = .ok (.return_, 1) := by decide +kernel
theorem dX4_goBack_0 : decode cX4_goBack 0 = .ok (.iload_n 1, 1) := by decide +kernel
theorem dX4_goBack_1 : decode cX4_goBack 1 = .ok (.iconst 0, 1) := by decide +kernel
theorem dX4_goBack_2 : decode cX4_goBack 2 = .ok (.iconst 1, 1) := by decide +kernel
theorem dX4_goBack_3 : decode cX4_goBack 3 = .ok (.invokestatic 52, 3) := by decide +kernel
theorem dX4_goBack_6 : decode cX4_goBack 6 = .ok (.aload_n 0, 1) := by decide +kernel
theorem dX4_goBack_7 : decode cX4_goBack 7 = .ok (.iload_n 1, 1) := by decide +kernel
theorem dX4_goBack_8 : decode cX4_goBack 8 = .ok (.invokevirtual 272, 3) := by decide +kernel
theorem dX4_goBack_11 : decode cX4_goBack 11 = .ok (.ifCond .ne 14, 3) := by decide +kernel
theorem dX4_goBack_14 : decode cX4_goBack 14 = .ok (.new 60, 3) := by decide +kernel
theorem dX4_goBack_17 : decode cX4_goBack 17 = .ok (.dup, 1) := by decide +kernel
theorem dX4_goBack_18 : decode cX4_goBack 18 = .ok (.ldc_w 275, 3) := by decide +kernel
theorem dX4_goBack_21 : decode cX4_goBack 21 = .ok (.invokespecial 64, 3) := by decide +kernel
theorem dX4_goBack_24 : decode cX4_goBack 24 = .ok (.athrow, 1) := by decide +kernel
theorem dX4_goBack_25 : decode cX4_goBack 25 = .ok (.aload_n 0, 1) := by decide +kernel
theorem dX4_goBack_26 : decode cX4_goBack 26 = .ok (.getfield 19, 3) := by decide +kernel
theorem dX4_goBack_29 : decode cX4_goBack 29 = .ok (.aload_n 0, 1) := by decide +kernel
theorem dX4_goBack_30 : decode cX4_goBack 30 = .ok (.getfield 10, 3) := by decide +kernel
theorem dX4_goBack_33 : decode cX4_goBack 33 = .ok (.invokevirtual 67, 3) := by decide +kernel
theorem dX4_goBack_36 : decode cX4_goBack 36 = .ok (.aload_n 0, 1) := by decide +kernel
theorem dX4_goBack_37 : decode cX4_goBack 37 = .ok (.getfield 10, 3) := by decide +kernel
theorem dX4_goBack_40 : decode cX4_goBack 40 = .ok (.aload_n 0, 1) := by decide +kernel
theorem dX4_goBack_41 : decode cX4_goBack 41 = .ok (.getfield 23, 3) := by decide +kernel
theorem dX4_goBack_44 : decode cX4_goBack 44 = .ok (.iload_n 1, 1) := by decide +kernel
theorem dX4_goBack_45 : decode cX4_goBack 45 = .ok (.invokestatic 265, 3) := by decide +kernel
theorem dX4_goBack_48 : decode cX4_goBack 48 = .ok (.invokevirtual 269, 3) := by decide +kernel
theorem dX4_goBack_51 : decode cX4_goBack 51 = .ok (.return_, 1) := by decide +kernel
theorem dX4_undo_0 : decode cX4_undo 0 = .ok (.aload_n 0, 1) := by decide +kernel
theorem dX4_undo_1 : decode cX4_undo 1 = .ok (.getfield 19, 3) := by decide +kernel
theorem dX4_undo_4 : decode cX4_undo 4 = .ok (.getfield 277, 3) := by decide +kernel
theorem dX4_undo_7 : decode cX4_undo 7 = .ok (.ifCond .gt 14, 3) := by decide +kernel
theorem dX4_undo_10 : decode cX4_undo 10 = .ok (.new 60, 3) := by decide +kernel
theorem dX4_undo_13 : decode cX4_undo 13 = .ok (.dup, 1) := by decide +kernel
theorem dX4_undo_14 : decode cX4_undo 14 = .ok (.ldc_w 278, 3) := by decide +kernel
theorem dX4_undo_17 : decode cX4_undo 17 = .ok (.invokespecial 64, 3) := by decide +kernel
theorem dX4_undo_20 : decode cX4_undo 20 = .ok (.athrow, 1) := by decide +kernel
theorem dX4_undo_21 : decode cX4_undo 21 = .ok (.aload_n 0, 1) := by decide +kernel
theorem dX4_undo_22 : decode cX4_undo 22 = .ok (.getfield 19, 3) := by decide +kernel
theorem dX4_undo_25 : decode cX4_undo 25 = .ok (.aload_n 0, 1) := by decide +kernel
theorem dX4_undo_26 : decode cX4_undo 26 = .ok (.getfield 10, 3) := by decide +kernel
theorem dX4_undo_29 : decode cX4_undo 29 = .ok (.invokevirtual 280, 3) := by decide +kernel
theorem dX4_undo_32 : decode cX4_undo 32 = .ok (.return_, 1) := by decide +kernel
theorem dX4_savedStates_0 : decode cX4_savedStates 0 = .ok (.aload_n 0, 1) := by decide +kernel
theorem dX4_savedStates_1 : decode cX4_savedStates 1 = .ok (.getfield 19, 3) := by decide +kernel
theorem dX4_savedStates_4 : decode cX4_savedStates 4 = .ok (.getfield 277, 3) := by decide +kernel
theorem dX4_savedStates_7 : decode cX4_savedStates 7 = .ok (.ireturn, 1) := by decide +kernel
theorem dX4_clauses_0 : decode cX4_clauses 0 = .ok (.aload_n 0, 1) := by decide +kernel
theorem dX4_clauses_1 : decode cX4_clauses 1 = .ok (.getfield 10, 3) := by decide +kernel
theorem dX4_clauses_4 : decode cX4_clauses 4 = .ok (.getfield 56, 3) := by decide +kernel
theorem dX4_clauses_7 : decode cX4_clauses 7 = .ok (.ireturn, 1) := by decide +kernel
theorem dX4_reelOf_0 : decode cX4_reelOf 0 = .ok (.aload_n 0, 1) := by decide +kernel
theorem dX4_reelOf_1 : decode cX4_reelOf 1 = .ok (.iload_n 1, 1) := by decide +kernel
theorem dX4_reelOf_2 : decode cX4_reelOf 2 = .ok (.invokevirtual 75, 3) := by decide +kernel
theorem dX4_reelOf_5 : decode cX4_reelOf 5 = .ok (.aload_n 0, 1) := by decide +kernel
theorem dX4_reelOf_6 : decode cX4_reelOf 6 = .ok (.getfield 10, 3) := by decide +kernel
theorem dX4_reelOf_9 : decode cX4_reelOf 9 = .ok (.iload_n 1, 1) := by decide +kernel
theorem dX4_reelOf_10 : decode cX4_reelOf 10 = .ok (.invokevirtual 104, 3) := by decide +kernel
theorem dX4_reelOf_13 : decode cX4_reelOf 13 = .ok (.ireturn, 1) := by decide +kernel
theorem dX4_speakerOf_0 : decode cX4_speakerOf 0 = .ok (.aload_n 0, 1) := by decide +kernel
theorem dX4_speakerOf_1 : decode cX4_speakerOf 1 = .ok (.iload_n 1, 1) := by decide +kernel
theorem dX4_speakerOf_2 : decode cX4_speakerOf 2 = .ok (.invokevirtual 75, 3) := by decide +kernel
theorem dX4_speakerOf_5 : decode cX4_speakerOf 5 = .ok (.aload_n 0, 1) := by decide +kernel
theorem dX4_speakerOf_6 : decode cX4_speakerOf 6 = .ok (.getfield 10, 3) := by decide +kernel
theorem dX4_speakerOf_9 : decode cX4_speakerOf 9 = .ok (.iload_n 1, 1) := by decide +kernel
theorem dX4_speakerOf_10 : decode cX4_speakerOf 10 = .ok (.invokevirtual 172, 3) := by decide +kernel
theorem dX4_speakerOf_13 : decode cX4_speakerOf 13 = .ok (.ireturn, 1) := by decide +kernel
theorem dX4_lipsOf_0 : decode cX4_lipsOf 0 = .ok (.aload_n 0, 1) := by decide +kernel
theorem dX4_lipsOf_1 : decode cX4_lipsOf 1 = .ok (.iload_n 1, 1) := by decide +kernel
theorem dX4_lipsOf_2 : decode cX4_lipsOf 2 = .ok (.invokevirtual 75, 3) := by decide +kernel
theorem dX4_lipsOf_5 : decode cX4_lipsOf 5 = .ok (.aload_n 0, 1) := by decide +kernel
theorem dX4_lipsOf_6 : decode cX4_lipsOf 6 = .ok (.getfield 10, 3) := by decide +kernel
theorem dX4_lipsOf_9 : decode cX4_lipsOf 9 = .ok (.iload_n 1, 1) := by decide +kernel
theorem dX4_lipsOf_10 : decode cX4_lipsOf 10 = .ok (.invokevirtual 88, 3) := by decide +kernel
theorem dX4_lipsOf_13 : decode cX4_lipsOf 13 = .ok (.ireturn, 1) := by decide +kernel
theorem dX4_sighOf_0 : decode cX4_sighOf 0 = .ok (.aload_n 0, 1) := by decide +kernel
theorem dX4_sighOf_1 : decode cX4_sighOf 1 = .ok (.iload_n 1, 1) := by decide +kernel
theorem dX4_sighOf_2 : decode cX4_sighOf 2 = .ok (.invokevirtual 75, 3) := by decide +kernel
theorem dX4_sighOf_5 : decode cX4_sighOf 5 = .ok (.aload_n 0, 1) := by decide +kernel
theorem dX4_sighOf_6 : decode cX4_sighOf 6 = .ok (.getfield 10, 3) := by decide +kernel
theorem dX4_sighOf_9 : decode cX4_sighOf 9 = .ok (.iload_n 1, 1) := by decide +kernel
theorem dX4_sighOf_10 : decode cX4_sighOf 10 = .ok (.invokevirtual 82, 3) := by decide +kernel
theorem dX4_sighOf_13 : decode cX4_sighOf 13 = .ok (.ireturn, 1) := by decide +kernel
theorem dX4_isTranslated_0 : decode cX4_isTranslated 0 = .ok (.aload_n 0, 1) := by decide +kernel
theorem dX4_isTranslated_1 : decode cX4_isTranslated 1 = .ok (.iload_n 1, 1) := by decide +kernel
theorem dX4_isTranslated_2 : decode cX4_isTranslated 2 = .ok (.iload_n 2, 1) := by decide +kernel
theorem dX4_isTranslated_3 : decode cX4_isTranslated 3 = .ok (.invokevirtual 115, 3) := by decide +kernel
theorem dX4_isTranslated_6 : decode cX4_isTranslated 6 = .ok (.aload_n 0, 1) := by decide +kernel
theorem dX4_isTranslated_7 : decode cX4_isTranslated 7 = .ok (.getfield 10, 3) := by decide +kernel
theorem dX4_isTranslated_10 : decode cX4_isTranslated 10 = .ok (.iload_n 1, 1) := by decide +kernel
theorem dX4_isTranslated_11 : decode cX4_isTranslated 11 = .ok (.iload_n 2, 1) := by decide +kernel
theorem dX4_isTranslated_12 : decode cX4_isTranslated 12 = .ok (.invokevirtual 283, 3) := by decide +kernel
theorem dX4_isTranslated_15 : decode cX4_isTranslated 15 = .ok (.ireturn, 1) := by decide +kernel
theorem dX4_framesOf_0 : decode cX4_framesOf 0 = .ok (.aload_n 0, 1) := by decide +kernel
theorem dX4_framesOf_1 : decode cX4_framesOf 1 = .ok (.iload_n 1, 1) := by decide +kernel
theorem dX4_framesOf_2 : decode cX4_framesOf 2 = .ok (.iload_n 2, 1) := by decide +kernel
theorem dX4_framesOf_3 : decode cX4_framesOf 3 = .ok (.invokevirtual 115, 3) := by decide +kernel
theorem dX4_framesOf_6 : decode cX4_framesOf 6 = .ok (.aload_n 0, 1) := by decide +kernel
theorem dX4_framesOf_7 : decode cX4_framesOf 7 = .ok (.iload_n 1, 1) := by decide +kernel
theorem dX4_framesOf_8 : decode cX4_framesOf 8 = .ok (.iload_n 2, 1) := by decide +kernel
theorem dX4_framesOf_9 : decode cX4_framesOf 9 = .ok (.invokevirtual 286, 3) := by decide +kernel
theorem dX4_framesOf_12 : decode cX4_framesOf 12 = .ok (.aload_n 0, 1) := by decide +kernel
theorem dX4_framesOf_13 : decode cX4_framesOf 13 = .ok (.getfield 10, 3) := by decide +kernel
theorem dX4_framesOf_16 : decode cX4_framesOf 16 = .ok (.iload_n 1, 1) := by decide +kernel
theorem dX4_framesOf_17 : decode cX4_framesOf 17 = .ok (.iload_n 2, 1) := by decide +kernel
theorem dX4_framesOf_18 : decode cX4_framesOf 18 = .ok (.invokevirtual 139, 3) := by decide +kernel
theorem dX4_framesOf_21 : decode cX4_framesOf 21 = .ok (.ireturn, 1) := by decide +kernel
theorem dX4_annexedOf_0 : decode cX4_annexedOf 0 = .ok (.aload_n 0, 1) := by decide +kernel
theorem dX4_annexedOf_1 : decode cX4_annexedOf 1 = .ok (.iload_n 1, 1) := by decide +kernel
theorem dX4_annexedOf_2 : decode cX4_annexedOf 2 = .ok (.iload_n 2, 1) := by decide +kernel
theorem dX4_annexedOf_3 : decode cX4_annexedOf 3 = .ok (.invokevirtual 115, 3) := by decide +kernel
theorem dX4_annexedOf_6 : decode cX4_annexedOf 6 = .ok (.aload_n 0, 1) := by decide +kernel
theorem dX4_annexedOf_7 : decode cX4_annexedOf 7 = .ok (.getfield 10, 3) := by decide +kernel
theorem dX4_annexedOf_10 : decode cX4_annexedOf 10 = .ok (.iload_n 1, 1) := by decide +kernel
theorem dX4_annexedOf_11 : decode cX4_annexedOf 11 = .ok (.iload_n 2, 1) := by decide +kernel
theorem dX4_annexedOf_12 : decode cX4_annexedOf 12 = .ok (.invokevirtual 142, 3) := by decide +kernel
theorem dX4_annexedOf_15 : decode cX4_annexedOf 15 = .ok (.ireturn, 1) := by decide +kernel
theorem dX4_isRecorded_0 : decode cX4_isRecorded 0 = .ok (.aload_n 0, 1) := by decide +kernel
theorem dX4_isRecorded_1 : decode cX4_isRecorded 1 = .ok (.iload_n 1, 1) := by decide +kernel
theorem dX4_isRecorded_2 : decode cX4_isRecorded 2 = .ok (.iload_n 2, 1) := by decide +kernel
theorem dX4_isRecorded_3 : decode cX4_isRecorded 3 = .ok (.invokevirtual 115, 3) := by decide +kernel
theorem dX4_isRecorded_6 : decode cX4_isRecorded 6 = .ok (.aload_n 0, 1) := by decide +kernel
theorem dX4_isRecorded_7 : decode cX4_isRecorded 7 = .ok (.getfield 10, 3) := by decide +kernel
theorem dX4_isRecorded_10 : decode cX4_isRecorded 10 = .ok (.iload_n 1, 1) := by decide +kernel
theorem dX4_isRecorded_11 : decode cX4_isRecorded 11 = .ok (.iload_n 2, 1) := by decide +kernel
theorem dX4_isRecorded_12 : decode cX4_isRecorded 12 = .ok (.invokevirtual 119, 3) := by decide +kernel
theorem dX4_isRecorded_15 : decode cX4_isRecorded 15 = .ok (.ireturn, 1) := by decide +kernel
theorem dX4_sessionOf_0 : decode cX4_sessionOf 0 = .ok (.aload_n 0, 1) := by decide +kernel
theorem dX4_sessionOf_1 : decode cX4_sessionOf 1 = .ok (.iload_n 1, 1) := by decide +kernel
theorem dX4_sessionOf_2 : decode cX4_sessionOf 2 = .ok (.iload_n 2, 1) := by decide +kernel
theorem dX4_sessionOf_3 : decode cX4_sessionOf 3 = .ok (.invokevirtual 115, 3) := by decide +kernel
theorem dX4_sessionOf_6 : decode cX4_sessionOf 6 = .ok (.aload_n 0, 1) := by decide +kernel
theorem dX4_sessionOf_7 : decode cX4_sessionOf 7 = .ok (.iload_n 1, 1) := by decide +kernel
theorem dX4_sessionOf_8 : decode cX4_sessionOf 8 = .ok (.iload_n 2, 1) := by decide +kernel
theorem dX4_sessionOf_9 : decode cX4_sessionOf 9 = .ok (.invokevirtual 178, 3) := by decide +kernel
theorem dX4_sessionOf_12 : decode cX4_sessionOf 12 = .ok (.aload_n 0, 1) := by decide +kernel
theorem dX4_sessionOf_13 : decode cX4_sessionOf 13 = .ok (.getfield 10, 3) := by decide +kernel
theorem dX4_sessionOf_16 : decode cX4_sessionOf 16 = .ok (.iload_n 1, 1) := by decide +kernel
theorem dX4_sessionOf_17 : decode cX4_sessionOf 17 = .ok (.iload_n 2, 1) := by decide +kernel
theorem dX4_sessionOf_18 : decode cX4_sessionOf 18 = .ok (.invokevirtual 181, 3) := by decide +kernel
theorem dX4_sessionOf_21 : decode cX4_sessionOf 21 = .ok (.ireturn, 1) := by decide +kernel
theorem dX4_roomFor_0 : decode cX4_roomFor 0 = .ok (.aload_n 0, 1) := by decide +kernel
theorem dX4_roomFor_1 : decode cX4_roomFor 1 = .ok (.iload_n 1, 1) := by decide +kernel
theorem dX4_roomFor_2 : decode cX4_roomFor 2 = .ok (.iload_n 2, 1) := by decide +kernel
theorem dX4_roomFor_3 : decode cX4_roomFor 3 = .ok (.invokevirtual 115, 3) := by decide +kernel
theorem dX4_roomFor_6 : decode cX4_roomFor 6 = .ok (.aload_n 0, 1) := by decide +kernel
theorem dX4_roomFor_7 : decode cX4_roomFor 7 = .ok (.iload_n 1, 1) := by decide +kernel
theorem dX4_roomFor_8 : decode cX4_roomFor 8 = .ok (.iload_n 2, 1) := by decide +kernel
theorem dX4_roomFor_9 : decode cX4_roomFor 9 = .ok (.invokevirtual 286, 3) := by decide +kernel
theorem dX4_roomFor_12 : decode cX4_roomFor 12 = .ok (.aload_n 0, 1) := by decide +kernel
theorem dX4_roomFor_13 : decode cX4_roomFor 13 = .ok (.getfield 10, 3) := by decide +kernel
theorem dX4_roomFor_16 : decode cX4_roomFor 16 = .ok (.iload_n 1, 1) := by decide +kernel
theorem dX4_roomFor_17 : decode cX4_roomFor 17 = .ok (.iload_n 2, 1) := by decide +kernel
theorem dX4_roomFor_18 : decode cX4_roomFor 18 = .ok (.invokevirtual 129, 3) := by decide +kernel
theorem dX4_roomFor_21 : decode cX4_roomFor 21 = .ok (.ireturn, 1) := by decide +kernel
theorem dX4_fits_0 : decode cX4_fits 0 = .ok (.aload_n 0, 1) := by decide +kernel
theorem dX4_fits_1 : decode cX4_fits 1 = .ok (.iload_n 1, 1) := by decide +kernel
theorem dX4_fits_2 : decode cX4_fits 2 = .ok (.iload_n 2, 1) := by decide +kernel
theorem dX4_fits_3 : decode cX4_fits 3 = .ok (.invokevirtual 115, 3) := by decide +kernel
theorem dX4_fits_6 : decode cX4_fits 6 = .ok (.aload_n 0, 1) := by decide +kernel
theorem dX4_fits_7 : decode cX4_fits 7 = .ok (.getfield 10, 3) := by decide +kernel
theorem dX4_fits_10 : decode cX4_fits 10 = .ok (.iload_n 1, 1) := by decide +kernel
theorem dX4_fits_11 : decode cX4_fits 11 = .ok (.iload_n 2, 1) := by decide +kernel
theorem dX4_fits_12 : decode cX4_fits 12 = .ok (.invokevirtual 289, 3) := by decide +kernel
theorem dX4_fits_15 : decode cX4_fits 15 = .ok (.ireturn, 1) := by decide +kernel
theorem dX4_hundredthsOf_0 : decode cX4_hundredthsOf 0 = .ok (.aload_n 0, 1) := by decide +kernel
theorem dX4_hundredthsOf_1 : decode cX4_hundredthsOf 1 = .ok (.iload_n 1, 1) := by decide +kernel
theorem dX4_hundredthsOf_2 : decode cX4_hundredthsOf 2 = .ok (.iload_n 2, 1) := by decide +kernel
theorem dX4_hundredthsOf_3 : decode cX4_hundredthsOf 3 = .ok (.invokevirtual 115, 3) := by decide +kernel
theorem dX4_hundredthsOf_6 : decode cX4_hundredthsOf 6 = .ok (.aload_n 0, 1) := by decide +kernel
theorem dX4_hundredthsOf_7 : decode cX4_hundredthsOf 7 = .ok (.iload_n 1, 1) := by decide +kernel
theorem dX4_hundredthsOf_8 : decode cX4_hundredthsOf 8 = .ok (.iload_n 2, 1) := by decide +kernel
theorem dX4_hundredthsOf_9 : decode cX4_hundredthsOf 9 = .ok (.invokevirtual 286, 3) := by decide +kernel
theorem dX4_hundredthsOf_12 : decode cX4_hundredthsOf 12 = .ok (.aload_n 0, 1) := by decide +kernel
theorem dX4_hundredthsOf_13 : decode cX4_hundredthsOf 13 = .ok (.getfield 10, 3) := by decide +kernel
theorem dX4_hundredthsOf_16 : decode cX4_hundredthsOf 16 = .ok (.iload_n 1, 1) := by decide +kernel
theorem dX4_hundredthsOf_17 : decode cX4_hundredthsOf 17 = .ok (.iload_n 2, 1) := by decide +kernel
theorem dX4_hundredthsOf_18 : decode cX4_hundredthsOf 18 = .ok (.invokevirtual 292, 3) := by decide +kernel
theorem dX4_hundredthsOf_21 : decode cX4_hundredthsOf 21 = .ok (.ireturn, 1) := by decide +kernel
theorem dX4_reasonAgainst_0 : decode cX4_reasonAgainst 0 = .ok (.aload_n 0, 1) := by decide +kernel
theorem dX4_reasonAgainst_1 : decode cX4_reasonAgainst 1 = .ok (.iload_n 1, 1) := by decide +kernel
theorem dX4_reasonAgainst_2 : decode cX4_reasonAgainst 2 = .ok (.iload_n 2, 1) := by decide +kernel
theorem dX4_reasonAgainst_3 : decode cX4_reasonAgainst 3 = .ok (.invokevirtual 115, 3) := by decide +kernel
theorem dX4_reasonAgainst_6 : decode cX4_reasonAgainst 6 = .ok (.aload_n 0, 1) := by decide +kernel
theorem dX4_reasonAgainst_7 : decode cX4_reasonAgainst 7 = .ok (.getfield 10, 3) := by decide +kernel
theorem dX4_reasonAgainst_10 : decode cX4_reasonAgainst 10 = .ok (.iload_n 1, 1) := by decide +kernel
theorem dX4_reasonAgainst_11 : decode cX4_reasonAgainst 11 = .ok (.iload_n 2, 1) := by decide +kernel
theorem dX4_reasonAgainst_12 : decode cX4_reasonAgainst 12 = .ok (.invokevirtual 164, 3) := by decide +kernel
theorem dX4_reasonAgainst_15 : decode cX4_reasonAgainst 15 = .ok (.ireturn, 1) := by decide +kernel
theorem dX4_staminaOf_0 : decode cX4_staminaOf 0 = .ok (.iload_n 1, 1) := by decide +kernel
theorem dX4_staminaOf_1 : decode cX4_staminaOf 1 = .ok (.iload_n 2, 1) := by decide +kernel
theorem dX4_staminaOf_2 : decode cX4_staminaOf 2 = .ok (.invokestatic 150, 3) := by decide +kernel
theorem dX4_staminaOf_5 : decode cX4_staminaOf 5 = .ok (.aload_n 0, 1) := by decide +kernel
theorem dX4_staminaOf_6 : decode cX4_staminaOf 6 = .ok (.getfield 10, 3) := by decide +kernel
theorem dX4_staminaOf_9 : decode cX4_staminaOf 9 = .ok (.iload_n 1, 1) := by decide +kernel
theorem dX4_staminaOf_10 : decode cX4_staminaOf 10 = .ok (.iload_n 2, 1) := by decide +kernel
theorem dX4_staminaOf_11 : decode cX4_staminaOf 11 = .ok (.invokevirtual 158, 3) := by decide +kernel
theorem dX4_staminaOf_14 : decode cX4_staminaOf 14 = .ok (.ireturn, 1) := by decide +kernel
theorem dX4_strengthLeft_0 : decode cX4_strengthLeft 0 = .ok (.iload_n 1, 1) := by decide +kernel
theorem dX4_strengthLeft_1 : decode cX4_strengthLeft 1 = .ok (.iload_n 2, 1) := by decide +kernel
theorem dX4_strengthLeft_2 : decode cX4_strengthLeft 2 = .ok (.invokestatic 150, 3) := by decide +kernel
theorem dX4_strengthLeft_5 : decode cX4_strengthLeft 5 = .ok (.aload_n 0, 1) := by decide +kernel
theorem dX4_strengthLeft_6 : decode cX4_strengthLeft 6 = .ok (.getfield 10, 3) := by decide +kernel
theorem dX4_strengthLeft_9 : decode cX4_strengthLeft 9 = .ok (.iload_n 1, 1) := by decide +kernel
theorem dX4_strengthLeft_10 : decode cX4_strengthLeft 10 = .ok (.iload_n 2, 1) := by decide +kernel
theorem dX4_strengthLeft_11 : decode cX4_strengthLeft 11 = .ok (.invokevirtual 175, 3) := by decide +kernel
theorem dX4_strengthLeft_14 : decode cX4_strengthLeft 14 = .ok (.ireturn, 1) := by decide +kernel
theorem dX4_framesOfVoice_0 : decode cX4_framesOfVoice 0 = .ok (.iload_n 1, 1) := by decide +kernel
theorem dX4_framesOfVoice_1 : decode cX4_framesOfVoice 1 = .ok (.iload_n 2, 1) := by decide +kernel
theorem dX4_framesOfVoice_2 : decode cX4_framesOfVoice 2 = .ok (.invokestatic 150, 3) := by decide +kernel
theorem dX4_framesOfVoice_5 : decode cX4_framesOfVoice 5 = .ok (.aload_n 0, 1) := by decide +kernel
theorem dX4_framesOfVoice_6 : decode cX4_framesOfVoice 6 = .ok (.getfield 10, 3) := by decide +kernel
theorem dX4_framesOfVoice_9 : decode cX4_framesOfVoice 9 = .ok (.iload_n 1, 1) := by decide +kernel
theorem dX4_framesOfVoice_10 : decode cX4_framesOfVoice 10 = .ok (.iload_n 2, 1) := by decide +kernel
theorem dX4_framesOfVoice_11 : decode cX4_framesOfVoice 11 = .ok (.invokevirtual 295, 3) := by decide +kernel
theorem dX4_framesOfVoice_14 : decode cX4_framesOfVoice 14 = .ok (.ireturn, 1) := by decide +kernel
theorem dX4_sessionsByGoing_0 : decode cX4_sessionsByGoing 0 = .ok (.iload_n 1, 1) := by decide +kernel
theorem dX4_sessionsByGoing_1 : decode cX4_sessionsByGoing 1 = .ok (.iload_n 2, 1) := by decide +kernel
theorem dX4_sessionsByGoing_2 : decode cX4_sessionsByGoing 2 = .ok (.invokestatic 150, 3) := by decide +kernel
theorem dX4_sessionsByGoing_5 : decode cX4_sessionsByGoing 5 = .ok (.aload_n 0, 1) := by decide +kernel
theorem dX4_sessionsByGoing_6 : decode cX4_sessionsByGoing 6 = .ok (.iload_n 1, 1) := by decide +kernel
theorem dX4_sessionsByGoing_7 : decode cX4_sessionsByGoing 7 = .ok (.iload_n 2, 1) := by decide +kernel
theorem dX4_sessionsByGoing_8 : decode cX4_sessionsByGoing 8 = .ok (.invokevirtual 298, 3) := by decide +kernel
theorem dX4_sessionsByGoing_11 : decode cX4_sessionsByGoing 11 = .ok (.aload_n 0, 1) := by decide +kernel
theorem dX4_sessionsByGoing_12 : decode cX4_sessionsByGoing 12 = .ok (.getfield 41, 3) := by decide +kernel
theorem dX4_sessionsByGoing_15 : decode cX4_sessionsByGoing 15 = .ok (.invokevirtual 301, 3) := by decide +kernel
theorem dX4_sessionsByGoing_18 : decode cX4_sessionsByGoing 18 = .ok (.ireturn, 1) := by decide +kernel
theorem dX4_sessionsByTable_0 : decode cX4_sessionsByTable 0 = .ok (.iload_n 1, 1) := by decide +kernel
theorem dX4_sessionsByTable_1 : decode cX4_sessionsByTable 1 = .ok (.iload_n 2, 1) := by decide +kernel
theorem dX4_sessionsByTable_2 : decode cX4_sessionsByTable 2 = .ok (.invokestatic 150, 3) := by decide +kernel
theorem dX4_sessionsByTable_5 : decode cX4_sessionsByTable 5 = .ok (.aload_n 0, 1) := by decide +kernel
theorem dX4_sessionsByTable_6 : decode cX4_sessionsByTable 6 = .ok (.iload_n 1, 1) := by decide +kernel
theorem dX4_sessionsByTable_7 : decode cX4_sessionsByTable 7 = .ok (.iload_n 2, 1) := by decide +kernel
theorem dX4_sessionsByTable_8 : decode cX4_sessionsByTable 8 = .ok (.invokevirtual 298, 3) := by decide +kernel
theorem dX4_sessionsByTable_11 : decode cX4_sessionsByTable 11 = .ok (.aload_n 0, 1) := by decide +kernel
theorem dX4_sessionsByTable_12 : decode cX4_sessionsByTable 12 = .ok (.getfield 41, 3) := by decide +kernel
theorem dX4_sessionsByTable_15 : decode cX4_sessionsByTable 15 = .ok (.invokevirtual 304, 3) := by decide +kernel
theorem dX4_sessionsByTable_18 : decode cX4_sessionsByTable 18 = .ok (.ireturn, 1) := by decide +kernel
theorem dX4_clausesIn_0 : decode cX4_clausesIn 0 = .ok (.iload_n 1, 1) := by decide +kernel
theorem dX4_clausesIn_1 : decode cX4_clausesIn 1 = .ok (.invokestatic 45, 3) := by decide +kernel
theorem dX4_clausesIn_4 : decode cX4_clausesIn 4 = .ok (.aload_n 0, 1) := by decide +kernel
theorem dX4_clausesIn_5 : decode cX4_clausesIn 5 = .ok (.getfield 10, 3) := by decide +kernel
theorem dX4_clausesIn_8 : decode cX4_clausesIn 8 = .ok (.iload_n 1, 1) := by decide +kernel
theorem dX4_clausesIn_9 : decode cX4_clausesIn 9 = .ok (.invokevirtual 307, 3) := by decide +kernel
theorem dX4_clausesIn_12 : decode cX4_clausesIn 12 = .ok (.ireturn, 1) := by decide +kernel
theorem dX4_lengthOf_0 : decode cX4_lengthOf 0 = .ok (.iload_n 1, 1) := by decide +kernel
theorem dX4_lengthOf_1 : decode cX4_lengthOf 1 = .ok (.invokestatic 45, 3) := by decide +kernel
theorem dX4_lengthOf_4 : decode cX4_lengthOf 4 = .ok (.aload_n 0, 1) := by decide +kernel
theorem dX4_lengthOf_5 : decode cX4_lengthOf 5 = .ok (.getfield 10, 3) := by decide +kernel
theorem dX4_lengthOf_8 : decode cX4_lengthOf 8 = .ok (.iload_n 1, 1) := by decide +kernel
theorem dX4_lengthOf_9 : decode cX4_lengthOf 9 = .ok (.invokevirtual 310, 3) := by decide +kernel
theorem dX4_lengthOf_12 : decode cX4_lengthOf 12 = .ok (.ireturn, 1) := by decide +kernel
theorem dX4_speaksIn_0 : decode cX4_speaksIn 0 = .ok (.iload_n 1, 1) := by decide +kernel
theorem dX4_speaksIn_1 : decode cX4_speaksIn 1 = .ok (.invokestatic 49, 3) := by decide +kernel
theorem dX4_speaksIn_4 : decode cX4_speaksIn 4 = .ok (.iload_n 2, 1) := by decide +kernel
theorem dX4_speaksIn_5 : decode cX4_speaksIn 5 = .ok (.invokestatic 45, 3) := by decide +kernel
theorem dX4_speaksIn_8 : decode cX4_speaksIn 8 = .ok (.aload_n 0, 1) := by decide +kernel
theorem dX4_speaksIn_9 : decode cX4_speaksIn 9 = .ok (.getfield 10, 3) := by decide +kernel
theorem dX4_speaksIn_12 : decode cX4_speaksIn 12 = .ok (.iload_n 1, 1) := by decide +kernel
theorem dX4_speaksIn_13 : decode cX4_speaksIn 13 = .ok (.iload_n 2, 1) := by decide +kernel
theorem dX4_speaksIn_14 : decode cX4_speaksIn 14 = .ok (.invokevirtual 212, 3) := by decide +kernel
theorem dX4_speaksIn_17 : decode cX4_speaksIn 17 = .ok (.ireturn, 1) := by decide +kernel
theorem dX4_isComplete_0 : decode cX4_isComplete 0 = .ok (.iload_n 1, 1) := by decide +kernel
theorem dX4_isComplete_1 : decode cX4_isComplete 1 = .ok (.invokestatic 45, 3) := by decide +kernel
theorem dX4_isComplete_4 : decode cX4_isComplete 4 = .ok (.iload_n 2, 1) := by decide +kernel
theorem dX4_isComplete_5 : decode cX4_isComplete 5 = .ok (.invokestatic 195, 3) := by decide +kernel
theorem dX4_isComplete_8 : decode cX4_isComplete 8 = .ok (.aload_n 0, 1) := by decide +kernel
theorem dX4_isComplete_9 : decode cX4_isComplete 9 = .ok (.getfield 10, 3) := by decide +kernel
theorem dX4_isComplete_12 : decode cX4_isComplete 12 = .ok (.iload_n 1, 1) := by decide +kernel
theorem dX4_isComplete_13 : decode cX4_isComplete 13 = .ok (.iload_n 2, 1) := by decide +kernel
theorem dX4_isComplete_14 : decode cX4_isComplete 14 = .ok (.invokevirtual 201, 3) := by decide +kernel
theorem dX4_isComplete_17 : decode cX4_isComplete 17 = .ok (.ireturn, 1) := by decide +kernel
theorem dX4_isMixed_0 : decode cX4_isMixed 0 = .ok (.iload_n 1, 1) := by decide +kernel
theorem dX4_isMixed_1 : decode cX4_isMixed 1 = .ok (.invokestatic 45, 3) := by decide +kernel
theorem dX4_isMixed_4 : decode cX4_isMixed 4 = .ok (.iload_n 2, 1) := by decide +kernel
theorem dX4_isMixed_5 : decode cX4_isMixed 5 = .ok (.invokestatic 195, 3) := by decide +kernel
theorem dX4_isMixed_8 : decode cX4_isMixed 8 = .ok (.aload_n 0, 1) := by decide +kernel
theorem dX4_isMixed_9 : decode cX4_isMixed 9 = .ok (.getfield 10, 3) := by decide +kernel
theorem dX4_isMixed_12 : decode cX4_isMixed 12 = .ok (.iload_n 1, 1) := by decide +kernel
theorem dX4_isMixed_13 : decode cX4_isMixed 13 = .ok (.iload_n 2, 1) := by decide +kernel
theorem dX4_isMixed_14 : decode cX4_isMixed 14 = .ok (.invokevirtual 198, 3) := by decide +kernel
theorem dX4_isMixed_17 : decode cX4_isMixed 17 = .ok (.ireturn, 1) := by decide +kernel
theorem dX4_hasSigned_0 : decode cX4_hasSigned 0 = .ok (.iload_n 1, 1) := by decide +kernel
theorem dX4_hasSigned_1 : decode cX4_hasSigned 1 = .ok (.invokestatic 49, 3) := by decide +kernel
theorem dX4_hasSigned_4 : decode cX4_hasSigned 4 = .ok (.iload_n 2, 1) := by decide +kernel
theorem dX4_hasSigned_5 : decode cX4_hasSigned 5 = .ok (.invokestatic 45, 3) := by decide +kernel
theorem dX4_hasSigned_8 : decode cX4_hasSigned 8 = .ok (.iload_n 3, 1) := by decide +kernel
theorem dX4_hasSigned_9 : decode cX4_hasSigned 9 = .ok (.invokestatic 195, 3) := by decide +kernel
theorem dX4_hasSigned_12 : decode cX4_hasSigned 12 = .ok (.aload_n 0, 1) := by decide +kernel
theorem dX4_hasSigned_13 : decode cX4_hasSigned 13 = .ok (.getfield 10, 3) := by decide +kernel
theorem dX4_hasSigned_16 : decode cX4_hasSigned 16 = .ok (.iload_n 1, 1) := by decide +kernel
theorem dX4_hasSigned_17 : decode cX4_hasSigned 17 = .ok (.iload_n 2, 1) := by decide +kernel
theorem dX4_hasSigned_18 : decode cX4_hasSigned 18 = .ok (.iload_n 3, 1) := by decide +kernel
theorem dX4_hasSigned_19 : decode cX4_hasSigned 19 = .ok (.invokevirtual 215, 3) := by decide +kernel
theorem dX4_hasSigned_22 : decode cX4_hasSigned 22 = .ok (.ireturn, 1) := by decide +kernel
theorem dX4_signaturesOn_0 : decode cX4_signaturesOn 0 = .ok (.iload_n 1, 1) := by decide +kernel
theorem dX4_signaturesOn_1 : decode cX4_signaturesOn 1 = .ok (.invokestatic 45, 3) := by decide +kernel
theorem dX4_signaturesOn_4 : decode cX4_signaturesOn 4 = .ok (.iload_n 2, 1) := by decide +kernel
theorem dX4_signaturesOn_5 : decode cX4_signaturesOn 5 = .ok (.invokestatic 195, 3) := by decide +kernel
theorem dX4_signaturesOn_8 : decode cX4_signaturesOn 8 = .ok (.aload_n 0, 1) := by decide +kernel
theorem dX4_signaturesOn_9 : decode cX4_signaturesOn 9 = .ok (.getfield 10, 3) := by decide +kernel
theorem dX4_signaturesOn_12 : decode cX4_signaturesOn 12 = .ok (.iload_n 1, 1) := by decide +kernel
theorem dX4_signaturesOn_13 : decode cX4_signaturesOn 13 = .ok (.iload_n 2, 1) := by decide +kernel
theorem dX4_signaturesOn_14 : decode cX4_signaturesOn 14 = .ok (.invokevirtual 313, 3) := by decide +kernel
theorem dX4_signaturesOn_17 : decode cX4_signaturesOn 17 = .ok (.ireturn, 1) := by decide +kernel
theorem dX4_missingOn_0 : decode cX4_missingOn 0 = .ok (.iload_n 1, 1) := by decide +kernel
theorem dX4_missingOn_1 : decode cX4_missingOn 1 = .ok (.invokestatic 45, 3) := by decide +kernel
theorem dX4_missingOn_4 : decode cX4_missingOn 4 = .ok (.iload_n 2, 1) := by decide +kernel
theorem dX4_missingOn_5 : decode cX4_missingOn 5 = .ok (.invokestatic 195, 3) := by decide +kernel
theorem dX4_missingOn_8 : decode cX4_missingOn 8 = .ok (.aload_n 0, 1) := by decide +kernel
theorem dX4_missingOn_9 : decode cX4_missingOn 9 = .ok (.getfield 10, 3) := by decide +kernel
theorem dX4_missingOn_12 : decode cX4_missingOn 12 = .ok (.iload_n 1, 1) := by decide +kernel
theorem dX4_missingOn_13 : decode cX4_missingOn 13 = .ok (.iload_n 2, 1) := by decide +kernel
theorem dX4_missingOn_14 : decode cX4_missingOn 14 = .ok (.invokevirtual 223, 3) := by decide +kernel
theorem dX4_missingOn_17 : decode cX4_missingOn 17 = .ok (.ireturn, 1) := by decide +kernel
theorem dX4_annexOf_0 : decode cX4_annexOf 0 = .ok (.iload_n 1, 1) := by decide +kernel
theorem dX4_annexOf_1 : decode cX4_annexOf 1 = .ok (.invokestatic 195, 3) := by decide +kernel
theorem dX4_annexOf_4 : decode cX4_annexOf 4 = .ok (.aload_n 0, 1) := by decide +kernel
theorem dX4_annexOf_5 : decode cX4_annexOf 5 = .ok (.getfield 10, 3) := by decide +kernel
theorem dX4_annexOf_8 : decode cX4_annexOf 8 = .ok (.iload_n 1, 1) := by decide +kernel
theorem dX4_annexOf_9 : decode cX4_annexOf 9 = .ok (.invokevirtual 145, 3) := by decide +kernel
theorem dX4_annexOf_12 : decode cX4_annexOf 12 = .ok (.ireturn, 1) := by decide +kernel
theorem dX4_recordedIn_0 : decode cX4_recordedIn 0 = .ok (.iload_n 1, 1) := by decide +kernel
theorem dX4_recordedIn_1 : decode cX4_recordedIn 1 = .ok (.invokestatic 195, 3) := by decide +kernel
theorem dX4_recordedIn_4 : decode cX4_recordedIn 4 = .ok (.aload_n 0, 1) := by decide +kernel
theorem dX4_recordedIn_5 : decode cX4_recordedIn 5 = .ok (.getfield 10, 3) := by decide +kernel
theorem dX4_recordedIn_8 : decode cX4_recordedIn 8 = .ok (.iload_n 1, 1) := by decide +kernel
theorem dX4_recordedIn_9 : decode cX4_recordedIn 9 = .ok (.invokevirtual 316, 3) := by decide +kernel
theorem dX4_recordedIn_12 : decode cX4_recordedIn 12 = .ok (.ireturn, 1) := by decide +kernel
theorem dX4_readyByClauses_0 : decode cX4_readyByClauses 0 = .ok (.iload_n 1, 1) := by decide +kernel
theorem dX4_readyByClauses_1 : decode cX4_readyByClauses 1 = .ok (.invokestatic 195, 3) := by decide +kernel
theorem dX4_readyByClauses_4 : decode cX4_readyByClauses 4 = .ok (.aload_n 0, 1) := by decide +kernel
theorem dX4_readyByClauses_5 : decode cX4_readyByClauses 5 = .ok (.getfield 10, 3) := by decide +kernel
theorem dX4_readyByClauses_8 : decode cX4_readyByClauses 8 = .ok (.iload_n 1, 1) := by decide +kernel
theorem dX4_readyByClauses_9 : decode cX4_readyByClauses 9 = .ok (.invokevirtual 319, 3) := by decide +kernel
theorem dX4_readyByClauses_12 : decode cX4_readyByClauses 12 = .ok (.ireturn, 1) := by decide +kernel
theorem dX4_readyByVoices_0 : decode cX4_readyByVoices 0 = .ok (.iload_n 1, 1) := by decide +kernel
theorem dX4_readyByVoices_1 : decode cX4_readyByVoices 1 = .ok (.invokestatic 195, 3) := by decide +kernel
theorem dX4_readyByVoices_4 : decode cX4_readyByVoices 4 = .ok (.aload_n 0, 1) := by decide +kernel
theorem dX4_readyByVoices_5 : decode cX4_readyByVoices 5 = .ok (.getfield 10, 3) := by decide +kernel
theorem dX4_readyByVoices_8 : decode cX4_readyByVoices 8 = .ok (.iload_n 1, 1) := by decide +kernel
theorem dX4_readyByVoices_9 : decode cX4_readyByVoices 9 = .ok (.invokevirtual 322, 3) := by decide +kernel
theorem dX4_readyByVoices_12 : decode cX4_readyByVoices 12 = .ok (.ireturn, 1) := by decide +kernel
theorem dX4_isRatified_0 : decode cX4_isRatified 0 = .ok (.iload_n 1, 1) := by decide +kernel
theorem dX4_isRatified_1 : decode cX4_isRatified 1 = .ok (.invokestatic 195, 3) := by decide +kernel
theorem dX4_isRatified_4 : decode cX4_isRatified 4 = .ok (.aload_n 0, 1) := by decide +kernel
theorem dX4_isRatified_5 : decode cX4_isRatified 5 = .ok (.getfield 10, 3) := by decide +kernel
theorem dX4_isRatified_8 : decode cX4_isRatified 8 = .ok (.iload_n 1, 1) := by decide +kernel
theorem dX4_isRatified_9 : decode cX4_isRatified 9 = .ok (.invokevirtual 325, 3) := by decide +kernel
theorem dX4_isRatified_12 : decode cX4_isRatified 12 = .ok (.ireturn, 1) := by decide +kernel
theorem dX4_misfitsIn_0 : decode cX4_misfitsIn 0 = .ok (.iload_n 1, 1) := by decide +kernel
theorem dX4_misfitsIn_1 : decode cX4_misfitsIn 1 = .ok (.invokestatic 195, 3) := by decide +kernel
theorem dX4_misfitsIn_4 : decode cX4_misfitsIn 4 = .ok (.aload_n 0, 1) := by decide +kernel
theorem dX4_misfitsIn_5 : decode cX4_misfitsIn 5 = .ok (.getfield 10, 3) := by decide +kernel
theorem dX4_misfitsIn_8 : decode cX4_misfitsIn 8 = .ok (.iload_n 1, 1) := by decide +kernel
theorem dX4_misfitsIn_9 : decode cX4_misfitsIn 9 = .ok (.invokevirtual 328, 3) := by decide +kernel
theorem dX4_misfitsIn_12 : decode cX4_misfitsIn 12 = .ok (.ireturn, 1) := by decide +kernel
theorem dX4_session_0 : decode cX4_session 0 = .ok (.aload_n 0, 1) := by decide +kernel
theorem dX4_session_1 : decode cX4_session 1 = .ok (.getfield 10, 3) := by decide +kernel
theorem dX4_session_4 : decode cX4_session 4 = .ok (.getfield 187, 3) := by decide +kernel
theorem dX4_session_7 : decode cX4_session 7 = .ok (.ireturn, 1) := by decide +kernel
theorem dX4_recordings_0 : decode cX4_recordings 0 = .ok (.aload_n 0, 1) := by decide +kernel
theorem dX4_recordings_1 : decode cX4_recordings 1 = .ok (.getfield 10, 3) := by decide +kernel
theorem dX4_recordings_4 : decode cX4_recordings 4 = .ok (.getfield 331, 3) := by decide +kernel
theorem dX4_recordings_7 : decode cX4_recordings 7 = .ok (.ireturn, 1) := by decide +kernel
theorem dX4_wiped_0 : decode cX4_wiped 0 = .ok (.aload_n 0, 1) := by decide +kernel
theorem dX4_wiped_1 : decode cX4_wiped 1 = .ok (.getfield 10, 3) := by decide +kernel
theorem dX4_wiped_4 : decode cX4_wiped 4 = .ok (.getfield 334, 3) := by decide +kernel
theorem dX4_wiped_7 : decode cX4_wiped 7 = .ok (.ireturn, 1) := by decide +kernel
theorem dX4_mixes_0 : decode cX4_mixes 0 = .ok (.aload_n 0, 1) := by decide +kernel
theorem dX4_mixes_1 : decode cX4_mixes 1 = .ok (.getfield 10, 3) := by decide +kernel
theorem dX4_mixes_4 : decode cX4_mixes 4 = .ok (.getfield 337, 3) := by decide +kernel
theorem dX4_mixes_7 : decode cX4_mixes 7 = .ok (.ireturn, 1) := by decide +kernel
theorem dX4_leastAnnex_0 : decode cX4_leastAnnex 0 = .ok (.aload_n 0, 1) := by decide +kernel
theorem dX4_leastAnnex_1 : decode cX4_leastAnnex 1 = .ok (.iload_n 1, 1) := by decide +kernel
theorem dX4_leastAnnex_2 : decode cX4_leastAnnex 2 = .ok (.iload_n 2, 1) := by decide +kernel
theorem dX4_leastAnnex_3 : decode cX4_leastAnnex 3 = .ok (.invokevirtual 115, 3) := by decide +kernel
theorem dX4_leastAnnex_6 : decode cX4_leastAnnex 6 = .ok (.aload_n 0, 1) := by decide +kernel
theorem dX4_leastAnnex_7 : decode cX4_leastAnnex 7 = .ok (.iload_n 1, 1) := by decide +kernel
theorem dX4_leastAnnex_8 : decode cX4_leastAnnex 8 = .ok (.iload_n 2, 1) := by decide +kernel
theorem dX4_leastAnnex_9 : decode cX4_leastAnnex 9 = .ok (.invokevirtual 286, 3) := by decide +kernel
theorem dX4_leastAnnex_12 : decode cX4_leastAnnex 12 = .ok (.aload_n 0, 1) := by decide +kernel
theorem dX4_leastAnnex_13 : decode cX4_leastAnnex 13 = .ok (.getfield 10, 3) := by decide +kernel
theorem dX4_leastAnnex_16 : decode cX4_leastAnnex 16 = .ok (.iload_n 1, 1) := by decide +kernel
theorem dX4_leastAnnex_17 : decode cX4_leastAnnex 17 = .ok (.iload_n 2, 1) := by decide +kernel
theorem dX4_leastAnnex_18 : decode cX4_leastAnnex 18 = .ok (.invokevirtual 340, 3) := by decide +kernel
theorem dX4_leastAnnex_21 : decode cX4_leastAnnex 21 = .ok (.istore_n 3, 1) := by decide +kernel
theorem dX4_leastAnnex_22 : decode cX4_leastAnnex 22 = .ok (.iload_n 3, 1) := by decide +kernel
theorem dX4_leastAnnex_23 : decode cX4_leastAnnex 23 = .ok (.iconst (-1), 1) := by decide +kernel
theorem dX4_leastAnnex_24 : decode cX4_leastAnnex 24 = .ok (.if_icmp .ne 14, 3) := by decide +kernel
theorem dX4_leastAnnex_27 : decode cX4_leastAnnex 27 = .ok (.new 60, 3) := by decide +kernel
theorem dX4_leastAnnex_30 : decode cX4_leastAnnex 30 = .ok (.dup, 1) := by decide +kernel
theorem dX4_leastAnnex_31 : decode cX4_leastAnnex 31 = .ok (.ldc_w 343, 3) := by decide +kernel
theorem dX4_leastAnnex_34 : decode cX4_leastAnnex 34 = .ok (.invokespecial 64, 3) := by decide +kernel
theorem dX4_leastAnnex_37 : decode cX4_leastAnnex 37 = .ok (.athrow, 1) := by decide +kernel
theorem dX4_leastAnnex_38 : decode cX4_leastAnnex 38 = .ok (.iload_n 3, 1) := by decide +kernel
theorem dX4_leastAnnex_39 : decode cX4_leastAnnex 39 = .ok (.ireturn, 1) := by decide +kernel
theorem dX4_longestSigh_0 : decode cX4_longestSigh 0 = .ok (.aload_n 0, 1) := by decide +kernel
theorem dX4_longestSigh_1 : decode cX4_longestSigh 1 = .ok (.iload_n 1, 1) := by decide +kernel
theorem dX4_longestSigh_2 : decode cX4_longestSigh 2 = .ok (.invokevirtual 75, 3) := by decide +kernel
theorem dX4_longestSigh_5 : decode cX4_longestSigh 5 = .ok (.aload_n 0, 1) := by decide +kernel
theorem dX4_longestSigh_6 : decode cX4_longestSigh 6 = .ok (.getfield 10, 3) := by decide +kernel
theorem dX4_longestSigh_9 : decode cX4_longestSigh 9 = .ok (.iload_n 1, 1) := by decide +kernel
theorem dX4_longestSigh_10 : decode cX4_longestSigh 10 = .ok (.invokevirtual 345, 3) := by decide +kernel
theorem dX4_longestSigh_13 : decode cX4_longestSigh 13 = .ok (.istore_n 2, 1) := by decide +kernel
theorem dX4_longestSigh_14 : decode cX4_longestSigh 14 = .ok (.iload_n 2, 1) := by decide +kernel
theorem dX4_longestSigh_15 : decode cX4_longestSigh 15 = .ok (.iconst (-1), 1) := by decide +kernel
theorem dX4_longestSigh_16 : decode cX4_longestSigh 16 = .ok (.if_icmp .ne 14, 3) := by decide +kernel
theorem dX4_longestSigh_19 : decode cX4_longestSigh 19 = .ok (.new 60, 3) := by decide +kernel
theorem dX4_longestSigh_22 : decode cX4_longestSigh 22 = .ok (.dup, 1) := by decide +kernel
theorem dX4_longestSigh_23 : decode cX4_longestSigh 23 = .ok (.ldc_w 348, 3) := by decide +kernel
theorem dX4_longestSigh_26 : decode cX4_longestSigh 26 = .ok (.invokespecial 64, 3) := by decide +kernel
theorem dX4_longestSigh_29 : decode cX4_longestSigh 29 = .ok (.athrow, 1) := by decide +kernel
theorem dX4_longestSigh_30 : decode cX4_longestSigh 30 = .ok (.iload_n 2, 1) := by decide +kernel
theorem dX4_longestSigh_31 : decode cX4_longestSigh 31 = .ok (.ireturn, 1) := by decide +kernel
theorem dX4_nextClause_0 : decode cX4_nextClause 0 = .ok (.iload_n 1, 1) := by decide +kernel
theorem dX4_nextClause_1 : decode cX4_nextClause 1 = .ok (.invokestatic 195, 3) := by decide +kernel
theorem dX4_nextClause_4 : decode cX4_nextClause 4 = .ok (.aload_n 0, 1) := by decide +kernel
theorem dX4_nextClause_5 : decode cX4_nextClause 5 = .ok (.getfield 10, 3) := by decide +kernel
theorem dX4_nextClause_8 : decode cX4_nextClause 8 = .ok (.iload_n 1, 1) := by decide +kernel
theorem dX4_nextClause_9 : decode cX4_nextClause 9 = .ok (.invokevirtual 350, 3) := by decide +kernel
theorem dX4_nextClause_12 : decode cX4_nextClause 12 = .ok (.istore_n 2, 1) := by decide +kernel
theorem dX4_nextClause_13 : decode cX4_nextClause 13 = .ok (.iload_n 2, 1) := by decide +kernel
theorem dX4_nextClause_14 : decode cX4_nextClause 14 = .ok (.iconst (-1), 1) := by decide +kernel
theorem dX4_nextClause_15 : decode cX4_nextClause 15 = .ok (.if_icmp .ne 14, 3) := by decide +kernel
theorem dX4_nextClause_18 : decode cX4_nextClause 18 = .ok (.new 60, 3) := by decide +kernel
theorem dX4_nextClause_21 : decode cX4_nextClause 21 = .ok (.dup, 1) := by decide +kernel
theorem dX4_nextClause_22 : decode cX4_nextClause 22 = .ok (.ldc_w 353, 3) := by decide +kernel
theorem dX4_nextClause_25 : decode cX4_nextClause 25 = .ok (.invokespecial 64, 3) := by decide +kernel
theorem dX4_nextClause_28 : decode cX4_nextClause 28 = .ok (.athrow, 1) := by decide +kernel
theorem dX4_nextClause_29 : decode cX4_nextClause 29 = .ok (.iload_n 2, 1) := by decide +kernel
theorem dX4_nextClause_30 : decode cX4_nextClause 30 = .ok (.ireturn, 1) := by decide +kernel
theorem dX4_bestTongue_0 : decode cX4_bestTongue 0 = .ok (.aload_n 0, 1) := by decide +kernel
theorem dX4_bestTongue_1 : decode cX4_bestTongue 1 = .ok (.getfield 10, 3) := by decide +kernel
theorem dX4_bestTongue_4 : decode cX4_bestTongue 4 = .ok (.invokevirtual 355, 3) := by decide +kernel
theorem dX4_bestTongue_7 : decode cX4_bestTongue 7 = .ok (.ireturn, 1) := by decide +kernel
theorem dX4_loudestState_0 : decode cX4_loudestState 0 = .ok (.aload_n 0, 1) := by decide +kernel
theorem dX4_loudestState_1 : decode cX4_loudestState 1 = .ok (.getfield 10, 3) := by decide +kernel
theorem dX4_loudestState_4 : decode cX4_loudestState 4 = .ok (.invokevirtual 358, 3) := by decide +kernel
theorem dX4_loudestState_7 : decode cX4_loudestState 7 = .ok (.ireturn, 1) := by decide +kernel
theorem dX4_meanFit_0 : decode cX4_meanFit 0 = .ok (.iload_n 1, 1) := by decide +kernel
theorem dX4_meanFit_1 : decode cX4_meanFit 1 = .ok (.invokestatic 195, 3) := by decide +kernel
theorem dX4_meanFit_4 : decode cX4_meanFit 4 = .ok (.aload_n 0, 1) := by decide +kernel
theorem dX4_meanFit_5 : decode cX4_meanFit 5 = .ok (.getfield 10, 3) := by decide +kernel
theorem dX4_meanFit_8 : decode cX4_meanFit 8 = .ok (.iload_n 1, 1) := by decide +kernel
theorem dX4_meanFit_9 : decode cX4_meanFit 9 = .ok (.invokevirtual 361, 3) := by decide +kernel
theorem dX4_meanFit_12 : decode cX4_meanFit 12 = .ok (.dreturn, 1) := by decide +kernel
theorem dX4_digest_0 : decode cX4_digest 0 = .ok (.ldc2_w 365, 3) := by decide +kernel
theorem dX4_digest_3 : decode cX4_digest 3 = .ok (.aload_n 0, 1) := by decide +kernel
theorem dX4_digest_4 : decode cX4_digest 4 = .ok (.getfield 10, 3) := by decide +kernel
theorem dX4_digest_7 : decode cX4_digest 7 = .ok (.getfield 56, 3) := by decide +kernel
theorem dX4_digest_10 : decode cX4_digest 10 = .ok (.i2l, 1) := by decide +kernel
theorem dX4_digest_11 : decode cX4_digest 11 = .ok (.invokestatic 367, 3) := by decide +kernel
theorem dX4_digest_14 : decode cX4_digest 14 = .ok (.lstore_n 1, 1) := by decide +kernel
theorem dX4_digest_15 : decode cX4_digest 15 = .ok (.iconst 0, 1) := by decide +kernel
theorem dX4_digest_16 : decode cX4_digest 16 = .ok (.istore_n 3, 1) := by decide +kernel
theorem dX4_digest_17 : decode cX4_digest 17 = .ok (.iload_n 3, 1) := by decide +kernel
theorem dX4_digest_18 : decode cX4_digest 18 = .ok (.aload_n 0, 1) := by decide +kernel
theorem dX4_digest_19 : decode cX4_digest 19 = .ok (.getfield 10, 3) := by decide +kernel
theorem dX4_digest_22 : decode cX4_digest 22 = .ok (.getfield 56, 3) := by decide +kernel
theorem dX4_digest_25 : decode cX4_digest 25 = .ok (.if_icmp .ge 16, 3) := by decide +kernel
theorem dX4_digest_28 : decode cX4_digest 28 = .ok (.aload_n 0, 1) := by decide +kernel
theorem dX4_digest_29 : decode cX4_digest 29 = .ok (.lload_n 1, 1) := by decide +kernel
theorem dX4_digest_30 : decode cX4_digest 30 = .ok (.iload_n 3, 1) := by decide +kernel
theorem dX4_digest_31 : decode cX4_digest 31 = .ok (.invokevirtual 371, 3) := by decide +kernel
theorem dX4_digest_34 : decode cX4_digest 34 = .ok (.lstore_n 1, 1) := by decide +kernel
theorem dX4_digest_35 : decode cX4_digest 35 = .ok (.iinc 3 1, 3) := by decide +kernel
theorem dX4_digest_38 : decode cX4_digest 38 = .ok (.goto (-21), 3) := by decide +kernel
theorem dX4_digest_41 : decode cX4_digest 41 = .ok (.iconst 0, 1) := by decide +kernel
theorem dX4_digest_42 : decode cX4_digest 42 = .ok (.istore_n 3, 1) := by decide +kernel
theorem dX4_digest_43 : decode cX4_digest 43 = .ok (.iload_n 3, 1) := by decide +kernel
theorem dX4_digest_44 : decode cX4_digest 44 = .ok (.iconst 5, 1) := by decide +kernel
theorem dX4_digest_45 : decode cX4_digest 45 = .ok (.if_icmp .ge 33, 3) := by decide +kernel
theorem dX4_digest_48 : decode cX4_digest 48 = .ok (.iconst 0, 1) := by decide +kernel
theorem dX4_digest_49 : decode cX4_digest 49 = .ok (.istore 4, 2) := by decide +kernel
theorem dX4_digest_51 : decode cX4_digest 51 = .ok (.iload 4, 2) := by decide +kernel
theorem dX4_digest_53 : decode cX4_digest 53 = .ok (.iconst 3, 1) := by decide +kernel
theorem dX4_digest_54 : decode cX4_digest 54 = .ok (.if_icmp .ge 18, 3) := by decide +kernel
theorem dX4_digest_57 : decode cX4_digest 57 = .ok (.aload_n 0, 1) := by decide +kernel
theorem dX4_digest_58 : decode cX4_digest 58 = .ok (.lload_n 1, 1) := by decide +kernel
theorem dX4_digest_59 : decode cX4_digest 59 = .ok (.iload_n 3, 1) := by decide +kernel
theorem dX4_digest_60 : decode cX4_digest 60 = .ok (.iload 4, 2) := by decide +kernel
theorem dX4_digest_62 : decode cX4_digest 62 = .ok (.invokevirtual 375, 3) := by decide +kernel
theorem dX4_digest_65 : decode cX4_digest 65 = .ok (.lstore_n 1, 1) := by decide +kernel
theorem dX4_digest_66 : decode cX4_digest 66 = .ok (.iinc 4 1, 3) := by decide +kernel
theorem dX4_digest_69 : decode cX4_digest 69 = .ok (.goto (-18), 3) := by decide +kernel
theorem dX4_digest_72 : decode cX4_digest 72 = .ok (.iinc 3 1, 3) := by decide +kernel
theorem dX4_digest_75 : decode cX4_digest 75 = .ok (.goto (-32), 3) := by decide +kernel
theorem dX4_digest_78 : decode cX4_digest 78 = .ok (.iconst 0, 1) := by decide +kernel
theorem dX4_digest_79 : decode cX4_digest 79 = .ok (.istore_n 3, 1) := by decide +kernel
theorem dX4_digest_80 : decode cX4_digest 80 = .ok (.iload_n 3, 1) := by decide +kernel
theorem dX4_digest_81 : decode cX4_digest 81 = .ok (.iconst 4, 1) := by decide +kernel
theorem dX4_digest_82 : decode cX4_digest 82 = .ok (.if_icmp .ge 16, 3) := by decide +kernel
theorem dX4_digest_85 : decode cX4_digest 85 = .ok (.aload_n 0, 1) := by decide +kernel
theorem dX4_digest_86 : decode cX4_digest 86 = .ok (.lload_n 1, 1) := by decide +kernel
theorem dX4_digest_87 : decode cX4_digest 87 = .ok (.iload_n 3, 1) := by decide +kernel
theorem dX4_digest_88 : decode cX4_digest 88 = .ok (.invokevirtual 379, 3) := by decide +kernel
theorem dX4_digest_91 : decode cX4_digest 91 = .ok (.lstore_n 1, 1) := by decide +kernel
theorem dX4_digest_92 : decode cX4_digest 92 = .ok (.iinc 3 1, 3) := by decide +kernel
theorem dX4_digest_95 : decode cX4_digest 95 = .ok (.goto (-15), 3) := by decide +kernel
theorem dX4_digest_98 : decode cX4_digest 98 = .ok (.iconst 0, 1) := by decide +kernel
theorem dX4_digest_99 : decode cX4_digest 99 = .ok (.istore_n 3, 1) := by decide +kernel
theorem dX4_digest_100 : decode cX4_digest 100 = .ok (.iload_n 3, 1) := by decide +kernel
theorem dX4_digest_101 : decode cX4_digest 101 = .ok (.iconst 3, 1) := by decide +kernel
theorem dX4_digest_102 : decode cX4_digest 102 = .ok (.if_icmp .ge 16, 3) := by decide +kernel
theorem dX4_digest_105 : decode cX4_digest 105 = .ok (.aload_n 0, 1) := by decide +kernel
theorem dX4_digest_106 : decode cX4_digest 106 = .ok (.lload_n 1, 1) := by decide +kernel
theorem dX4_digest_107 : decode cX4_digest 107 = .ok (.iload_n 3, 1) := by decide +kernel
theorem dX4_digest_108 : decode cX4_digest 108 = .ok (.invokevirtual 382, 3) := by decide +kernel
theorem dX4_digest_111 : decode cX4_digest 111 = .ok (.lstore_n 1, 1) := by decide +kernel
theorem dX4_digest_112 : decode cX4_digest 112 = .ok (.iinc 3 1, 3) := by decide +kernel
theorem dX4_digest_115 : decode cX4_digest 115 = .ok (.goto (-15), 3) := by decide +kernel
theorem dX4_digest_118 : decode cX4_digest 118 = .ok (.aload_n 0, 1) := by decide +kernel
theorem dX4_digest_119 : decode cX4_digest 119 = .ok (.aload_n 0, 1) := by decide +kernel
theorem dX4_digest_120 : decode cX4_digest 120 = .ok (.lload_n 1, 1) := by decide +kernel
theorem dX4_digest_121 : decode cX4_digest 121 = .ok (.invokevirtual 385, 3) := by decide +kernel
theorem dX4_digest_124 : decode cX4_digest 124 = .ok (.invokevirtual 389, 3) := by decide +kernel
theorem dX4_digest_127 : decode cX4_digest 127 = .ok (.lreturn, 1) := by decide +kernel
theorem dX4_chain_0 : decode cX4_chain 0 = .ok (.ldc2_w 392, 3) := by decide +kernel
theorem dX4_chain_3 : decode cX4_chain 3 = .ok (.lload_n 0, 1) := by decide +kernel
theorem dX4_chain_4 : decode cX4_chain 4 = .ok (.lmul, 1) := by decide +kernel
theorem dX4_chain_5 : decode cX4_chain 5 = .ok (.lload_n 2, 1) := by decide +kernel
theorem dX4_chain_6 : decode cX4_chain 6 = .ok (.ladd, 1) := by decide +kernel
theorem dX4_chain_7 : decode cX4_chain 7 = .ok (.lreturn, 1) := by decide +kernel
theorem dX4_chainFlag_0 : decode cX4_chainFlag 0 = .ok (.lload_n 0, 1) := by decide +kernel
theorem dX4_chainFlag_1 : decode cX4_chainFlag 1 = .ok (.iload_n 2, 1) := by decide +kernel
theorem dX4_chainFlag_2 : decode cX4_chainFlag 2 = .ok (.ifCond .eq 7, 3) := by decide +kernel
theorem dX4_chainFlag_5 : decode cX4_chainFlag 5 = .ok (.lconst 1, 1) := by decide +kernel
theorem dX4_chainFlag_6 : decode cX4_chainFlag 6 = .ok (.goto 4, 3) := by decide +kernel
theorem dX4_chainFlag_9 : decode cX4_chainFlag 9 = .ok (.lconst 0, 1) := by decide +kernel
theorem dX4_chainFlag_10 : decode cX4_chainFlag 10 = .ok (.invokestatic 367, 3) := by decide +kernel
theorem dX4_chainFlag_13 : decode cX4_chainFlag 13 = .ok (.lreturn, 1) := by decide +kernel
theorem dX4_chainClause_0 : decode cX4_chainClause 0 = .ok (.lload_n 1, 1) := by decide +kernel
theorem dX4_chainClause_1 : decode cX4_chainClause 1 = .ok (.aload_n 0, 1) := by decide +kernel
theorem dX4_chainClause_2 : decode cX4_chainClause 2 = .ok (.getfield 10, 3) := by decide +kernel
theorem dX4_chainClause_5 : decode cX4_chainClause 5 = .ok (.iload_n 3, 1) := by decide +kernel
theorem dX4_chainClause_6 : decode cX4_chainClause 6 = .ok (.invokevirtual 104, 3) := by decide +kernel
theorem dX4_chainClause_9 : decode cX4_chainClause 9 = .ok (.i2l, 1) := by decide +kernel
theorem dX4_chainClause_10 : decode cX4_chainClause 10 = .ok (.invokestatic 367, 3) := by decide +kernel
theorem dX4_chainClause_13 : decode cX4_chainClause 13 = .ok (.lstore 4, 2) := by decide +kernel
theorem dX4_chainClause_15 : decode cX4_chainClause 15 = .ok (.lload 4, 2) := by decide +kernel
theorem dX4_chainClause_17 : decode cX4_chainClause 17 = .ok (.aload_n 0, 1) := by decide +kernel
theorem dX4_chainClause_18 : decode cX4_chainClause 18 = .ok (.getfield 10, 3) := by decide +kernel
theorem dX4_chainClause_21 : decode cX4_chainClause 21 = .ok (.iload_n 3, 1) := by decide +kernel
theorem dX4_chainClause_22 : decode cX4_chainClause 22 = .ok (.invokevirtual 172, 3) := by decide +kernel
theorem dX4_chainClause_25 : decode cX4_chainClause 25 = .ok (.i2l, 1) := by decide +kernel
theorem dX4_chainClause_26 : decode cX4_chainClause 26 = .ok (.invokestatic 367, 3) := by decide +kernel
theorem dX4_chainClause_29 : decode cX4_chainClause 29 = .ok (.lstore 4, 2) := by decide +kernel
theorem dX4_chainClause_31 : decode cX4_chainClause 31 = .ok (.lload 4, 2) := by decide +kernel
theorem dX4_chainClause_33 : decode cX4_chainClause 33 = .ok (.aload_n 0, 1) := by decide +kernel
theorem dX4_chainClause_34 : decode cX4_chainClause 34 = .ok (.getfield 10, 3) := by decide +kernel
theorem dX4_chainClause_37 : decode cX4_chainClause 37 = .ok (.iload_n 3, 1) := by decide +kernel
theorem dX4_chainClause_38 : decode cX4_chainClause 38 = .ok (.invokevirtual 88, 3) := by decide +kernel
theorem dX4_chainClause_41 : decode cX4_chainClause 41 = .ok (.i2l, 1) := by decide +kernel
theorem dX4_chainClause_42 : decode cX4_chainClause 42 = .ok (.invokestatic 367, 3) := by decide +kernel
theorem dX4_chainClause_45 : decode cX4_chainClause 45 = .ok (.lstore 4, 2) := by decide +kernel
theorem dX4_chainClause_47 : decode cX4_chainClause 47 = .ok (.lload 4, 2) := by decide +kernel
theorem dX4_chainClause_49 : decode cX4_chainClause 49 = .ok (.aload_n 0, 1) := by decide +kernel
theorem dX4_chainClause_50 : decode cX4_chainClause 50 = .ok (.getfield 10, 3) := by decide +kernel
theorem dX4_chainClause_53 : decode cX4_chainClause 53 = .ok (.iload_n 3, 1) := by decide +kernel
theorem dX4_chainClause_54 : decode cX4_chainClause 54 = .ok (.invokevirtual 82, 3) := by decide +kernel
theorem dX4_chainClause_57 : decode cX4_chainClause 57 = .ok (.i2l, 1) := by decide +kernel
theorem dX4_chainClause_58 : decode cX4_chainClause 58 = .ok (.invokestatic 367, 3) := by decide +kernel
theorem dX4_chainClause_61 : decode cX4_chainClause 61 = .ok (.lstore 4, 2) := by decide +kernel
theorem dX4_chainClause_63 : decode cX4_chainClause 63 = .ok (.lload 4, 2) := by decide +kernel
theorem dX4_chainClause_65 : decode cX4_chainClause 65 = .ok (.aload_n 0, 1) := by decide +kernel
theorem dX4_chainClause_66 : decode cX4_chainClause 66 = .ok (.getfield 10, 3) := by decide +kernel
theorem dX4_chainClause_69 : decode cX4_chainClause 69 = .ok (.iload_n 3, 1) := by decide +kernel
theorem dX4_chainClause_70 : decode cX4_chainClause 70 = .ok (.invokevirtual 345, 3) := by decide +kernel
theorem dX4_chainClause_73 : decode cX4_chainClause 73 = .ok (.iconst 1, 1) := by decide +kernel
theorem dX4_chainClause_74 : decode cX4_chainClause 74 = .ok (.iadd, 1) := by decide +kernel
theorem dX4_chainClause_75 : decode cX4_chainClause 75 = .ok (.i2l, 1) := by decide +kernel
theorem dX4_chainClause_76 : decode cX4_chainClause 76 = .ok (.invokestatic 367, 3) := by decide +kernel
theorem dX4_chainClause_79 : decode cX4_chainClause 79 = .ok (.lstore 4, 2) := by decide +kernel
theorem dX4_chainClause_81 : decode cX4_chainClause 81 = .ok (.iconst 0, 1) := by decide +kernel
theorem dX4_chainClause_82 : decode cX4_chainClause 82 = .ok (.istore 6, 2) := by decide +kernel
theorem dX4_chainClause_84 : decode cX4_chainClause 84 = .ok (.iload 6, 2) := by decide +kernel
theorem dX4_chainClause_86 : decode cX4_chainClause 86 = .ok (.iconst 3, 1) := by decide +kernel
theorem dX4_chainClause_87 : decode cX4_chainClause 87 = .ok (.if_icmp .ge 20, 3) := by decide +kernel
theorem dX4_chainClause_90 : decode cX4_chainClause 90 = .ok (.aload_n 0, 1) := by decide +kernel
theorem dX4_chainClause_91 : decode cX4_chainClause 91 = .ok (.lload 4, 2) := by decide +kernel
theorem dX4_chainClause_93 : decode cX4_chainClause 93 = .ok (.iload_n 3, 1) := by decide +kernel
theorem dX4_chainClause_94 : decode cX4_chainClause 94 = .ok (.iload 6, 2) := by decide +kernel
theorem dX4_chainClause_96 : decode cX4_chainClause 96 = .ok (.invokevirtual 394, 3) := by decide +kernel
theorem dX4_chainClause_99 : decode cX4_chainClause 99 = .ok (.lstore 4, 2) := by decide +kernel
theorem dX4_chainClause_101 : decode cX4_chainClause 101 = .ok (.iinc 6 1, 3) := by decide +kernel
theorem dX4_chainClause_104 : decode cX4_chainClause 104 = .ok (.goto (-20), 3) := by decide +kernel
theorem dX4_chainClause_107 : decode cX4_chainClause 107 = .ok (.lload 4, 2) := by decide +kernel
theorem dX4_chainClause_109 : decode cX4_chainClause 109 = .ok (.lreturn, 1) := by decide +kernel
theorem dX4_chainTranslation_0 : decode cX4_chainTranslation 0 = .ok (.lload_n 1, 1) := by decide +kernel
theorem dX4_chainTranslation_1 : decode cX4_chainTranslation 1 = .ok (.aload_n 0, 1) := by decide +kernel
theorem dX4_chainTranslation_2 : decode cX4_chainTranslation 2 = .ok (.getfield 10, 3) := by decide +kernel
theorem dX4_chainTranslation_5 : decode cX4_chainTranslation 5 = .ok (.iload_n 3, 1) := by decide +kernel
theorem dX4_chainTranslation_6 : decode cX4_chainTranslation 6 = .ok (.iload 4, 2) := by decide +kernel
theorem dX4_chainTranslation_8 : decode cX4_chainTranslation 8 = .ok (.invokevirtual 139, 3) := by decide +kernel
theorem dX4_chainTranslation_11 : decode cX4_chainTranslation 11 = .ok (.i2l, 1) := by decide +kernel
theorem dX4_chainTranslation_12 : decode cX4_chainTranslation 12 = .ok (.invokestatic 367, 3) := by decide +kernel
theorem dX4_chainTranslation_15 : decode cX4_chainTranslation 15 = .ok (.lstore 5, 2) := by decide +kernel
theorem dX4_chainTranslation_17 : decode cX4_chainTranslation 17 = .ok (.lload 5, 2) := by decide +kernel
theorem dX4_chainTranslation_19 : decode cX4_chainTranslation 19 = .ok (.aload_n 0, 1) := by decide +kernel
theorem dX4_chainTranslation_20 : decode cX4_chainTranslation 20 = .ok (.getfield 10, 3) := by decide +kernel
theorem dX4_chainTranslation_23 : decode cX4_chainTranslation 23 = .ok (.iload_n 3, 1) := by decide +kernel
theorem dX4_chainTranslation_24 : decode cX4_chainTranslation 24 = .ok (.iload 4, 2) := by decide +kernel
theorem dX4_chainTranslation_26 : decode cX4_chainTranslation 26 = .ok (.invokevirtual 142, 3) := by decide +kernel
theorem dX4_chainTranslation_29 : decode cX4_chainTranslation 29 = .ok (.i2l, 1) := by decide +kernel
theorem dX4_chainTranslation_30 : decode cX4_chainTranslation 30 = .ok (.invokestatic 367, 3) := by decide +kernel
theorem dX4_chainTranslation_33 : decode cX4_chainTranslation 33 = .ok (.lstore 5, 2) := by decide +kernel
theorem dX4_chainTranslation_35 : decode cX4_chainTranslation 35 = .ok (.lload 5, 2) := by decide +kernel
theorem dX4_chainTranslation_37 : decode cX4_chainTranslation 37 = .ok (.aload_n 0, 1) := by decide +kernel
theorem dX4_chainTranslation_38 : decode cX4_chainTranslation 38 = .ok (.getfield 10, 3) := by decide +kernel
theorem dX4_chainTranslation_41 : decode cX4_chainTranslation 41 = .ok (.iload_n 3, 1) := by decide +kernel
theorem dX4_chainTranslation_42 : decode cX4_chainTranslation 42 = .ok (.iload 4, 2) := by decide +kernel
theorem dX4_chainTranslation_44 : decode cX4_chainTranslation 44 = .ok (.invokevirtual 119, 3) := by decide +kernel
theorem dX4_chainTranslation_47 : decode cX4_chainTranslation 47 = .ok (.invokestatic 397, 3) := by decide +kernel
theorem dX4_chainTranslation_50 : decode cX4_chainTranslation 50 = .ok (.lstore 5, 2) := by decide +kernel
theorem dX4_chainTranslation_52 : decode cX4_chainTranslation 52 = .ok (.lload 5, 2) := by decide +kernel
theorem dX4_chainTranslation_54 : decode cX4_chainTranslation 54 = .ok (.aload_n 0, 1) := by decide +kernel
theorem dX4_chainTranslation_55 : decode cX4_chainTranslation 55 = .ok (.getfield 10, 3) := by decide +kernel
theorem dX4_chainTranslation_58 : decode cX4_chainTranslation 58 = .ok (.iload_n 3, 1) := by decide +kernel
theorem dX4_chainTranslation_59 : decode cX4_chainTranslation 59 = .ok (.iload 4, 2) := by decide +kernel
theorem dX4_chainTranslation_61 : decode cX4_chainTranslation 61 = .ok (.invokevirtual 164, 3) := by decide +kernel
theorem dX4_chainTranslation_64 : decode cX4_chainTranslation 64 = .ok (.i2l, 1) := by decide +kernel
theorem dX4_chainTranslation_65 : decode cX4_chainTranslation 65 = .ok (.invokestatic 367, 3) := by decide +kernel
theorem dX4_chainTranslation_68 : decode cX4_chainTranslation 68 = .ok (.lstore 5, 2) := by decide +kernel
theorem dX4_chainTranslation_70 : decode cX4_chainTranslation 70 = .ok (.aload_n 0, 1) := by decide +kernel
theorem dX4_chainTranslation_71 : decode cX4_chainTranslation 71 = .ok (.getfield 10, 3) := by decide +kernel
theorem dX4_chainTranslation_74 : decode cX4_chainTranslation 74 = .ok (.iload_n 3, 1) := by decide +kernel
theorem dX4_chainTranslation_75 : decode cX4_chainTranslation 75 = .ok (.iload 4, 2) := by decide +kernel
theorem dX4_chainTranslation_77 : decode cX4_chainTranslation 77 = .ok (.invokevirtual 283, 3) := by decide +kernel
theorem dX4_chainTranslation_80 : decode cX4_chainTranslation 80 = .ok (.ifCond .eq 59, 3) := by decide +kernel
theorem dX4_chainTranslation_83 : decode cX4_chainTranslation 83 = .ok (.lload 5, 2) := by decide +kernel
theorem dX4_chainTranslation_85 : decode cX4_chainTranslation 85 = .ok (.aload_n 0, 1) := by decide +kernel
theorem dX4_chainTranslation_86 : decode cX4_chainTranslation 86 = .ok (.getfield 10, 3) := by decide +kernel
theorem dX4_chainTranslation_89 : decode cX4_chainTranslation 89 = .ok (.iload_n 3, 1) := by decide +kernel
theorem dX4_chainTranslation_90 : decode cX4_chainTranslation 90 = .ok (.iload 4, 2) := by decide +kernel
theorem dX4_chainTranslation_92 : decode cX4_chainTranslation 92 = .ok (.invokevirtual 129, 3) := by decide +kernel
theorem dX4_chainTranslation_95 : decode cX4_chainTranslation 95 = .ok (.i2l, 1) := by decide +kernel
theorem dX4_chainTranslation_96 : decode cX4_chainTranslation 96 = .ok (.invokestatic 367, 3) := by decide +kernel
theorem dX4_chainTranslation_99 : decode cX4_chainTranslation 99 = .ok (.lstore 5, 2) := by decide +kernel
theorem dX4_chainTranslation_101 : decode cX4_chainTranslation 101 = .ok (.lload 5, 2) := by decide +kernel
theorem dX4_chainTranslation_103 : decode cX4_chainTranslation 103 = .ok (.aload_n 0, 1) := by decide +kernel
theorem dX4_chainTranslation_104 : decode cX4_chainTranslation 104 = .ok (.getfield 10, 3) := by decide +kernel
theorem dX4_chainTranslation_107 : decode cX4_chainTranslation 107 = .ok (.iload_n 3, 1) := by decide +kernel
theorem dX4_chainTranslation_108 : decode cX4_chainTranslation 108 = .ok (.iload 4, 2) := by decide +kernel
theorem dX4_chainTranslation_110 : decode cX4_chainTranslation 110 = .ok (.invokevirtual 292, 3) := by decide +kernel
theorem dX4_chainTranslation_113 : decode cX4_chainTranslation 113 = .ok (.i2l, 1) := by decide +kernel
theorem dX4_chainTranslation_114 : decode cX4_chainTranslation 114 = .ok (.invokestatic 367, 3) := by decide +kernel
theorem dX4_chainTranslation_117 : decode cX4_chainTranslation 117 = .ok (.lstore 5, 2) := by decide +kernel
theorem dX4_chainTranslation_119 : decode cX4_chainTranslation 119 = .ok (.lload 5, 2) := by decide +kernel
theorem dX4_chainTranslation_121 : decode cX4_chainTranslation 121 = .ok (.aload_n 0, 1) := by decide +kernel
theorem dX4_chainTranslation_122 : decode cX4_chainTranslation 122 = .ok (.getfield 10, 3) := by decide +kernel
theorem dX4_chainTranslation_125 : decode cX4_chainTranslation 125 = .ok (.iload_n 3, 1) := by decide +kernel
theorem dX4_chainTranslation_126 : decode cX4_chainTranslation 126 = .ok (.iload 4, 2) := by decide +kernel
theorem dX4_chainTranslation_128 : decode cX4_chainTranslation 128 = .ok (.invokevirtual 340, 3) := by decide +kernel
theorem dX4_chainTranslation_131 : decode cX4_chainTranslation 131 = .ok (.iconst 1, 1) := by decide +kernel
theorem dX4_chainTranslation_132 : decode cX4_chainTranslation 132 = .ok (.iadd, 1) := by decide +kernel
theorem dX4_chainTranslation_133 : decode cX4_chainTranslation 133 = .ok (.i2l, 1) := by decide +kernel
theorem dX4_chainTranslation_134 : decode cX4_chainTranslation 134 = .ok (.invokestatic 367, 3) := by decide +kernel
theorem dX4_chainTranslation_137 : decode cX4_chainTranslation 137 = .ok (.lstore 5, 2) := by decide +kernel
theorem dX4_chainTranslation_139 : decode cX4_chainTranslation 139 = .ok (.lload 5, 2) := by decide +kernel
theorem dX4_chainTranslation_141 : decode cX4_chainTranslation 141 = .ok (.lreturn, 1) := by decide +kernel
theorem dX4_chainVoice_0 : decode cX4_chainVoice 0 = .ok (.lload_n 1, 1) := by decide +kernel
theorem dX4_chainVoice_1 : decode cX4_chainVoice 1 = .ok (.aload_n 0, 1) := by decide +kernel
theorem dX4_chainVoice_2 : decode cX4_chainVoice 2 = .ok (.getfield 10, 3) := by decide +kernel
theorem dX4_chainVoice_5 : decode cX4_chainVoice 5 = .ok (.iload_n 3, 1) := by decide +kernel
theorem dX4_chainVoice_6 : decode cX4_chainVoice 6 = .ok (.iload 4, 2) := by decide +kernel
theorem dX4_chainVoice_8 : decode cX4_chainVoice 8 = .ok (.invokevirtual 158, 3) := by decide +kernel
theorem dX4_chainVoice_11 : decode cX4_chainVoice 11 = .ok (.i2l, 1) := by decide +kernel
theorem dX4_chainVoice_12 : decode cX4_chainVoice 12 = .ok (.invokestatic 367, 3) := by decide +kernel
theorem dX4_chainVoice_15 : decode cX4_chainVoice 15 = .ok (.lstore 5, 2) := by decide +kernel
theorem dX4_chainVoice_17 : decode cX4_chainVoice 17 = .ok (.lload 5, 2) := by decide +kernel
theorem dX4_chainVoice_19 : decode cX4_chainVoice 19 = .ok (.aload_n 0, 1) := by decide +kernel
theorem dX4_chainVoice_20 : decode cX4_chainVoice 20 = .ok (.getfield 10, 3) := by decide +kernel
theorem dX4_chainVoice_23 : decode cX4_chainVoice 23 = .ok (.iload_n 3, 1) := by decide +kernel
theorem dX4_chainVoice_24 : decode cX4_chainVoice 24 = .ok (.iload 4, 2) := by decide +kernel
theorem dX4_chainVoice_26 : decode cX4_chainVoice 26 = .ok (.invokevirtual 175, 3) := by decide +kernel
theorem dX4_chainVoice_29 : decode cX4_chainVoice 29 = .ok (.i2l, 1) := by decide +kernel
theorem dX4_chainVoice_30 : decode cX4_chainVoice 30 = .ok (.invokestatic 367, 3) := by decide +kernel
theorem dX4_chainVoice_33 : decode cX4_chainVoice 33 = .ok (.lstore 5, 2) := by decide +kernel
theorem dX4_chainVoice_35 : decode cX4_chainVoice 35 = .ok (.lload 5, 2) := by decide +kernel
theorem dX4_chainVoice_37 : decode cX4_chainVoice 37 = .ok (.aload_n 0, 1) := by decide +kernel
theorem dX4_chainVoice_38 : decode cX4_chainVoice 38 = .ok (.getfield 10, 3) := by decide +kernel
theorem dX4_chainVoice_41 : decode cX4_chainVoice 41 = .ok (.iload_n 3, 1) := by decide +kernel
theorem dX4_chainVoice_42 : decode cX4_chainVoice 42 = .ok (.iload 4, 2) := by decide +kernel
theorem dX4_chainVoice_44 : decode cX4_chainVoice 44 = .ok (.invokevirtual 295, 3) := by decide +kernel
theorem dX4_chainVoice_47 : decode cX4_chainVoice 47 = .ok (.i2l, 1) := by decide +kernel
theorem dX4_chainVoice_48 : decode cX4_chainVoice 48 = .ok (.invokestatic 367, 3) := by decide +kernel
theorem dX4_chainVoice_51 : decode cX4_chainVoice 51 = .ok (.lstore 5, 2) := by decide +kernel
theorem dX4_chainVoice_53 : decode cX4_chainVoice 53 = .ok (.aload_n 0, 1) := by decide +kernel
theorem dX4_chainVoice_54 : decode cX4_chainVoice 54 = .ok (.getfield 10, 3) := by decide +kernel
theorem dX4_chainVoice_57 : decode cX4_chainVoice 57 = .ok (.aload_n 0, 1) := by decide +kernel
theorem dX4_chainVoice_58 : decode cX4_chainVoice 58 = .ok (.getfield 41, 3) := by decide +kernel
theorem dX4_chainVoice_61 : decode cX4_chainVoice 61 = .ok (.iload_n 3, 1) := by decide +kernel
theorem dX4_chainVoice_62 : decode cX4_chainVoice 62 = .ok (.iload 4, 2) := by decide +kernel
theorem dX4_chainVoice_64 : decode cX4_chainVoice 64 = .ok (.invokevirtual 401, 3) := by decide +kernel
theorem dX4_chainVoice_67 : decode cX4_chainVoice 67 = .ok (.aload_n 0, 1) := by decide +kernel
theorem dX4_chainVoice_68 : decode cX4_chainVoice 68 = .ok (.getfield 41, 3) := by decide +kernel
theorem dX4_chainVoice_71 : decode cX4_chainVoice 71 = .ok (.invokevirtual 405, 3) := by decide +kernel
theorem dX4_chainVoice_74 : decode cX4_chainVoice 74 = .ok (.ifCond .eq 14, 3) := by decide +kernel
theorem dX4_chainVoice_77 : decode cX4_chainVoice 77 = .ok (.lload 5, 2) := by decide +kernel
theorem dX4_chainVoice_79 : decode cX4_chainVoice 79 = .ok (.lconst 0, 1) := by decide +kernel
theorem dX4_chainVoice_80 : decode cX4_chainVoice 80 = .ok (.invokestatic 367, 3) := by decide +kernel
theorem dX4_chainVoice_83 : decode cX4_chainVoice 83 = .ok (.lconst 0, 1) := by decide +kernel
theorem dX4_chainVoice_84 : decode cX4_chainVoice 84 = .ok (.invokestatic 367, 3) := by decide +kernel
theorem dX4_chainVoice_87 : decode cX4_chainVoice 87 = .ok (.lreturn, 1) := by decide +kernel
theorem dX4_chainVoice_88 : decode cX4_chainVoice 88 = .ok (.lload 5, 2) := by decide +kernel
theorem dX4_chainVoice_90 : decode cX4_chainVoice 90 = .ok (.aload_n 0, 1) := by decide +kernel
theorem dX4_chainVoice_91 : decode cX4_chainVoice 91 = .ok (.getfield 41, 3) := by decide +kernel
theorem dX4_chainVoice_94 : decode cX4_chainVoice 94 = .ok (.invokevirtual 301, 3) := by decide +kernel
theorem dX4_chainVoice_97 : decode cX4_chainVoice 97 = .ok (.iconst 1, 1) := by decide +kernel
theorem dX4_chainVoice_98 : decode cX4_chainVoice 98 = .ok (.iadd, 1) := by decide +kernel
theorem dX4_chainVoice_99 : decode cX4_chainVoice 99 = .ok (.i2l, 1) := by decide +kernel
theorem dX4_chainVoice_100 : decode cX4_chainVoice 100 = .ok (.invokestatic 367, 3) := by decide +kernel
theorem dX4_chainVoice_103 : decode cX4_chainVoice 103 = .ok (.aload_n 0, 1) := by decide +kernel
theorem dX4_chainVoice_104 : decode cX4_chainVoice 104 = .ok (.getfield 41, 3) := by decide +kernel
theorem dX4_chainVoice_107 : decode cX4_chainVoice 107 = .ok (.invokevirtual 304, 3) := by decide +kernel
theorem dX4_chainVoice_110 : decode cX4_chainVoice 110 = .ok (.iconst 1, 1) := by decide +kernel
theorem dX4_chainVoice_111 : decode cX4_chainVoice 111 = .ok (.iadd, 1) := by decide +kernel
theorem dX4_chainVoice_112 : decode cX4_chainVoice 112 = .ok (.i2l, 1) := by decide +kernel
theorem dX4_chainVoice_113 : decode cX4_chainVoice 113 = .ok (.invokestatic 367, 3) := by decide +kernel
theorem dX4_chainVoice_116 : decode cX4_chainVoice 116 = .ok (.lreturn, 1) := by decide +kernel
theorem dX4_chainReel_0 : decode cX4_chainReel 0 = .ok (.lload_n 1, 1) := by decide +kernel
theorem dX4_chainReel_1 : decode cX4_chainReel 1 = .ok (.aload_n 0, 1) := by decide +kernel
theorem dX4_chainReel_2 : decode cX4_chainReel 2 = .ok (.getfield 10, 3) := by decide +kernel
theorem dX4_chainReel_5 : decode cX4_chainReel 5 = .ok (.iload_n 3, 1) := by decide +kernel
theorem dX4_chainReel_6 : decode cX4_chainReel 6 = .ok (.invokevirtual 307, 3) := by decide +kernel
theorem dX4_chainReel_9 : decode cX4_chainReel 9 = .ok (.i2l, 1) := by decide +kernel
theorem dX4_chainReel_10 : decode cX4_chainReel 10 = .ok (.invokestatic 367, 3) := by decide +kernel
theorem dX4_chainReel_13 : decode cX4_chainReel 13 = .ok (.lstore 4, 2) := by decide +kernel
theorem dX4_chainReel_15 : decode cX4_chainReel 15 = .ok (.lload 4, 2) := by decide +kernel
theorem dX4_chainReel_17 : decode cX4_chainReel 17 = .ok (.aload_n 0, 1) := by decide +kernel
theorem dX4_chainReel_18 : decode cX4_chainReel 18 = .ok (.getfield 10, 3) := by decide +kernel
theorem dX4_chainReel_21 : decode cX4_chainReel 21 = .ok (.iload_n 3, 1) := by decide +kernel
theorem dX4_chainReel_22 : decode cX4_chainReel 22 = .ok (.invokevirtual 310, 3) := by decide +kernel
theorem dX4_chainReel_25 : decode cX4_chainReel 25 = .ok (.i2l, 1) := by decide +kernel
theorem dX4_chainReel_26 : decode cX4_chainReel 26 = .ok (.invokestatic 367, 3) := by decide +kernel
theorem dX4_chainReel_29 : decode cX4_chainReel 29 = .ok (.lstore 4, 2) := by decide +kernel
theorem dX4_chainReel_31 : decode cX4_chainReel 31 = .ok (.iconst 0, 1) := by decide +kernel
theorem dX4_chainReel_32 : decode cX4_chainReel 32 = .ok (.istore 6, 2) := by decide +kernel
theorem dX4_chainReel_34 : decode cX4_chainReel 34 = .ok (.iload 6, 2) := by decide +kernel
theorem dX4_chainReel_36 : decode cX4_chainReel 36 = .ok (.iconst 3, 1) := by decide +kernel
theorem dX4_chainReel_37 : decode cX4_chainReel 37 = .ok (.if_icmp .ge 79, 3) := by decide +kernel
theorem dX4_chainReel_40 : decode cX4_chainReel 40 = .ok (.lload 4, 2) := by decide +kernel
theorem dX4_chainReel_42 : decode cX4_chainReel 42 = .ok (.aload_n 0, 1) := by decide +kernel
theorem dX4_chainReel_43 : decode cX4_chainReel 43 = .ok (.getfield 10, 3) := by decide +kernel
theorem dX4_chainReel_46 : decode cX4_chainReel 46 = .ok (.iload_n 3, 1) := by decide +kernel
theorem dX4_chainReel_47 : decode cX4_chainReel 47 = .ok (.iload 6, 2) := by decide +kernel
theorem dX4_chainReel_49 : decode cX4_chainReel 49 = .ok (.invokevirtual 201, 3) := by decide +kernel
theorem dX4_chainReel_52 : decode cX4_chainReel 52 = .ok (.invokestatic 397, 3) := by decide +kernel
theorem dX4_chainReel_55 : decode cX4_chainReel 55 = .ok (.lstore 4, 2) := by decide +kernel
theorem dX4_chainReel_57 : decode cX4_chainReel 57 = .ok (.lload 4, 2) := by decide +kernel
theorem dX4_chainReel_59 : decode cX4_chainReel 59 = .ok (.aload_n 0, 1) := by decide +kernel
theorem dX4_chainReel_60 : decode cX4_chainReel 60 = .ok (.getfield 10, 3) := by decide +kernel
theorem dX4_chainReel_63 : decode cX4_chainReel 63 = .ok (.iload_n 3, 1) := by decide +kernel
theorem dX4_chainReel_64 : decode cX4_chainReel 64 = .ok (.iload 6, 2) := by decide +kernel
theorem dX4_chainReel_66 : decode cX4_chainReel 66 = .ok (.invokevirtual 198, 3) := by decide +kernel
theorem dX4_chainReel_69 : decode cX4_chainReel 69 = .ok (.invokestatic 397, 3) := by decide +kernel
theorem dX4_chainReel_72 : decode cX4_chainReel 72 = .ok (.lstore 4, 2) := by decide +kernel
theorem dX4_chainReel_74 : decode cX4_chainReel 74 = .ok (.lload 4, 2) := by decide +kernel
theorem dX4_chainReel_76 : decode cX4_chainReel 76 = .ok (.aload_n 0, 1) := by decide +kernel
theorem dX4_chainReel_77 : decode cX4_chainReel 77 = .ok (.getfield 10, 3) := by decide +kernel
theorem dX4_chainReel_80 : decode cX4_chainReel 80 = .ok (.iload_n 3, 1) := by decide +kernel
theorem dX4_chainReel_81 : decode cX4_chainReel 81 = .ok (.iload 6, 2) := by decide +kernel
theorem dX4_chainReel_83 : decode cX4_chainReel 83 = .ok (.invokevirtual 313, 3) := by decide +kernel
theorem dX4_chainReel_86 : decode cX4_chainReel 86 = .ok (.i2l, 1) := by decide +kernel
theorem dX4_chainReel_87 : decode cX4_chainReel 87 = .ok (.invokestatic 367, 3) := by decide +kernel
theorem dX4_chainReel_90 : decode cX4_chainReel 90 = .ok (.lstore 4, 2) := by decide +kernel
theorem dX4_chainReel_92 : decode cX4_chainReel 92 = .ok (.lload 4, 2) := by decide +kernel
theorem dX4_chainReel_94 : decode cX4_chainReel 94 = .ok (.aload_n 0, 1) := by decide +kernel
theorem dX4_chainReel_95 : decode cX4_chainReel 95 = .ok (.getfield 10, 3) := by decide +kernel
theorem dX4_chainReel_98 : decode cX4_chainReel 98 = .ok (.iload_n 3, 1) := by decide +kernel
theorem dX4_chainReel_99 : decode cX4_chainReel 99 = .ok (.iload 6, 2) := by decide +kernel
theorem dX4_chainReel_101 : decode cX4_chainReel 101 = .ok (.invokevirtual 223, 3) := by decide +kernel
theorem dX4_chainReel_104 : decode cX4_chainReel 104 = .ok (.i2l, 1) := by decide +kernel
theorem dX4_chainReel_105 : decode cX4_chainReel 105 = .ok (.invokestatic 367, 3) := by decide +kernel
theorem dX4_chainReel_108 : decode cX4_chainReel 108 = .ok (.lstore 4, 2) := by decide +kernel
theorem dX4_chainReel_110 : decode cX4_chainReel 110 = .ok (.iinc 6 1, 3) := by decide +kernel
theorem dX4_chainReel_113 : decode cX4_chainReel 113 = .ok (.goto (-79), 3) := by decide +kernel
theorem dX4_chainReel_116 : decode cX4_chainReel 116 = .ok (.lload 4, 2) := by decide +kernel
theorem dX4_chainReel_118 : decode cX4_chainReel 118 = .ok (.lreturn, 1) := by decide +kernel
theorem dX4_chainTongue_0 : decode cX4_chainTongue 0 = .ok (.lload_n 1, 1) := by decide +kernel
theorem dX4_chainTongue_1 : decode cX4_chainTongue 1 = .ok (.aload_n 0, 1) := by decide +kernel
theorem dX4_chainTongue_2 : decode cX4_chainTongue 2 = .ok (.getfield 10, 3) := by decide +kernel
theorem dX4_chainTongue_5 : decode cX4_chainTongue 5 = .ok (.iload_n 3, 1) := by decide +kernel
theorem dX4_chainTongue_6 : decode cX4_chainTongue 6 = .ok (.invokevirtual 145, 3) := by decide +kernel
theorem dX4_chainTongue_9 : decode cX4_chainTongue 9 = .ok (.i2l, 1) := by decide +kernel
theorem dX4_chainTongue_10 : decode cX4_chainTongue 10 = .ok (.invokestatic 367, 3) := by decide +kernel
theorem dX4_chainTongue_13 : decode cX4_chainTongue 13 = .ok (.lstore 4, 2) := by decide +kernel
theorem dX4_chainTongue_15 : decode cX4_chainTongue 15 = .ok (.lload 4, 2) := by decide +kernel
theorem dX4_chainTongue_17 : decode cX4_chainTongue 17 = .ok (.aload_n 0, 1) := by decide +kernel
theorem dX4_chainTongue_18 : decode cX4_chainTongue 18 = .ok (.getfield 10, 3) := by decide +kernel
theorem dX4_chainTongue_21 : decode cX4_chainTongue 21 = .ok (.iload_n 3, 1) := by decide +kernel
theorem dX4_chainTongue_22 : decode cX4_chainTongue 22 = .ok (.invokevirtual 316, 3) := by decide +kernel
theorem dX4_chainTongue_25 : decode cX4_chainTongue 25 = .ok (.i2l, 1) := by decide +kernel
theorem dX4_chainTongue_26 : decode cX4_chainTongue 26 = .ok (.invokestatic 367, 3) := by decide +kernel
theorem dX4_chainTongue_29 : decode cX4_chainTongue 29 = .ok (.lstore 4, 2) := by decide +kernel
theorem dX4_chainTongue_31 : decode cX4_chainTongue 31 = .ok (.lload 4, 2) := by decide +kernel
theorem dX4_chainTongue_33 : decode cX4_chainTongue 33 = .ok (.aload_n 0, 1) := by decide +kernel
theorem dX4_chainTongue_34 : decode cX4_chainTongue 34 = .ok (.getfield 10, 3) := by decide +kernel
theorem dX4_chainTongue_37 : decode cX4_chainTongue 37 = .ok (.iload_n 3, 1) := by decide +kernel
theorem dX4_chainTongue_38 : decode cX4_chainTongue 38 = .ok (.invokevirtual 319, 3) := by decide +kernel
theorem dX4_chainTongue_41 : decode cX4_chainTongue 41 = .ok (.i2l, 1) := by decide +kernel
theorem dX4_chainTongue_42 : decode cX4_chainTongue 42 = .ok (.invokestatic 367, 3) := by decide +kernel
theorem dX4_chainTongue_45 : decode cX4_chainTongue 45 = .ok (.lstore 4, 2) := by decide +kernel
theorem dX4_chainTongue_47 : decode cX4_chainTongue 47 = .ok (.lload 4, 2) := by decide +kernel
theorem dX4_chainTongue_49 : decode cX4_chainTongue 49 = .ok (.aload_n 0, 1) := by decide +kernel
theorem dX4_chainTongue_50 : decode cX4_chainTongue 50 = .ok (.getfield 10, 3) := by decide +kernel
theorem dX4_chainTongue_53 : decode cX4_chainTongue 53 = .ok (.iload_n 3, 1) := by decide +kernel
theorem dX4_chainTongue_54 : decode cX4_chainTongue 54 = .ok (.invokevirtual 322, 3) := by decide +kernel
theorem dX4_chainTongue_57 : decode cX4_chainTongue 57 = .ok (.i2l, 1) := by decide +kernel
theorem dX4_chainTongue_58 : decode cX4_chainTongue 58 = .ok (.invokestatic 367, 3) := by decide +kernel
theorem dX4_chainTongue_61 : decode cX4_chainTongue 61 = .ok (.lstore 4, 2) := by decide +kernel
theorem dX4_chainTongue_63 : decode cX4_chainTongue 63 = .ok (.lload 4, 2) := by decide +kernel
theorem dX4_chainTongue_65 : decode cX4_chainTongue 65 = .ok (.aload_n 0, 1) := by decide +kernel
theorem dX4_chainTongue_66 : decode cX4_chainTongue 66 = .ok (.getfield 10, 3) := by decide +kernel
theorem dX4_chainTongue_69 : decode cX4_chainTongue 69 = .ok (.iload_n 3, 1) := by decide +kernel
theorem dX4_chainTongue_70 : decode cX4_chainTongue 70 = .ok (.invokevirtual 325, 3) := by decide +kernel
theorem dX4_chainTongue_73 : decode cX4_chainTongue 73 = .ok (.invokestatic 397, 3) := by decide +kernel
theorem dX4_chainTongue_76 : decode cX4_chainTongue 76 = .ok (.lstore 4, 2) := by decide +kernel
theorem dX4_chainTongue_78 : decode cX4_chainTongue 78 = .ok (.lload 4, 2) := by decide +kernel
theorem dX4_chainTongue_80 : decode cX4_chainTongue 80 = .ok (.aload_n 0, 1) := by decide +kernel
theorem dX4_chainTongue_81 : decode cX4_chainTongue 81 = .ok (.getfield 10, 3) := by decide +kernel
theorem dX4_chainTongue_84 : decode cX4_chainTongue 84 = .ok (.iload_n 3, 1) := by decide +kernel
theorem dX4_chainTongue_85 : decode cX4_chainTongue 85 = .ok (.invokevirtual 328, 3) := by decide +kernel
theorem dX4_chainTongue_88 : decode cX4_chainTongue 88 = .ok (.i2l, 1) := by decide +kernel
theorem dX4_chainTongue_89 : decode cX4_chainTongue 89 = .ok (.invokestatic 367, 3) := by decide +kernel
theorem dX4_chainTongue_92 : decode cX4_chainTongue 92 = .ok (.lstore 4, 2) := by decide +kernel
theorem dX4_chainTongue_94 : decode cX4_chainTongue 94 = .ok (.lload 4, 2) := by decide +kernel
theorem dX4_chainTongue_96 : decode cX4_chainTongue 96 = .ok (.aload_n 0, 1) := by decide +kernel
theorem dX4_chainTongue_97 : decode cX4_chainTongue 97 = .ok (.getfield 10, 3) := by decide +kernel
theorem dX4_chainTongue_100 : decode cX4_chainTongue 100 = .ok (.iload_n 3, 1) := by decide +kernel
theorem dX4_chainTongue_101 : decode cX4_chainTongue 101 = .ok (.invokevirtual 350, 3) := by decide +kernel
theorem dX4_chainTongue_104 : decode cX4_chainTongue 104 = .ok (.iconst 1, 1) := by decide +kernel
theorem dX4_chainTongue_105 : decode cX4_chainTongue 105 = .ok (.iadd, 1) := by decide +kernel
theorem dX4_chainTongue_106 : decode cX4_chainTongue 106 = .ok (.i2l, 1) := by decide +kernel
theorem dX4_chainTongue_107 : decode cX4_chainTongue 107 = .ok (.invokestatic 367, 3) := by decide +kernel
theorem dX4_chainTongue_110 : decode cX4_chainTongue 110 = .ok (.lstore 4, 2) := by decide +kernel
theorem dX4_chainTongue_112 : decode cX4_chainTongue 112 = .ok (.lload 4, 2) := by decide +kernel
theorem dX4_chainTongue_114 : decode cX4_chainTongue 114 = .ok (.aload_n 0, 1) := by decide +kernel
theorem dX4_chainTongue_115 : decode cX4_chainTongue 115 = .ok (.getfield 10, 3) := by decide +kernel
theorem dX4_chainTongue_118 : decode cX4_chainTongue 118 = .ok (.iload_n 3, 1) := by decide +kernel
theorem dX4_chainTongue_119 : decode cX4_chainTongue 119 = .ok (.invokevirtual 361, 3) := by decide +kernel
theorem dX4_chainTongue_122 : decode cX4_chainTongue 122 = .ok (.invokestatic 408, 3) := by decide +kernel
theorem dX4_chainTongue_125 : decode cX4_chainTongue 125 = .ok (.invokestatic 367, 3) := by decide +kernel
theorem dX4_chainTongue_128 : decode cX4_chainTongue 128 = .ok (.lreturn, 1) := by decide +kernel
theorem dX4_chainAccounts_0 : decode cX4_chainAccounts 0 = .ok (.lload_n 1, 1) := by decide +kernel
theorem dX4_chainAccounts_1 : decode cX4_chainAccounts 1 = .ok (.aload_n 0, 1) := by decide +kernel
theorem dX4_chainAccounts_2 : decode cX4_chainAccounts 2 = .ok (.getfield 10, 3) := by decide +kernel
theorem dX4_chainAccounts_5 : decode cX4_chainAccounts 5 = .ok (.getfield 187, 3) := by decide +kernel
theorem dX4_chainAccounts_8 : decode cX4_chainAccounts 8 = .ok (.i2l, 1) := by decide +kernel
theorem dX4_chainAccounts_9 : decode cX4_chainAccounts 9 = .ok (.invokestatic 367, 3) := by decide +kernel
theorem dX4_chainAccounts_12 : decode cX4_chainAccounts 12 = .ok (.lstore_n 3, 1) := by decide +kernel
theorem dX4_chainAccounts_13 : decode cX4_chainAccounts 13 = .ok (.lload_n 3, 1) := by decide +kernel
theorem dX4_chainAccounts_14 : decode cX4_chainAccounts 14 = .ok (.aload_n 0, 1) := by decide +kernel
theorem dX4_chainAccounts_15 : decode cX4_chainAccounts 15 = .ok (.getfield 10, 3) := by decide +kernel
theorem dX4_chainAccounts_18 : decode cX4_chainAccounts 18 = .ok (.getfield 331, 3) := by decide +kernel
theorem dX4_chainAccounts_21 : decode cX4_chainAccounts 21 = .ok (.i2l, 1) := by decide +kernel
theorem dX4_chainAccounts_22 : decode cX4_chainAccounts 22 = .ok (.invokestatic 367, 3) := by decide +kernel
theorem dX4_chainAccounts_25 : decode cX4_chainAccounts 25 = .ok (.lstore_n 3, 1) := by decide +kernel
theorem dX4_chainAccounts_26 : decode cX4_chainAccounts 26 = .ok (.lload_n 3, 1) := by decide +kernel
theorem dX4_chainAccounts_27 : decode cX4_chainAccounts 27 = .ok (.aload_n 0, 1) := by decide +kernel
theorem dX4_chainAccounts_28 : decode cX4_chainAccounts 28 = .ok (.getfield 10, 3) := by decide +kernel
theorem dX4_chainAccounts_31 : decode cX4_chainAccounts 31 = .ok (.getfield 334, 3) := by decide +kernel
theorem dX4_chainAccounts_34 : decode cX4_chainAccounts 34 = .ok (.i2l, 1) := by decide +kernel
theorem dX4_chainAccounts_35 : decode cX4_chainAccounts 35 = .ok (.invokestatic 367, 3) := by decide +kernel
theorem dX4_chainAccounts_38 : decode cX4_chainAccounts 38 = .ok (.lstore_n 3, 1) := by decide +kernel
theorem dX4_chainAccounts_39 : decode cX4_chainAccounts 39 = .ok (.lload_n 3, 1) := by decide +kernel
theorem dX4_chainAccounts_40 : decode cX4_chainAccounts 40 = .ok (.aload_n 0, 1) := by decide +kernel
theorem dX4_chainAccounts_41 : decode cX4_chainAccounts 41 = .ok (.getfield 10, 3) := by decide +kernel
theorem dX4_chainAccounts_44 : decode cX4_chainAccounts 44 = .ok (.getfield 337, 3) := by decide +kernel
theorem dX4_chainAccounts_47 : decode cX4_chainAccounts 47 = .ok (.i2l, 1) := by decide +kernel
theorem dX4_chainAccounts_48 : decode cX4_chainAccounts 48 = .ok (.invokestatic 367, 3) := by decide +kernel
theorem dX4_chainAccounts_51 : decode cX4_chainAccounts 51 = .ok (.lstore_n 3, 1) := by decide +kernel
theorem dX4_chainAccounts_52 : decode cX4_chainAccounts 52 = .ok (.lload_n 3, 1) := by decide +kernel
theorem dX4_chainAccounts_53 : decode cX4_chainAccounts 53 = .ok (.aload_n 0, 1) := by decide +kernel
theorem dX4_chainAccounts_54 : decode cX4_chainAccounts 54 = .ok (.getfield 10, 3) := by decide +kernel
theorem dX4_chainAccounts_57 : decode cX4_chainAccounts 57 = .ok (.invokevirtual 355, 3) := by decide +kernel
theorem dX4_chainAccounts_60 : decode cX4_chainAccounts 60 = .ok (.i2l, 1) := by decide +kernel
theorem dX4_chainAccounts_61 : decode cX4_chainAccounts 61 = .ok (.invokestatic 367, 3) := by decide +kernel
theorem dX4_chainAccounts_64 : decode cX4_chainAccounts 64 = .ok (.lstore_n 3, 1) := by decide +kernel
theorem dX4_chainAccounts_65 : decode cX4_chainAccounts 65 = .ok (.lload_n 3, 1) := by decide +kernel
theorem dX4_chainAccounts_66 : decode cX4_chainAccounts 66 = .ok (.aload_n 0, 1) := by decide +kernel
theorem dX4_chainAccounts_67 : decode cX4_chainAccounts 67 = .ok (.getfield 10, 3) := by decide +kernel
theorem dX4_chainAccounts_70 : decode cX4_chainAccounts 70 = .ok (.invokevirtual 358, 3) := by decide +kernel
theorem dX4_chainAccounts_73 : decode cX4_chainAccounts 73 = .ok (.i2l, 1) := by decide +kernel
theorem dX4_chainAccounts_74 : decode cX4_chainAccounts 74 = .ok (.invokestatic 367, 3) := by decide +kernel
theorem dX4_chainAccounts_77 : decode cX4_chainAccounts 77 = .ok (.lstore_n 3, 1) := by decide +kernel
theorem dX4_chainAccounts_78 : decode cX4_chainAccounts 78 = .ok (.lload_n 3, 1) := by decide +kernel
theorem dX4_chainAccounts_79 : decode cX4_chainAccounts 79 = .ok (.aload_n 0, 1) := by decide +kernel
theorem dX4_chainAccounts_80 : decode cX4_chainAccounts 80 = .ok (.getfield 19, 3) := by decide +kernel
theorem dX4_chainAccounts_83 : decode cX4_chainAccounts 83 = .ok (.getfield 277, 3) := by decide +kernel
theorem dX4_chainAccounts_86 : decode cX4_chainAccounts 86 = .ok (.i2l, 1) := by decide +kernel
theorem dX4_chainAccounts_87 : decode cX4_chainAccounts 87 = .ok (.invokestatic 367, 3) := by decide +kernel
theorem dX4_chainAccounts_90 : decode cX4_chainAccounts 90 = .ok (.lstore_n 3, 1) := by decide +kernel
theorem dX4_chainAccounts_91 : decode cX4_chainAccounts 91 = .ok (.iconst 0, 1) := by decide +kernel
theorem dX4_chainAccounts_92 : decode cX4_chainAccounts 92 = .ok (.istore 5, 2) := by decide +kernel
theorem dX4_chainAccounts_94 : decode cX4_chainAccounts 94 = .ok (.iload 5, 2) := by decide +kernel
theorem dX4_chainAccounts_96 : decode cX4_chainAccounts 96 = .ok (.iconst 2, 1) := by decide +kernel
theorem dX4_chainAccounts_97 : decode cX4_chainAccounts 97 = .ok (.if_icmp .ge 20, 3) := by decide +kernel
theorem dX4_chainAccounts_100 : decode cX4_chainAccounts 100 = .ok (.lload_n 3, 1) := by decide +kernel
theorem dX4_chainAccounts_101 : decode cX4_chainAccounts 101 = .ok (.aload_n 0, 1) := by decide +kernel
theorem dX4_chainAccounts_102 : decode cX4_chainAccounts 102 = .ok (.iload 5, 2) := by decide +kernel
theorem dX4_chainAccounts_104 : decode cX4_chainAccounts 104 = .ok (.invokevirtual 272, 3) := by decide +kernel
theorem dX4_chainAccounts_107 : decode cX4_chainAccounts 107 = .ok (.invokestatic 397, 3) := by decide +kernel
theorem dX4_chainAccounts_110 : decode cX4_chainAccounts 110 = .ok (.lstore_n 3, 1) := by decide +kernel
theorem dX4_chainAccounts_111 : decode cX4_chainAccounts 111 = .ok (.iinc 5 1, 3) := by decide +kernel
theorem dX4_chainAccounts_114 : decode cX4_chainAccounts 114 = .ok (.goto (-20), 3) := by decide +kernel
theorem dX4_chainAccounts_117 : decode cX4_chainAccounts 117 = .ok (.lload_n 3, 1) := by decide +kernel
theorem dX4_chainAccounts_118 : decode cX4_chainAccounts 118 = .ok (.lreturn, 1) := by decide +kernel
theorem dX4_chainBuffer_0 : decode cX4_chainBuffer 0 = .ok (.lload_n 1, 1) := by decide +kernel
theorem dX4_chainBuffer_1 : decode cX4_chainBuffer 1 = .ok (.aload_n 0, 1) := by decide +kernel
theorem dX4_chainBuffer_2 : decode cX4_chainBuffer 2 = .ok (.getfield 34, 3) := by decide +kernel
theorem dX4_chainBuffer_5 : decode cX4_chainBuffer 5 = .ok (.getfield 226, 3) := by decide +kernel
theorem dX4_chainBuffer_8 : decode cX4_chainBuffer 8 = .ok (.i2l, 1) := by decide +kernel
theorem dX4_chainBuffer_9 : decode cX4_chainBuffer 9 = .ok (.invokestatic 367, 3) := by decide +kernel
theorem dX4_chainBuffer_12 : decode cX4_chainBuffer 12 = .ok (.lstore_n 3, 1) := by decide +kernel
theorem dX4_chainBuffer_13 : decode cX4_chainBuffer 13 = .ok (.iconst 0, 1) := by decide +kernel
theorem dX4_chainBuffer_14 : decode cX4_chainBuffer 14 = .ok (.istore 5, 2) := by decide +kernel
theorem dX4_chainBuffer_16 : decode cX4_chainBuffer 16 = .ok (.iload 5, 2) := by decide +kernel
theorem dX4_chainBuffer_18 : decode cX4_chainBuffer 18 = .ok (.aload_n 0, 1) := by decide +kernel
theorem dX4_chainBuffer_19 : decode cX4_chainBuffer 19 = .ok (.getfield 34, 3) := by decide +kernel
theorem dX4_chainBuffer_22 : decode cX4_chainBuffer 22 = .ok (.getfield 226, 3) := by decide +kernel
theorem dX4_chainBuffer_25 : decode cX4_chainBuffer 25 = .ok (.if_icmp .ge 27, 3) := by decide +kernel
theorem dX4_chainBuffer_28 : decode cX4_chainBuffer 28 = .ok (.lload_n 3, 1) := by decide +kernel
theorem dX4_chainBuffer_29 : decode cX4_chainBuffer 29 = .ok (.aload_n 0, 1) := by decide +kernel
theorem dX4_chainBuffer_30 : decode cX4_chainBuffer 30 = .ok (.getfield 34, 3) := by decide +kernel
theorem dX4_chainBuffer_33 : decode cX4_chainBuffer 33 = .ok (.getfield 412, 3) := by decide +kernel
theorem dX4_chainBuffer_36 : decode cX4_chainBuffer 36 = .ok (.iload 5, 2) := by decide +kernel
theorem dX4_chainBuffer_38 : decode cX4_chainBuffer 38 = .ok (.invokestatic 256, 3) := by decide +kernel
theorem dX4_chainBuffer_41 : decode cX4_chainBuffer 41 = .ok (.i2l, 1) := by decide +kernel
theorem dX4_chainBuffer_42 : decode cX4_chainBuffer 42 = .ok (.invokestatic 367, 3) := by decide +kernel
theorem dX4_chainBuffer_45 : decode cX4_chainBuffer 45 = .ok (.lstore_n 3, 1) := by decide +kernel
theorem dX4_chainBuffer_46 : decode cX4_chainBuffer 46 = .ok (.iinc 5 1, 3) := by decide +kernel
theorem dX4_chainBuffer_49 : decode cX4_chainBuffer 49 = .ok (.goto (-33), 3) := by decide +kernel
theorem dX4_chainBuffer_52 : decode cX4_chainBuffer 52 = .ok (.lload_n 3, 1) := by decide +kernel
theorem dX4_chainBuffer_53 : decode cX4_chainBuffer 53 = .ok (.lreturn, 1) := by decide +kernel
theorem dX4_bitsOf_0 : decode cX4_bitsOf 0 = .ok (.dload_n 0, 1) := by decide +kernel
theorem dX4_bitsOf_1 : decode cX4_bitsOf 1 = .ok (.dconst 1, 1) := by decide +kernel
theorem dX4_bitsOf_2 : decode cX4_bitsOf 2 = .ok (.dcmp .l, 1) := by decide +kernel
theorem dX4_bitsOf_3 : decode cX4_bitsOf 3 = .ok (.ifCond .ge 5, 3) := by decide +kernel
theorem dX4_bitsOf_6 : decode cX4_bitsOf 6 = .ok (.lconst 0, 1) := by decide +kernel
theorem dX4_bitsOf_7 : decode cX4_bitsOf 7 = .ok (.lreturn, 1) := by decide +kernel
theorem dX4_bitsOf_8 : decode cX4_bitsOf 8 = .ok (.dload_n 0, 1) := by decide +kernel
theorem dX4_bitsOf_9 : decode cX4_bitsOf 9 = .ok (.dstore_n 2, 1) := by decide +kernel
theorem dX4_bitsOf_10 : decode cX4_bitsOf 10 = .ok (.lconst 0, 1) := by decide +kernel
theorem dX4_bitsOf_11 : decode cX4_bitsOf 11 = .ok (.lstore 4, 2) := by decide +kernel
theorem dX4_bitsOf_13 : decode cX4_bitsOf 13 = .ok (.dload_n 2, 1) := by decide +kernel
theorem dX4_bitsOf_14 : decode cX4_bitsOf 14 = .ok (.ldc2_w 415, 3) := by decide +kernel
theorem dX4_bitsOf_17 : decode cX4_bitsOf 17 = .ok (.dcmp .l, 1) := by decide +kernel
theorem dX4_bitsOf_18 : decode cX4_bitsOf 18 = .ok (.ifCond .lt 27, 3) := by decide +kernel
theorem dX4_bitsOf_21 : decode cX4_bitsOf 21 = .ok (.lload 4, 2) := by decide +kernel
theorem dX4_bitsOf_23 : decode cX4_bitsOf 23 = .ok (.ldc2_w 417, 3) := by decide +kernel
theorem dX4_bitsOf_26 : decode cX4_bitsOf 26 = .ok (.lcmp, 1) := by decide +kernel
theorem dX4_bitsOf_27 : decode cX4_bitsOf 27 = .ok (.ifCond .ge 18, 3) := by decide +kernel
theorem dX4_bitsOf_30 : decode cX4_bitsOf 30 = .ok (.dload_n 2, 1) := by decide +kernel
theorem dX4_bitsOf_31 : decode cX4_bitsOf 31 = .ok (.ldc2_w 415, 3) := by decide +kernel
theorem dX4_bitsOf_34 : decode cX4_bitsOf 34 = .ok (.ddiv, 1) := by decide +kernel
theorem dX4_bitsOf_35 : decode cX4_bitsOf 35 = .ok (.dstore_n 2, 1) := by decide +kernel
theorem dX4_bitsOf_36 : decode cX4_bitsOf 36 = .ok (.lload 4, 2) := by decide +kernel
theorem dX4_bitsOf_38 : decode cX4_bitsOf 38 = .ok (.lconst 1, 1) := by decide +kernel
theorem dX4_bitsOf_39 : decode cX4_bitsOf 39 = .ok (.ladd, 1) := by decide +kernel
theorem dX4_bitsOf_40 : decode cX4_bitsOf 40 = .ok (.lstore 4, 2) := by decide +kernel
theorem dX4_bitsOf_42 : decode cX4_bitsOf 42 = .ok (.goto (-29), 3) := by decide +kernel
theorem dX4_bitsOf_45 : decode cX4_bitsOf 45 = .ok (.dload_n 2, 1) := by decide +kernel
theorem dX4_bitsOf_46 : decode cX4_bitsOf 46 = .ok (.dconst 1, 1) := by decide +kernel
theorem dX4_bitsOf_47 : decode cX4_bitsOf 47 = .ok (.dsub, 1) := by decide +kernel
theorem dX4_bitsOf_48 : decode cX4_bitsOf 48 = .ok (.ldc2_w 419, 3) := by decide +kernel
theorem dX4_bitsOf_51 : decode cX4_bitsOf 51 = .ok (.dmul, 1) := by decide +kernel
theorem dX4_bitsOf_52 : decode cX4_bitsOf 52 = .ok (.d2l, 1) := by decide +kernel
theorem dX4_bitsOf_53 : decode cX4_bitsOf 53 = .ok (.lstore 6, 2) := by decide +kernel
theorem dX4_bitsOf_55 : decode cX4_bitsOf 55 = .ok (.lload 4, 2) := by decide +kernel
theorem dX4_bitsOf_57 : decode cX4_bitsOf 57 = .ok (.ldc2_w 417, 3) := by decide +kernel
theorem dX4_bitsOf_60 : decode cX4_bitsOf 60 = .ok (.ladd, 1) := by decide +kernel
theorem dX4_bitsOf_61 : decode cX4_bitsOf 61 = .ok (.bipush 52, 2) := by decide +kernel
theorem dX4_bitsOf_63 : decode cX4_bitsOf 63 = .ok (.lshl, 1) := by decide +kernel
theorem dX4_bitsOf_64 : decode cX4_bitsOf 64 = .ok (.lload 6, 2) := by decide +kernel
theorem dX4_bitsOf_66 : decode cX4_bitsOf 66 = .ok (.lor, 1) := by decide +kernel
theorem dX4_bitsOf_67 : decode cX4_bitsOf 67 = .ok (.lreturn, 1) := by decide +kernel
theorem dX4_checkClause_0 : decode cX4_checkClause 0 = .ok (.iload_n 1, 1) := by decide +kernel
theorem dX4_checkClause_1 : decode cX4_checkClause 1 = .ok (.ifCond .lt 14, 3) := by decide +kernel
theorem dX4_checkClause_4 : decode cX4_checkClause 4 = .ok (.iload_n 1, 1) := by decide +kernel
theorem dX4_checkClause_5 : decode cX4_checkClause 5 = .ok (.aload_n 0, 1) := by decide +kernel
theorem dX4_checkClause_6 : decode cX4_checkClause 6 = .ok (.getfield 10, 3) := by decide +kernel
theorem dX4_checkClause_9 : decode cX4_checkClause 9 = .ok (.getfield 56, 3) := by decide +kernel
theorem dX4_checkClause_12 : decode cX4_checkClause 12 = .ok (.if_icmp .lt 14, 3) := by decide +kernel
theorem dX4_checkClause_15 : decode cX4_checkClause 15 = .ok (.new 421, 3) := by decide +kernel
theorem dX4_checkClause_18 : decode cX4_checkClause 18 = .ok (.dup, 1) := by decide +kernel
theorem dX4_checkClause_19 : decode cX4_checkClause 19 = .ok (.ldc_w 423, 3) := by decide +kernel
theorem dX4_checkClause_22 : decode cX4_checkClause 22 = .ok (.invokespecial 425, 3) := by decide +kernel
theorem dX4_checkClause_25 : decode cX4_checkClause 25 = .ok (.athrow, 1) := by decide +kernel
theorem dX4_checkClause_26 : decode cX4_checkClause 26 = .ok (.return_, 1) := by decide +kernel
theorem dX4_checkReel_0 : decode cX4_checkReel 0 = .ok (.iload_n 0, 1) := by decide +kernel
theorem dX4_checkReel_1 : decode cX4_checkReel 1 = .ok (.ifCond .lt 8, 3) := by decide +kernel
theorem dX4_checkReel_4 : decode cX4_checkReel 4 = .ok (.iload_n 0, 1) := by decide +kernel
theorem dX4_checkReel_5 : decode cX4_checkReel 5 = .ok (.iconst 4, 1) := by decide +kernel
theorem dX4_checkReel_6 : decode cX4_checkReel 6 = .ok (.if_icmp .lt 14, 3) := by decide +kernel
theorem dX4_checkReel_9 : decode cX4_checkReel 9 = .ok (.new 421, 3) := by decide +kernel
theorem dX4_checkReel_12 : decode cX4_checkReel 12 = .ok (.dup, 1) := by decide +kernel
theorem dX4_checkReel_13 : decode cX4_checkReel 13 = .ok (.ldc_w 426, 3) := by decide +kernel
theorem dX4_checkReel_16 : decode cX4_checkReel 16 = .ok (.invokespecial 425, 3) := by decide +kernel
theorem dX4_checkReel_19 : decode cX4_checkReel 19 = .ok (.athrow, 1) := by decide +kernel
theorem dX4_checkReel_20 : decode cX4_checkReel 20 = .ok (.return_, 1) := by decide +kernel
theorem dX4_checkState_0 : decode cX4_checkState 0 = .ok (.iload_n 0, 1) := by decide +kernel
theorem dX4_checkState_1 : decode cX4_checkState 1 = .ok (.ifCond .lt 8, 3) := by decide +kernel
theorem dX4_checkState_4 : decode cX4_checkState 4 = .ok (.iload_n 0, 1) := by decide +kernel
theorem dX4_checkState_5 : decode cX4_checkState 5 = .ok (.iconst 5, 1) := by decide +kernel
theorem dX4_checkState_6 : decode cX4_checkState 6 = .ok (.if_icmp .lt 14, 3) := by decide +kernel
theorem dX4_checkState_9 : decode cX4_checkState 9 = .ok (.new 421, 3) := by decide +kernel
theorem dX4_checkState_12 : decode cX4_checkState 12 = .ok (.dup, 1) := by decide +kernel
theorem dX4_checkState_13 : decode cX4_checkState 13 = .ok (.ldc_w 428, 3) := by decide +kernel
theorem dX4_checkState_16 : decode cX4_checkState 16 = .ok (.invokespecial 425, 3) := by decide +kernel
theorem dX4_checkState_19 : decode cX4_checkState 19 = .ok (.athrow, 1) := by decide +kernel
theorem dX4_checkState_20 : decode cX4_checkState 20 = .ok (.return_, 1) := by decide +kernel
theorem dX4_checkTongue_0 : decode cX4_checkTongue 0 = .ok (.iload_n 0, 1) := by decide +kernel
theorem dX4_checkTongue_1 : decode cX4_checkTongue 1 = .ok (.ifCond .lt 8, 3) := by decide +kernel
theorem dX4_checkTongue_4 : decode cX4_checkTongue 4 = .ok (.iload_n 0, 1) := by decide +kernel
theorem dX4_checkTongue_5 : decode cX4_checkTongue 5 = .ok (.iconst 3, 1) := by decide +kernel
theorem dX4_checkTongue_6 : decode cX4_checkTongue 6 = .ok (.if_icmp .lt 14, 3) := by decide +kernel
theorem dX4_checkTongue_9 : decode cX4_checkTongue 9 = .ok (.new 421, 3) := by decide +kernel
theorem dX4_checkTongue_12 : decode cX4_checkTongue 12 = .ok (.dup, 1) := by decide +kernel
theorem dX4_checkTongue_13 : decode cX4_checkTongue 13 = .ok (.ldc_w 430, 3) := by decide +kernel
theorem dX4_checkTongue_16 : decode cX4_checkTongue 16 = .ok (.invokespecial 425, 3) := by decide +kernel
theorem dX4_checkTongue_19 : decode cX4_checkTongue 19 = .ok (.athrow, 1) := by decide +kernel
theorem dX4_checkTongue_20 : decode cX4_checkTongue 20 = .ok (.return_, 1) := by decide +kernel
theorem dX4_checkTranslation_0 : decode cX4_checkTranslation 0 = .ok (.aload_n 0, 1) := by decide +kernel
theorem dX4_checkTranslation_1 : decode cX4_checkTranslation 1 = .ok (.iload_n 1, 1) := by decide +kernel
theorem dX4_checkTranslation_2 : decode cX4_checkTranslation 2 = .ok (.invokevirtual 75, 3) := by decide +kernel
theorem dX4_checkTranslation_5 : decode cX4_checkTranslation 5 = .ok (.iload_n 2, 1) := by decide +kernel
theorem dX4_checkTranslation_6 : decode cX4_checkTranslation 6 = .ok (.invokestatic 195, 3) := by decide +kernel
theorem dX4_checkTranslation_9 : decode cX4_checkTranslation 9 = .ok (.return_, 1) := by decide +kernel
theorem dX4_checkVoice_0 : decode cX4_checkVoice 0 = .ok (.iload_n 0, 1) := by decide +kernel
theorem dX4_checkVoice_1 : decode cX4_checkVoice 1 = .ok (.invokestatic 49, 3) := by decide +kernel
theorem dX4_checkVoice_4 : decode cX4_checkVoice 4 = .ok (.iload_n 1, 1) := by decide +kernel
theorem dX4_checkVoice_5 : decode cX4_checkVoice 5 = .ok (.invokestatic 195, 3) := by decide +kernel
theorem dX4_checkVoice_8 : decode cX4_checkVoice 8 = .ok (.return_, 1) := by decide +kernel
theorem dX4_checkRange_0 : decode cX4_checkRange 0 = .ok (.iload_n 0, 1) := by decide +kernel
theorem dX4_checkRange_1 : decode cX4_checkRange 1 = .ok (.iload_n 1, 1) := by decide +kernel
theorem dX4_checkRange_2 : decode cX4_checkRange 2 = .ok (.if_icmp .lt 8, 3) := by decide +kernel
theorem dX4_checkRange_5 : decode cX4_checkRange 5 = .ok (.iload_n 0, 1) := by decide +kernel
theorem dX4_checkRange_6 : decode cX4_checkRange 6 = .ok (.iload_n 2, 1) := by decide +kernel
theorem dX4_checkRange_7 : decode cX4_checkRange 7 = .ok (.if_icmp .le 14, 3) := by decide +kernel
theorem dX4_checkRange_10 : decode cX4_checkRange 10 = .ok (.new 242, 3) := by decide +kernel
theorem dX4_checkRange_13 : decode cX4_checkRange 13 = .ok (.dup, 1) := by decide +kernel
theorem dX4_checkRange_14 : decode cX4_checkRange 14 = .ok (.ldc_w 432, 3) := by decide +kernel
theorem dX4_checkRange_17 : decode cX4_checkRange 17 = .ok (.invokespecial 246, 3) := by decide +kernel
theorem dX4_checkRange_20 : decode cX4_checkRange 20 = .ok (.athrow, 1) := by decide +kernel
theorem dX4_checkRange_21 : decode cX4_checkRange 21 = .ok (.return_, 1) := by decide +kernel
theorem dX4_checkTranslated_0 : decode cX4_checkTranslated 0 = .ok (.aload_n 0, 1) := by decide +kernel
theorem dX4_checkTranslated_1 : decode cX4_checkTranslated 1 = .ok (.getfield 10, 3) := by decide +kernel
theorem dX4_checkTranslated_4 : decode cX4_checkTranslated 4 = .ok (.iload_n 1, 1) := by decide +kernel
theorem dX4_checkTranslated_5 : decode cX4_checkTranslated 5 = .ok (.iload_n 2, 1) := by decide +kernel
theorem dX4_checkTranslated_6 : decode cX4_checkTranslated 6 = .ok (.invokevirtual 283, 3) := by decide +kernel
theorem dX4_checkTranslated_9 : decode cX4_checkTranslated 9 = .ok (.ifCond .ne 14, 3) := by decide +kernel
theorem dX4_checkTranslated_12 : decode cX4_checkTranslated 12 = .ok (.new 60, 3) := by decide +kernel
theorem dX4_checkTranslated_15 : decode cX4_checkTranslated 15 = .ok (.dup, 1) := by decide +kernel
theorem dX4_checkTranslated_16 : decode cX4_checkTranslated 16 = .ok (.ldc_w 434, 3) := by decide +kernel
theorem dX4_checkTranslated_19 : decode cX4_checkTranslated 19 = .ok (.invokespecial 64, 3) := by decide +kernel
theorem dX4_checkTranslated_22 : decode cX4_checkTranslated 22 = .ok (.athrow, 1) := by decide +kernel
theorem dX4_checkTranslated_23 : decode cX4_checkTranslated 23 = .ok (.return_, 1) := by decide +kernel
theorem dX4_checkTaken_0 : decode cX4_checkTaken 0 = .ok (.aload_n 0, 1) := by decide +kernel
theorem dX4_checkTaken_1 : decode cX4_checkTaken 1 = .ok (.getfield 10, 3) := by decide +kernel
theorem dX4_checkTaken_4 : decode cX4_checkTaken 4 = .ok (.iload_n 1, 1) := by decide +kernel
theorem dX4_checkTaken_5 : decode cX4_checkTaken 5 = .ok (.iload_n 2, 1) := by decide +kernel
theorem dX4_checkTaken_6 : decode cX4_checkTaken 6 = .ok (.invokevirtual 119, 3) := by decide +kernel
theorem dX4_checkTaken_9 : decode cX4_checkTaken 9 = .ok (.ifCond .ne 14, 3) := by decide +kernel
theorem dX4_checkTaken_12 : decode cX4_checkTaken 12 = .ok (.new 60, 3) := by decide +kernel
theorem dX4_checkTaken_15 : decode cX4_checkTaken 15 = .ok (.dup, 1) := by decide +kernel
theorem dX4_checkTaken_16 : decode cX4_checkTaken 16 = .ok (.ldc_w 436, 3) := by decide +kernel
theorem dX4_checkTaken_19 : decode cX4_checkTaken 19 = .ok (.invokespecial 64, 3) := by decide +kernel
theorem dX4_checkTaken_22 : decode cX4_checkTaken 22 = .ok (.athrow, 1) := by decide +kernel
theorem dX4_checkTaken_23 : decode cX4_checkTaken 23 = .ok (.return_, 1) := by decide +kernel
theorem dX4_checkPlan_0 : decode cX4_checkPlan 0 = .ok (.aload_n 0, 1) := by decide +kernel
theorem dX4_checkPlan_1 : decode cX4_checkPlan 1 = .ok (.getfield 10, 3) := by decide +kernel
theorem dX4_checkPlan_4 : decode cX4_checkPlan 4 = .ok (.aload_n 0, 1) := by decide +kernel
theorem dX4_checkPlan_5 : decode cX4_checkPlan 5 = .ok (.getfield 41, 3) := by decide +kernel
theorem dX4_checkPlan_8 : decode cX4_checkPlan 8 = .ok (.iload_n 1, 1) := by decide +kernel
theorem dX4_checkPlan_9 : decode cX4_checkPlan 9 = .ok (.iload_n 2, 1) := by decide +kernel
theorem dX4_checkPlan_10 : decode cX4_checkPlan 10 = .ok (.invokevirtual 401, 3) := by decide +kernel
theorem dX4_checkPlan_13 : decode cX4_checkPlan 13 = .ok (.aload_n 0, 1) := by decide +kernel
theorem dX4_checkPlan_14 : decode cX4_checkPlan 14 = .ok (.getfield 41, 3) := by decide +kernel
theorem dX4_checkPlan_17 : decode cX4_checkPlan 17 = .ok (.invokevirtual 405, 3) := by decide +kernel
theorem dX4_checkPlan_20 : decode cX4_checkPlan 20 = .ok (.ifCond .eq 14, 3) := by decide +kernel
theorem dX4_checkPlan_23 : decode cX4_checkPlan 23 = .ok (.new 60, 3) := by decide +kernel
theorem dX4_checkPlan_26 : decode cX4_checkPlan 26 = .ok (.dup, 1) := by decide +kernel
theorem dX4_checkPlan_27 : decode cX4_checkPlan 27 = .ok (.ldc_w 438, 3) := by decide +kernel
theorem dX4_checkPlan_30 : decode cX4_checkPlan 30 = .ok (.invokespecial 64, 3) := by decide +kernel
theorem dX4_checkPlan_33 : decode cX4_checkPlan 33 = .ok (.athrow, 1) := by decide +kernel
theorem dX4_checkPlan_34 : decode cX4_checkPlan 34 = .ok (.return_, 1) := by decide +kernel
theorem dX4_hasSnapshot_0 : decode cX4_hasSnapshot 0 = .ok (.iload_n 1, 1) := by decide +kernel
theorem dX4_hasSnapshot_1 : decode cX4_hasSnapshot 1 = .ok (.ifCond .lt 25, 3) := by decide +kernel
theorem dX4_hasSnapshot_4 : decode cX4_hasSnapshot 4 = .ok (.iload_n 1, 1) := by decide +kernel
theorem dX4_hasSnapshot_5 : decode cX4_hasSnapshot 5 = .ok (.aload_n 0, 1) := by decide +kernel
theorem dX4_hasSnapshot_6 : decode cX4_hasSnapshot 6 = .ok (.getfield 27, 3) := by decide +kernel
theorem dX4_hasSnapshot_9 : decode cX4_hasSnapshot 9 = .ok (.arraylength, 1) := by decide +kernel
theorem dX4_hasSnapshot_10 : decode cX4_hasSnapshot 10 = .ok (.if_icmp .ge 16, 3) := by decide +kernel
theorem dX4_hasSnapshot_13 : decode cX4_hasSnapshot 13 = .ok (.aload_n 0, 1) := by decide +kernel
theorem dX4_hasSnapshot_14 : decode cX4_hasSnapshot 14 = .ok (.getfield 27, 3) := by decide +kernel
theorem dX4_hasSnapshot_17 : decode cX4_hasSnapshot 17 = .ok (.iload_n 1, 1) := by decide +kernel
theorem dX4_hasSnapshot_18 : decode cX4_hasSnapshot 18 = .ok (.baload, 1) := by decide +kernel
theorem dX4_hasSnapshot_19 : decode cX4_hasSnapshot 19 = .ok (.ifCond .eq 7, 3) := by decide +kernel
theorem dX4_hasSnapshot_22 : decode cX4_hasSnapshot 22 = .ok (.iconst 1, 1) := by decide +kernel
theorem dX4_hasSnapshot_23 : decode cX4_hasSnapshot 23 = .ok (.goto 4, 3) := by decide +kernel
theorem dX4_hasSnapshot_26 : decode cX4_hasSnapshot 26 = .ok (.iconst 0, 1) := by decide +kernel
theorem dX4_hasSnapshot_27 : decode cX4_hasSnapshot 27 = .ok (.ireturn, 1) := by decide +kernel
theorem dX4_at_0 : decode cX4_at 0 = .ok (.iload_n 1, 1) := by decide +kernel
theorem dX4_at_1 : decode cX4_at 1 = .ok (.ifCond .lt 15, 3) := by decide +kernel
theorem dX4_at_4 : decode cX4_at 4 = .ok (.iload_n 1, 1) := by decide +kernel
theorem dX4_at_5 : decode cX4_at 5 = .ok (.aload_n 0, 1) := by decide +kernel
theorem dX4_at_6 : decode cX4_at 6 = .ok (.arraylength, 1) := by decide +kernel
theorem dX4_at_7 : decode cX4_at 7 = .ok (.if_icmp .ge 9, 3) := by decide +kernel
theorem dX4_at_10 : decode cX4_at 10 = .ok (.aload_n 0, 1) := by decide +kernel
theorem dX4_at_11 : decode cX4_at 11 = .ok (.iload_n 1, 1) := by decide +kernel
theorem dX4_at_12 : decode cX4_at 12 = .ok (.iaload, 1) := by decide +kernel
theorem dX4_at_13 : decode cX4_at 13 = .ok (.goto 4, 3) := by decide +kernel
theorem dX4_at_16 : decode cX4_at 16 = .ok (.iconst 0, 1) := by decide +kernel
theorem dX4_at_17 : decode cX4_at 17 = .ok (.ireturn, 1) := by decide +kernel
theorem dX4_put_0 : decode cX4_put 0 = .ok (.iload_n 1, 1) := by decide +kernel
theorem dX4_put_1 : decode cX4_put 1 = .ok (.ifCond .lt 13, 3) := by decide +kernel
theorem dX4_put_4 : decode cX4_put 4 = .ok (.iload_n 1, 1) := by decide +kernel
theorem dX4_put_5 : decode cX4_put 5 = .ok (.aload_n 0, 1) := by decide +kernel
theorem dX4_put_6 : decode cX4_put 6 = .ok (.arraylength, 1) := by decide +kernel
theorem dX4_put_7 : decode cX4_put 7 = .ok (.if_icmp .ge 7, 3) := by decide +kernel
theorem dX4_put_10 : decode cX4_put 10 = .ok (.aload_n 0, 1) := by decide +kernel
theorem dX4_put_11 : decode cX4_put 11 = .ok (.iload_n 1, 1) := by decide +kernel
theorem dX4_put_12 : decode cX4_put 12 = .ok (.iload_n 2, 1) := by decide +kernel
theorem dX4_put_13 : decode cX4_put 13 = .ok (.iastore, 1) := by decide +kernel
theorem dX4_put_14 : decode cX4_put 14 = .ok (.return_, 1) := by decide +kernel
theorem dX4_copyRow_0 : decode cX4_copyRow 0 = .ok (.aload_n 0, 1) := by decide +kernel
theorem dX4_copyRow_1 : decode cX4_copyRow 1 = .ok (.iconst 0, 1) := by decide +kernel
theorem dX4_copyRow_2 : decode cX4_copyRow 2 = .ok (.aload_n 1, 1) := by decide +kernel
theorem dX4_copyRow_3 : decode cX4_copyRow 3 = .ok (.iconst 0, 1) := by decide +kernel
theorem dX4_copyRow_4 : decode cX4_copyRow 4 = .ok (.aload_n 0, 1) := by decide +kernel
theorem dX4_copyRow_5 : decode cX4_copyRow 5 = .ok (.arraylength, 1) := by decide +kernel
theorem dX4_copyRow_6 : decode cX4_copyRow 6 = .ok (.aload_n 1, 1) := by decide +kernel
theorem dX4_copyRow_7 : decode cX4_copyRow 7 = .ok (.arraylength, 1) := by decide +kernel
theorem dX4_copyRow_8 : decode cX4_copyRow 8 = .ok (.invokestatic 440, 3) := by decide +kernel
theorem dX4_copyRow_11 : decode cX4_copyRow 11 = .ok (.invokestatic 445, 3) := by decide +kernel
theorem dX4_copyRow_14 : decode cX4_copyRow 14 = .ok (.return_, 1) := by decide +kernel
theorem dX4_treatyAt_0 : decode cX4_treatyAt 0 = .ok (.iload_n 1, 1) := by decide +kernel
theorem dX4_treatyAt_1 : decode cX4_treatyAt 1 = .ok (.ifCond .lt 15, 3) := by decide +kernel
theorem dX4_treatyAt_4 : decode cX4_treatyAt 4 = .ok (.iload_n 1, 1) := by decide +kernel
theorem dX4_treatyAt_5 : decode cX4_treatyAt 5 = .ok (.aload_n 0, 1) := by decide +kernel
theorem dX4_treatyAt_6 : decode cX4_treatyAt 6 = .ok (.arraylength, 1) := by decide +kernel
theorem dX4_treatyAt_7 : decode cX4_treatyAt 7 = .ok (.if_icmp .ge 9, 3) := by decide +kernel
theorem dX4_treatyAt_10 : decode cX4_treatyAt 10 = .ok (.aload_n 0, 1) := by decide +kernel
theorem dX4_treatyAt_11 : decode cX4_treatyAt 11 = .ok (.iload_n 1, 1) := by decide +kernel
theorem dX4_treatyAt_12 : decode cX4_treatyAt 12 = .ok (.aaload, 1) := by decide +kernel
theorem dX4_treatyAt_13 : decode cX4_treatyAt 13 = .ok (.goto 4, 3) := by decide +kernel
theorem dX4_treatyAt_16 : decode cX4_treatyAt 16 = .ok (.aconst_null, 1) := by decide +kernel
theorem dX4_treatyAt_17 : decode cX4_treatyAt 17 = .ok (.areturn, 1) := by decide +kernel
