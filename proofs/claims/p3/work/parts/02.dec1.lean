theorem dX4_copyFrom_31 : decode cX4_copyFrom 31 = .ok (.iload_n 2, 1) := by decide +kernel
theorem dX4_copyFrom_32 : decode cX4_copyFrom 32 = .ok (.iaload, 1) := by decide +kernel
theorem dX4_copyFrom_33 : decode cX4_copyFrom 33 = .ok (.aload_n 1, 1) := by decide +kernel
theorem dX4_copyFrom_34 : decode cX4_copyFrom 34 = .ok (.getfield 21, 3) := by decide +kernel
theorem dX4_copyFrom_37 : decode cX4_copyFrom 37 = .ok (.iload_n 2, 1) := by decide +kernel
theorem dX4_copyFrom_38 : decode cX4_copyFrom 38 = .ok (.iaload, 1) := by decide +kernel
theorem dX4_copyFrom_39 : decode cX4_copyFrom 39 = .ok (.invokevirtual 34, 3) := by decide +kernel
theorem dX4_copyFrom_42 : decode cX4_copyFrom 42 = .ok (.iinc 2 1, 3) := by decide +kernel
theorem dX4_copyFrom_45 : decode cX4_copyFrom 45 = .ok (.goto (-39), 3) := by decide +kernel
theorem dX4_copyFrom_48 : decode cX4_copyFrom 48 = .ok (.return_, 1) := by decide +kernel
theorem dX4_settle_0 : decode cX4_settle 0 = .ok (.iconst 0, 1) := by decide +kernel
theorem dX4_settle_1 : decode cX4_settle 1 = .ok (.istore_n 2, 1) := by decide +kernel
theorem dX4_settle_2 : decode cX4_settle 2 = .ok (.iload_n 2, 1) := by decide +kernel
theorem dX4_settle_3 : decode cX4_settle 3 = .ok (.bipush 8, 2) := by decide +kernel
theorem dX4_settle_5 : decode cX4_settle 5 = .ok (.if_icmp .ge 16, 3) := by decide +kernel
theorem dX4_settle_8 : decode cX4_settle 8 = .ok (.aload_n 0, 1) := by decide +kernel
theorem dX4_settle_9 : decode cX4_settle 9 = .ok (.getfield 24, 3) := by decide +kernel
theorem dX4_settle_12 : decode cX4_settle 12 = .ok (.iload_n 2, 1) := by decide +kernel
theorem dX4_settle_13 : decode cX4_settle 13 = .ok (.iconst 0, 1) := by decide +kernel
theorem dX4_settle_14 : decode cX4_settle 14 = .ok (.iastore, 1) := by decide +kernel
theorem dX4_settle_15 : decode cX4_settle 15 = .ok (.iinc 2 1, 3) := by decide +kernel
theorem dX4_settle_18 : decode cX4_settle 18 = .ok (.goto (-16), 3) := by decide +kernel
theorem dX4_settle_21 : decode cX4_settle 21 = .ok (.aload_n 0, 1) := by decide +kernel
theorem dX4_settle_22 : decode cX4_settle 22 = .ok (.getfield 24, 3) := by decide +kernel
theorem dX4_settle_25 : decode cX4_settle 25 = .ok (.iconst 4, 1) := by decide +kernel
theorem dX4_settle_26 : decode cX4_settle 26 = .ok (.iconst (-1), 1) := by decide +kernel
theorem dX4_settle_27 : decode cX4_settle 27 = .ok (.iastore, 1) := by decide +kernel
theorem dX4_settle_28 : decode cX4_settle 28 = .ok (.iconst 0, 1) := by decide +kernel
theorem dX4_settle_29 : decode cX4_settle 29 = .ok (.istore_n 2, 1) := by decide +kernel
theorem dX4_settle_30 : decode cX4_settle 30 = .ok (.iload_n 2, 1) := by decide +kernel
theorem dX4_settle_31 : decode cX4_settle 31 = .ok (.aload_n 0, 1) := by decide +kernel
theorem dX4_settle_32 : decode cX4_settle 32 = .ok (.getfield 27, 3) := by decide +kernel
theorem dX4_settle_35 : decode cX4_settle 35 = .ok (.if_icmp .ge 75, 3) := by decide +kernel
theorem dX4_settle_38 : decode cX4_settle 38 = .ok (.iload_n 1, 1) := by decide +kernel
theorem dX4_settle_39 : decode cX4_settle 39 = .ok (.aload_n 0, 1) := by decide +kernel
theorem dX4_settle_40 : decode cX4_settle 40 = .ok (.getfield 9, 3) := by decide +kernel
theorem dX4_settle_43 : decode cX4_settle 43 = .ok (.iload_n 2, 1) := by decide +kernel
theorem dX4_settle_44 : decode cX4_settle 44 = .ok (.iaload, 1) := by decide +kernel
theorem dX4_settle_45 : decode cX4_settle 45 = .ok (.aload_n 0, 1) := by decide +kernel
theorem dX4_settle_46 : decode cX4_settle 46 = .ok (.getfield 15, 3) := by decide +kernel
theorem dX4_settle_49 : decode cX4_settle 49 = .ok (.iload_n 2, 1) := by decide +kernel
theorem dX4_settle_50 : decode cX4_settle 50 = .ok (.iaload, 1) := by decide +kernel
theorem dX4_settle_51 : decode cX4_settle 51 = .ok (.invokestatic 38, 3) := by decide +kernel
theorem dX4_settle_54 : decode cX4_settle 54 = .ok (.ifCond .ne 6, 3) := by decide +kernel
theorem dX4_settle_57 : decode cX4_settle 57 = .ok (.goto 47, 3) := by decide +kernel
theorem dX4_settle_60 : decode cX4_settle 60 = .ok (.aload_n 0, 1) := by decide +kernel
theorem dX4_settle_61 : decode cX4_settle 61 = .ok (.getfield 18, 3) := by decide +kernel
theorem dX4_settle_64 : decode cX4_settle 64 = .ok (.iload_n 2, 1) := by decide +kernel
theorem dX4_settle_65 : decode cX4_settle 65 = .ok (.iaload, 1) := by decide +kernel
theorem dX4_settle_66 : decode cX4_settle 66 = .ok (.iconst 5, 1) := by decide +kernel
theorem dX4_settle_67 : decode cX4_settle 67 = .ok (.if_icmp .ne 20, 3) := by decide +kernel
theorem dX4_settle_70 : decode cX4_settle 70 = .ok (.aload_n 0, 1) := by decide +kernel
theorem dX4_settle_71 : decode cX4_settle 71 = .ok (.getfield 24, 3) := by decide +kernel
theorem dX4_settle_74 : decode cX4_settle 74 = .ok (.iconst 5, 1) := by decide +kernel
theorem dX4_settle_75 : decode cX4_settle 75 = .ok (.aload_n 0, 1) := by decide +kernel
theorem dX4_settle_76 : decode cX4_settle 76 = .ok (.getfield 21, 3) := by decide +kernel
theorem dX4_settle_79 : decode cX4_settle 79 = .ok (.iload_n 2, 1) := by decide +kernel
theorem dX4_settle_80 : decode cX4_settle 80 = .ok (.iaload, 1) := by decide +kernel
theorem dX4_settle_81 : decode cX4_settle 81 = .ok (.iadd, 1) := by decide +kernel
theorem dX4_settle_82 : decode cX4_settle 82 = .ok (.iconst 1, 1) := by decide +kernel
theorem dX4_settle_83 : decode cX4_settle 83 = .ok (.iastore, 1) := by decide +kernel
theorem dX4_settle_84 : decode cX4_settle 84 = .ok (.goto 20, 3) := by decide +kernel
theorem dX4_settle_87 : decode cX4_settle 87 = .ok (.aload_n 0, 1) := by decide +kernel
theorem dX4_settle_88 : decode cX4_settle 88 = .ok (.getfield 24, 3) := by decide +kernel
theorem dX4_settle_91 : decode cX4_settle 91 = .ok (.aload_n 0, 1) := by decide +kernel
theorem dX4_settle_92 : decode cX4_settle 92 = .ok (.getfield 18, 3) := by decide +kernel
theorem dX4_settle_95 : decode cX4_settle 95 = .ok (.iload_n 2, 1) := by decide +kernel
theorem dX4_settle_96 : decode cX4_settle 96 = .ok (.iaload, 1) := by decide +kernel
theorem dX4_settle_97 : decode cX4_settle 97 = .ok (.aload_n 0, 1) := by decide +kernel
theorem dX4_settle_98 : decode cX4_settle 98 = .ok (.getfield 21, 3) := by decide +kernel
theorem dX4_settle_101 : decode cX4_settle 101 = .ok (.iload_n 2, 1) := by decide +kernel
theorem dX4_settle_102 : decode cX4_settle 102 = .ok (.iaload, 1) := by decide +kernel
theorem dX4_settle_103 : decode cX4_settle 103 = .ok (.iastore, 1) := by decide +kernel
theorem dX4_settle_104 : decode cX4_settle 104 = .ok (.iinc 2 1, 3) := by decide +kernel
theorem dX4_settle_107 : decode cX4_settle 107 = .ok (.goto (-77), 3) := by decide +kernel
theorem dX4_settle_110 : decode cX4_settle 110 = .ok (.return_, 1) := by decide +kernel
theorem dX4_isAboveMost_0 : decode cX4_isAboveMost 0 = .ok (.aload_n 0, 1) := by decide +kernel
theorem dX4_isAboveMost_1 : decode cX4_isAboveMost 1 = .ok (.getfield 24, 3) := by decide +kernel
theorem dX4_isAboveMost_4 : decode cX4_isAboveMost 4 = .ok (.iconst 4, 1) := by decide +kernel
theorem dX4_isAboveMost_5 : decode cX4_isAboveMost 5 = .ok (.iaload, 1) := by decide +kernel
theorem dX4_isAboveMost_6 : decode cX4_isAboveMost 6 = .ok (.iconst (-1), 1) := by decide +kernel
theorem dX4_isAboveMost_7 : decode cX4_isAboveMost 7 = .ok (.if_icmp .eq 17, 3) := by decide +kernel
theorem dX4_isAboveMost_10 : decode cX4_isAboveMost 10 = .ok (.iload_n 1, 1) := by decide +kernel
theorem dX4_isAboveMost_11 : decode cX4_isAboveMost 11 = .ok (.aload_n 0, 1) := by decide +kernel
theorem dX4_isAboveMost_12 : decode cX4_isAboveMost 12 = .ok (.getfield 24, 3) := by decide +kernel
theorem dX4_isAboveMost_15 : decode cX4_isAboveMost 15 = .ok (.iconst 4, 1) := by decide +kernel
theorem dX4_isAboveMost_16 : decode cX4_isAboveMost 16 = .ok (.iaload, 1) := by decide +kernel
theorem dX4_isAboveMost_17 : decode cX4_isAboveMost 17 = .ok (.if_icmp .le 7, 3) := by decide +kernel
theorem dX4_isAboveMost_20 : decode cX4_isAboveMost 20 = .ok (.iconst 1, 1) := by decide +kernel
theorem dX4_isAboveMost_21 : decode cX4_isAboveMost 21 = .ok (.goto 4, 3) := by decide +kernel
theorem dX4_isAboveMost_24 : decode cX4_isAboveMost 24 = .ok (.iconst 0, 1) := by decide +kernel
theorem dX4_isAboveMost_25 : decode cX4_isAboveMost 25 = .ok (.ireturn, 1) := by decide +kernel
theorem dX4_isClosed_0 : decode cX4_isClosed 0 = .ok (.aload_n 0, 1) := by decide +kernel
theorem dX4_isClosed_1 : decode cX4_isClosed 1 = .ok (.getfield 24, 3) := by decide +kernel
theorem dX4_isClosed_4 : decode cX4_isClosed 4 = .ok (.iconst 5, 1) := by decide +kernel
theorem dX4_isClosed_5 : decode cX4_isClosed 5 = .ok (.iload_n 1, 1) := by decide +kernel
theorem dX4_isClosed_6 : decode cX4_isClosed 6 = .ok (.iadd, 1) := by decide +kernel
theorem dX4_isClosed_7 : decode cX4_isClosed 7 = .ok (.iaload, 1) := by decide +kernel
theorem dX4_isClosed_8 : decode cX4_isClosed 8 = .ok (.ifCond .eq 7, 3) := by decide +kernel
theorem dX4_isClosed_11 : decode cX4_isClosed 11 = .ok (.iconst 1, 1) := by decide +kernel
theorem dX4_isClosed_12 : decode cX4_isClosed 12 = .ok (.goto 4, 3) := by decide +kernel
theorem dX4_isClosed_15 : decode cX4_isClosed 15 = .ok (.iconst 0, 1) := by decide +kernel
theorem dX4_isClosed_16 : decode cX4_isClosed 16 = .ok (.ireturn, 1) := by decide +kernel
theorem dX5_init_0 : decode cX5_init 0 = .ok (.aload_n 0, 1) := by decide +kernel
theorem dX5_init_1 : decode cX5_init 1 = .ok (.invokespecial 3, 3) := by decide +kernel
theorem dX5_init_4 : decode cX5_init 4 = .ok (.aload_n 0, 1) := by decide +kernel
theorem dX5_init_5 : decode cX5_init 5 = .ok (.new 9, 3) := by decide +kernel
theorem dX5_init_8 : decode cX5_init 8 = .ok (.dup, 1) := by decide +kernel
theorem dX5_init_9 : decode cX5_init 9 = .ok (.invokespecial 11, 3) := by decide +kernel
theorem dX5_init_12 : decode cX5_init 12 = .ok (.putfield 12, 3) := by decide +kernel
theorem dX5_init_15 : decode cX5_init 15 = .ok (.aload_n 0, 1) := by decide +kernel
theorem dX5_init_16 : decode cX5_init 16 = .ok (.iconst (-1), 1) := by decide +kernel
theorem dX5_init_17 : decode cX5_init 17 = .ok (.putfield 18, 3) := by decide +kernel
theorem dX5_init_20 : decode cX5_init 20 = .ok (.aload_n 0, 1) := by decide +kernel
theorem dX5_init_21 : decode cX5_init 21 = .ok (.aload_n 1, 1) := by decide +kernel
theorem dX5_init_22 : decode cX5_init 22 = .ok (.putfield 22, 3) := by decide +kernel
theorem dX5_init_25 : decode cX5_init 25 = .ok (.return_, 1) := by decide +kernel
theorem dX5_read_0 : decode cX5_read 0 = .ok (.aload_n 0, 1) := by decide +kernel
theorem dX5_read_1 : decode cX5_read 1 = .ok (.iconst (-1), 1) := by decide +kernel
theorem dX5_read_2 : decode cX5_read 2 = .ok (.putfield 18, 3) := by decide +kernel
theorem dX5_read_5 : decode cX5_read 5 = .ok (.aload_n 0, 1) := by decide +kernel
theorem dX5_read_6 : decode cX5_read 6 = .ok (.getfield 12, 3) := by decide +kernel
theorem dX5_read_9 : decode cX5_read 9 = .ok (.invokevirtual 26, 3) := by decide +kernel
theorem dX5_read_12 : decode cX5_read 12 = .ok (.aload_n 0, 1) := by decide +kernel
theorem dX5_read_13 : decode cX5_read 13 = .ok (.iconst 0, 1) := by decide +kernel
theorem dX5_read_14 : decode cX5_read 14 = .ok (.putfield 29, 3) := by decide +kernel
theorem dX5_read_17 : decode cX5_read 17 = .ok (.aload_n 0, 1) := by decide +kernel
theorem dX5_read_18 : decode cX5_read 18 = .ok (.invokevirtual 32, 3) := by decide +kernel
theorem dX5_read_21 : decode cX5_read 21 = .ok (.aload_n 0, 1) := by decide +kernel
theorem dX5_read_22 : decode cX5_read 22 = .ok (.invokevirtual 35, 3) := by decide +kernel
theorem dX5_read_25 : decode cX5_read 25 = .ok (.ifCond .eq 26, 3) := by decide +kernel
theorem dX5_read_28 : decode cX5_read 28 = .ok (.aload_n 0, 1) := by decide +kernel
theorem dX5_read_29 : decode cX5_read 29 = .ok (.getfield 22, 3) := by decide +kernel
theorem dX5_read_32 : decode cX5_read 32 = .ok (.getfield 39, 3) := by decide +kernel
theorem dX5_read_35 : decode cX5_read 35 = .ok (.ifCond .gt 10, 3) := by decide +kernel
theorem dX5_read_38 : decode cX5_read 38 = .ok (.aload_n 0, 1) := by decide +kernel
theorem dX5_read_39 : decode cX5_read 39 = .ok (.invokevirtual 44, 3) := by decide +kernel
theorem dX5_read_42 : decode cX5_read 42 = .ok (.ifCond .eq 7, 3) := by decide +kernel
theorem dX5_read_45 : decode cX5_read 45 = .ok (.iconst 1, 1) := by decide +kernel
theorem dX5_read_46 : decode cX5_read 46 = .ok (.goto 4, 3) := by decide +kernel
theorem dX5_read_49 : decode cX5_read 49 = .ok (.iconst 0, 1) := by decide +kernel
theorem dX5_read_50 : decode cX5_read 50 = .ok (.ireturn, 1) := by decide +kernel
theorem dX5_read_51 : decode cX5_read 51 = .ok (.iconst 0, 1) := by decide +kernel
theorem dX5_read_52 : decode cX5_read 52 = .ok (.istore_n 1, 1) := by decide +kernel
theorem dX5_read_53 : decode cX5_read 53 = .ok (.iload_n 1, 1) := by decide +kernel
theorem dX5_read_54 : decode cX5_read 54 = .ok (.bipush 30, 2) := by decide +kernel
theorem dX5_read_56 : decode cX5_read 56 = .ok (.if_icmp .ge 55, 3) := by decide +kernel
theorem dX5_read_59 : decode cX5_read 59 = .ok (.aload_n 0, 1) := by decide +kernel
theorem dX5_read_60 : decode cX5_read 60 = .ok (.invokevirtual 47, 3) := by decide +kernel
theorem dX5_read_63 : decode cX5_read 63 = .ok (.ifCond .ne 8, 3) := by decide +kernel
theorem dX5_read_66 : decode cX5_read 66 = .ok (.aload_n 0, 1) := by decide +kernel
theorem dX5_read_67 : decode cX5_read 67 = .ok (.invokevirtual 44, 3) := by decide +kernel
theorem dX5_read_70 : decode cX5_read 70 = .ok (.ireturn, 1) := by decide +kernel
theorem dX5_read_71 : decode cX5_read 71 = .ok (.aload_n 0, 1) := by decide +kernel
theorem dX5_read_72 : decode cX5_read 72 = .ok (.invokevirtual 35, 3) := by decide +kernel
theorem dX5_read_75 : decode cX5_read 75 = .ok (.ifCond .eq 5, 3) := by decide +kernel
theorem dX5_read_78 : decode cX5_read 78 = .ok (.iconst 1, 1) := by decide +kernel
theorem dX5_read_79 : decode cX5_read 79 = .ok (.ireturn, 1) := by decide +kernel
theorem dX5_read_80 : decode cX5_read 80 = .ok (.aload_n 0, 1) := by decide +kernel
theorem dX5_read_81 : decode cX5_read 81 = .ok (.getfield 22, 3) := by decide +kernel
theorem dX5_read_84 : decode cX5_read 84 = .ok (.aload_n 0, 1) := by decide +kernel
theorem dX5_read_85 : decode cX5_read 85 = .ok (.getfield 50, 3) := by decide +kernel
theorem dX5_read_88 : decode cX5_read 88 = .ok (.invokevirtual 53, 3) := by decide +kernel
theorem dX5_read_91 : decode cX5_read 91 = .ok (.bipush 59, 2) := by decide +kernel
theorem dX5_read_93 : decode cX5_read 93 = .ok (.if_icmp .eq 8, 3) := by decide +kernel
theorem dX5_read_96 : decode cX5_read 96 = .ok (.aload_n 0, 1) := by decide +kernel
theorem dX5_read_97 : decode cX5_read 97 = .ok (.invokevirtual 44, 3) := by decide +kernel
theorem dX5_read_100 : decode cX5_read 100 = .ok (.ireturn, 1) := by decide +kernel
theorem dX5_read_101 : decode cX5_read 101 = .ok (.aload_n 0, 1) := by decide +kernel
theorem dX5_read_102 : decode cX5_read 102 = .ok (.invokevirtual 32, 3) := by decide +kernel
theorem dX5_read_105 : decode cX5_read 105 = .ok (.iinc 1 1, 3) := by decide +kernel
theorem dX5_read_108 : decode cX5_read 108 = .ok (.goto (-55), 3) := by decide +kernel
theorem dX5_read_111 : decode cX5_read 111 = .ok (.aload_n 0, 1) := by decide +kernel
theorem dX5_read_112 : decode cX5_read 112 = .ok (.invokevirtual 44, 3) := by decide +kernel
theorem dX5_read_115 : decode cX5_read 115 = .ok (.ireturn, 1) := by decide +kernel
theorem dX5_cannotGoOn_0 : decode cX5_cannotGoOn 0 = .ok (.aload_n 0, 1) := by decide +kernel
theorem dX5_cannotGoOn_1 : decode cX5_cannotGoOn 1 = .ok (.aload_n 0, 1) := by decide +kernel
theorem dX5_cannotGoOn_2 : decode cX5_cannotGoOn 2 = .ok (.getfield 50, 3) := by decide +kernel
theorem dX5_cannotGoOn_5 : decode cX5_cannotGoOn 5 = .ok (.putfield 18, 3) := by decide +kernel
theorem dX5_cannotGoOn_8 : decode cX5_cannotGoOn 8 = .ok (.iconst 0, 1) := by decide +kernel
theorem dX5_cannotGoOn_9 : decode cX5_cannotGoOn 9 = .ok (.ireturn, 1) := by decide +kernel
theorem dX5_readLaw_0 : decode cX5_readLaw 0 = .ok (.aload_n 0, 1) := by decide +kernel
theorem dX5_readLaw_1 : decode cX5_readLaw 1 = .ok (.ldc 57, 2) := by decide +kernel
theorem dX5_readLaw_3 : decode cX5_readLaw 3 = .ok (.invokevirtual 59, 3) := by decide +kernel
theorem dX5_readLaw_6 : decode cX5_readLaw 6 = .ok (.ifCond .ne 5, 3) := by decide +kernel
theorem dX5_readLaw_9 : decode cX5_readLaw 9 = .ok (.iconst 0, 1) := by decide +kernel
theorem dX5_readLaw_10 : decode cX5_readLaw 10 = .ok (.ireturn, 1) := by decide +kernel
theorem dX5_readLaw_11 : decode cX5_readLaw 11 = .ok (.aload_n 0, 1) := by decide +kernel
theorem dX5_readLaw_12 : decode cX5_readLaw 12 = .ok (.iconst 0, 1) := by decide +kernel
theorem dX5_readLaw_13 : decode cX5_readLaw 13 = .ok (.sipush 200, 3) := by decide +kernel
theorem dX5_readLaw_16 : decode cX5_readLaw 16 = .ok (.invokevirtual 63, 3) := by decide +kernel
theorem dX5_readLaw_19 : decode cX5_readLaw 19 = .ok (.istore_n 1, 1) := by decide +kernel
theorem dX5_readLaw_20 : decode cX5_readLaw 20 = .ok (.iload_n 1, 1) := by decide +kernel
theorem dX5_readLaw_21 : decode cX5_readLaw 21 = .ok (.iconst (-1), 1) := by decide +kernel
theorem dX5_readLaw_22 : decode cX5_readLaw 22 = .ok (.if_icmp .ne 5, 3) := by decide +kernel
theorem dX5_readLaw_25 : decode cX5_readLaw 25 = .ok (.iconst 0, 1) := by decide +kernel
theorem dX5_readLaw_26 : decode cX5_readLaw 26 = .ok (.ireturn, 1) := by decide +kernel
theorem dX5_readLaw_27 : decode cX5_readLaw 27 = .ok (.aload_n 0, 1) := by decide +kernel
theorem dX5_readLaw_28 : decode cX5_readLaw 28 = .ok (.ldc 67, 2) := by decide +kernel
theorem dX5_readLaw_30 : decode cX5_readLaw 30 = .ok (.invokevirtual 59, 3) := by decide +kernel
theorem dX5_readLaw_33 : decode cX5_readLaw 33 = .ok (.ifCond .eq 14, 3) := by decide +kernel
theorem dX5_readLaw_36 : decode cX5_readLaw 36 = .ok (.aload_n 0, 1) := by decide +kernel
theorem dX5_readLaw_37 : decode cX5_readLaw 37 = .ok (.iload_n 1, 1) := by decide +kernel
theorem dX5_readLaw_38 : decode cX5_readLaw 38 = .ok (.sipush 200, 3) := by decide +kernel
theorem dX5_readLaw_41 : decode cX5_readLaw 41 = .ok (.invokevirtual 63, 3) := by decide +kernel
theorem dX5_readLaw_44 : decode cX5_readLaw 44 = .ok (.goto 6, 3) := by decide +kernel
theorem dX5_readLaw_47 : decode cX5_readLaw 47 = .ok (.sipush 200, 3) := by decide +kernel
theorem dX5_readLaw_50 : decode cX5_readLaw 50 = .ok (.istore_n 2, 1) := by decide +kernel
theorem dX5_readLaw_51 : decode cX5_readLaw 51 = .ok (.iload_n 2, 1) := by decide +kernel
theorem dX5_readLaw_52 : decode cX5_readLaw 52 = .ok (.iconst (-1), 1) := by decide +kernel
theorem dX5_readLaw_53 : decode cX5_readLaw 53 = .ok (.if_icmp .ne 5, 3) := by decide +kernel
theorem dX5_readLaw_56 : decode cX5_readLaw 56 = .ok (.iconst 0, 1) := by decide +kernel
theorem dX5_readLaw_57 : decode cX5_readLaw 57 = .ok (.ireturn, 1) := by decide +kernel
theorem dX5_readLaw_58 : decode cX5_readLaw 58 = .ok (.aload_n 0, 1) := by decide +kernel
theorem dX5_readLaw_59 : decode cX5_readLaw 59 = .ok (.invokevirtual 69, 3) := by decide +kernel
theorem dX5_readLaw_62 : decode cX5_readLaw 62 = .ok (.istore_n 3, 1) := by decide +kernel
theorem dX5_readLaw_63 : decode cX5_readLaw 63 = .ok (.iload_n 3, 1) := by decide +kernel
theorem dX5_readLaw_64 : decode cX5_readLaw 64 = .ok (.iconst (-1), 1) := by decide +kernel
theorem dX5_readLaw_65 : decode cX5_readLaw 65 = .ok (.if_icmp .ne 5, 3) := by decide +kernel
theorem dX5_readLaw_68 : decode cX5_readLaw 68 = .ok (.iconst 0, 1) := by decide +kernel
theorem dX5_readLaw_69 : decode cX5_readLaw 69 = .ok (.ireturn, 1) := by decide +kernel
theorem dX5_readLaw_70 : decode cX5_readLaw 70 = .ok (.iload_n 3, 1) := by decide +kernel
theorem dX5_readLaw_71 : decode cX5_readLaw 71 = .ok (.ifCond .ne 10, 3) := by decide +kernel
theorem dX5_readLaw_74 : decode cX5_readLaw 74 = .ok (.aload_n 0, 1) := by decide +kernel
theorem dX5_readLaw_75 : decode cX5_readLaw 75 = .ok (.invokevirtual 73, 3) := by decide +kernel
theorem dX5_readLaw_78 : decode cX5_readLaw 78 = .ok (.goto 12, 3) := by decide +kernel
theorem dX5_readLaw_81 : decode cX5_readLaw 81 = .ok (.aload_n 0, 1) := by decide +kernel
theorem dX5_readLaw_82 : decode cX5_readLaw 82 = .ok (.iconst 0, 1) := by decide +kernel
theorem dX5_readLaw_83 : decode cX5_readLaw 83 = .ok (.iload_n 3, 1) := by decide +kernel
theorem dX5_readLaw_84 : decode cX5_readLaw 84 = .ok (.invokestatic 76, 3) := by decide +kernel
theorem dX5_readLaw_87 : decode cX5_readLaw 87 = .ok (.invokevirtual 63, 3) := by decide +kernel
theorem dX5_readLaw_90 : decode cX5_readLaw 90 = .ok (.istore 4, 2) := by decide +kernel
theorem dX5_readLaw_92 : decode cX5_readLaw 92 = .ok (.iload 4, 2) := by decide +kernel
theorem dX5_readLaw_94 : decode cX5_readLaw 94 = .ok (.iconst (-1), 1) := by decide +kernel
theorem dX5_readLaw_95 : decode cX5_readLaw 95 = .ok (.if_icmp .ne 5, 3) := by decide +kernel
theorem dX5_readLaw_98 : decode cX5_readLaw 98 = .ok (.iconst 0, 1) := by decide +kernel
theorem dX5_readLaw_99 : decode cX5_readLaw 99 = .ok (.ireturn, 1) := by decide +kernel
theorem dX5_readLaw_100 : decode cX5_readLaw 100 = .ok (.aload_n 0, 1) := by decide +kernel
theorem dX5_readLaw_101 : decode cX5_readLaw 101 = .ok (.getfield 12, 3) := by decide +kernel
theorem dX5_readLaw_104 : decode cX5_readLaw 104 = .ok (.iload_n 1, 1) := by decide +kernel
theorem dX5_readLaw_105 : decode cX5_readLaw 105 = .ok (.iload_n 2, 1) := by decide +kernel
theorem dX5_readLaw_106 : decode cX5_readLaw 106 = .ok (.iload_n 3, 1) := by decide +kernel
theorem dX5_readLaw_107 : decode cX5_readLaw 107 = .ok (.iload 4, 2) := by decide +kernel
theorem dX5_readLaw_109 : decode cX5_readLaw 109 = .ok (.invokevirtual 79, 3) := by decide +kernel
theorem dX5_readLaw_112 : decode cX5_readLaw 112 = .ok (.iconst 1, 1) := by decide +kernel
theorem dX5_readLaw_113 : decode cX5_readLaw 113 = .ok (.ireturn, 1) := by decide +kernel
theorem dX5_takeKind_0 : decode cX5_takeKind 0 = .ok (.aload_n 0, 1) := by decide +kernel
theorem dX5_takeKind_1 : decode cX5_takeKind 1 = .ok (.ldc 83, 2) := by decide +kernel
theorem dX5_takeKind_3 : decode cX5_takeKind 3 = .ok (.invokevirtual 59, 3) := by decide +kernel
theorem dX5_takeKind_6 : decode cX5_takeKind 6 = .ok (.ifCond .eq 5, 3) := by decide +kernel
theorem dX5_takeKind_9 : decode cX5_takeKind 9 = .ok (.iconst 0, 1) := by decide +kernel
theorem dX5_takeKind_10 : decode cX5_takeKind 10 = .ok (.ireturn, 1) := by decide +kernel
theorem dX5_takeKind_11 : decode cX5_takeKind 11 = .ok (.aload_n 0, 1) := by decide +kernel
theorem dX5_takeKind_12 : decode cX5_takeKind 12 = .ok (.ldc 85, 2) := by decide +kernel
theorem dX5_takeKind_14 : decode cX5_takeKind 14 = .ok (.invokevirtual 59, 3) := by decide +kernel
theorem dX5_takeKind_17 : decode cX5_takeKind 17 = .ok (.ifCond .eq 5, 3) := by decide +kernel
theorem dX5_takeKind_20 : decode cX5_takeKind 20 = .ok (.iconst 1, 1) := by decide +kernel
theorem dX5_takeKind_21 : decode cX5_takeKind 21 = .ok (.ireturn, 1) := by decide +kernel
theorem dX5_takeKind_22 : decode cX5_takeKind 22 = .ok (.aload_n 0, 1) := by decide +kernel
theorem dX5_takeKind_23 : decode cX5_takeKind 23 = .ok (.ldc 87, 2) := by decide +kernel
theorem dX5_takeKind_25 : decode cX5_takeKind 25 = .ok (.invokevirtual 59, 3) := by decide +kernel
theorem dX5_takeKind_28 : decode cX5_takeKind 28 = .ok (.ifCond .eq 5, 3) := by decide +kernel
theorem dX5_takeKind_31 : decode cX5_takeKind 31 = .ok (.iconst 2, 1) := by decide +kernel
theorem dX5_takeKind_32 : decode cX5_takeKind 32 = .ok (.ireturn, 1) := by decide +kernel
theorem dX5_takeKind_33 : decode cX5_takeKind 33 = .ok (.aload_n 0, 1) := by decide +kernel
theorem dX5_takeKind_34 : decode cX5_takeKind 34 = .ok (.ldc 89, 2) := by decide +kernel
theorem dX5_takeKind_36 : decode cX5_takeKind 36 = .ok (.invokevirtual 59, 3) := by decide +kernel
theorem dX5_takeKind_39 : decode cX5_takeKind 39 = .ok (.ifCond .eq 5, 3) := by decide +kernel
theorem dX5_takeKind_42 : decode cX5_takeKind 42 = .ok (.iconst 3, 1) := by decide +kernel
theorem dX5_takeKind_43 : decode cX5_takeKind 43 = .ok (.ireturn, 1) := by decide +kernel
theorem dX5_takeKind_44 : decode cX5_takeKind 44 = .ok (.aload_n 0, 1) := by decide +kernel
theorem dX5_takeKind_45 : decode cX5_takeKind 45 = .ok (.ldc 91, 2) := by decide +kernel
theorem dX5_takeKind_47 : decode cX5_takeKind 47 = .ok (.invokevirtual 59, 3) := by decide +kernel
theorem dX5_takeKind_50 : decode cX5_takeKind 50 = .ok (.ifCond .eq 5, 3) := by decide +kernel
theorem dX5_takeKind_53 : decode cX5_takeKind 53 = .ok (.iconst 4, 1) := by decide +kernel
theorem dX5_takeKind_54 : decode cX5_takeKind 54 = .ok (.ireturn, 1) := by decide +kernel
theorem dX5_takeKind_55 : decode cX5_takeKind 55 = .ok (.aload_n 0, 1) := by decide +kernel
theorem dX5_takeKind_56 : decode cX5_takeKind 56 = .ok (.ldc 93, 2) := by decide +kernel
theorem dX5_takeKind_58 : decode cX5_takeKind 58 = .ok (.invokevirtual 59, 3) := by decide +kernel
theorem dX5_takeKind_61 : decode cX5_takeKind 61 = .ok (.ifCond .eq 7, 3) := by decide +kernel
theorem dX5_takeKind_64 : decode cX5_takeKind 64 = .ok (.iconst 5, 1) := by decide +kernel
theorem dX5_takeKind_65 : decode cX5_takeKind 65 = .ok (.goto 4, 3) := by decide +kernel
theorem dX5_takeKind_68 : decode cX5_takeKind 68 = .ok (.iconst (-1), 1) := by decide +kernel
theorem dX5_takeKind_69 : decode cX5_takeKind 69 = .ok (.ireturn, 1) := by decide +kernel
theorem dX5_takeRankName_0 : decode cX5_takeRankName 0 = .ok (.aload_n 0, 1) := by decide +kernel
theorem dX5_takeRankName_1 : decode cX5_takeRankName 1 = .ok (.ldc 95, 2) := by decide +kernel
theorem dX5_takeRankName_3 : decode cX5_takeRankName 3 = .ok (.invokevirtual 59, 3) := by decide +kernel
theorem dX5_takeRankName_6 : decode cX5_takeRankName 6 = .ok (.ifCond .eq 5, 3) := by decide +kernel
theorem dX5_takeRankName_9 : decode cX5_takeRankName 9 = .ok (.iconst 0, 1) := by decide +kernel
theorem dX5_takeRankName_10 : decode cX5_takeRankName 10 = .ok (.ireturn, 1) := by decide +kernel
theorem dX5_takeRankName_11 : decode cX5_takeRankName 11 = .ok (.aload_n 0, 1) := by decide +kernel
theorem dX5_takeRankName_12 : decode cX5_takeRankName 12 = .ok (.ldc 97, 2) := by decide +kernel
theorem dX5_takeRankName_14 : decode cX5_takeRankName 14 = .ok (.invokevirtual 59, 3) := by decide +kernel
theorem dX5_takeRankName_17 : decode cX5_takeRankName 17 = .ok (.ifCond .eq 5, 3) := by decide +kernel
theorem dX5_takeRankName_20 : decode cX5_takeRankName 20 = .ok (.iconst 1, 1) := by decide +kernel
theorem dX5_takeRankName_21 : decode cX5_takeRankName 21 = .ok (.ireturn, 1) := by decide +kernel
theorem dX5_takeRankName_22 : decode cX5_takeRankName 22 = .ok (.aload_n 0, 1) := by decide +kernel
theorem dX5_takeRankName_23 : decode cX5_takeRankName 23 = .ok (.ldc 99, 2) := by decide +kernel
theorem dX5_takeRankName_25 : decode cX5_takeRankName 25 = .ok (.invokevirtual 59, 3) := by decide +kernel
theorem dX5_takeRankName_28 : decode cX5_takeRankName 28 = .ok (.ifCond .eq 7, 3) := by decide +kernel
theorem dX5_takeRankName_31 : decode cX5_takeRankName 31 = .ok (.iconst 2, 1) := by decide +kernel
theorem dX5_takeRankName_32 : decode cX5_takeRankName 32 = .ok (.goto 4, 3) := by decide +kernel
theorem dX5_takeRankName_35 : decode cX5_takeRankName 35 = .ok (.iconst (-1), 1) := by decide +kernel
theorem dX5_takeRankName_36 : decode cX5_takeRankName 36 = .ok (.ireturn, 1) := by decide +kernel
theorem dX5_takeWord_0 : decode cX5_takeWord 0 = .ok (.aload_n 0, 1) := by decide +kernel
theorem dX5_takeWord_1 : decode cX5_takeWord 1 = .ok (.getfield 29, 3) := by decide +kernel
theorem dX5_takeWord_4 : decode cX5_takeWord 4 = .ok (.aload_n 0, 1) := by decide +kernel
theorem dX5_takeWord_5 : decode cX5_takeWord 5 = .ok (.getfield 50, 3) := by decide +kernel
theorem dX5_takeWord_8 : decode cX5_takeWord 8 = .ok (.isub, 1) := by decide +kernel
theorem dX5_takeWord_9 : decode cX5_takeWord 9 = .ok (.aload_n 1, 1) := by decide +kernel
theorem dX5_takeWord_10 : decode cX5_takeWord 10 = .ok (.invokevirtual 101, 3) := by decide +kernel
theorem dX5_takeWord_13 : decode cX5_takeWord 13 = .ok (.if_icmp .eq 5, 3) := by decide +kernel
theorem dX5_takeWord_16 : decode cX5_takeWord 16 = .ok (.iconst 0, 1) := by decide +kernel
theorem dX5_takeWord_17 : decode cX5_takeWord 17 = .ok (.ireturn, 1) := by decide +kernel
theorem dX5_takeWord_18 : decode cX5_takeWord 18 = .ok (.iconst 0, 1) := by decide +kernel
theorem dX5_takeWord_19 : decode cX5_takeWord 19 = .ok (.istore_n 2, 1) := by decide +kernel
theorem dX5_takeWord_20 : decode cX5_takeWord 20 = .ok (.iload_n 2, 1) := by decide +kernel
theorem dX5_takeWord_21 : decode cX5_takeWord 21 = .ok (.aload_n 1, 1) := by decide +kernel
theorem dX5_takeWord_22 : decode cX5_takeWord 22 = .ok (.invokevirtual 101, 3) := by decide +kernel
theorem dX5_takeWord_25 : decode cX5_takeWord 25 = .ok (.if_icmp .ge 32, 3) := by decide +kernel
theorem dX5_takeWord_28 : decode cX5_takeWord 28 = .ok (.aload_n 0, 1) := by decide +kernel
theorem dX5_takeWord_29 : decode cX5_takeWord 29 = .ok (.getfield 22, 3) := by decide +kernel
theorem dX5_takeWord_32 : decode cX5_takeWord 32 = .ok (.aload_n 0, 1) := by decide +kernel
theorem dX5_takeWord_33 : decode cX5_takeWord 33 = .ok (.getfield 50, 3) := by decide +kernel
theorem dX5_takeWord_36 : decode cX5_takeWord 36 = .ok (.iload_n 2, 1) := by decide +kernel
theorem dX5_takeWord_37 : decode cX5_takeWord 37 = .ok (.iadd, 1) := by decide +kernel
theorem dX5_takeWord_38 : decode cX5_takeWord 38 = .ok (.invokevirtual 53, 3) := by decide +kernel
theorem dX5_takeWord_41 : decode cX5_takeWord 41 = .ok (.aload_n 1, 1) := by decide +kernel
theorem dX5_takeWord_42 : decode cX5_takeWord 42 = .ok (.iload_n 2, 1) := by decide +kernel
theorem dX5_takeWord_43 : decode cX5_takeWord 43 = .ok (.invokevirtual 106, 3) := by decide +kernel
theorem dX5_takeWord_46 : decode cX5_takeWord 46 = .ok (.if_icmp .eq 5, 3) := by decide +kernel
theorem dX5_takeWord_49 : decode cX5_takeWord 49 = .ok (.iconst 0, 1) := by decide +kernel
theorem dX5_takeWord_50 : decode cX5_takeWord 50 = .ok (.ireturn, 1) := by decide +kernel
theorem dX5_takeWord_51 : decode cX5_takeWord 51 = .ok (.iinc 2 1, 3) := by decide +kernel
theorem dX5_takeWord_54 : decode cX5_takeWord 54 = .ok (.goto (-34), 3) := by decide +kernel
theorem dX5_takeWord_57 : decode cX5_takeWord 57 = .ok (.aload_n 0, 1) := by decide +kernel
theorem dX5_takeWord_58 : decode cX5_takeWord 58 = .ok (.invokevirtual 32, 3) := by decide +kernel
theorem dX5_takeWord_61 : decode cX5_takeWord 61 = .ok (.iconst 1, 1) := by decide +kernel
theorem dX5_takeWord_62 : decode cX5_takeWord 62 = .ok (.ireturn, 1) := by decide +kernel
theorem dX5_takeNumber_0 : decode cX5_takeNumber 0 = .ok (.aload_n 0, 1) := by decide +kernel
theorem dX5_takeNumber_1 : decode cX5_takeNumber 1 = .ok (.getfield 22, 3) := by decide +kernel
theorem dX5_takeNumber_4 : decode cX5_takeNumber 4 = .ok (.aload_n 0, 1) := by decide +kernel
theorem dX5_takeNumber_5 : decode cX5_takeNumber 5 = .ok (.getfield 50, 3) := by decide +kernel
theorem dX5_takeNumber_8 : decode cX5_takeNumber 8 = .ok (.invokevirtual 53, 3) := by decide +kernel
theorem dX5_takeNumber_11 : decode cX5_takeNumber 11 = .ok (.invokestatic 110, 3) := by decide +kernel
theorem dX5_takeNumber_14 : decode cX5_takeNumber 14 = .ok (.iconst 1, 1) := by decide +kernel
theorem dX5_takeNumber_15 : decode cX5_takeNumber 15 = .ok (.if_icmp .eq 5, 3) := by decide +kernel
theorem dX5_takeNumber_18 : decode cX5_takeNumber 18 = .ok (.iconst (-1), 1) := by decide +kernel
theorem dX5_takeNumber_19 : decode cX5_takeNumber 19 = .ok (.ireturn, 1) := by decide +kernel
theorem dX5_takeNumber_20 : decode cX5_takeNumber 20 = .ok (.iconst 0, 1) := by decide +kernel
theorem dX5_takeNumber_21 : decode cX5_takeNumber 21 = .ok (.istore_n 3, 1) := by decide +kernel
theorem dX5_takeNumber_22 : decode cX5_takeNumber 22 = .ok (.aload_n 0, 1) := by decide +kernel
theorem dX5_takeNumber_23 : decode cX5_takeNumber 23 = .ok (.getfield 50, 3) := by decide +kernel
theorem dX5_takeNumber_26 : decode cX5_takeNumber 26 = .ok (.istore 4, 2) := by decide +kernel
theorem dX5_takeNumber_28 : decode cX5_takeNumber 28 = .ok (.iload 4, 2) := by decide +kernel
theorem dX5_takeNumber_30 : decode cX5_takeNumber 30 = .ok (.aload_n 0, 1) := by decide +kernel
theorem dX5_takeNumber_31 : decode cX5_takeNumber 31 = .ok (.getfield 29, 3) := by decide +kernel
theorem dX5_takeNumber_34 : decode cX5_takeNumber 34 = .ok (.if_icmp .ge 32, 3) := by decide +kernel
theorem dX5_takeNumber_37 : decode cX5_takeNumber 37 = .ok (.iload_n 3, 1) := by decide +kernel
theorem dX5_takeNumber_38 : decode cX5_takeNumber 38 = .ok (.bipush 10, 2) := by decide +kernel
theorem dX5_takeNumber_40 : decode cX5_takeNumber 40 = .ok (.imul, 1) := by decide +kernel
theorem dX5_takeNumber_41 : decode cX5_takeNumber 41 = .ok (.aload_n 0, 1) := by decide +kernel
theorem dX5_takeNumber_42 : decode cX5_takeNumber 42 = .ok (.getfield 22, 3) := by decide +kernel
theorem dX5_takeNumber_45 : decode cX5_takeNumber 45 = .ok (.iload 4, 2) := by decide +kernel
theorem dX5_takeNumber_47 : decode cX5_takeNumber 47 = .ok (.invokevirtual 53, 3) := by decide +kernel
theorem dX5_takeNumber_50 : decode cX5_takeNumber 50 = .ok (.iadd, 1) := by decide +kernel
theorem dX5_takeNumber_51 : decode cX5_takeNumber 51 = .ok (.bipush 48, 2) := by decide +kernel
theorem dX5_takeNumber_53 : decode cX5_takeNumber 53 = .ok (.isub, 1) := by decide +kernel
theorem dX5_takeNumber_54 : decode cX5_takeNumber 54 = .ok (.ldc 113, 2) := by decide +kernel
theorem dX5_takeNumber_56 : decode cX5_takeNumber 56 = .ok (.invokestatic 114, 3) := by decide +kernel
theorem dX5_takeNumber_59 : decode cX5_takeNumber 59 = .ok (.istore_n 3, 1) := by decide +kernel
theorem dX5_takeNumber_60 : decode cX5_takeNumber 60 = .ok (.iinc 4 1, 3) := by decide +kernel
theorem dX5_takeNumber_63 : decode cX5_takeNumber 63 = .ok (.goto (-35), 3) := by decide +kernel
theorem dX5_takeNumber_66 : decode cX5_takeNumber 66 = .ok (.iload_n 3, 1) := by decide +kernel
theorem dX5_takeNumber_67 : decode cX5_takeNumber 67 = .ok (.iload_n 1, 1) := by decide +kernel
theorem dX5_takeNumber_68 : decode cX5_takeNumber 68 = .ok (.iload_n 2, 1) := by decide +kernel
theorem dX5_takeNumber_69 : decode cX5_takeNumber 69 = .ok (.invokestatic 119, 3) := by decide +kernel
theorem dX5_takeNumber_72 : decode cX5_takeNumber 72 = .ok (.ifCond .ne 5, 3) := by decide +kernel
theorem dX5_takeNumber_75 : decode cX5_takeNumber 75 = .ok (.iconst (-1), 1) := by decide +kernel
theorem dX5_takeNumber_76 : decode cX5_takeNumber 76 = .ok (.ireturn, 1) := by decide +kernel
theorem dX5_takeNumber_77 : decode cX5_takeNumber 77 = .ok (.aload_n 0, 1) := by decide +kernel
theorem dX5_takeNumber_78 : decode cX5_takeNumber 78 = .ok (.invokevirtual 32, 3) := by decide +kernel
theorem dX5_takeNumber_81 : decode cX5_takeNumber 81 = .ok (.iload_n 3, 1) := by decide +kernel
theorem dX5_takeNumber_82 : decode cX5_takeNumber 82 = .ok (.ireturn, 1) := by decide +kernel
theorem dX5_isAtEnd_0 : decode cX5_isAtEnd 0 = .ok (.aload_n 0, 1) := by decide +kernel
theorem dX5_isAtEnd_1 : decode cX5_isAtEnd 1 = .ok (.getfield 50, 3) := by decide +kernel
theorem dX5_isAtEnd_4 : decode cX5_isAtEnd 4 = .ok (.aload_n 0, 1) := by decide +kernel
theorem dX5_isAtEnd_5 : decode cX5_isAtEnd 5 = .ok (.getfield 22, 3) := by decide +kernel
theorem dX5_isAtEnd_8 : decode cX5_isAtEnd 8 = .ok (.getfield 39, 3) := by decide +kernel
theorem dX5_isAtEnd_11 : decode cX5_isAtEnd 11 = .ok (.if_icmp .lt 7, 3) := by decide +kernel
theorem dX5_isAtEnd_14 : decode cX5_isAtEnd 14 = .ok (.iconst 1, 1) := by decide +kernel
theorem dX5_isAtEnd_15 : decode cX5_isAtEnd 15 = .ok (.goto 4, 3) := by decide +kernel
theorem dX5_isAtEnd_18 : decode cX5_isAtEnd 18 = .ok (.iconst 0, 1) := by decide +kernel
theorem dX5_isAtEnd_19 : decode cX5_isAtEnd 19 = .ok (.ireturn, 1) := by decide +kernel
theorem dX5_step_0 : decode cX5_step 0 = .ok (.aload_n 0, 1) := by decide +kernel
theorem dX5_step_1 : decode cX5_step 1 = .ok (.getfield 29, 3) := by decide +kernel
theorem dX5_step_4 : decode cX5_step 4 = .ok (.istore_n 1, 1) := by decide +kernel
theorem dX5_step_5 : decode cX5_step 5 = .ok (.iload_n 1, 1) := by decide +kernel
theorem dX5_step_6 : decode cX5_step 6 = .ok (.aload_n 0, 1) := by decide +kernel
theorem dX5_step_7 : decode cX5_step 7 = .ok (.getfield 22, 3) := by decide +kernel
theorem dX5_step_10 : decode cX5_step 10 = .ok (.getfield 39, 3) := by decide +kernel
theorem dX5_step_13 : decode cX5_step 13 = .ok (.if_icmp .ge 22, 3) := by decide +kernel
theorem dX5_step_16 : decode cX5_step 16 = .ok (.aload_n 0, 1) := by decide +kernel
theorem dX5_step_17 : decode cX5_step 17 = .ok (.getfield 22, 3) := by decide +kernel
theorem dX5_step_20 : decode cX5_step 20 = .ok (.iload_n 1, 1) := by decide +kernel
theorem dX5_step_21 : decode cX5_step 21 = .ok (.invokevirtual 53, 3) := by decide +kernel
theorem dX5_step_24 : decode cX5_step 24 = .ok (.bipush 32, 2) := by decide +kernel
theorem dX5_step_26 : decode cX5_step 26 = .ok (.if_icmp .ne 9, 3) := by decide +kernel
theorem dX5_step_29 : decode cX5_step 29 = .ok (.iinc 1 1, 3) := by decide +kernel
theorem dX5_step_32 : decode cX5_step 32 = .ok (.goto (-27), 3) := by decide +kernel
theorem dX5_step_35 : decode cX5_step 35 = .ok (.aload_n 0, 1) := by decide +kernel
theorem dX5_step_36 : decode cX5_step 36 = .ok (.iload_n 1, 1) := by decide +kernel
theorem dX5_step_37 : decode cX5_step 37 = .ok (.putfield 50, 3) := by decide +kernel
theorem dX5_step_40 : decode cX5_step 40 = .ok (.aload_n 0, 1) := by decide +kernel
theorem dX5_step_41 : decode cX5_step 41 = .ok (.getfield 22, 3) := by decide +kernel
theorem dX5_step_44 : decode cX5_step 44 = .ok (.iload_n 1, 1) := by decide +kernel
theorem dX5_step_45 : decode cX5_step 45 = .ok (.invokevirtual 53, 3) := by decide +kernel
theorem dX5_step_48 : decode cX5_step 48 = .ok (.invokestatic 110, 3) := by decide +kernel
theorem dX5_step_51 : decode cX5_step 51 = .ok (.istore_n 2, 1) := by decide +kernel
theorem dX5_step_52 : decode cX5_step 52 = .ok (.iload_n 1, 1) := by decide +kernel
theorem dX5_step_53 : decode cX5_step 53 = .ok (.aload_n 0, 1) := by decide +kernel
theorem dX5_step_54 : decode cX5_step 54 = .ok (.getfield 22, 3) := by decide +kernel
theorem dX5_step_57 : decode cX5_step 57 = .ok (.getfield 39, 3) := by decide +kernel
theorem dX5_step_60 : decode cX5_step 60 = .ok (.if_icmp .ge 6, 3) := by decide +kernel
theorem dX5_step_63 : decode cX5_step 63 = .ok (.iinc 1 1, 3) := by decide +kernel
theorem dX5_step_66 : decode cX5_step 66 = .ok (.iload_n 2, 1) := by decide +kernel
theorem dX5_step_67 : decode cX5_step 67 = .ok (.iconst 2, 1) := by decide +kernel
theorem dX5_step_68 : decode cX5_step 68 = .ok (.if_icmp .eq 35, 3) := by decide +kernel
theorem dX5_step_71 : decode cX5_step 71 = .ok (.iload_n 1, 1) := by decide +kernel
theorem dX5_step_72 : decode cX5_step 72 = .ok (.aload_n 0, 1) := by decide +kernel
theorem dX5_step_73 : decode cX5_step 73 = .ok (.getfield 22, 3) := by decide +kernel
theorem dX5_step_76 : decode cX5_step 76 = .ok (.getfield 39, 3) := by decide +kernel
theorem dX5_step_79 : decode cX5_step 79 = .ok (.if_icmp .ge 24, 3) := by decide +kernel
theorem dX5_step_82 : decode cX5_step 82 = .ok (.aload_n 0, 1) := by decide +kernel
theorem dX5_step_83 : decode cX5_step 83 = .ok (.getfield 22, 3) := by decide +kernel
theorem dX5_step_86 : decode cX5_step 86 = .ok (.iload_n 1, 1) := by decide +kernel
theorem dX5_step_87 : decode cX5_step 87 = .ok (.invokevirtual 53, 3) := by decide +kernel
theorem dX5_step_90 : decode cX5_step 90 = .ok (.invokestatic 110, 3) := by decide +kernel
theorem dX5_step_93 : decode cX5_step 93 = .ok (.iload_n 2, 1) := by decide +kernel
theorem dX5_step_94 : decode cX5_step 94 = .ok (.if_icmp .ne 9, 3) := by decide +kernel
theorem dX5_step_97 : decode cX5_step 97 = .ok (.iinc 1 1, 3) := by decide +kernel
theorem dX5_step_100 : decode cX5_step 100 = .ok (.goto (-34), 3) := by decide +kernel
theorem dX5_step_103 : decode cX5_step 103 = .ok (.aload_n 0, 1) := by decide +kernel
theorem dX5_step_104 : decode cX5_step 104 = .ok (.iload_n 1, 1) := by decide +kernel
theorem dX5_step_105 : decode cX5_step 105 = .ok (.putfield 29, 3) := by decide +kernel
theorem dX5_step_108 : decode cX5_step 108 = .ok (.return_, 1) := by decide +kernel
theorem dX5_mostOf_0 : decode cX5_mostOf 0 = .ok (.iload_n 0, 1) := by decide +kernel
theorem dX5_mostOf_1 : decode cX5_mostOf 1 = .ok (.iconst 5, 1) := by decide +kernel
theorem dX5_mostOf_2 : decode cX5_mostOf 2 = .ok (.if_icmp .ne 7, 3) := by decide +kernel
theorem dX5_mostOf_5 : decode cX5_mostOf 5 = .ok (.iconst 2, 1) := by decide +kernel
theorem dX5_mostOf_6 : decode cX5_mostOf 6 = .ok (.goto 5, 3) := by decide +kernel
theorem dX5_mostOf_9 : decode cX5_mostOf 9 = .ok (.ldc 123, 2) := by decide +kernel
theorem dX5_mostOf_11 : decode cX5_mostOf 11 = .ok (.ireturn, 1) := by decide +kernel
theorem dX5_byteKind_0 : decode cX5_byteKind 0 = .ok (.iload_n 0, 1) := by decide +kernel
theorem dX5_byteKind_1 : decode cX5_byteKind 1 = .ok (.bipush 97, 2) := by decide +kernel
theorem dX5_byteKind_3 : decode cX5_byteKind 3 = .ok (.if_icmp .lt 11, 3) := by decide +kernel
theorem dX5_byteKind_6 : decode cX5_byteKind 6 = .ok (.iload_n 0, 1) := by decide +kernel
theorem dX5_byteKind_7 : decode cX5_byteKind 7 = .ok (.bipush 122, 2) := by decide +kernel
theorem dX5_byteKind_9 : decode cX5_byteKind 9 = .ok (.if_icmp .gt 5, 3) := by decide +kernel
theorem dX5_byteKind_12 : decode cX5_byteKind 12 = .ok (.iconst 0, 1) := by decide +kernel
theorem dX5_byteKind_13 : decode cX5_byteKind 13 = .ok (.ireturn, 1) := by decide +kernel
theorem dX5_byteKind_14 : decode cX5_byteKind 14 = .ok (.iload_n 0, 1) := by decide +kernel
theorem dX5_byteKind_15 : decode cX5_byteKind 15 = .ok (.bipush 48, 2) := by decide +kernel
theorem dX5_byteKind_17 : decode cX5_byteKind 17 = .ok (.if_icmp .lt 13, 3) := by decide +kernel
theorem dX5_byteKind_20 : decode cX5_byteKind 20 = .ok (.iload_n 0, 1) := by decide +kernel
theorem dX5_byteKind_21 : decode cX5_byteKind 21 = .ok (.bipush 57, 2) := by decide +kernel
theorem dX5_byteKind_23 : decode cX5_byteKind 23 = .ok (.if_icmp .gt 7, 3) := by decide +kernel
theorem dX5_byteKind_26 : decode cX5_byteKind 26 = .ok (.iconst 1, 1) := by decide +kernel
theorem dX5_byteKind_27 : decode cX5_byteKind 27 = .ok (.goto 4, 3) := by decide +kernel
theorem dX5_byteKind_30 : decode cX5_byteKind 30 = .ok (.iconst 2, 1) := by decide +kernel
theorem dX5_byteKind_31 : decode cX5_byteKind 31 = .ok (.ireturn, 1) := by decide +kernel
theorem dX6_init_0 : decode cX6_init 0 = .ok (.aload_n 0, 1) := by decide +kernel
theorem dX6_init_1 : decode cX6_init 1 = .ok (.invokespecial 3, 3) := by decide +kernel
theorem dX6_init_4 : decode cX6_init 4 = .ok (.aload_n 0, 1) := by decide +kernel
theorem dX6_init_5 : decode cX6_init 5 = .ok (.bipush 80, 2) := by decide +kernel
theorem dX6_init_7 : decode cX6_init 7 = .ok (.newarray .int, 2) := by decide +kernel
theorem dX6_init_9 : decode cX6_init 9 = .ok (.putfield 9, 3) := by decide +kernel
theorem dX6_init_12 : decode cX6_init 12 = .ok (.aload_n 0, 1) := by decide +kernel
theorem dX6_init_13 : decode cX6_init 13 = .ok (.bipush 80, 2) := by decide +kernel
theorem dX6_init_15 : decode cX6_init 15 = .ok (.newarray .int, 2) := by decide +kernel
theorem dX6_init_17 : decode cX6_init 17 = .ok (.putfield 15, 3) := by decide +kernel
theorem dX6_init_20 : decode cX6_init 20 = .ok (.aload_n 0, 1) := by decide +kernel
theorem dX6_init_21 : decode cX6_init 21 = .ok (.bipush 80, 2) := by decide +kernel
theorem dX6_init_23 : decode cX6_init 23 = .ok (.newarray .int, 2) := by decide +kernel
theorem dX6_init_25 : decode cX6_init 25 = .ok (.putfield 18, 3) := by decide +kernel
theorem dX6_init_28 : decode cX6_init 28 = .ok (.aload_n 0, 1) := by decide +kernel
theorem dX6_init_29 : decode cX6_init 29 = .ok (.bipush 80, 2) := by decide +kernel
theorem dX6_init_31 : decode cX6_init 31 = .ok (.newarray .int, 2) := by decide +kernel
theorem dX6_init_33 : decode cX6_init 33 = .ok (.putfield 21, 3) := by decide +kernel
theorem dX6_init_36 : decode cX6_init 36 = .ok (.aload_n 0, 1) := by decide +kernel
theorem dX6_init_37 : decode cX6_init 37 = .ok (.bipush 80, 2) := by decide +kernel
theorem dX6_init_39 : decode cX6_init 39 = .ok (.newarray .int, 2) := by decide +kernel
theorem dX6_init_41 : decode cX6_init 41 = .ok (.putfield 24, 3) := by decide +kernel
theorem dX6_init_44 : decode cX6_init 44 = .ok (.aload_n 0, 1) := by decide +kernel
theorem dX6_init_45 : decode cX6_init 45 = .ok (.new 27, 3) := by decide +kernel
theorem dX6_init_48 : decode cX6_init 48 = .ok (.dup, 1) := by decide +kernel
theorem dX6_init_49 : decode cX6_init 49 = .ok (.bipush 80, 2) := by decide +kernel
theorem dX6_init_51 : decode cX6_init 51 = .ok (.invokespecial 29, 3) := by decide +kernel
theorem dX6_init_54 : decode cX6_init 54 = .ok (.putfield 32, 3) := by decide +kernel
theorem dX6_init_57 : decode cX6_init 57 = .ok (.return_, 1) := by decide +kernel
theorem dX6_has_0 : decode cX6_has 0 = .ok (.iload_n 1, 1) := by decide +kernel
theorem dX6_has_1 : decode cX6_has 1 = .ok (.iconst 0, 1) := by decide +kernel
theorem dX6_has_2 : decode cX6_has 2 = .ok (.aload_n 0, 1) := by decide +kernel
theorem dX6_has_3 : decode cX6_has 3 = .ok (.getfield 36, 3) := by decide +kernel
theorem dX6_has_6 : decode cX6_has 6 = .ok (.iconst 1, 1) := by decide +kernel
theorem dX6_has_7 : decode cX6_has 7 = .ok (.isub, 1) := by decide +kernel
theorem dX6_has_8 : decode cX6_has 8 = .ok (.invokestatic 40, 3) := by decide +kernel
theorem dX6_has_11 : decode cX6_has 11 = .ok (.ireturn, 1) := by decide +kernel
theorem dX6_stamp_0 : decode cX6_stamp 0 = .ok (.aload_n 0, 1) := by decide +kernel
theorem dX6_stamp_1 : decode cX6_stamp 1 = .ok (.getfield 36, 3) := by decide +kernel
theorem dX6_stamp_4 : decode cX6_stamp 4 = .ok (.bipush 80, 2) := by decide +kernel
theorem dX6_stamp_6 : decode cX6_stamp 6 = .ok (.if_icmp .lt 6, 3) := by decide +kernel
theorem dX6_stamp_9 : decode cX6_stamp 9 = .ok (.bipush (-5), 2) := by decide +kernel
theorem dX6_stamp_11 : decode cX6_stamp 11 = .ok (.ireturn, 1) := by decide +kernel
theorem dX6_stamp_12 : decode cX6_stamp 12 = .ok (.aload_n 0, 1) := by decide +kernel
theorem dX6_stamp_13 : decode cX6_stamp 13 = .ok (.getfield 9, 3) := by decide +kernel
theorem dX6_stamp_16 : decode cX6_stamp 16 = .ok (.aload_n 0, 1) := by decide +kernel
theorem dX6_stamp_17 : decode cX6_stamp 17 = .ok (.getfield 36, 3) := by decide +kernel
theorem dX6_stamp_20 : decode cX6_stamp 20 = .ok (.iload_n 2, 1) := by decide +kernel
theorem dX6_stamp_21 : decode cX6_stamp 21 = .ok (.iastore, 1) := by decide +kernel
theorem dX6_stamp_22 : decode cX6_stamp 22 = .ok (.aload_n 0, 1) := by decide +kernel
theorem dX6_stamp_23 : decode cX6_stamp 23 = .ok (.getfield 15, 3) := by decide +kernel
theorem dX6_stamp_26 : decode cX6_stamp 26 = .ok (.aload_n 0, 1) := by decide +kernel
theorem dX6_stamp_27 : decode cX6_stamp 27 = .ok (.getfield 36, 3) := by decide +kernel
theorem dX6_stamp_30 : decode cX6_stamp 30 = .ok (.iload_n 3, 1) := by decide +kernel
theorem dX6_stamp_31 : decode cX6_stamp 31 = .ok (.iastore, 1) := by decide +kernel
theorem dX6_stamp_32 : decode cX6_stamp 32 = .ok (.aload_n 0, 1) := by decide +kernel
theorem dX6_stamp_33 : decode cX6_stamp 33 = .ok (.getfield 18, 3) := by decide +kernel
theorem dX6_stamp_36 : decode cX6_stamp 36 = .ok (.aload_n 0, 1) := by decide +kernel
theorem dX6_stamp_37 : decode cX6_stamp 37 = .ok (.getfield 36, 3) := by decide +kernel
theorem dX6_stamp_40 : decode cX6_stamp 40 = .ok (.iload 4, 2) := by decide +kernel
theorem dX6_stamp_42 : decode cX6_stamp 42 = .ok (.iastore, 1) := by decide +kernel
theorem dX6_stamp_43 : decode cX6_stamp 43 = .ok (.aload_n 0, 1) := by decide +kernel
theorem dX6_stamp_44 : decode cX6_stamp 44 = .ok (.getfield 21, 3) := by decide +kernel
theorem dX6_stamp_47 : decode cX6_stamp 47 = .ok (.aload_n 0, 1) := by decide +kernel
theorem dX6_stamp_48 : decode cX6_stamp 48 = .ok (.getfield 36, 3) := by decide +kernel
theorem dX6_stamp_51 : decode cX6_stamp 51 = .ok (.iload 5, 2) := by decide +kernel
theorem dX6_stamp_53 : decode cX6_stamp 53 = .ok (.iastore, 1) := by decide +kernel
theorem dX6_stamp_54 : decode cX6_stamp 54 = .ok (.aload_n 0, 1) := by decide +kernel
theorem dX6_stamp_55 : decode cX6_stamp 55 = .ok (.getfield 24, 3) := by decide +kernel
theorem dX6_stamp_58 : decode cX6_stamp 58 = .ok (.aload_n 0, 1) := by decide +kernel
theorem dX6_stamp_59 : decode cX6_stamp 59 = .ok (.getfield 36, 3) := by decide +kernel
theorem dX6_stamp_62 : decode cX6_stamp 62 = .ok (.sipush 200, 3) := by decide +kernel
theorem dX6_stamp_65 : decode cX6_stamp 65 = .ok (.iastore, 1) := by decide +kernel
theorem dX6_stamp_66 : decode cX6_stamp 66 = .ok (.aload_n 0, 1) := by decide +kernel
theorem dX6_stamp_67 : decode cX6_stamp 67 = .ok (.getfield 32, 3) := by decide +kernel
theorem dX6_stamp_70 : decode cX6_stamp 70 = .ok (.iload_n 1, 1) := by decide +kernel
theorem dX6_stamp_71 : decode cX6_stamp 71 = .ok (.aload_n 0, 1) := by decide +kernel
theorem dX6_stamp_72 : decode cX6_stamp 72 = .ok (.getfield 36, 3) := by decide +kernel
theorem dX6_stamp_75 : decode cX6_stamp 75 = .ok (.invokevirtual 44, 3) := by decide +kernel
theorem dX6_stamp_78 : decode cX6_stamp 78 = .ok (.aload_n 0, 1) := by decide +kernel
theorem dX6_stamp_79 : decode cX6_stamp 79 = .ok (.dup, 1) := by decide +kernel
theorem dX6_stamp_80 : decode cX6_stamp 80 = .ok (.getfield 36, 3) := by decide +kernel
theorem dX6_stamp_83 : decode cX6_stamp 83 = .ok (.iconst 1, 1) := by decide +kernel
theorem dX6_stamp_84 : decode cX6_stamp 84 = .ok (.iadd, 1) := by decide +kernel
theorem dX6_stamp_85 : decode cX6_stamp 85 = .ok (.putfield 36, 3) := by decide +kernel
theorem dX6_stamp_88 : decode cX6_stamp 88 = .ok (.aload_n 0, 1) := by decide +kernel
theorem dX6_stamp_89 : decode cX6_stamp 89 = .ok (.getfield 36, 3) := by decide +kernel
theorem dX6_stamp_92 : decode cX6_stamp 92 = .ok (.iconst 1, 1) := by decide +kernel
theorem dX6_stamp_93 : decode cX6_stamp 93 = .ok (.isub, 1) := by decide +kernel
theorem dX6_stamp_94 : decode cX6_stamp 94 = .ok (.ireturn, 1) := by decide +kernel
theorem dX6_close_0 : decode cX6_close 0 = .ok (.aload_n 0, 1) := by decide +kernel
theorem dX6_close_1 : decode cX6_close 1 = .ok (.getfield 24, 3) := by decide +kernel
theorem dX6_close_4 : decode cX6_close 4 = .ok (.iload_n 1, 1) := by decide +kernel
theorem dX6_close_5 : decode cX6_close 5 = .ok (.aload_n 0, 1) := by decide +kernel
theorem dX6_close_6 : decode cX6_close 6 = .ok (.getfield 24, 3) := by decide +kernel
theorem dX6_close_9 : decode cX6_close 9 = .ok (.iload_n 1, 1) := by decide +kernel
theorem dX6_close_10 : decode cX6_close 10 = .ok (.iaload, 1) := by decide +kernel
theorem dX6_close_11 : decode cX6_close 11 = .ok (.iload_n 2, 1) := by decide +kernel
theorem dX6_close_12 : decode cX6_close 12 = .ok (.iconst 1, 1) := by decide +kernel
theorem dX6_close_13 : decode cX6_close 13 = .ok (.isub, 1) := by decide +kernel
theorem dX6_close_14 : decode cX6_close 14 = .ok (.invokestatic 48, 3) := by decide +kernel
theorem dX6_close_17 : decode cX6_close 17 = .ok (.iastore, 1) := by decide +kernel
theorem dX6_close_18 : decode cX6_close 18 = .ok (.return_, 1) := by decide +kernel
theorem dX6_isOpen_0 : decode cX6_isOpen 0 = .ok (.iload_n 2, 1) := by decide +kernel
theorem dX6_isOpen_1 : decode cX6_isOpen 1 = .ok (.aload_n 0, 1) := by decide +kernel
theorem dX6_isOpen_2 : decode cX6_isOpen 2 = .ok (.getfield 21, 3) := by decide +kernel
theorem dX6_isOpen_5 : decode cX6_isOpen 5 = .ok (.iload_n 1, 1) := by decide +kernel
theorem dX6_isOpen_6 : decode cX6_isOpen 6 = .ok (.iaload, 1) := by decide +kernel
theorem dX6_isOpen_7 : decode cX6_isOpen 7 = .ok (.aload_n 0, 1) := by decide +kernel
theorem dX6_isOpen_8 : decode cX6_isOpen 8 = .ok (.getfield 24, 3) := by decide +kernel
theorem dX6_isOpen_11 : decode cX6_isOpen 11 = .ok (.iload_n 1, 1) := by decide +kernel
theorem dX6_isOpen_12 : decode cX6_isOpen 12 = .ok (.iaload, 1) := by decide +kernel
theorem dX6_isOpen_13 : decode cX6_isOpen 13 = .ok (.invokestatic 40, 3) := by decide +kernel
theorem dX6_isOpen_16 : decode cX6_isOpen 16 = .ok (.ireturn, 1) := by decide +kernel
theorem dX6_isGrantOf_0 : decode cX6_isGrantOf 0 = .ok (.aload_n 0, 1) := by decide +kernel
theorem dX6_isGrantOf_1 : decode cX6_isGrantOf 1 = .ok (.getfield 15, 3) := by decide +kernel
theorem dX6_isGrantOf_4 : decode cX6_isGrantOf 4 = .ok (.iload_n 1, 1) := by decide +kernel
theorem dX6_isGrantOf_5 : decode cX6_isGrantOf 5 = .ok (.iaload, 1) := by decide +kernel
theorem dX6_isGrantOf_6 : decode cX6_isGrantOf 6 = .ok (.iconst 2, 1) := by decide +kernel
theorem dX6_isGrantOf_7 : decode cX6_isGrantOf 7 = .ok (.if_icmp .ne 17, 3) := by decide +kernel
theorem dX6_isGrantOf_10 : decode cX6_isGrantOf 10 = .ok (.aload_n 0, 1) := by decide +kernel
theorem dX6_isGrantOf_11 : decode cX6_isGrantOf 11 = .ok (.getfield 18, 3) := by decide +kernel
theorem dX6_isGrantOf_14 : decode cX6_isGrantOf 14 = .ok (.iload_n 1, 1) := by decide +kernel
theorem dX6_isGrantOf_15 : decode cX6_isGrantOf 15 = .ok (.iaload, 1) := by decide +kernel
theorem dX6_isGrantOf_16 : decode cX6_isGrantOf 16 = .ok (.iload_n 2, 1) := by decide +kernel
theorem dX6_isGrantOf_17 : decode cX6_isGrantOf 17 = .ok (.if_icmp .ne 7, 3) := by decide +kernel
theorem dX6_isGrantOf_20 : decode cX6_isGrantOf 20 = .ok (.iconst 1, 1) := by decide +kernel
theorem dX6_isGrantOf_21 : decode cX6_isGrantOf 21 = .ok (.goto 4, 3) := by decide +kernel
theorem dX6_isGrantOf_24 : decode cX6_isGrantOf 24 = .ok (.iconst 0, 1) := by decide +kernel
theorem dX6_isGrantOf_25 : decode cX6_isGrantOf 25 = .ok (.ireturn, 1) := by decide +kernel
theorem dX7_init_0 : decode cX7_init 0 = .ok (.aload_n 0, 1) := by decide +kernel
theorem dX7_init_1 : decode cX7_init 1 = .ok (.invokespecial 3, 3) := by decide +kernel
theorem dX7_init_4 : decode cX7_init 4 = .ok (.aload_n 0, 1) := by decide +kernel
theorem dX7_init_5 : decode cX7_init 5 = .ok (.bipush 80, 2) := by decide +kernel
theorem dX7_init_7 : decode cX7_init 7 = .ok (.newarray .int, 2) := by decide +kernel
theorem dX7_init_9 : decode cX7_init 9 = .ok (.putfield 9, 3) := by decide +kernel
theorem dX7_init_12 : decode cX7_init 12 = .ok (.aload_n 0, 1) := by decide +kernel
theorem dX7_init_13 : decode cX7_init 13 = .ok (.bipush 80, 2) := by decide +kernel
theorem dX7_init_15 : decode cX7_init 15 = .ok (.newarray .int, 2) := by decide +kernel
theorem dX7_init_17 : decode cX7_init 17 = .ok (.putfield 15, 3) := by decide +kernel
theorem dX7_init_20 : decode cX7_init 20 = .ok (.aload_n 0, 1) := by decide +kernel
theorem dX7_init_21 : decode cX7_init 21 = .ok (.bipush 80, 2) := by decide +kernel
theorem dX7_init_23 : decode cX7_init 23 = .ok (.newarray .int, 2) := by decide +kernel
theorem dX7_init_25 : decode cX7_init 25 = .ok (.putfield 18, 3) := by decide +kernel
theorem dX7_init_28 : decode cX7_init 28 = .ok (.return_, 1) := by decide +kernel
theorem dX7_clear_0 : decode cX7_clear 0 = .ok (.aload_n 0, 1) := by decide +kernel
theorem dX7_clear_1 : decode cX7_clear 1 = .ok (.iconst 0, 1) := by decide +kernel
theorem dX7_clear_2 : decode cX7_clear 2 = .ok (.putfield 21, 3) := by decide +kernel
theorem dX7_clear_5 : decode cX7_clear 5 = .ok (.aload_n 0, 1) := by decide +kernel
theorem dX7_clear_6 : decode cX7_clear 6 = .ok (.iconst 0, 1) := by decide +kernel
theorem dX7_clear_7 : decode cX7_clear 7 = .ok (.putfield 25, 3) := by decide +kernel
theorem dX7_clear_10 : decode cX7_clear 10 = .ok (.return_, 1) := by decide +kernel
theorem dX7_add_0 : decode cX7_add 0 = .ok (.iload_n 2, 1) := by decide +kernel
theorem dX7_add_1 : decode cX7_add 1 = .ok (.ifCond .le 12, 3) := by decide +kernel
theorem dX7_add_4 : decode cX7_add 4 = .ok (.aload_n 0, 1) := by decide +kernel
theorem dX7_add_5 : decode cX7_add 5 = .ok (.getfield 25, 3) := by decide +kernel
theorem dX7_add_8 : decode cX7_add 8 = .ok (.bipush 80, 2) := by decide +kernel
theorem dX7_add_10 : decode cX7_add 10 = .ok (.if_icmp .lt 4, 3) := by decide +kernel
theorem dX7_add_13 : decode cX7_add 13 = .ok (.return_, 1) := by decide +kernel
theorem dX7_add_14 : decode cX7_add 14 = .ok (.aload_n 0, 1) := by decide +kernel
theorem dX7_add_15 : decode cX7_add 15 = .ok (.getfield 9, 3) := by decide +kernel
theorem dX7_add_18 : decode cX7_add 18 = .ok (.aload_n 0, 1) := by decide +kernel
theorem dX7_add_19 : decode cX7_add 19 = .ok (.getfield 25, 3) := by decide +kernel
theorem dX7_add_22 : decode cX7_add 22 = .ok (.iload_n 1, 1) := by decide +kernel
theorem dX7_add_23 : decode cX7_add 23 = .ok (.iastore, 1) := by decide +kernel
theorem dX7_add_24 : decode cX7_add 24 = .ok (.aload_n 0, 1) := by decide +kernel
theorem dX7_add_25 : decode cX7_add 25 = .ok (.getfield 15, 3) := by decide +kernel
theorem dX7_add_28 : decode cX7_add 28 = .ok (.aload_n 0, 1) := by decide +kernel
theorem dX7_add_29 : decode cX7_add 29 = .ok (.getfield 25, 3) := by decide +kernel
theorem dX7_add_32 : decode cX7_add 32 = .ok (.iload_n 2, 1) := by decide +kernel
theorem dX7_add_33 : decode cX7_add 33 = .ok (.iastore, 1) := by decide +kernel
theorem dX7_add_34 : decode cX7_add 34 = .ok (.aload_n 0, 1) := by decide +kernel
theorem dX7_add_35 : decode cX7_add 35 = .ok (.dup, 1) := by decide +kernel
theorem dX7_add_36 : decode cX7_add 36 = .ok (.getfield 21, 3) := by decide +kernel
theorem dX7_add_39 : decode cX7_add 39 = .ok (.iload_n 2, 1) := by decide +kernel
theorem dX7_add_40 : decode cX7_add 40 = .ok (.iadd, 1) := by decide +kernel
theorem dX7_add_41 : decode cX7_add 41 = .ok (.putfield 21, 3) := by decide +kernel
theorem dX7_add_44 : decode cX7_add 44 = .ok (.aload_n 0, 1) := by decide +kernel
theorem dX7_add_45 : decode cX7_add 45 = .ok (.dup, 1) := by decide +kernel
theorem dX7_add_46 : decode cX7_add 46 = .ok (.getfield 25, 3) := by decide +kernel
theorem dX7_add_49 : decode cX7_add 49 = .ok (.iconst 1, 1) := by decide +kernel
theorem dX7_add_50 : decode cX7_add 50 = .ok (.iadd, 1) := by decide +kernel
theorem dX7_add_51 : decode cX7_add 51 = .ok (.putfield 25, 3) := by decide +kernel
theorem dX7_add_54 : decode cX7_add 54 = .ok (.return_, 1) := by decide +kernel
theorem dX7_part_0 : decode cX7_part 0 = .ok (.aload_n 0, 1) := by decide +kernel
theorem dX7_part_1 : decode cX7_part 1 = .ok (.getfield 21, 3) := by decide +kernel
theorem dX7_part_4 : decode cX7_part 4 = .ok (.iload_n 1, 1) := by decide +kernel
theorem dX7_part_5 : decode cX7_part 5 = .ok (.if_icmp .le 10, 3) := by decide +kernel
theorem dX7_part_8 : decode cX7_part 8 = .ok (.aload_n 0, 1) := by decide +kernel
theorem dX7_part_9 : decode cX7_part 9 = .ok (.getfield 21, 3) := by decide +kernel
theorem dX7_part_12 : decode cX7_part 12 = .ok (.ifCond .gt 36, 3) := by decide +kernel
theorem dX7_part_15 : decode cX7_part 15 = .ok (.iconst 0, 1) := by decide +kernel
theorem dX7_part_16 : decode cX7_part 16 = .ok (.istore_n 2, 1) := by decide +kernel
theorem dX7_part_17 : decode cX7_part 17 = .ok (.iload_n 2, 1) := by decide +kernel
theorem dX7_part_18 : decode cX7_part 18 = .ok (.aload_n 0, 1) := by decide +kernel
theorem dX7_part_19 : decode cX7_part 19 = .ok (.getfield 25, 3) := by decide +kernel
theorem dX7_part_22 : decode cX7_part 22 = .ok (.if_icmp .ge 21, 3) := by decide +kernel
theorem dX7_part_25 : decode cX7_part 25 = .ok (.aload_n 0, 1) := by decide +kernel
theorem dX7_part_26 : decode cX7_part 26 = .ok (.getfield 18, 3) := by decide +kernel
theorem dX7_part_29 : decode cX7_part 29 = .ok (.iload_n 2, 1) := by decide +kernel
theorem dX7_part_30 : decode cX7_part 30 = .ok (.aload_n 0, 1) := by decide +kernel
theorem dX7_part_31 : decode cX7_part 31 = .ok (.getfield 15, 3) := by decide +kernel
theorem dX7_part_34 : decode cX7_part 34 = .ok (.iload_n 2, 1) := by decide +kernel
theorem dX7_part_35 : decode cX7_part 35 = .ok (.iaload, 1) := by decide +kernel
theorem dX7_part_36 : decode cX7_part 36 = .ok (.iastore, 1) := by decide +kernel
theorem dX7_part_37 : decode cX7_part 37 = .ok (.iinc 2 1, 3) := by decide +kernel
theorem dX7_part_40 : decode cX7_part 40 = .ok (.goto (-23), 3) := by decide +kernel
theorem dX7_part_43 : decode cX7_part 43 = .ok (.aload_n 0, 1) := by decide +kernel
theorem dX7_part_44 : decode cX7_part 44 = .ok (.getfield 21, 3) := by decide +kernel
theorem dX7_part_47 : decode cX7_part 47 = .ok (.ireturn, 1) := by decide +kernel
theorem dX7_part_48 : decode cX7_part 48 = .ok (.iload_n 1, 1) := by decide +kernel
theorem dX7_part_49 : decode cX7_part 49 = .ok (.istore_n 2, 1) := by decide +kernel
theorem dX7_part_50 : decode cX7_part 50 = .ok (.iconst 0, 1) := by decide +kernel
theorem dX7_part_51 : decode cX7_part 51 = .ok (.istore_n 3, 1) := by decide +kernel
theorem dX7_part_52 : decode cX7_part 52 = .ok (.iload_n 3, 1) := by decide +kernel
theorem dX7_part_53 : decode cX7_part 53 = .ok (.aload_n 0, 1) := by decide +kernel
theorem dX7_part_54 : decode cX7_part 54 = .ok (.getfield 25, 3) := by decide +kernel
theorem dX7_part_57 : decode cX7_part 57 = .ok (.if_icmp .ge 41, 3) := by decide +kernel
theorem dX7_part_60 : decode cX7_part 60 = .ok (.aload_n 0, 1) := by decide +kernel
theorem dX7_part_61 : decode cX7_part 61 = .ok (.getfield 18, 3) := by decide +kernel
theorem dX7_part_64 : decode cX7_part 64 = .ok (.iload_n 3, 1) := by decide +kernel
theorem dX7_part_65 : decode cX7_part 65 = .ok (.iload_n 1, 1) := by decide +kernel
theorem dX7_part_66 : decode cX7_part 66 = .ok (.i2l, 1) := by decide +kernel
theorem dX7_part_67 : decode cX7_part 67 = .ok (.aload_n 0, 1) := by decide +kernel
theorem dX7_part_68 : decode cX7_part 68 = .ok (.getfield 15, 3) := by decide +kernel
theorem dX7_part_71 : decode cX7_part 71 = .ok (.iload_n 3, 1) := by decide +kernel
theorem dX7_part_72 : decode cX7_part 72 = .ok (.iaload, 1) := by decide +kernel
theorem dX7_part_73 : decode cX7_part 73 = .ok (.i2l, 1) := by decide +kernel
theorem dX7_part_74 : decode cX7_part 74 = .ok (.lmul, 1) := by decide +kernel
theorem dX7_part_75 : decode cX7_part 75 = .ok (.aload_n 0, 1) := by decide +kernel
theorem dX7_part_76 : decode cX7_part 76 = .ok (.getfield 21, 3) := by decide +kernel
theorem dX7_part_79 : decode cX7_part 79 = .ok (.i2l, 1) := by decide +kernel
theorem dX7_part_80 : decode cX7_part 80 = .ok (.ldiv, 1) := by decide +kernel
theorem dX7_part_81 : decode cX7_part 81 = .ok (.l2i, 1) := by decide +kernel
theorem dX7_part_82 : decode cX7_part 82 = .ok (.iastore, 1) := by decide +kernel
theorem dX7_part_83 : decode cX7_part 83 = .ok (.iload_n 2, 1) := by decide +kernel
theorem dX7_part_84 : decode cX7_part 84 = .ok (.aload_n 0, 1) := by decide +kernel
theorem dX7_part_85 : decode cX7_part 85 = .ok (.getfield 18, 3) := by decide +kernel
theorem dX7_part_88 : decode cX7_part 88 = .ok (.iload_n 3, 1) := by decide +kernel
theorem dX7_part_89 : decode cX7_part 89 = .ok (.iaload, 1) := by decide +kernel
theorem dX7_part_90 : decode cX7_part 90 = .ok (.isub, 1) := by decide +kernel
theorem dX7_part_91 : decode cX7_part 91 = .ok (.istore_n 2, 1) := by decide +kernel
theorem dX7_part_92 : decode cX7_part 92 = .ok (.iinc 3 1, 3) := by decide +kernel
theorem dX7_part_95 : decode cX7_part 95 = .ok (.goto (-43), 3) := by decide +kernel
theorem dX7_part_98 : decode cX7_part 98 = .ok (.iconst 0, 1) := by decide +kernel
theorem dX7_part_99 : decode cX7_part 99 = .ok (.istore_n 3, 1) := by decide +kernel
theorem dX7_part_100 : decode cX7_part 100 = .ok (.iload_n 3, 1) := by decide +kernel
theorem dX7_part_101 : decode cX7_part 101 = .ok (.aload_n 0, 1) := by decide +kernel
theorem dX7_part_102 : decode cX7_part 102 = .ok (.getfield 25, 3) := by decide +kernel
theorem dX7_part_105 : decode cX7_part 105 = .ok (.if_icmp .ge 26, 3) := by decide +kernel
theorem dX7_part_108 : decode cX7_part 108 = .ok (.iload_n 2, 1) := by decide +kernel
theorem dX7_part_109 : decode cX7_part 109 = .ok (.ifCond .le 22, 3) := by decide +kernel
theorem dX7_part_112 : decode cX7_part 112 = .ok (.aload_n 0, 1) := by decide +kernel
theorem dX7_part_113 : decode cX7_part 113 = .ok (.getfield 18, 3) := by decide +kernel
theorem dX7_part_116 : decode cX7_part 116 = .ok (.iload_n 3, 1) := by decide +kernel
theorem dX7_part_117 : decode cX7_part 117 = .ok (.dup2, 1) := by decide +kernel
theorem dX7_part_118 : decode cX7_part 118 = .ok (.iaload, 1) := by decide +kernel
theorem dX7_part_119 : decode cX7_part 119 = .ok (.iconst 1, 1) := by decide +kernel
theorem dX7_part_120 : decode cX7_part 120 = .ok (.iadd, 1) := by decide +kernel
theorem dX7_part_121 : decode cX7_part 121 = .ok (.iastore, 1) := by decide +kernel
theorem dX7_part_122 : decode cX7_part 122 = .ok (.iinc 2 (-1), 3) := by decide +kernel
theorem dX7_part_125 : decode cX7_part 125 = .ok (.iinc 3 1, 3) := by decide +kernel
theorem dX7_part_128 : decode cX7_part 128 = .ok (.goto (-28), 3) := by decide +kernel
theorem dX7_part_131 : decode cX7_part 131 = .ok (.iload_n 1, 1) := by decide +kernel
theorem dX7_part_132 : decode cX7_part 132 = .ok (.iload_n 2, 1) := by decide +kernel
theorem dX7_part_133 : decode cX7_part 133 = .ok (.isub, 1) := by decide +kernel
theorem dX7_part_134 : decode cX7_part 134 = .ok (.ireturn, 1) := by decide +kernel
theorem dX8_init_0 : decode cX8_init 0 = .ok (.aload_n 0, 1) := by decide +kernel
theorem dX8_init_1 : decode cX8_init 1 = .ok (.invokespecial 3, 3) := by decide +kernel
theorem dX8_init_4 : decode cX8_init 4 = .ok (.aload_n 0, 1) := by decide +kernel
theorem dX8_init_5 : decode cX8_init 5 = .ok (.iload_n 1, 1) := by decide +kernel
theorem dX8_init_6 : decode cX8_init 6 = .ok (.newarray .int, 2) := by decide +kernel
theorem dX8_init_8 : decode cX8_init 8 = .ok (.putfield 9, 3) := by decide +kernel
theorem dX8_init_11 : decode cX8_init 11 = .ok (.aload_n 0, 1) := by decide +kernel
theorem dX8_init_12 : decode cX8_init 12 = .ok (.iload_n 1, 1) := by decide +kernel
theorem dX8_init_13 : decode cX8_init 13 = .ok (.newarray .int, 2) := by decide +kernel
theorem dX8_init_15 : decode cX8_init 15 = .ok (.putfield 15, 3) := by decide +kernel
theorem dX8_init_18 : decode cX8_init 18 = .ok (.aload_n 0, 1) := by decide +kernel
theorem dX8_init_19 : decode cX8_init 19 = .ok (.iload_n 1, 1) := by decide +kernel
theorem dX8_init_20 : decode cX8_init 20 = .ok (.newarray .int, 2) := by decide +kernel
theorem dX8_init_22 : decode cX8_init 22 = .ok (.putfield 18, 3) := by decide +kernel
theorem dX8_init_25 : decode cX8_init 25 = .ok (.aload_n 0, 1) := by decide +kernel
theorem dX8_init_26 : decode cX8_init 26 = .ok (.new 21, 3) := by decide +kernel
theorem dX8_init_29 : decode cX8_init 29 = .ok (.dup, 1) := by decide +kernel
theorem dX8_init_30 : decode cX8_init 30 = .ok (.iload_n 1, 1) := by decide +kernel
theorem dX8_init_31 : decode cX8_init 31 = .ok (.invokespecial 23, 3) := by decide +kernel
theorem dX8_init_34 : decode cX8_init 34 = .ok (.putfield 26, 3) := by decide +kernel
theorem dX8_init_37 : decode cX8_init 37 = .ok (.return_, 1) := by decide +kernel
theorem dX8_add_0 : decode cX8_add 0 = .ok (.aload_n 0, 1) := by decide +kernel
theorem dX8_add_1 : decode cX8_add 1 = .ok (.getfield 30, 3) := by decide +kernel
theorem dX8_add_4 : decode cX8_add 4 = .ok (.aload_n 0, 1) := by decide +kernel
theorem dX8_add_5 : decode cX8_add 5 = .ok (.getfield 9, 3) := by decide +kernel
theorem dX8_add_8 : decode cX8_add 8 = .ok (.arraylength, 1) := by decide +kernel
theorem dX8_add_9 : decode cX8_add 9 = .ok (.if_icmp .lt 6, 3) := by decide +kernel
theorem dX8_add_12 : decode cX8_add 12 = .ok (.bipush (-5), 2) := by decide +kernel
theorem dX8_add_14 : decode cX8_add 14 = .ok (.ireturn, 1) := by decide +kernel
theorem dX8_add_15 : decode cX8_add 15 = .ok (.aload_n 0, 1) := by decide +kernel
theorem dX8_add_16 : decode cX8_add 16 = .ok (.getfield 9, 3) := by decide +kernel
theorem dX8_add_19 : decode cX8_add 19 = .ok (.aload_n 0, 1) := by decide +kernel
theorem dX8_add_20 : decode cX8_add 20 = .ok (.getfield 30, 3) := by decide +kernel
theorem dX8_add_23 : decode cX8_add 23 = .ok (.iload_n 2, 1) := by decide +kernel
theorem dX8_add_24 : decode cX8_add 24 = .ok (.iastore, 1) := by decide +kernel
theorem dX8_add_25 : decode cX8_add 25 = .ok (.aload_n 0, 1) := by decide +kernel
theorem dX8_add_26 : decode cX8_add 26 = .ok (.getfield 15, 3) := by decide +kernel
theorem dX8_add_29 : decode cX8_add 29 = .ok (.aload_n 0, 1) := by decide +kernel
theorem dX8_add_30 : decode cX8_add 30 = .ok (.getfield 30, 3) := by decide +kernel
theorem dX8_add_33 : decode cX8_add 33 = .ok (.iload_n 3, 1) := by decide +kernel
theorem dX8_add_34 : decode cX8_add 34 = .ok (.iastore, 1) := by decide +kernel
theorem dX8_add_35 : decode cX8_add 35 = .ok (.aload_n 0, 1) := by decide +kernel
theorem dX8_add_36 : decode cX8_add 36 = .ok (.getfield 18, 3) := by decide +kernel
theorem dX8_add_39 : decode cX8_add 39 = .ok (.aload_n 0, 1) := by decide +kernel
theorem dX8_add_40 : decode cX8_add 40 = .ok (.getfield 30, 3) := by decide +kernel
theorem dX8_add_43 : decode cX8_add 43 = .ok (.iload 4, 2) := by decide +kernel
theorem dX8_add_45 : decode cX8_add 45 = .ok (.iastore, 1) := by decide +kernel
theorem dX8_add_46 : decode cX8_add 46 = .ok (.aload_n 0, 1) := by decide +kernel
theorem dX8_add_47 : decode cX8_add 47 = .ok (.getfield 26, 3) := by decide +kernel
theorem dX8_add_50 : decode cX8_add 50 = .ok (.iload_n 1, 1) := by decide +kernel
theorem dX8_add_51 : decode cX8_add 51 = .ok (.aload_n 0, 1) := by decide +kernel
theorem dX8_add_52 : decode cX8_add 52 = .ok (.getfield 30, 3) := by decide +kernel
theorem dX8_add_55 : decode cX8_add 55 = .ok (.invokevirtual 34, 3) := by decide +kernel
theorem dX8_add_58 : decode cX8_add 58 = .ok (.aload_n 0, 1) := by decide +kernel
theorem dX8_add_59 : decode cX8_add 59 = .ok (.dup, 1) := by decide +kernel
theorem dX8_add_60 : decode cX8_add 60 = .ok (.getfield 30, 3) := by decide +kernel
theorem dX8_add_63 : decode cX8_add 63 = .ok (.iconst 1, 1) := by decide +kernel
theorem dX8_add_64 : decode cX8_add 64 = .ok (.iadd, 1) := by decide +kernel
theorem dX8_add_65 : decode cX8_add 65 = .ok (.putfield 30, 3) := by decide +kernel
theorem dX8_add_68 : decode cX8_add 68 = .ok (.aload_n 0, 1) := by decide +kernel
theorem dX8_add_69 : decode cX8_add 69 = .ok (.getfield 30, 3) := by decide +kernel
theorem dX8_add_72 : decode cX8_add 72 = .ok (.ireturn, 1) := by decide +kernel
theorem dX8_isIn_0 : decode cX8_isIn 0 = .ok (.iload_n 2, 1) := by decide +kernel
theorem dX8_isIn_1 : decode cX8_isIn 1 = .ok (.aload_n 0, 1) := by decide +kernel
theorem dX8_isIn_2 : decode cX8_isIn 2 = .ok (.getfield 15, 3) := by decide +kernel
theorem dX8_isIn_5 : decode cX8_isIn 5 = .ok (.iload_n 1, 1) := by decide +kernel
theorem dX8_isIn_6 : decode cX8_isIn 6 = .ok (.iaload, 1) := by decide +kernel
theorem dX8_isIn_7 : decode cX8_isIn 7 = .ok (.aload_n 0, 1) := by decide +kernel
theorem dX8_isIn_8 : decode cX8_isIn 8 = .ok (.getfield 18, 3) := by decide +kernel
theorem dX8_isIn_11 : decode cX8_isIn 11 = .ok (.iload_n 1, 1) := by decide +kernel
theorem dX8_isIn_12 : decode cX8_isIn 12 = .ok (.iaload, 1) := by decide +kernel
theorem dX8_isIn_13 : decode cX8_isIn 13 = .ok (.invokestatic 38, 3) := by decide +kernel
theorem dX8_isIn_16 : decode cX8_isIn 16 = .ok (.ireturn, 1) := by decide +kernel
theorem dX8_hasAny_0 : decode cX8_hasAny 0 = .ok (.iconst 0, 1) := by decide +kernel
theorem dX8_hasAny_1 : decode cX8_hasAny 1 = .ok (.istore_n 3, 1) := by decide +kernel
theorem dX8_hasAny_2 : decode cX8_hasAny 2 = .ok (.iload_n 3, 1) := by decide +kernel
theorem dX8_hasAny_3 : decode cX8_hasAny 3 = .ok (.aload_n 0, 1) := by decide +kernel
theorem dX8_hasAny_4 : decode cX8_hasAny 4 = .ok (.getfield 26, 3) := by decide +kernel
theorem dX8_hasAny_7 : decode cX8_hasAny 7 = .ok (.getfield 42, 3) := by decide +kernel
theorem dX8_hasAny_10 : decode cX8_hasAny 10 = .ok (.iload_n 1, 1) := by decide +kernel
theorem dX8_hasAny_11 : decode cX8_hasAny 11 = .ok (.iaload, 1) := by decide +kernel
theorem dX8_hasAny_12 : decode cX8_hasAny 12 = .ok (.if_icmp .ge 28, 3) := by decide +kernel
theorem dX8_hasAny_15 : decode cX8_hasAny 15 = .ok (.aload_n 0, 1) := by decide +kernel
theorem dX8_hasAny_16 : decode cX8_hasAny 16 = .ok (.aload_n 0, 1) := by decide +kernel
theorem dX8_hasAny_17 : decode cX8_hasAny 17 = .ok (.getfield 26, 3) := by decide +kernel
theorem dX8_hasAny_20 : decode cX8_hasAny 20 = .ok (.iload_n 1, 1) := by decide +kernel
theorem dX8_hasAny_21 : decode cX8_hasAny 21 = .ok (.iload_n 3, 1) := by decide +kernel
theorem dX8_hasAny_22 : decode cX8_hasAny 22 = .ok (.invokevirtual 45, 3) := by decide +kernel
theorem dX8_hasAny_25 : decode cX8_hasAny 25 = .ok (.iload_n 2, 1) := by decide +kernel
theorem dX8_hasAny_26 : decode cX8_hasAny 26 = .ok (.invokevirtual 49, 3) := by decide +kernel
theorem dX8_hasAny_29 : decode cX8_hasAny 29 = .ok (.ifCond .eq 5, 3) := by decide +kernel
theorem dX8_hasAny_32 : decode cX8_hasAny 32 = .ok (.iconst 1, 1) := by decide +kernel
theorem dX8_hasAny_33 : decode cX8_hasAny 33 = .ok (.ireturn, 1) := by decide +kernel
theorem dX8_hasAny_34 : decode cX8_hasAny 34 = .ok (.iinc 3 1, 3) := by decide +kernel
theorem dX8_hasAny_37 : decode cX8_hasAny 37 = .ok (.goto (-35), 3) := by decide +kernel
theorem dX8_hasAny_40 : decode cX8_hasAny 40 = .ok (.iconst 0, 1) := by decide +kernel
theorem dX8_hasAny_41 : decode cX8_hasAny 41 = .ok (.ireturn, 1) := by decide +kernel
theorem dX8_take_0 : decode cX8_take 0 = .ok (.iload_n 3, 1) := by decide +kernel
theorem dX8_take_1 : decode cX8_take 1 = .ok (.istore 4, 2) := by decide +kernel
theorem dX8_take_3 : decode cX8_take 3 = .ok (.iconst 0, 1) := by decide +kernel
theorem dX8_take_4 : decode cX8_take 4 = .ok (.istore 5, 2) := by decide +kernel
theorem dX8_take_6 : decode cX8_take 6 = .ok (.iload 5, 2) := by decide +kernel
theorem dX8_take_8 : decode cX8_take 8 = .ok (.aload_n 0, 1) := by decide +kernel
theorem dX8_take_9 : decode cX8_take 9 = .ok (.getfield 26, 3) := by decide +kernel
theorem dX8_take_12 : decode cX8_take 12 = .ok (.getfield 42, 3) := by decide +kernel
theorem dX8_take_15 : decode cX8_take 15 = .ok (.iload_n 1, 1) := by decide +kernel
theorem dX8_take_16 : decode cX8_take 16 = .ok (.iaload, 1) := by decide +kernel
theorem dX8_take_17 : decode cX8_take 17 = .ok (.if_icmp .ge 48, 3) := by decide +kernel
theorem dX8_take_20 : decode cX8_take 20 = .ok (.aload_n 0, 1) := by decide +kernel
theorem dX8_take_21 : decode cX8_take 21 = .ok (.getfield 26, 3) := by decide +kernel
theorem dX8_take_24 : decode cX8_take 24 = .ok (.iload_n 1, 1) := by decide +kernel
theorem dX8_take_25 : decode cX8_take 25 = .ok (.iload 5, 2) := by decide +kernel
theorem dX8_take_27 : decode cX8_take 27 = .ok (.invokevirtual 45, 3) := by decide +kernel
theorem dX8_take_30 : decode cX8_take 30 = .ok (.istore 6, 2) := by decide +kernel
theorem dX8_take_32 : decode cX8_take 32 = .ok (.aload_n 0, 1) := by decide +kernel
theorem dX8_take_33 : decode cX8_take 33 = .ok (.iload 6, 2) := by decide +kernel
theorem dX8_take_35 : decode cX8_take 35 = .ok (.iload_n 2, 1) := by decide +kernel
theorem dX8_take_36 : decode cX8_take 36 = .ok (.invokevirtual 49, 3) := by decide +kernel
theorem dX8_take_39 : decode cX8_take 39 = .ok (.ifCond .eq 20, 3) := by decide +kernel
theorem dX8_take_42 : decode cX8_take 42 = .ok (.iload 4, 2) := by decide +kernel
theorem dX8_take_44 : decode cX8_take 44 = .ok (.iload 4, 2) := by decide +kernel
theorem dX8_take_46 : decode cX8_take 46 = .ok (.aload_n 0, 1) := by decide +kernel
theorem dX8_take_47 : decode cX8_take 47 = .ok (.getfield 9, 3) := by decide +kernel
theorem dX8_take_50 : decode cX8_take 50 = .ok (.iload 6, 2) := by decide +kernel
theorem dX8_take_52 : decode cX8_take 52 = .ok (.iaload, 1) := by decide +kernel
theorem dX8_take_53 : decode cX8_take 53 = .ok (.invokestatic 53, 3) := by decide +kernel
theorem dX8_take_56 : decode cX8_take 56 = .ok (.isub, 1) := by decide +kernel
theorem dX8_take_57 : decode cX8_take 57 = .ok (.istore 4, 2) := by decide +kernel
theorem dX8_take_59 : decode cX8_take 59 = .ok (.iinc 5 1, 3) := by decide +kernel
theorem dX8_take_62 : decode cX8_take 62 = .ok (.goto (-56), 3) := by decide +kernel
theorem dX8_take_65 : decode cX8_take 65 = .ok (.iload_n 3, 1) := by decide +kernel
theorem dX8_take_66 : decode cX8_take 66 = .ok (.iload 4, 2) := by decide +kernel
theorem dX8_take_68 : decode cX8_take 68 = .ok (.isub, 1) := by decide +kernel
theorem dX8_take_69 : decode cX8_take 69 = .ok (.ireturn, 1) := by decide +kernel
theorem dX9_init_0 : decode cX9_init 0 = .ok (.aload_n 0, 1) := by decide +kernel
theorem dX9_init_1 : decode cX9_init 1 = .ok (.invokespecial 3, 3) := by decide +kernel
theorem dX9_init_4 : decode cX9_init 4 = .ok (.aload_n 0, 1) := by decide +kernel
theorem dX9_init_5 : decode cX9_init 5 = .ok (.iconst 4, 1) := by decide +kernel
theorem dX9_init_6 : decode cX9_init 6 = .ok (.newarray .int, 2) := by decide +kernel
theorem dX9_init_8 : decode cX9_init 8 = .ok (.putfield 9, 3) := by decide +kernel
theorem dX9_init_11 : decode cX9_init 11 = .ok (.aload_n 0, 1) := by decide +kernel
theorem dX9_init_12 : decode cX9_init 12 = .ok (.bipush 60, 2) := by decide +kernel
theorem dX9_init_14 : decode cX9_init 14 = .ok (.newarray .int, 2) := by decide +kernel
theorem dX9_init_16 : decode cX9_init 16 = .ok (.putfield 15, 3) := by decide +kernel
theorem dX9_init_19 : decode cX9_init 19 = .ok (.aload_n 0, 1) := by decide +kernel
theorem dX9_init_20 : decode cX9_init 20 = .ok (.bipush 60, 2) := by decide +kernel
theorem dX9_init_22 : decode cX9_init 22 = .ok (.newarray .int, 2) := by decide +kernel
theorem dX9_init_24 : decode cX9_init 24 = .ok (.putfield 18, 3) := by decide +kernel
theorem dX9_init_27 : decode cX9_init 27 = .ok (.aload_n 0, 1) := by decide +kernel
theorem dX9_init_28 : decode cX9_init 28 = .ok (.bipush 60, 2) := by decide +kernel
theorem dX9_init_30 : decode cX9_init 30 = .ok (.newarray .int, 2) := by decide +kernel
theorem dX9_init_32 : decode cX9_init 32 = .ok (.putfield 21, 3) := by decide +kernel
theorem dX9_init_35 : decode cX9_init 35 = .ok (.aload_n 0, 1) := by decide +kernel
theorem dX9_init_36 : decode cX9_init 36 = .ok (.iconst 4, 1) := by decide +kernel
theorem dX9_init_37 : decode cX9_init 37 = .ok (.newarray .int, 2) := by decide +kernel
theorem dX9_init_39 : decode cX9_init 39 = .ok (.putfield 24, 3) := by decide +kernel
theorem dX9_init_42 : decode cX9_init 42 = .ok (.return_, 1) := by decide +kernel
theorem dX9_hasAqueduct_0 : decode cX9_hasAqueduct 0 = .ok (.iload_n 1, 1) := by decide +kernel
theorem dX9_hasAqueduct_1 : decode cX9_hasAqueduct 1 = .ok (.iconst 0, 1) := by decide +kernel
theorem dX9_hasAqueduct_2 : decode cX9_hasAqueduct 2 = .ok (.aload_n 0, 1) := by decide +kernel
theorem dX9_hasAqueduct_3 : decode cX9_hasAqueduct 3 = .ok (.getfield 27, 3) := by decide +kernel
theorem dX9_hasAqueduct_6 : decode cX9_hasAqueduct 6 = .ok (.iconst 1, 1) := by decide +kernel
theorem dX9_hasAqueduct_7 : decode cX9_hasAqueduct 7 = .ok (.isub, 1) := by decide +kernel
theorem dX9_hasAqueduct_8 : decode cX9_hasAqueduct 8 = .ok (.invokestatic 31, 3) := by decide +kernel
theorem dX9_hasAqueduct_11 : decode cX9_hasAqueduct 11 = .ok (.ireturn, 1) := by decide +kernel
theorem dX9_addAqueduct_0 : decode cX9_addAqueduct 0 = .ok (.aload_n 0, 1) := by decide +kernel
theorem dX9_addAqueduct_1 : decode cX9_addAqueduct 1 = .ok (.getfield 27, 3) := by decide +kernel
theorem dX9_addAqueduct_4 : decode cX9_addAqueduct 4 = .ok (.iconst 4, 1) := by decide +kernel
theorem dX9_addAqueduct_5 : decode cX9_addAqueduct 5 = .ok (.if_icmp .lt 6, 3) := by decide +kernel
theorem dX9_addAqueduct_8 : decode cX9_addAqueduct 8 = .ok (.bipush (-5), 2) := by decide +kernel
theorem dX9_addAqueduct_10 : decode cX9_addAqueduct 10 = .ok (.ireturn, 1) := by decide +kernel
theorem dX9_addAqueduct_11 : decode cX9_addAqueduct 11 = .ok (.aload_n 0, 1) := by decide +kernel
theorem dX9_addAqueduct_12 : decode cX9_addAqueduct 12 = .ok (.getfield 9, 3) := by decide +kernel
theorem dX9_addAqueduct_15 : decode cX9_addAqueduct 15 = .ok (.aload_n 0, 1) := by decide +kernel
theorem dX9_addAqueduct_16 : decode cX9_addAqueduct 16 = .ok (.getfield 27, 3) := by decide +kernel
theorem dX9_addAqueduct_19 : decode cX9_addAqueduct 19 = .ok (.iload_n 1, 1) := by decide +kernel
theorem dX9_addAqueduct_20 : decode cX9_addAqueduct 20 = .ok (.iastore, 1) := by decide +kernel
theorem dX9_addAqueduct_21 : decode cX9_addAqueduct 21 = .ok (.aload_n 0, 1) := by decide +kernel
theorem dX9_addAqueduct_22 : decode cX9_addAqueduct 22 = .ok (.dup, 1) := by decide +kernel
theorem dX9_addAqueduct_23 : decode cX9_addAqueduct 23 = .ok (.getfield 27, 3) := by decide +kernel
theorem dX9_addAqueduct_26 : decode cX9_addAqueduct 26 = .ok (.iconst 1, 1) := by decide +kernel
theorem dX9_addAqueduct_27 : decode cX9_addAqueduct 27 = .ok (.iadd, 1) := by decide +kernel
theorem dX9_addAqueduct_28 : decode cX9_addAqueduct 28 = .ok (.putfield 27, 3) := by decide +kernel
theorem dX9_addAqueduct_31 : decode cX9_addAqueduct 31 = .ok (.aload_n 0, 1) := by decide +kernel
theorem dX9_addAqueduct_32 : decode cX9_addAqueduct 32 = .ok (.getfield 27, 3) := by decide +kernel
theorem dX9_addAqueduct_35 : decode cX9_addAqueduct 35 = .ok (.iconst 1, 1) := by decide +kernel
theorem dX9_addAqueduct_36 : decode cX9_addAqueduct 36 = .ok (.isub, 1) := by decide +kernel
theorem dX9_addAqueduct_37 : decode cX9_addAqueduct 37 = .ok (.ireturn, 1) := by decide +kernel
theorem dX9_change_0 : decode cX9_change 0 = .ok (.aload_n 0, 1) := by decide +kernel
theorem dX9_change_1 : decode cX9_change 1 = .ok (.iload_n 1, 1) := by decide +kernel
theorem dX9_change_2 : decode cX9_change 2 = .ok (.iload_n 2, 1) := by decide +kernel
theorem dX9_change_3 : decode cX9_change 3 = .ok (.invokevirtual 35, 3) := by decide +kernel
theorem dX9_change_6 : decode cX9_change 6 = .ok (.istore 4, 2) := by decide +kernel
theorem dX9_change_8 : decode cX9_change 8 = .ok (.iload 4, 2) := by decide +kernel
theorem dX9_change_10 : decode cX9_change 10 = .ok (.bipush 60, 2) := by decide +kernel
theorem dX9_change_12 : decode cX9_change 12 = .ok (.if_icmp .lt 6, 3) := by decide +kernel
theorem dX9_change_15 : decode cX9_change 15 = .ok (.bipush (-5), 2) := by decide +kernel
theorem dX9_change_17 : decode cX9_change 17 = .ok (.ireturn, 1) := by decide +kernel
theorem dX9_change_18 : decode cX9_change 18 = .ok (.aload_n 0, 1) := by decide +kernel
theorem dX9_change_19 : decode cX9_change 19 = .ok (.getfield 15, 3) := by decide +kernel
theorem dX9_change_22 : decode cX9_change 22 = .ok (.iload 4, 2) := by decide +kernel
theorem dX9_change_24 : decode cX9_change 24 = .ok (.iload_n 1, 1) := by decide +kernel
theorem dX9_change_25 : decode cX9_change 25 = .ok (.iastore, 1) := by decide +kernel
theorem dX9_change_26 : decode cX9_change 26 = .ok (.aload_n 0, 1) := by decide +kernel
theorem dX9_change_27 : decode cX9_change 27 = .ok (.getfield 18, 3) := by decide +kernel
theorem dX9_change_30 : decode cX9_change 30 = .ok (.iload 4, 2) := by decide +kernel
theorem dX9_change_32 : decode cX9_change 32 = .ok (.iload_n 2, 1) := by decide +kernel
theorem dX9_change_33 : decode cX9_change 33 = .ok (.iastore, 1) := by decide +kernel
theorem dX9_change_34 : decode cX9_change 34 = .ok (.aload_n 0, 1) := by decide +kernel
theorem dX9_change_35 : decode cX9_change 35 = .ok (.getfield 21, 3) := by decide +kernel
theorem dX9_change_38 : decode cX9_change 38 = .ok (.iload 4, 2) := by decide +kernel
theorem dX9_change_40 : decode cX9_change 40 = .ok (.iload_n 3, 1) := by decide +kernel
theorem dX9_change_41 : decode cX9_change 41 = .ok (.iastore, 1) := by decide +kernel
theorem dX9_change_42 : decode cX9_change 42 = .ok (.aload_n 0, 1) := by decide +kernel
theorem dX9_change_43 : decode cX9_change 43 = .ok (.aload_n 0, 1) := by decide +kernel
theorem dX9_change_44 : decode cX9_change 44 = .ok (.getfield 39, 3) := by decide +kernel
theorem dX9_change_47 : decode cX9_change 47 = .ok (.iload 4, 2) := by decide +kernel
theorem dX9_change_49 : decode cX9_change 49 = .ok (.iconst 1, 1) := by decide +kernel
theorem dX9_change_50 : decode cX9_change 50 = .ok (.iadd, 1) := by decide +kernel
theorem dX9_change_51 : decode cX9_change 51 = .ok (.invokestatic 42, 3) := by decide +kernel
theorem dX9_change_54 : decode cX9_change 54 = .ok (.putfield 39, 3) := by decide +kernel
theorem dX9_change_57 : decode cX9_change 57 = .ok (.iconst 0, 1) := by decide +kernel
theorem dX9_change_58 : decode cX9_change 58 = .ok (.ireturn, 1) := by decide +kernel
theorem dX9_placeOf_0 : decode cX9_placeOf 0 = .ok (.iconst 0, 1) := by decide +kernel
theorem dX9_placeOf_1 : decode cX9_placeOf 1 = .ok (.istore_n 3, 1) := by decide +kernel
theorem dX9_placeOf_2 : decode cX9_placeOf 2 = .ok (.iload_n 3, 1) := by decide +kernel
theorem dX9_placeOf_3 : decode cX9_placeOf 3 = .ok (.aload_n 0, 1) := by decide +kernel
theorem dX9_placeOf_4 : decode cX9_placeOf 4 = .ok (.getfield 39, 3) := by decide +kernel
theorem dX9_placeOf_7 : decode cX9_placeOf 7 = .ok (.if_icmp .ge 31, 3) := by decide +kernel
theorem dX9_placeOf_10 : decode cX9_placeOf 10 = .ok (.aload_n 0, 1) := by decide +kernel
theorem dX9_placeOf_11 : decode cX9_placeOf 11 = .ok (.getfield 15, 3) := by decide +kernel
theorem dX9_placeOf_14 : decode cX9_placeOf 14 = .ok (.iload_n 3, 1) := by decide +kernel
theorem dX9_placeOf_15 : decode cX9_placeOf 15 = .ok (.iaload, 1) := by decide +kernel
theorem dX9_placeOf_16 : decode cX9_placeOf 16 = .ok (.iload_n 1, 1) := by decide +kernel
theorem dX9_placeOf_17 : decode cX9_placeOf 17 = .ok (.if_icmp .ne 15, 3) := by decide +kernel
theorem dX9_placeOf_20 : decode cX9_placeOf 20 = .ok (.aload_n 0, 1) := by decide +kernel
theorem dX9_placeOf_21 : decode cX9_placeOf 21 = .ok (.getfield 18, 3) := by decide +kernel
theorem dX9_placeOf_24 : decode cX9_placeOf 24 = .ok (.iload_n 3, 1) := by decide +kernel
theorem dX9_placeOf_25 : decode cX9_placeOf 25 = .ok (.iaload, 1) := by decide +kernel
theorem dX9_placeOf_26 : decode cX9_placeOf 26 = .ok (.iload_n 2, 1) := by decide +kernel
theorem dX9_placeOf_27 : decode cX9_placeOf 27 = .ok (.if_icmp .ne 5, 3) := by decide +kernel
theorem dX9_placeOf_30 : decode cX9_placeOf 30 = .ok (.iload_n 3, 1) := by decide +kernel
theorem dX9_placeOf_31 : decode cX9_placeOf 31 = .ok (.ireturn, 1) := by decide +kernel
theorem dX9_placeOf_32 : decode cX9_placeOf 32 = .ok (.iinc 3 1, 3) := by decide +kernel
theorem dX9_placeOf_35 : decode cX9_placeOf 35 = .ok (.goto (-33), 3) := by decide +kernel
theorem dX9_placeOf_38 : decode cX9_placeOf 38 = .ok (.aload_n 0, 1) := by decide +kernel
theorem dX9_placeOf_39 : decode cX9_placeOf 39 = .ok (.getfield 39, 3) := by decide +kernel
theorem dX9_placeOf_42 : decode cX9_placeOf 42 = .ok (.ireturn, 1) := by decide +kernel
theorem dX9_settle_0 : decode cX9_settle 0 = .ok (.iconst 0, 1) := by decide +kernel
theorem dX9_settle_1 : decode cX9_settle 1 = .ok (.istore_n 2, 1) := by decide +kernel
theorem dX9_settle_2 : decode cX9_settle 2 = .ok (.iload_n 2, 1) := by decide +kernel
theorem dX9_settle_3 : decode cX9_settle 3 = .ok (.aload_n 0, 1) := by decide +kernel
theorem dX9_settle_4 : decode cX9_settle 4 = .ok (.getfield 27, 3) := by decide +kernel
theorem dX9_settle_7 : decode cX9_settle 7 = .ok (.if_icmp .ge 21, 3) := by decide +kernel
theorem dX9_settle_10 : decode cX9_settle 10 = .ok (.aload_n 0, 1) := by decide +kernel
theorem dX9_settle_11 : decode cX9_settle 11 = .ok (.getfield 24, 3) := by decide +kernel
theorem dX9_settle_14 : decode cX9_settle 14 = .ok (.iload_n 2, 1) := by decide +kernel
theorem dX9_settle_15 : decode cX9_settle 15 = .ok (.aload_n 0, 1) := by decide +kernel
theorem dX9_settle_16 : decode cX9_settle 16 = .ok (.getfield 9, 3) := by decide +kernel
theorem dX9_settle_19 : decode cX9_settle 19 = .ok (.iload_n 2, 1) := by decide +kernel
theorem dX9_settle_20 : decode cX9_settle 20 = .ok (.iaload, 1) := by decide +kernel
theorem dX9_settle_21 : decode cX9_settle 21 = .ok (.iastore, 1) := by decide +kernel
theorem dX9_settle_22 : decode cX9_settle 22 = .ok (.iinc 2 1, 3) := by decide +kernel
theorem dX9_settle_25 : decode cX9_settle 25 = .ok (.goto (-23), 3) := by decide +kernel
theorem dX9_settle_28 : decode cX9_settle 28 = .ok (.iconst 0, 1) := by decide +kernel
theorem dX9_settle_29 : decode cX9_settle 29 = .ok (.istore_n 2, 1) := by decide +kernel
theorem dX9_settle_30 : decode cX9_settle 30 = .ok (.iload_n 2, 1) := by decide +kernel
theorem dX9_settle_31 : decode cX9_settle 31 = .ok (.aload_n 0, 1) := by decide +kernel
theorem dX9_settle_32 : decode cX9_settle 32 = .ok (.getfield 39, 3) := by decide +kernel
theorem dX9_settle_35 : decode cX9_settle 35 = .ok (.if_icmp .ge 36, 3) := by decide +kernel
theorem dX9_settle_38 : decode cX9_settle 38 = .ok (.aload_n 0, 1) := by decide +kernel
theorem dX9_settle_39 : decode cX9_settle 39 = .ok (.getfield 18, 3) := by decide +kernel
theorem dX9_settle_42 : decode cX9_settle 42 = .ok (.iload_n 2, 1) := by decide +kernel
theorem dX9_settle_43 : decode cX9_settle 43 = .ok (.iaload, 1) := by decide +kernel
theorem dX9_settle_44 : decode cX9_settle 44 = .ok (.iload_n 1, 1) := by decide +kernel
theorem dX9_settle_45 : decode cX9_settle 45 = .ok (.if_icmp .ne 20, 3) := by decide +kernel
theorem dX9_settle_48 : decode cX9_settle 48 = .ok (.aload_n 0, 1) := by decide +kernel
theorem dX9_settle_49 : decode cX9_settle 49 = .ok (.getfield 24, 3) := by decide +kernel
theorem dX9_settle_52 : decode cX9_settle 52 = .ok (.aload_n 0, 1) := by decide +kernel
theorem dX9_settle_53 : decode cX9_settle 53 = .ok (.getfield 15, 3) := by decide +kernel
theorem dX9_settle_56 : decode cX9_settle 56 = .ok (.iload_n 2, 1) := by decide +kernel
theorem dX9_settle_57 : decode cX9_settle 57 = .ok (.iaload, 1) := by decide +kernel
theorem dX9_settle_58 : decode cX9_settle 58 = .ok (.aload_n 0, 1) := by decide +kernel
theorem dX9_settle_59 : decode cX9_settle 59 = .ok (.getfield 21, 3) := by decide +kernel
theorem dX9_settle_62 : decode cX9_settle 62 = .ok (.iload_n 2, 1) := by decide +kernel
theorem dX9_settle_63 : decode cX9_settle 63 = .ok (.iaload, 1) := by decide +kernel
theorem dX9_settle_64 : decode cX9_settle 64 = .ok (.iastore, 1) := by decide +kernel
theorem dX9_settle_65 : decode cX9_settle 65 = .ok (.iinc 2 1, 3) := by decide +kernel
theorem dX9_settle_68 : decode cX9_settle 68 = .ok (.goto (-38), 3) := by decide +kernel
theorem dX9_settle_71 : decode cX9_settle 71 = .ok (.return_, 1) := by decide +kernel
theorem dX9_draw_0 : decode cX9_draw 0 = .ok (.aload_n 0, 1) := by decide +kernel
theorem dX9_draw_1 : decode cX9_draw 1 = .ok (.getfield 24, 3) := by decide +kernel
theorem dX9_draw_4 : decode cX9_draw 4 = .ok (.iload_n 1, 1) := by decide +kernel
theorem dX9_draw_5 : decode cX9_draw 5 = .ok (.iaload, 1) := by decide +kernel
theorem dX9_draw_6 : decode cX9_draw 6 = .ok (.iload_n 2, 1) := by decide +kernel
theorem dX9_draw_7 : decode cX9_draw 7 = .ok (.invokestatic 47, 3) := by decide +kernel
theorem dX9_draw_10 : decode cX9_draw 10 = .ok (.istore_n 3, 1) := by decide +kernel
theorem dX9_draw_11 : decode cX9_draw 11 = .ok (.aload_n 0, 1) := by decide +kernel
theorem dX9_draw_12 : decode cX9_draw 12 = .ok (.getfield 24, 3) := by decide +kernel
theorem dX9_draw_15 : decode cX9_draw 15 = .ok (.iload_n 1, 1) := by decide +kernel
theorem dX9_draw_16 : decode cX9_draw 16 = .ok (.dup2, 1) := by decide +kernel
theorem dX9_draw_17 : decode cX9_draw 17 = .ok (.iaload, 1) := by decide +kernel
theorem dX9_draw_18 : decode cX9_draw 18 = .ok (.iload_n 3, 1) := by decide +kernel
theorem dX9_draw_19 : decode cX9_draw 19 = .ok (.isub, 1) := by decide +kernel
theorem dX9_draw_20 : decode cX9_draw 20 = .ok (.iastore, 1) := by decide +kernel
theorem dX9_draw_21 : decode cX9_draw 21 = .ok (.iload_n 3, 1) := by decide +kernel
theorem dX9_draw_22 : decode cX9_draw 22 = .ok (.ireturn, 1) := by decide +kernel
theorem dX10_init_0 : decode cX10_init 0 = .ok (.aload_n 0, 1) := by decide +kernel
theorem dX10_init_1 : decode cX10_init 1 = .ok (.invokespecial 3, 3) := by decide +kernel
theorem dX10_init_4 : decode cX10_init 4 = .ok (.aload_n 0, 1) := by decide +kernel
theorem dX10_init_5 : decode cX10_init 5 = .ok (.sipush 400, 3) := by decide +kernel
theorem dX10_init_8 : decode cX10_init 8 = .ok (.newarray .byte, 2) := by decide +kernel
theorem dX10_init_10 : decode cX10_init 10 = .ok (.putfield 9, 3) := by decide +kernel
theorem dX10_init_13 : decode cX10_init 13 = .ok (.return_, 1) := by decide +kernel
theorem dX10_hasRoom_0 : decode cX10_hasRoom 0 = .ok (.aload_n 0, 1) := by decide +kernel
theorem dX10_hasRoom_1 : decode cX10_hasRoom 1 = .ok (.getfield 15, 3) := by decide +kernel
theorem dX10_hasRoom_4 : decode cX10_hasRoom 4 = .ok (.iload_n 1, 1) := by decide +kernel
theorem dX10_hasRoom_5 : decode cX10_hasRoom 5 = .ok (.iadd, 1) := by decide +kernel
theorem dX10_hasRoom_6 : decode cX10_hasRoom 6 = .ok (.sipush 400, 3) := by decide +kernel
theorem dX10_hasRoom_9 : decode cX10_hasRoom 9 = .ok (.if_icmp .gt 7, 3) := by decide +kernel
theorem dX10_hasRoom_12 : decode cX10_hasRoom 12 = .ok (.iconst 1, 1) := by decide +kernel
theorem dX10_hasRoom_13 : decode cX10_hasRoom 13 = .ok (.goto 4, 3) := by decide +kernel
theorem dX10_hasRoom_16 : decode cX10_hasRoom 16 = .ok (.iconst 0, 1) := by decide +kernel
theorem dX10_hasRoom_17 : decode cX10_hasRoom 17 = .ok (.ireturn, 1) := by decide +kernel
theorem dX10_write_0 : decode cX10_write 0 = .ok (.aload_n 0, 1) := by decide +kernel
theorem dX10_write_1 : decode cX10_write 1 = .ok (.iconst 4, 1) := by decide +kernel
theorem dX10_write_2 : decode cX10_write 2 = .ok (.invokevirtual 19, 3) := by decide +kernel
theorem dX10_write_5 : decode cX10_write 5 = .ok (.ifCond .ne 4, 3) := by decide +kernel
theorem dX10_write_8 : decode cX10_write 8 = .ok (.return_, 1) := by decide +kernel
theorem dX10_write_9 : decode cX10_write 9 = .ok (.bipush 24, 2) := by decide +kernel
theorem dX10_write_11 : decode cX10_write 11 = .ok (.istore_n 2, 1) := by decide +kernel
theorem dX10_write_12 : decode cX10_write 12 = .ok (.iload_n 2, 1) := by decide +kernel
theorem dX10_write_13 : decode cX10_write 13 = .ok (.ifCond .lt 32, 3) := by decide +kernel
theorem dX10_write_16 : decode cX10_write 16 = .ok (.aload_n 0, 1) := by decide +kernel
theorem dX10_write_17 : decode cX10_write 17 = .ok (.getfield 9, 3) := by decide +kernel
theorem dX10_write_20 : decode cX10_write 20 = .ok (.aload_n 0, 1) := by decide +kernel
theorem dX10_write_21 : decode cX10_write 21 = .ok (.getfield 15, 3) := by decide +kernel
theorem dX10_write_24 : decode cX10_write 24 = .ok (.iload_n 1, 1) := by decide +kernel
theorem dX10_write_25 : decode cX10_write 25 = .ok (.iload_n 2, 1) := by decide +kernel
theorem dX10_write_26 : decode cX10_write 26 = .ok (.ishr, 1) := by decide +kernel
theorem dX10_write_27 : decode cX10_write 27 = .ok (.i2b, 1) := by decide +kernel
theorem dX10_write_28 : decode cX10_write 28 = .ok (.bastore, 1) := by decide +kernel
theorem dX10_write_29 : decode cX10_write 29 = .ok (.aload_n 0, 1) := by decide +kernel
theorem dX10_write_30 : decode cX10_write 30 = .ok (.dup, 1) := by decide +kernel
theorem dX10_write_31 : decode cX10_write 31 = .ok (.getfield 15, 3) := by decide +kernel
theorem dX10_write_34 : decode cX10_write 34 = .ok (.iconst 1, 1) := by decide +kernel
theorem dX10_write_35 : decode cX10_write 35 = .ok (.iadd, 1) := by decide +kernel
theorem dX10_write_36 : decode cX10_write 36 = .ok (.putfield 15, 3) := by decide +kernel
theorem dX10_write_39 : decode cX10_write 39 = .ok (.iinc 2 (-8), 3) := by decide +kernel
theorem dX10_write_42 : decode cX10_write 42 = .ok (.goto (-30), 3) := by decide +kernel
theorem dX10_write_45 : decode cX10_write 45 = .ok (.return_, 1) := by decide +kernel
theorem dX10_byteAt_0 : decode cX10_byteAt 0 = .ok (.iload_n 1, 1) := by decide +kernel
theorem dX10_byteAt_1 : decode cX10_byteAt 1 = .ok (.ifCond .lt 24, 3) := by decide +kernel
theorem dX10_byteAt_4 : decode cX10_byteAt 4 = .ok (.iload_n 1, 1) := by decide +kernel
theorem dX10_byteAt_5 : decode cX10_byteAt 5 = .ok (.aload_n 0, 1) := by decide +kernel
theorem dX10_byteAt_6 : decode cX10_byteAt 6 = .ok (.getfield 15, 3) := by decide +kernel
theorem dX10_byteAt_9 : decode cX10_byteAt 9 = .ok (.if_icmp .ge 16, 3) := by decide +kernel
theorem dX10_byteAt_12 : decode cX10_byteAt 12 = .ok (.aload_n 0, 1) := by decide +kernel
theorem dX10_byteAt_13 : decode cX10_byteAt 13 = .ok (.getfield 9, 3) := by decide +kernel
theorem dX10_byteAt_16 : decode cX10_byteAt 16 = .ok (.iload_n 1, 1) := by decide +kernel
theorem dX10_byteAt_17 : decode cX10_byteAt 17 = .ok (.baload, 1) := by decide +kernel
theorem dX10_byteAt_18 : decode cX10_byteAt 18 = .ok (.sipush 255, 3) := by decide +kernel
