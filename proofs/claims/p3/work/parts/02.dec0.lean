theorem dX0_init_0 : decode cX0_init 0 = .ok (.aload_n 0, 1) := by decide +kernel
theorem dX0_init_1 : decode cX0_init 1 = .ok (.invokespecial 3, 3) := by decide +kernel
theorem dX0_init_4 : decode cX0_init 4 = .ok (.aload_n 0, 1) := by decide +kernel
theorem dX0_init_5 : decode cX0_init 5 = .ok (.bipush 12, 2) := by decide +kernel
theorem dX0_init_7 : decode cX0_init 7 = .ok (.newarray .int, 2) := by decide +kernel
theorem dX0_init_9 : decode cX0_init 9 = .ok (.putfield 9, 3) := by decide +kernel
theorem dX0_init_12 : decode cX0_init 12 = .ok (.aload_n 0, 1) := by decide +kernel
theorem dX0_init_13 : decode cX0_init 13 = .ok (.bipush 12, 2) := by decide +kernel
theorem dX0_init_15 : decode cX0_init 15 = .ok (.newarray .int, 2) := by decide +kernel
theorem dX0_init_17 : decode cX0_init 17 = .ok (.putfield 15, 3) := by decide +kernel
theorem dX0_init_20 : decode cX0_init 20 = .ok (.aload_n 0, 1) := by decide +kernel
theorem dX0_init_21 : decode cX0_init 21 = .ok (.bipush 12, 2) := by decide +kernel
theorem dX0_init_23 : decode cX0_init 23 = .ok (.newarray .int, 2) := by decide +kernel
theorem dX0_init_25 : decode cX0_init 25 = .ok (.putfield 18, 3) := by decide +kernel
theorem dX0_init_28 : decode cX0_init 28 = .ok (.aload_n 0, 1) := by decide +kernel
theorem dX0_init_29 : decode cX0_init 29 = .ok (.new 21, 3) := by decide +kernel
theorem dX0_init_32 : decode cX0_init 32 = .ok (.dup, 1) := by decide +kernel
theorem dX0_init_33 : decode cX0_init 33 = .ok (.bipush 12, 2) := by decide +kernel
theorem dX0_init_35 : decode cX0_init 35 = .ok (.invokespecial 23, 3) := by decide +kernel
theorem dX0_init_38 : decode cX0_init 38 = .ok (.putfield 26, 3) := by decide +kernel
theorem dX0_init_41 : decode cX0_init 41 = .ok (.return_, 1) := by decide +kernel
theorem dX0_has_0 : decode cX0_has 0 = .ok (.iload_n 1, 1) := by decide +kernel
theorem dX0_has_1 : decode cX0_has 1 = .ok (.iconst 0, 1) := by decide +kernel
theorem dX0_has_2 : decode cX0_has 2 = .ok (.aload_n 0, 1) := by decide +kernel
theorem dX0_has_3 : decode cX0_has 3 = .ok (.getfield 30, 3) := by decide +kernel
theorem dX0_has_6 : decode cX0_has 6 = .ok (.iconst 1, 1) := by decide +kernel
theorem dX0_has_7 : decode cX0_has 7 = .ok (.isub, 1) := by decide +kernel
theorem dX0_has_8 : decode cX0_has 8 = .ok (.invokestatic 34, 3) := by decide +kernel
theorem dX0_has_11 : decode cX0_has 11 = .ok (.ireturn, 1) := by decide +kernel
theorem dX0_build_0 : decode cX0_build 0 = .ok (.aload_n 0, 1) := by decide +kernel
theorem dX0_build_1 : decode cX0_build 1 = .ok (.getfield 30, 3) := by decide +kernel
theorem dX0_build_4 : decode cX0_build 4 = .ok (.bipush 12, 2) := by decide +kernel
theorem dX0_build_6 : decode cX0_build 6 = .ok (.if_icmp .lt 6, 3) := by decide +kernel
theorem dX0_build_9 : decode cX0_build 9 = .ok (.bipush (-5), 2) := by decide +kernel
theorem dX0_build_11 : decode cX0_build 11 = .ok (.ireturn, 1) := by decide +kernel
theorem dX0_build_12 : decode cX0_build 12 = .ok (.aload_n 0, 1) := by decide +kernel
theorem dX0_build_13 : decode cX0_build 13 = .ok (.getfield 9, 3) := by decide +kernel
theorem dX0_build_16 : decode cX0_build 16 = .ok (.aload_n 0, 1) := by decide +kernel
theorem dX0_build_17 : decode cX0_build 17 = .ok (.getfield 30, 3) := by decide +kernel
theorem dX0_build_20 : decode cX0_build 20 = .ok (.iload_n 1, 1) := by decide +kernel
theorem dX0_build_21 : decode cX0_build 21 = .ok (.iastore, 1) := by decide +kernel
theorem dX0_build_22 : decode cX0_build 22 = .ok (.aload_n 0, 1) := by decide +kernel
theorem dX0_build_23 : decode cX0_build 23 = .ok (.getfield 15, 3) := by decide +kernel
theorem dX0_build_26 : decode cX0_build 26 = .ok (.aload_n 0, 1) := by decide +kernel
theorem dX0_build_27 : decode cX0_build 27 = .ok (.getfield 30, 3) := by decide +kernel
theorem dX0_build_30 : decode cX0_build 30 = .ok (.iload_n 2, 1) := by decide +kernel
theorem dX0_build_31 : decode cX0_build 31 = .ok (.iastore, 1) := by decide +kernel
theorem dX0_build_32 : decode cX0_build 32 = .ok (.aload_n 0, 1) := by decide +kernel
theorem dX0_build_33 : decode cX0_build 33 = .ok (.getfield 18, 3) := by decide +kernel
theorem dX0_build_36 : decode cX0_build 36 = .ok (.aload_n 0, 1) := by decide +kernel
theorem dX0_build_37 : decode cX0_build 37 = .ok (.getfield 30, 3) := by decide +kernel
theorem dX0_build_40 : decode cX0_build 40 = .ok (.iload_n 3, 1) := by decide +kernel
theorem dX0_build_41 : decode cX0_build 41 = .ok (.iastore, 1) := by decide +kernel
theorem dX0_build_42 : decode cX0_build 42 = .ok (.iload_n 1, 1) := by decide +kernel
theorem dX0_build_43 : decode cX0_build 43 = .ok (.bipush 100, 2) := by decide +kernel
theorem dX0_build_45 : decode cX0_build 45 = .ok (.if_icmp .lt 18, 3) := by decide +kernel
theorem dX0_build_48 : decode cX0_build 48 = .ok (.aload_n 0, 1) := by decide +kernel
theorem dX0_build_49 : decode cX0_build 49 = .ok (.getfield 26, 3) := by decide +kernel
theorem dX0_build_52 : decode cX0_build 52 = .ok (.iload_n 1, 1) := by decide +kernel
theorem dX0_build_53 : decode cX0_build 53 = .ok (.bipush 100, 2) := by decide +kernel
theorem dX0_build_55 : decode cX0_build 55 = .ok (.isub, 1) := by decide +kernel
theorem dX0_build_56 : decode cX0_build 56 = .ok (.aload_n 0, 1) := by decide +kernel
theorem dX0_build_57 : decode cX0_build 57 = .ok (.getfield 30, 3) := by decide +kernel
theorem dX0_build_60 : decode cX0_build 60 = .ok (.invokevirtual 38, 3) := by decide +kernel
theorem dX0_build_63 : decode cX0_build 63 = .ok (.aload_n 0, 1) := by decide +kernel
theorem dX0_build_64 : decode cX0_build 64 = .ok (.dup, 1) := by decide +kernel
theorem dX0_build_65 : decode cX0_build 65 = .ok (.getfield 30, 3) := by decide +kernel
theorem dX0_build_68 : decode cX0_build 68 = .ok (.iconst 1, 1) := by decide +kernel
theorem dX0_build_69 : decode cX0_build 69 = .ok (.iadd, 1) := by decide +kernel
theorem dX0_build_70 : decode cX0_build 70 = .ok (.putfield 30, 3) := by decide +kernel
theorem dX0_build_73 : decode cX0_build 73 = .ok (.aload_n 0, 1) := by decide +kernel
theorem dX0_build_74 : decode cX0_build 74 = .ok (.getfield 30, 3) := by decide +kernel
theorem dX0_build_77 : decode cX0_build 77 = .ok (.iconst 1, 1) := by decide +kernel
theorem dX0_build_78 : decode cX0_build 78 = .ok (.isub, 1) := by decide +kernel
theorem dX0_build_79 : decode cX0_build 79 = .ok (.ireturn, 1) := by decide +kernel
theorem dX1_init_0 : decode cX1_init 0 = .ok (.aload_n 0, 1) := by decide +kernel
theorem dX1_init_1 : decode cX1_init 1 = .ok (.invokespecial 3, 3) := by decide +kernel
theorem dX1_init_4 : decode cX1_init 4 = .ok (.aload_n 0, 1) := by decide +kernel
theorem dX1_init_5 : decode cX1_init 5 = .ok (.bipush 60, 2) := by decide +kernel
theorem dX1_init_7 : decode cX1_init 7 = .ok (.newarray .int, 2) := by decide +kernel
theorem dX1_init_9 : decode cX1_init 9 = .ok (.putfield 9, 3) := by decide +kernel
theorem dX1_init_12 : decode cX1_init 12 = .ok (.aload_n 0, 1) := by decide +kernel
theorem dX1_init_13 : decode cX1_init 13 = .ok (.bipush 60, 2) := by decide +kernel
theorem dX1_init_15 : decode cX1_init 15 = .ok (.newarray .int, 2) := by decide +kernel
theorem dX1_init_17 : decode cX1_init 17 = .ok (.putfield 15, 3) := by decide +kernel
theorem dX1_init_20 : decode cX1_init 20 = .ok (.aload_n 0, 1) := by decide +kernel
theorem dX1_init_21 : decode cX1_init 21 = .ok (.bipush 60, 2) := by decide +kernel
theorem dX1_init_23 : decode cX1_init 23 = .ok (.newarray .int, 2) := by decide +kernel
theorem dX1_init_25 : decode cX1_init 25 = .ok (.putfield 18, 3) := by decide +kernel
theorem dX1_init_28 : decode cX1_init 28 = .ok (.aload_n 0, 1) := by decide +kernel
theorem dX1_init_29 : decode cX1_init 29 = .ok (.bipush 40, 2) := by decide +kernel
theorem dX1_init_31 : decode cX1_init 31 = .ok (.newarray .int, 2) := by decide +kernel
theorem dX1_init_33 : decode cX1_init 33 = .ok (.putfield 21, 3) := by decide +kernel
theorem dX1_init_36 : decode cX1_init 36 = .ok (.return_, 1) := by decide +kernel
theorem dX1_add_0 : decode cX1_add 0 = .ok (.aload_n 0, 1) := by decide +kernel
theorem dX1_add_1 : decode cX1_add 1 = .ok (.getfield 24, 3) := by decide +kernel
theorem dX1_add_4 : decode cX1_add 4 = .ok (.bipush 60, 2) := by decide +kernel
theorem dX1_add_6 : decode cX1_add 6 = .ok (.if_icmp .lt 6, 3) := by decide +kernel
theorem dX1_add_9 : decode cX1_add 9 = .ok (.bipush (-5), 2) := by decide +kernel
theorem dX1_add_11 : decode cX1_add 11 = .ok (.ireturn, 1) := by decide +kernel
theorem dX1_add_12 : decode cX1_add 12 = .ok (.aload_n 0, 1) := by decide +kernel
theorem dX1_add_13 : decode cX1_add 13 = .ok (.getfield 9, 3) := by decide +kernel
theorem dX1_add_16 : decode cX1_add 16 = .ok (.aload_n 0, 1) := by decide +kernel
theorem dX1_add_17 : decode cX1_add 17 = .ok (.getfield 24, 3) := by decide +kernel
theorem dX1_add_20 : decode cX1_add 20 = .ok (.iload_n 1, 1) := by decide +kernel
theorem dX1_add_21 : decode cX1_add 21 = .ok (.iastore, 1) := by decide +kernel
theorem dX1_add_22 : decode cX1_add 22 = .ok (.aload_n 0, 1) := by decide +kernel
theorem dX1_add_23 : decode cX1_add 23 = .ok (.getfield 15, 3) := by decide +kernel
theorem dX1_add_26 : decode cX1_add 26 = .ok (.aload_n 0, 1) := by decide +kernel
theorem dX1_add_27 : decode cX1_add 27 = .ok (.getfield 24, 3) := by decide +kernel
theorem dX1_add_30 : decode cX1_add 30 = .ok (.iload_n 2, 1) := by decide +kernel
theorem dX1_add_31 : decode cX1_add 31 = .ok (.iastore, 1) := by decide +kernel
theorem dX1_add_32 : decode cX1_add 32 = .ok (.aload_n 0, 1) := by decide +kernel
theorem dX1_add_33 : decode cX1_add 33 = .ok (.getfield 18, 3) := by decide +kernel
theorem dX1_add_36 : decode cX1_add 36 = .ok (.aload_n 0, 1) := by decide +kernel
theorem dX1_add_37 : decode cX1_add 37 = .ok (.getfield 24, 3) := by decide +kernel
theorem dX1_add_40 : decode cX1_add 40 = .ok (.iload_n 3, 1) := by decide +kernel
theorem dX1_add_41 : decode cX1_add 41 = .ok (.iastore, 1) := by decide +kernel
theorem dX1_add_42 : decode cX1_add 42 = .ok (.aload_n 0, 1) := by decide +kernel
theorem dX1_add_43 : decode cX1_add 43 = .ok (.dup, 1) := by decide +kernel
theorem dX1_add_44 : decode cX1_add 44 = .ok (.getfield 24, 3) := by decide +kernel
theorem dX1_add_47 : decode cX1_add 47 = .ok (.iconst 1, 1) := by decide +kernel
theorem dX1_add_48 : decode cX1_add 48 = .ok (.iadd, 1) := by decide +kernel
theorem dX1_add_49 : decode cX1_add 49 = .ok (.putfield 24, 3) := by decide +kernel
theorem dX1_add_52 : decode cX1_add 52 = .ok (.aload_n 0, 1) := by decide +kernel
theorem dX1_add_53 : decode cX1_add 53 = .ok (.getfield 24, 3) := by decide +kernel
theorem dX1_add_56 : decode cX1_add 56 = .ok (.ireturn, 1) := by decide +kernel
theorem dX1_settle_0 : decode cX1_settle 0 = .ok (.iconst 0, 1) := by decide +kernel
theorem dX1_settle_1 : decode cX1_settle 1 = .ok (.istore_n 2, 1) := by decide +kernel
theorem dX1_settle_2 : decode cX1_settle 2 = .ok (.iload_n 2, 1) := by decide +kernel
theorem dX1_settle_3 : decode cX1_settle 3 = .ok (.bipush 40, 2) := by decide +kernel
theorem dX1_settle_5 : decode cX1_settle 5 = .ok (.if_icmp .ge 16, 3) := by decide +kernel
theorem dX1_settle_8 : decode cX1_settle 8 = .ok (.aload_n 0, 1) := by decide +kernel
theorem dX1_settle_9 : decode cX1_settle 9 = .ok (.getfield 21, 3) := by decide +kernel
theorem dX1_settle_12 : decode cX1_settle 12 = .ok (.iload_n 2, 1) := by decide +kernel
theorem dX1_settle_13 : decode cX1_settle 13 = .ok (.iconst (-1), 1) := by decide +kernel
theorem dX1_settle_14 : decode cX1_settle 14 = .ok (.iastore, 1) := by decide +kernel
theorem dX1_settle_15 : decode cX1_settle 15 = .ok (.iinc 2 1, 3) := by decide +kernel
theorem dX1_settle_18 : decode cX1_settle 18 = .ok (.goto (-16), 3) := by decide +kernel
theorem dX1_settle_21 : decode cX1_settle 21 = .ok (.iconst 0, 1) := by decide +kernel
theorem dX1_settle_22 : decode cX1_settle 22 = .ok (.istore_n 2, 1) := by decide +kernel
theorem dX1_settle_23 : decode cX1_settle 23 = .ok (.iload_n 2, 1) := by decide +kernel
theorem dX1_settle_24 : decode cX1_settle 24 = .ok (.aload_n 0, 1) := by decide +kernel
theorem dX1_settle_25 : decode cX1_settle 25 = .ok (.getfield 24, 3) := by decide +kernel
theorem dX1_settle_28 : decode cX1_settle 28 = .ok (.if_icmp .ge 36, 3) := by decide +kernel
theorem dX1_settle_31 : decode cX1_settle 31 = .ok (.aload_n 0, 1) := by decide +kernel
theorem dX1_settle_32 : decode cX1_settle 32 = .ok (.getfield 18, 3) := by decide +kernel
theorem dX1_settle_35 : decode cX1_settle 35 = .ok (.iload_n 2, 1) := by decide +kernel
theorem dX1_settle_36 : decode cX1_settle 36 = .ok (.iaload, 1) := by decide +kernel
theorem dX1_settle_37 : decode cX1_settle 37 = .ok (.iload_n 1, 1) := by decide +kernel
theorem dX1_settle_38 : decode cX1_settle 38 = .ok (.if_icmp .gt 20, 3) := by decide +kernel
theorem dX1_settle_41 : decode cX1_settle 41 = .ok (.aload_n 0, 1) := by decide +kernel
theorem dX1_settle_42 : decode cX1_settle 42 = .ok (.getfield 21, 3) := by decide +kernel
theorem dX1_settle_45 : decode cX1_settle 45 = .ok (.aload_n 0, 1) := by decide +kernel
theorem dX1_settle_46 : decode cX1_settle 46 = .ok (.getfield 9, 3) := by decide +kernel
theorem dX1_settle_49 : decode cX1_settle 49 = .ok (.iload_n 2, 1) := by decide +kernel
theorem dX1_settle_50 : decode cX1_settle 50 = .ok (.iaload, 1) := by decide +kernel
theorem dX1_settle_51 : decode cX1_settle 51 = .ok (.aload_n 0, 1) := by decide +kernel
theorem dX1_settle_52 : decode cX1_settle 52 = .ok (.getfield 15, 3) := by decide +kernel
theorem dX1_settle_55 : decode cX1_settle 55 = .ok (.iload_n 2, 1) := by decide +kernel
theorem dX1_settle_56 : decode cX1_settle 56 = .ok (.iaload, 1) := by decide +kernel
theorem dX1_settle_57 : decode cX1_settle 57 = .ok (.iastore, 1) := by decide +kernel
theorem dX1_settle_58 : decode cX1_settle 58 = .ok (.iinc 2 1, 3) := by decide +kernel
theorem dX1_settle_61 : decode cX1_settle 61 = .ok (.goto (-38), 3) := by decide +kernel
theorem dX1_settle_64 : decode cX1_settle 64 = .ok (.return_, 1) := by decide +kernel
theorem dX1_isWithinLife_0 : decode cX1_isWithinLife 0 = .ok (.aload_n 0, 1) := by decide +kernel
theorem dX1_isWithinLife_1 : decode cX1_isWithinLife 1 = .ok (.getfield 21, 3) := by decide +kernel
theorem dX1_isWithinLife_4 : decode cX1_isWithinLife 4 = .ok (.iload_n 1, 1) := by decide +kernel
theorem dX1_isWithinLife_5 : decode cX1_isWithinLife 5 = .ok (.iaload, 1) := by decide +kernel
theorem dX1_isWithinLife_6 : decode cX1_isWithinLife 6 = .ok (.iconst (-1), 1) := by decide +kernel
theorem dX1_isWithinLife_7 : decode cX1_isWithinLife 7 = .ok (.if_icmp .eq 15, 3) := by decide +kernel
theorem dX1_isWithinLife_10 : decode cX1_isWithinLife 10 = .ok (.iload_n 2, 1) := by decide +kernel
theorem dX1_isWithinLife_11 : decode cX1_isWithinLife 11 = .ok (.aload_n 0, 1) := by decide +kernel
theorem dX1_isWithinLife_12 : decode cX1_isWithinLife 12 = .ok (.getfield 21, 3) := by decide +kernel
theorem dX1_isWithinLife_15 : decode cX1_isWithinLife 15 = .ok (.iload_n 1, 1) := by decide +kernel
theorem dX1_isWithinLife_16 : decode cX1_isWithinLife 16 = .ok (.iaload, 1) := by decide +kernel
theorem dX1_isWithinLife_17 : decode cX1_isWithinLife 17 = .ok (.iload_n 3, 1) := by decide +kernel
theorem dX1_isWithinLife_18 : decode cX1_isWithinLife 18 = .ok (.iadd, 1) := by decide +kernel
theorem dX1_isWithinLife_19 : decode cX1_isWithinLife 19 = .ok (.if_icmp .gt 7, 3) := by decide +kernel
theorem dX1_isWithinLife_22 : decode cX1_isWithinLife 22 = .ok (.iconst 1, 1) := by decide +kernel
theorem dX1_isWithinLife_23 : decode cX1_isWithinLife 23 = .ok (.goto 4, 3) := by decide +kernel
theorem dX1_isWithinLife_26 : decode cX1_isWithinLife 26 = .ok (.iconst 0, 1) := by decide +kernel
theorem dX1_isWithinLife_27 : decode cX1_isWithinLife 27 = .ok (.ireturn, 1) := by decide +kernel
theorem dX2_init_0 : decode cX2_init 0 = .ok (.aload_n 0, 1) := by decide +kernel
theorem dX2_init_1 : decode cX2_init 1 = .ok (.invokespecial 3, 3) := by decide +kernel
theorem dX2_init_4 : decode cX2_init 4 = .ok (.aload_n 0, 1) := by decide +kernel
theorem dX2_init_5 : decode cX2_init 5 = .ok (.new 9, 3) := by decide +kernel
theorem dX2_init_8 : decode cX2_init 8 = .ok (.dup, 1) := by decide +kernel
theorem dX2_init_9 : decode cX2_init 9 = .ok (.invokespecial 11, 3) := by decide +kernel
theorem dX2_init_12 : decode cX2_init 12 = .ok (.putfield 12, 3) := by decide +kernel
theorem dX2_init_15 : decode cX2_init 15 = .ok (.aload_n 0, 1) := by decide +kernel
theorem dX2_init_16 : decode cX2_init 16 = .ok (.bipush 12, 2) := by decide +kernel
theorem dX2_init_18 : decode cX2_init 18 = .ok (.newarray .int, 2) := by decide +kernel
theorem dX2_init_20 : decode cX2_init 20 = .ok (.putfield 18, 3) := by decide +kernel
theorem dX2_init_23 : decode cX2_init 23 = .ok (.aload_n 0, 1) := by decide +kernel
theorem dX2_init_24 : decode cX2_init 24 = .ok (.bipush 7, 2) := by decide +kernel
theorem dX2_init_26 : decode cX2_init 26 = .ok (.bipush 12, 2) := by decide +kernel
theorem dX2_init_28 : decode cX2_init 28 = .ok (.multianewarray 22 2, 4) := by decide +kernel
theorem dX2_init_32 : decode cX2_init 32 = .ok (.putfield 24, 3) := by decide +kernel
theorem dX2_init_35 : decode cX2_init 35 = .ok (.aload_n 0, 1) := by decide +kernel
theorem dX2_init_36 : decode cX2_init 36 = .ok (.bipush 80, 2) := by decide +kernel
theorem dX2_init_38 : decode cX2_init 38 = .ok (.newarray .boolean, 2) := by decide +kernel
theorem dX2_init_40 : decode cX2_init 40 = .ok (.putfield 27, 3) := by decide +kernel
theorem dX2_init_43 : decode cX2_init 43 = .ok (.aload_n 0, 1) := by decide +kernel
theorem dX2_init_44 : decode cX2_init 44 = .ok (.bipush 80, 2) := by decide +kernel
theorem dX2_init_46 : decode cX2_init 46 = .ok (.newarray .int, 2) := by decide +kernel
theorem dX2_init_48 : decode cX2_init 48 = .ok (.putfield 31, 3) := by decide +kernel
theorem dX2_init_51 : decode cX2_init 51 = .ok (.aload_n 0, 1) := by decide +kernel
theorem dX2_init_52 : decode cX2_init 52 = .ok (.bipush 8, 2) := by decide +kernel
theorem dX2_init_54 : decode cX2_init 54 = .ok (.newarray .int, 2) := by decide +kernel
theorem dX2_init_56 : decode cX2_init 56 = .ok (.putfield 34, 3) := by decide +kernel
theorem dX2_init_59 : decode cX2_init 59 = .ok (.aload_n 0, 1) := by decide +kernel
theorem dX2_init_60 : decode cX2_init 60 = .ok (.bipush 8, 2) := by decide +kernel
theorem dX2_init_62 : decode cX2_init 62 = .ok (.newarray .int, 2) := by decide +kernel
theorem dX2_init_64 : decode cX2_init 64 = .ok (.putfield 37, 3) := by decide +kernel
theorem dX2_init_67 : decode cX2_init 67 = .ok (.aload_n 0, 1) := by decide +kernel
theorem dX2_init_68 : decode cX2_init 68 = .ok (.aload_n 1, 1) := by decide +kernel
theorem dX2_init_69 : decode cX2_init 69 = .ok (.putfield 40, 3) := by decide +kernel
theorem dX2_init_72 : decode cX2_init 72 = .ok (.aload_n 0, 1) := by decide +kernel
theorem dX2_init_73 : decode cX2_init 73 = .ok (.aload_n 2, 1) := by decide +kernel
theorem dX2_init_74 : decode cX2_init 74 = .ok (.putfield 44, 3) := by decide +kernel
theorem dX2_init_77 : decode cX2_init 77 = .ok (.aload_n 0, 1) := by decide +kernel
theorem dX2_init_78 : decode cX2_init 78 = .ok (.aload_n 3, 1) := by decide +kernel
theorem dX2_init_79 : decode cX2_init 79 = .ok (.putfield 48, 3) := by decide +kernel
theorem dX2_init_82 : decode cX2_init 82 = .ok (.aload_n 0, 1) := by decide +kernel
theorem dX2_init_83 : decode cX2_init 83 = .ok (.aload 4, 2) := by decide +kernel
theorem dX2_init_85 : decode cX2_init 85 = .ok (.putfield 52, 3) := by decide +kernel
theorem dX2_init_88 : decode cX2_init 88 = .ok (.aload_n 0, 1) := by decide +kernel
theorem dX2_init_89 : decode cX2_init 89 = .ok (.aload 5, 2) := by decide +kernel
theorem dX2_init_91 : decode cX2_init 91 = .ok (.putfield 56, 3) := by decide +kernel
theorem dX2_init_94 : decode cX2_init 94 = .ok (.aload_n 0, 1) := by decide +kernel
theorem dX2_init_95 : decode cX2_init 95 = .ok (.aload 6, 2) := by decide +kernel
theorem dX2_init_97 : decode cX2_init 97 = .ok (.putfield 60, 3) := by decide +kernel
theorem dX2_init_100 : decode cX2_init 100 = .ok (.aload_n 0, 1) := by decide +kernel
theorem dX2_init_101 : decode cX2_init 101 = .ok (.aload 7, 2) := by decide +kernel
theorem dX2_init_103 : decode cX2_init 103 = .ok (.putfield 64, 3) := by decide +kernel
theorem dX2_init_106 : decode cX2_init 106 = .ok (.return_, 1) := by decide +kernel
theorem dX2_run_0 : decode cX2_run 0 = .ok (.aload_n 0, 1) := by decide +kernel
theorem dX2_run_1 : decode cX2_run 1 = .ok (.iload_n 1, 1) := by decide +kernel
theorem dX2_run_2 : decode cX2_run 2 = .ok (.iload_n 2, 1) := by decide +kernel
theorem dX2_run_3 : decode cX2_run 3 = .ok (.invokevirtual 67, 3) := by decide +kernel
theorem dX2_run_6 : decode cX2_run 6 = .ok (.aload_n 0, 1) := by decide +kernel
theorem dX2_run_7 : decode cX2_run 7 = .ok (.iconst (-1), 1) := by decide +kernel
theorem dX2_run_8 : decode cX2_run 8 = .ok (.invokevirtual 71, 3) := by decide +kernel
theorem dX2_run_11 : decode cX2_run 11 = .ok (.return_, 1) := by decide +kernel
theorem dX2_prepare_0 : decode cX2_prepare 0 = .ok (.aload_n 0, 1) := by decide +kernel
theorem dX2_prepare_1 : decode cX2_prepare 1 = .ok (.iload_n 1, 1) := by decide +kernel
theorem dX2_prepare_2 : decode cX2_prepare 2 = .ok (.putfield 75, 3) := by decide +kernel
theorem dX2_prepare_5 : decode cX2_prepare 5 = .ok (.aload_n 0, 1) := by decide +kernel
theorem dX2_prepare_6 : decode cX2_prepare 6 = .ok (.getfield 40, 3) := by decide +kernel
theorem dX2_prepare_9 : decode cX2_prepare 9 = .ok (.iload_n 1, 1) := by decide +kernel
theorem dX2_prepare_10 : decode cX2_prepare 10 = .ok (.invokevirtual 79, 3) := by decide +kernel
theorem dX2_prepare_13 : decode cX2_prepare 13 = .ok (.aload_n 0, 1) := by decide +kernel
theorem dX2_prepare_14 : decode cX2_prepare 14 = .ok (.getfield 44, 3) := by decide +kernel
theorem dX2_prepare_17 : decode cX2_prepare 17 = .ok (.iload_n 2, 1) := by decide +kernel
theorem dX2_prepare_18 : decode cX2_prepare 18 = .ok (.invokevirtual 84, 3) := by decide +kernel
theorem dX2_prepare_21 : decode cX2_prepare 21 = .ok (.return_, 1) := by decide +kernel
theorem dX2_flow_0 : decode cX2_flow 0 = .ok (.aload_n 0, 1) := by decide +kernel
theorem dX2_flow_1 : decode cX2_flow 1 = .ok (.getfield 48, 3) := by decide +kernel
theorem dX2_flow_4 : decode cX2_flow 4 = .ok (.aload_n 0, 1) := by decide +kernel
theorem dX2_flow_5 : decode cX2_flow 5 = .ok (.getfield 75, 3) := by decide +kernel
theorem dX2_flow_8 : decode cX2_flow 8 = .ok (.invokevirtual 87, 3) := by decide +kernel
theorem dX2_flow_11 : decode cX2_flow 11 = .ok (.aload_n 0, 1) := by decide +kernel
theorem dX2_flow_12 : decode cX2_flow 12 = .ok (.invokevirtual 90, 3) := by decide +kernel
theorem dX2_flow_15 : decode cX2_flow 15 = .ok (.aload_n 0, 1) := by decide +kernel
theorem dX2_flow_16 : decode cX2_flow 16 = .ok (.iload_n 1, 1) := by decide +kernel
theorem dX2_flow_17 : decode cX2_flow 17 = .ok (.invokevirtual 93, 3) := by decide +kernel
theorem dX2_flow_20 : decode cX2_flow 20 = .ok (.iconst 0, 1) := by decide +kernel
theorem dX2_flow_21 : decode cX2_flow 21 = .ok (.istore_n 2, 1) := by decide +kernel
theorem dX2_flow_22 : decode cX2_flow 22 = .ok (.iload_n 2, 1) := by decide +kernel
theorem dX2_flow_23 : decode cX2_flow 23 = .ok (.aload_n 0, 1) := by decide +kernel
theorem dX2_flow_24 : decode cX2_flow 24 = .ok (.getfield 52, 3) := by decide +kernel
theorem dX2_flow_27 : decode cX2_flow 27 = .ok (.getfield 96, 3) := by decide +kernel
theorem dX2_flow_30 : decode cX2_flow 30 = .ok (.if_icmp .ge 24, 3) := by decide +kernel
theorem dX2_flow_33 : decode cX2_flow 33 = .ok (.aload_n 0, 1) := by decide +kernel
theorem dX2_flow_34 : decode cX2_flow 34 = .ok (.iload_n 2, 1) := by decide +kernel
theorem dX2_flow_35 : decode cX2_flow 35 = .ok (.invokevirtual 101, 3) := by decide +kernel
theorem dX2_flow_38 : decode cX2_flow 38 = .ok (.aload_n 0, 1) := by decide +kernel
theorem dX2_flow_39 : decode cX2_flow 39 = .ok (.iload_n 2, 1) := by decide +kernel
theorem dX2_flow_40 : decode cX2_flow 40 = .ok (.invokevirtual 104, 3) := by decide +kernel
theorem dX2_flow_43 : decode cX2_flow 43 = .ok (.aload_n 0, 1) := by decide +kernel
theorem dX2_flow_44 : decode cX2_flow 44 = .ok (.iload_n 2, 1) := by decide +kernel
theorem dX2_flow_45 : decode cX2_flow 45 = .ok (.invokevirtual 107, 3) := by decide +kernel
theorem dX2_flow_48 : decode cX2_flow 48 = .ok (.iinc 2 1, 3) := by decide +kernel
theorem dX2_flow_51 : decode cX2_flow 51 = .ok (.goto (-29), 3) := by decide +kernel
theorem dX2_flow_54 : decode cX2_flow 54 = .ok (.return_, 1) := by decide +kernel
theorem dX2_chooseServed_0 : decode cX2_chooseServed 0 = .ok (.iconst 0, 1) := by decide +kernel
theorem dX2_chooseServed_1 : decode cX2_chooseServed 1 = .ok (.istore_n 1, 1) := by decide +kernel
theorem dX2_chooseServed_2 : decode cX2_chooseServed 2 = .ok (.iload_n 1, 1) := by decide +kernel
theorem dX2_chooseServed_3 : decode cX2_chooseServed 3 = .ok (.aload_n 0, 1) := by decide +kernel
theorem dX2_chooseServed_4 : decode cX2_chooseServed 4 = .ok (.getfield 56, 3) := by decide +kernel
theorem dX2_chooseServed_7 : decode cX2_chooseServed 7 = .ok (.getfield 110, 3) := by decide +kernel
theorem dX2_chooseServed_10 : decode cX2_chooseServed 10 = .ok (.if_icmp .ge 55, 3) := by decide +kernel
theorem dX2_chooseServed_13 : decode cX2_chooseServed 13 = .ok (.aload_n 0, 1) := by decide +kernel
theorem dX2_chooseServed_14 : decode cX2_chooseServed 14 = .ok (.getfield 27, 3) := by decide +kernel
theorem dX2_chooseServed_17 : decode cX2_chooseServed 17 = .ok (.iload_n 1, 1) := by decide +kernel
theorem dX2_chooseServed_18 : decode cX2_chooseServed 18 = .ok (.aload_n 0, 1) := by decide +kernel
theorem dX2_chooseServed_19 : decode cX2_chooseServed 19 = .ok (.getfield 56, 3) := by decide +kernel
theorem dX2_chooseServed_22 : decode cX2_chooseServed 22 = .ok (.getfield 113, 3) := by decide +kernel
theorem dX2_chooseServed_25 : decode cX2_chooseServed 25 = .ok (.iload_n 1, 1) := by decide +kernel
theorem dX2_chooseServed_26 : decode cX2_chooseServed 26 = .ok (.iaload, 1) := by decide +kernel
theorem dX2_chooseServed_27 : decode cX2_chooseServed 27 = .ok (.iconst 2, 1) := by decide +kernel
theorem dX2_chooseServed_28 : decode cX2_chooseServed 28 = .ok (.if_icmp .ne 11, 3) := by decide +kernel
theorem dX2_chooseServed_31 : decode cX2_chooseServed 31 = .ok (.aload_n 0, 1) := by decide +kernel
theorem dX2_chooseServed_32 : decode cX2_chooseServed 32 = .ok (.iload_n 1, 1) := by decide +kernel
theorem dX2_chooseServed_33 : decode cX2_chooseServed 33 = .ok (.invokevirtual 116, 3) := by decide +kernel
theorem dX2_chooseServed_36 : decode cX2_chooseServed 36 = .ok (.goto 15, 3) := by decide +kernel
theorem dX2_chooseServed_39 : decode cX2_chooseServed 39 = .ok (.aload_n 0, 1) := by decide +kernel
theorem dX2_chooseServed_40 : decode cX2_chooseServed 40 = .ok (.getfield 56, 3) := by decide +kernel
theorem dX2_chooseServed_43 : decode cX2_chooseServed 43 = .ok (.iload_n 1, 1) := by decide +kernel
theorem dX2_chooseServed_44 : decode cX2_chooseServed 44 = .ok (.aload_n 0, 1) := by decide +kernel
theorem dX2_chooseServed_45 : decode cX2_chooseServed 45 = .ok (.getfield 75, 3) := by decide +kernel
theorem dX2_chooseServed_48 : decode cX2_chooseServed 48 = .ok (.invokevirtual 120, 3) := by decide +kernel
theorem dX2_chooseServed_51 : decode cX2_chooseServed 51 = .ok (.bastore, 1) := by decide +kernel
theorem dX2_chooseServed_52 : decode cX2_chooseServed 52 = .ok (.aload_n 0, 1) := by decide +kernel
theorem dX2_chooseServed_53 : decode cX2_chooseServed 53 = .ok (.getfield 31, 3) := by decide +kernel
theorem dX2_chooseServed_56 : decode cX2_chooseServed 56 = .ok (.iload_n 1, 1) := by decide +kernel
theorem dX2_chooseServed_57 : decode cX2_chooseServed 57 = .ok (.iconst 0, 1) := by decide +kernel
theorem dX2_chooseServed_58 : decode cX2_chooseServed 58 = .ok (.iastore, 1) := by decide +kernel
theorem dX2_chooseServed_59 : decode cX2_chooseServed 59 = .ok (.iinc 1 1, 3) := by decide +kernel
theorem dX2_chooseServed_62 : decode cX2_chooseServed 62 = .ok (.goto (-60), 3) := by decide +kernel
theorem dX2_chooseServed_65 : decode cX2_chooseServed 65 = .ok (.return_, 1) := by decide +kernel
theorem dX2_isLiving_0 : decode cX2_isLiving 0 = .ok (.aload_n 0, 1) := by decide +kernel
theorem dX2_isLiving_1 : decode cX2_isLiving 1 = .ok (.getfield 56, 3) := by decide +kernel
theorem dX2_isLiving_4 : decode cX2_isLiving 4 = .ok (.iload_n 1, 1) := by decide +kernel
theorem dX2_isLiving_5 : decode cX2_isLiving 5 = .ok (.aload_n 0, 1) := by decide +kernel
theorem dX2_isLiving_6 : decode cX2_isLiving 6 = .ok (.getfield 75, 3) := by decide +kernel
theorem dX2_isLiving_9 : decode cX2_isLiving 9 = .ok (.invokevirtual 120, 3) := by decide +kernel
theorem dX2_isLiving_12 : decode cX2_isLiving 12 = .ok (.ifCond .eq 58, 3) := by decide +kernel
theorem dX2_isLiving_15 : decode cX2_isLiving 15 = .ok (.aload_n 0, 1) := by decide +kernel
theorem dX2_isLiving_16 : decode cX2_isLiving 16 = .ok (.getfield 40, 3) := by decide +kernel
theorem dX2_isLiving_19 : decode cX2_isLiving 19 = .ok (.aload_n 0, 1) := by decide +kernel
theorem dX2_isLiving_20 : decode cX2_isLiving 20 = .ok (.getfield 56, 3) := by decide +kernel
theorem dX2_isLiving_23 : decode cX2_isLiving 23 = .ok (.getfield 124, 3) := by decide +kernel
theorem dX2_isLiving_26 : decode cX2_isLiving 26 = .ok (.iload_n 1, 1) := by decide +kernel
theorem dX2_isLiving_27 : decode cX2_isLiving 27 = .ok (.iaload, 1) := by decide +kernel
theorem dX2_isLiving_28 : decode cX2_isLiving 28 = .ok (.invokevirtual 127, 3) := by decide +kernel
theorem dX2_isLiving_31 : decode cX2_isLiving 31 = .ok (.ifCond .ne 39, 3) := by decide +kernel
theorem dX2_isLiving_34 : decode cX2_isLiving 34 = .ok (.aload_n 0, 1) := by decide +kernel
theorem dX2_isLiving_35 : decode cX2_isLiving 35 = .ok (.getfield 44, 3) := by decide +kernel
theorem dX2_isLiving_38 : decode cX2_isLiving 38 = .ok (.aload_n 0, 1) := by decide +kernel
theorem dX2_isLiving_39 : decode cX2_isLiving 39 = .ok (.getfield 56, 3) := by decide +kernel
theorem dX2_isLiving_42 : decode cX2_isLiving 42 = .ok (.getfield 130, 3) := by decide +kernel
theorem dX2_isLiving_45 : decode cX2_isLiving 45 = .ok (.iload_n 1, 1) := by decide +kernel
theorem dX2_isLiving_46 : decode cX2_isLiving 46 = .ok (.iaload, 1) := by decide +kernel
theorem dX2_isLiving_47 : decode cX2_isLiving 47 = .ok (.aload_n 0, 1) := by decide +kernel
theorem dX2_isLiving_48 : decode cX2_isLiving 48 = .ok (.getfield 75, 3) := by decide +kernel
theorem dX2_isLiving_51 : decode cX2_isLiving 51 = .ok (.aload_n 0, 1) := by decide +kernel
theorem dX2_isLiving_52 : decode cX2_isLiving 52 = .ok (.getfield 40, 3) := by decide +kernel
theorem dX2_isLiving_55 : decode cX2_isLiving 55 = .ok (.getfield 133, 3) := by decide +kernel
theorem dX2_isLiving_58 : decode cX2_isLiving 58 = .ok (.iconst 1, 1) := by decide +kernel
theorem dX2_isLiving_59 : decode cX2_isLiving 59 = .ok (.iaload, 1) := by decide +kernel
theorem dX2_isLiving_60 : decode cX2_isLiving 60 = .ok (.invokevirtual 136, 3) := by decide +kernel
theorem dX2_isLiving_63 : decode cX2_isLiving 63 = .ok (.ifCond .eq 7, 3) := by decide +kernel
theorem dX2_isLiving_66 : decode cX2_isLiving 66 = .ok (.iconst 1, 1) := by decide +kernel
theorem dX2_isLiving_67 : decode cX2_isLiving 67 = .ok (.goto 4, 3) := by decide +kernel
theorem dX2_isLiving_70 : decode cX2_isLiving 70 = .ok (.iconst 0, 1) := by decide +kernel
theorem dX2_isLiving_71 : decode cX2_isLiving 71 = .ok (.ireturn, 1) := by decide +kernel
theorem dX2_openPipes_0 : decode cX2_openPipes 0 = .ok (.iconst 0, 1) := by decide +kernel
theorem dX2_openPipes_1 : decode cX2_openPipes 1 = .ok (.istore_n 2, 1) := by decide +kernel
theorem dX2_openPipes_2 : decode cX2_openPipes 2 = .ok (.iload_n 2, 1) := by decide +kernel
theorem dX2_openPipes_3 : decode cX2_openPipes 3 = .ok (.aload_n 0, 1) := by decide +kernel
theorem dX2_openPipes_4 : decode cX2_openPipes 4 = .ok (.getfield 52, 3) := by decide +kernel
theorem dX2_openPipes_7 : decode cX2_openPipes 7 = .ok (.getfield 96, 3) := by decide +kernel
theorem dX2_openPipes_10 : decode cX2_openPipes 10 = .ok (.if_icmp .ge 67, 3) := by decide +kernel
theorem dX2_openPipes_13 : decode cX2_openPipes 13 = .ok (.iload_n 2, 1) := by decide +kernel
theorem dX2_openPipes_14 : decode cX2_openPipes 14 = .ok (.iload_n 1, 1) := by decide +kernel
theorem dX2_openPipes_15 : decode cX2_openPipes 15 = .ok (.if_icmp .eq 18, 3) := by decide +kernel
theorem dX2_openPipes_18 : decode cX2_openPipes 18 = .ok (.aload_n 0, 1) := by decide +kernel
theorem dX2_openPipes_19 : decode cX2_openPipes 19 = .ok (.getfield 64, 3) := by decide +kernel
theorem dX2_openPipes_22 : decode cX2_openPipes 22 = .ok (.iload_n 2, 1) := by decide +kernel
theorem dX2_openPipes_23 : decode cX2_openPipes 23 = .ok (.aload_n 0, 1) := by decide +kernel
theorem dX2_openPipes_24 : decode cX2_openPipes 24 = .ok (.getfield 75, 3) := by decide +kernel
theorem dX2_openPipes_27 : decode cX2_openPipes 27 = .ok (.invokevirtual 140, 3) := by decide +kernel
theorem dX2_openPipes_30 : decode cX2_openPipes 30 = .ok (.ifCond .eq 7, 3) := by decide +kernel
theorem dX2_openPipes_33 : decode cX2_openPipes 33 = .ok (.iconst 1, 1) := by decide +kernel
theorem dX2_openPipes_34 : decode cX2_openPipes 34 = .ok (.goto 4, 3) := by decide +kernel
theorem dX2_openPipes_37 : decode cX2_openPipes 37 = .ok (.iconst 0, 1) := by decide +kernel
theorem dX2_openPipes_38 : decode cX2_openPipes 38 = .ok (.istore_n 3, 1) := by decide +kernel
theorem dX2_openPipes_39 : decode cX2_openPipes 39 = .ok (.aload_n 0, 1) := by decide +kernel
theorem dX2_openPipes_40 : decode cX2_openPipes 40 = .ok (.getfield 18, 3) := by decide +kernel
theorem dX2_openPipes_43 : decode cX2_openPipes 43 = .ok (.iload_n 2, 1) := by decide +kernel
theorem dX2_openPipes_44 : decode cX2_openPipes 44 = .ok (.iload_n 3, 1) := by decide +kernel
theorem dX2_openPipes_45 : decode cX2_openPipes 45 = .ok (.ifCond .eq 7, 3) := by decide +kernel
theorem dX2_openPipes_48 : decode cX2_openPipes 48 = .ok (.iconst 0, 1) := by decide +kernel
theorem dX2_openPipes_49 : decode cX2_openPipes 49 = .ok (.goto 12, 3) := by decide +kernel
theorem dX2_openPipes_52 : decode cX2_openPipes 52 = .ok (.aload_n 0, 1) := by decide +kernel
theorem dX2_openPipes_53 : decode cX2_openPipes 53 = .ok (.getfield 52, 3) := by decide +kernel
theorem dX2_openPipes_56 : decode cX2_openPipes 56 = .ok (.getfield 145, 3) := by decide +kernel
theorem dX2_openPipes_59 : decode cX2_openPipes 59 = .ok (.iload_n 2, 1) := by decide +kernel
theorem dX2_openPipes_60 : decode cX2_openPipes 60 = .ok (.iaload, 1) := by decide +kernel
theorem dX2_openPipes_61 : decode cX2_openPipes 61 = .ok (.iastore, 1) := by decide +kernel
theorem dX2_openPipes_62 : decode cX2_openPipes 62 = .ok (.aload_n 0, 1) := by decide +kernel
theorem dX2_openPipes_63 : decode cX2_openPipes 63 = .ok (.getfield 24, 3) := by decide +kernel
theorem dX2_openPipes_66 : decode cX2_openPipes 66 = .ok (.iconst 1, 1) := by decide +kernel
theorem dX2_openPipes_67 : decode cX2_openPipes 67 = .ok (.aaload, 1) := by decide +kernel
theorem dX2_openPipes_68 : decode cX2_openPipes 68 = .ok (.iload_n 2, 1) := by decide +kernel
theorem dX2_openPipes_69 : decode cX2_openPipes 69 = .ok (.iconst 0, 1) := by decide +kernel
theorem dX2_openPipes_70 : decode cX2_openPipes 70 = .ok (.iastore, 1) := by decide +kernel
theorem dX2_openPipes_71 : decode cX2_openPipes 71 = .ok (.iinc 2 1, 3) := by decide +kernel
theorem dX2_openPipes_74 : decode cX2_openPipes 74 = .ok (.goto (-72), 3) := by decide +kernel
theorem dX2_openPipes_77 : decode cX2_openPipes 77 = .ok (.return_, 1) := by decide +kernel
theorem dX2_bringIn_0 : decode cX2_bringIn 0 = .ok (.aload_n 0, 1) := by decide +kernel
theorem dX2_bringIn_1 : decode cX2_bringIn 1 = .ok (.getfield 52, 3) := by decide +kernel
theorem dX2_bringIn_4 : decode cX2_bringIn 4 = .ok (.getfield 148, 3) := by decide +kernel
theorem dX2_bringIn_7 : decode cX2_bringIn 7 = .ok (.iload_n 1, 1) := by decide +kernel
theorem dX2_bringIn_8 : decode cX2_bringIn 8 = .ok (.iaload, 1) := by decide +kernel
theorem dX2_bringIn_9 : decode cX2_bringIn 9 = .ok (.bipush 100, 2) := by decide +kernel
theorem dX2_bringIn_11 : decode cX2_bringIn 11 = .ok (.if_icmp .ge 33, 3) := by decide +kernel
theorem dX2_bringIn_14 : decode cX2_bringIn 14 = .ok (.aload_n 0, 1) := by decide +kernel
theorem dX2_bringIn_15 : decode cX2_bringIn 15 = .ok (.getfield 24, 3) := by decide +kernel
theorem dX2_bringIn_18 : decode cX2_bringIn 18 = .ok (.iconst 1, 1) := by decide +kernel
theorem dX2_bringIn_19 : decode cX2_bringIn 19 = .ok (.aaload, 1) := by decide +kernel
theorem dX2_bringIn_20 : decode cX2_bringIn 20 = .ok (.iload_n 1, 1) := by decide +kernel
theorem dX2_bringIn_21 : decode cX2_bringIn 21 = .ok (.aload_n 0, 1) := by decide +kernel
theorem dX2_bringIn_22 : decode cX2_bringIn 22 = .ok (.getfield 48, 3) := by decide +kernel
theorem dX2_bringIn_25 : decode cX2_bringIn 25 = .ok (.aload_n 0, 1) := by decide +kernel
theorem dX2_bringIn_26 : decode cX2_bringIn 26 = .ok (.getfield 52, 3) := by decide +kernel
theorem dX2_bringIn_29 : decode cX2_bringIn 29 = .ok (.getfield 148, 3) := by decide +kernel
theorem dX2_bringIn_32 : decode cX2_bringIn 32 = .ok (.iload_n 1, 1) := by decide +kernel
theorem dX2_bringIn_33 : decode cX2_bringIn 33 = .ok (.iaload, 1) := by decide +kernel
theorem dX2_bringIn_34 : decode cX2_bringIn 34 = .ok (.aload_n 0, 1) := by decide +kernel
theorem dX2_bringIn_35 : decode cX2_bringIn 35 = .ok (.getfield 18, 3) := by decide +kernel
theorem dX2_bringIn_38 : decode cX2_bringIn 38 = .ok (.iload_n 1, 1) := by decide +kernel
theorem dX2_bringIn_39 : decode cX2_bringIn 39 = .ok (.iaload, 1) := by decide +kernel
theorem dX2_bringIn_40 : decode cX2_bringIn 40 = .ok (.invokevirtual 151, 3) := by decide +kernel
theorem dX2_bringIn_43 : decode cX2_bringIn 43 = .ok (.iastore, 1) := by decide +kernel
theorem dX2_bringIn_44 : decode cX2_bringIn 44 = .ok (.aload_n 0, 1) := by decide +kernel
theorem dX2_bringIn_45 : decode cX2_bringIn 45 = .ok (.getfield 24, 3) := by decide +kernel
theorem dX2_bringIn_48 : decode cX2_bringIn 48 = .ok (.iconst 1, 1) := by decide +kernel
theorem dX2_bringIn_49 : decode cX2_bringIn 49 = .ok (.aaload, 1) := by decide +kernel
theorem dX2_bringIn_50 : decode cX2_bringIn 50 = .ok (.iload_n 1, 1) := by decide +kernel
theorem dX2_bringIn_51 : decode cX2_bringIn 51 = .ok (.iaload, 1) := by decide +kernel
theorem dX2_bringIn_52 : decode cX2_bringIn 52 = .ok (.istore_n 2, 1) := by decide +kernel
theorem dX2_bringIn_53 : decode cX2_bringIn 53 = .ok (.aload_n 0, 1) := by decide +kernel
theorem dX2_bringIn_54 : decode cX2_bringIn 54 = .ok (.getfield 60, 3) := by decide +kernel
theorem dX2_bringIn_57 : decode cX2_bringIn 57 = .ok (.iload_n 1, 1) := by decide +kernel
theorem dX2_bringIn_58 : decode cX2_bringIn 58 = .ok (.aload_n 0, 1) := by decide +kernel
theorem dX2_bringIn_59 : decode cX2_bringIn 59 = .ok (.getfield 75, 3) := by decide +kernel
theorem dX2_bringIn_62 : decode cX2_bringIn 62 = .ok (.iload_n 2, 1) := by decide +kernel
theorem dX2_bringIn_63 : decode cX2_bringIn 63 = .ok (.invokevirtual 155, 3) := by decide +kernel
theorem dX2_bringIn_66 : decode cX2_bringIn 66 = .ok (.istore_n 3, 1) := by decide +kernel
theorem dX2_bringIn_67 : decode cX2_bringIn 67 = .ok (.aload_n 0, 1) := by decide +kernel
theorem dX2_bringIn_68 : decode cX2_bringIn 68 = .ok (.iload_n 1, 1) := by decide +kernel
theorem dX2_bringIn_69 : decode cX2_bringIn 69 = .ok (.iload_n 2, 1) := by decide +kernel
theorem dX2_bringIn_70 : decode cX2_bringIn 70 = .ok (.iload_n 3, 1) := by decide +kernel
theorem dX2_bringIn_71 : decode cX2_bringIn 71 = .ok (.isub, 1) := by decide +kernel
theorem dX2_bringIn_72 : decode cX2_bringIn 72 = .ok (.invokevirtual 159, 3) := by decide +kernel
theorem dX2_bringIn_75 : decode cX2_bringIn 75 = .ok (.istore 4, 2) := by decide +kernel
theorem dX2_bringIn_77 : decode cX2_bringIn 77 = .ok (.aload_n 0, 1) := by decide +kernel
theorem dX2_bringIn_78 : decode cX2_bringIn 78 = .ok (.getfield 24, 3) := by decide +kernel
theorem dX2_bringIn_81 : decode cX2_bringIn 81 = .ok (.iconst 2, 1) := by decide +kernel
theorem dX2_bringIn_82 : decode cX2_bringIn 82 = .ok (.aaload, 1) := by decide +kernel
theorem dX2_bringIn_83 : decode cX2_bringIn 83 = .ok (.iload_n 1, 1) := by decide +kernel
theorem dX2_bringIn_84 : decode cX2_bringIn 84 = .ok (.iload_n 3, 1) := by decide +kernel
theorem dX2_bringIn_85 : decode cX2_bringIn 85 = .ok (.iastore, 1) := by decide +kernel
theorem dX2_bringIn_86 : decode cX2_bringIn 86 = .ok (.aload_n 0, 1) := by decide +kernel
theorem dX2_bringIn_87 : decode cX2_bringIn 87 = .ok (.getfield 24, 3) := by decide +kernel
theorem dX2_bringIn_90 : decode cX2_bringIn 90 = .ok (.iconst 3, 1) := by decide +kernel
theorem dX2_bringIn_91 : decode cX2_bringIn 91 = .ok (.aaload, 1) := by decide +kernel
theorem dX2_bringIn_92 : decode cX2_bringIn 92 = .ok (.iload_n 1, 1) := by decide +kernel
theorem dX2_bringIn_93 : decode cX2_bringIn 93 = .ok (.iload 4, 2) := by decide +kernel
theorem dX2_bringIn_95 : decode cX2_bringIn 95 = .ok (.iastore, 1) := by decide +kernel
theorem dX2_bringIn_96 : decode cX2_bringIn 96 = .ok (.aload_n 0, 1) := by decide +kernel
theorem dX2_bringIn_97 : decode cX2_bringIn 97 = .ok (.getfield 24, 3) := by decide +kernel
theorem dX2_bringIn_100 : decode cX2_bringIn 100 = .ok (.iconst 0, 1) := by decide +kernel
theorem dX2_bringIn_101 : decode cX2_bringIn 101 = .ok (.aaload, 1) := by decide +kernel
theorem dX2_bringIn_102 : decode cX2_bringIn 102 = .ok (.iload_n 1, 1) := by decide +kernel
theorem dX2_bringIn_103 : decode cX2_bringIn 103 = .ok (.iload_n 2, 1) := by decide +kernel
theorem dX2_bringIn_104 : decode cX2_bringIn 104 = .ok (.iload_n 3, 1) := by decide +kernel
theorem dX2_bringIn_105 : decode cX2_bringIn 105 = .ok (.isub, 1) := by decide +kernel
theorem dX2_bringIn_106 : decode cX2_bringIn 106 = .ok (.iload 4, 2) := by decide +kernel
theorem dX2_bringIn_108 : decode cX2_bringIn 108 = .ok (.isub, 1) := by decide +kernel
theorem dX2_bringIn_109 : decode cX2_bringIn 109 = .ok (.iastore, 1) := by decide +kernel
theorem dX2_bringIn_110 : decode cX2_bringIn 110 = .ok (.return_, 1) := by decide +kernel
theorem dX2_lossOf_0 : decode cX2_lossOf 0 = .ok (.iload_n 2, 1) := by decide +kernel
theorem dX2_lossOf_1 : decode cX2_lossOf 1 = .ok (.aload_n 0, 1) := by decide +kernel
theorem dX2_lossOf_2 : decode cX2_lossOf 2 = .ok (.getfield 52, 3) := by decide +kernel
theorem dX2_lossOf_5 : decode cX2_lossOf 5 = .ok (.getfield 162, 3) := by decide +kernel
theorem dX2_lossOf_8 : decode cX2_lossOf 8 = .ok (.iload_n 1, 1) := by decide +kernel
theorem dX2_lossOf_9 : decode cX2_lossOf 9 = .ok (.iaload, 1) := by decide +kernel
theorem dX2_lossOf_10 : decode cX2_lossOf 10 = .ok (.imul, 1) := by decide +kernel
theorem dX2_lossOf_11 : decode cX2_lossOf 11 = .ok (.sipush 1000, 3) := by decide +kernel
theorem dX2_lossOf_14 : decode cX2_lossOf 14 = .ok (.idiv, 1) := by decide +kernel
theorem dX2_lossOf_15 : decode cX2_lossOf 15 = .ok (.ireturn, 1) := by decide +kernel
theorem dX2_partToNozzles_0 : decode cX2_partToNozzles 0 = .ok (.aload_n 0, 1) := by decide +kernel
theorem dX2_partToNozzles_1 : decode cX2_partToNozzles 1 = .ok (.getfield 40, 3) := by decide +kernel
theorem dX2_partToNozzles_4 : decode cX2_partToNozzles 4 = .ok (.getfield 133, 3) := by decide +kernel
theorem dX2_partToNozzles_7 : decode cX2_partToNozzles 7 = .ok (.iconst 0, 1) := by decide +kernel
theorem dX2_partToNozzles_8 : decode cX2_partToNozzles 8 = .ok (.iaload, 1) := by decide +kernel
theorem dX2_partToNozzles_9 : decode cX2_partToNozzles 9 = .ok (.istore_n 2, 1) := by decide +kernel
theorem dX2_partToNozzles_10 : decode cX2_partToNozzles 10 = .ok (.aload_n 0, 1) := by decide +kernel
theorem dX2_partToNozzles_11 : decode cX2_partToNozzles 11 = .ok (.getfield 24, 3) := by decide +kernel
theorem dX2_partToNozzles_14 : decode cX2_partToNozzles 14 = .ok (.iconst 0, 1) := by decide +kernel
theorem dX2_partToNozzles_15 : decode cX2_partToNozzles 15 = .ok (.aaload, 1) := by decide +kernel
theorem dX2_partToNozzles_16 : decode cX2_partToNozzles 16 = .ok (.iload_n 1, 1) := by decide +kernel
theorem dX2_partToNozzles_17 : decode cX2_partToNozzles 17 = .ok (.iaload, 1) := by decide +kernel
theorem dX2_partToNozzles_18 : decode cX2_partToNozzles 18 = .ok (.istore_n 3, 1) := by decide +kernel
theorem dX2_partToNozzles_19 : decode cX2_partToNozzles 19 = .ok (.iload_n 3, 1) := by decide +kernel
theorem dX2_partToNozzles_20 : decode cX2_partToNozzles 20 = .ok (.aload_n 0, 1) := by decide +kernel
theorem dX2_partToNozzles_21 : decode cX2_partToNozzles 21 = .ok (.iload_n 1, 1) := by decide +kernel
theorem dX2_partToNozzles_22 : decode cX2_partToNozzles 22 = .ok (.iload_n 2, 1) := by decide +kernel
theorem dX2_partToNozzles_23 : decode cX2_partToNozzles 23 = .ok (.iload_n 3, 1) := by decide +kernel
theorem dX2_partToNozzles_24 : decode cX2_partToNozzles 24 = .ok (.invokevirtual 165, 3) := by decide +kernel
theorem dX2_partToNozzles_27 : decode cX2_partToNozzles 27 = .ok (.isub, 1) := by decide +kernel
theorem dX2_partToNozzles_28 : decode cX2_partToNozzles 28 = .ok (.istore_n 3, 1) := by decide +kernel
theorem dX2_partToNozzles_29 : decode cX2_partToNozzles 29 = .ok (.iconst 0, 1) := by decide +kernel
theorem dX2_partToNozzles_30 : decode cX2_partToNozzles 30 = .ok (.istore 4, 2) := by decide +kernel
theorem dX2_partToNozzles_32 : decode cX2_partToNozzles 32 = .ok (.iload 4, 2) := by decide +kernel
theorem dX2_partToNozzles_34 : decode cX2_partToNozzles 34 = .ok (.iconst 3, 1) := by decide +kernel
theorem dX2_partToNozzles_35 : decode cX2_partToNozzles 35 = .ok (.if_icmp .ge 26, 3) := by decide +kernel
theorem dX2_partToNozzles_38 : decode cX2_partToNozzles 38 = .ok (.iload 4, 2) := by decide +kernel
theorem dX2_partToNozzles_40 : decode cX2_partToNozzles 40 = .ok (.iload_n 2, 1) := by decide +kernel
theorem dX2_partToNozzles_41 : decode cX2_partToNozzles 41 = .ok (.if_icmp .eq 14, 3) := by decide +kernel
theorem dX2_partToNozzles_44 : decode cX2_partToNozzles 44 = .ok (.iload_n 3, 1) := by decide +kernel
theorem dX2_partToNozzles_45 : decode cX2_partToNozzles 45 = .ok (.aload_n 0, 1) := by decide +kernel
theorem dX2_partToNozzles_46 : decode cX2_partToNozzles 46 = .ok (.iload_n 1, 1) := by decide +kernel
theorem dX2_partToNozzles_47 : decode cX2_partToNozzles 47 = .ok (.iload 4, 2) := by decide +kernel
theorem dX2_partToNozzles_49 : decode cX2_partToNozzles 49 = .ok (.iload_n 3, 1) := by decide +kernel
theorem dX2_partToNozzles_50 : decode cX2_partToNozzles 50 = .ok (.invokevirtual 165, 3) := by decide +kernel
theorem dX2_partToNozzles_53 : decode cX2_partToNozzles 53 = .ok (.isub, 1) := by decide +kernel
theorem dX2_partToNozzles_54 : decode cX2_partToNozzles 54 = .ok (.istore_n 3, 1) := by decide +kernel
theorem dX2_partToNozzles_55 : decode cX2_partToNozzles 55 = .ok (.iinc 4 1, 3) := by decide +kernel
theorem dX2_partToNozzles_58 : decode cX2_partToNozzles 58 = .ok (.goto (-26), 3) := by decide +kernel
theorem dX2_partToNozzles_61 : decode cX2_partToNozzles 61 = .ok (.aload_n 0, 1) := by decide +kernel
theorem dX2_partToNozzles_62 : decode cX2_partToNozzles 62 = .ok (.getfield 24, 3) := by decide +kernel
theorem dX2_partToNozzles_65 : decode cX2_partToNozzles 65 = .ok (.iconst 4, 1) := by decide +kernel
theorem dX2_partToNozzles_66 : decode cX2_partToNozzles 66 = .ok (.aaload, 1) := by decide +kernel
theorem dX2_partToNozzles_67 : decode cX2_partToNozzles 67 = .ok (.iload_n 1, 1) := by decide +kernel
theorem dX2_partToNozzles_68 : decode cX2_partToNozzles 68 = .ok (.aload_n 0, 1) := by decide +kernel
theorem dX2_partToNozzles_69 : decode cX2_partToNozzles 69 = .ok (.getfield 24, 3) := by decide +kernel
theorem dX2_partToNozzles_72 : decode cX2_partToNozzles 72 = .ok (.iconst 0, 1) := by decide +kernel
theorem dX2_partToNozzles_73 : decode cX2_partToNozzles 73 = .ok (.aaload, 1) := by decide +kernel
theorem dX2_partToNozzles_74 : decode cX2_partToNozzles 74 = .ok (.iload_n 1, 1) := by decide +kernel
theorem dX2_partToNozzles_75 : decode cX2_partToNozzles 75 = .ok (.iaload, 1) := by decide +kernel
theorem dX2_partToNozzles_76 : decode cX2_partToNozzles 76 = .ok (.iload_n 3, 1) := by decide +kernel
theorem dX2_partToNozzles_77 : decode cX2_partToNozzles 77 = .ok (.isub, 1) := by decide +kernel
theorem dX2_partToNozzles_78 : decode cX2_partToNozzles 78 = .ok (.iastore, 1) := by decide +kernel
theorem dX2_partToNozzles_79 : decode cX2_partToNozzles 79 = .ok (.return_, 1) := by decide +kernel
theorem dX2_partToRank_0 : decode cX2_partToRank 0 = .ok (.aload_n 0, 1) := by decide +kernel
theorem dX2_partToRank_1 : decode cX2_partToRank 1 = .ok (.getfield 40, 3) := by decide +kernel
theorem dX2_partToRank_4 : decode cX2_partToRank 4 = .ok (.iload_n 2, 1) := by decide +kernel
theorem dX2_partToRank_5 : decode cX2_partToRank 5 = .ok (.invokevirtual 168, 3) := by decide +kernel
theorem dX2_partToRank_8 : decode cX2_partToRank 8 = .ok (.ifCond .eq 5, 3) := by decide +kernel
theorem dX2_partToRank_11 : decode cX2_partToRank 11 = .ok (.iconst 0, 1) := by decide +kernel
theorem dX2_partToRank_12 : decode cX2_partToRank 12 = .ok (.ireturn, 1) := by decide +kernel
theorem dX2_partToRank_13 : decode cX2_partToRank 13 = .ok (.aload_n 0, 1) := by decide +kernel
theorem dX2_partToRank_14 : decode cX2_partToRank 14 = .ok (.getfield 12, 3) := by decide +kernel
theorem dX2_partToRank_17 : decode cX2_partToRank 17 = .ok (.invokevirtual 171, 3) := by decide +kernel
theorem dX2_partToRank_20 : decode cX2_partToRank 20 = .ok (.iconst 0, 1) := by decide +kernel
theorem dX2_partToRank_21 : decode cX2_partToRank 21 = .ok (.istore 4, 2) := by decide +kernel
theorem dX2_partToRank_23 : decode cX2_partToRank 23 = .ok (.iload 4, 2) := by decide +kernel
theorem dX2_partToRank_25 : decode cX2_partToRank 25 = .ok (.aload_n 0, 1) := by decide +kernel
theorem dX2_partToRank_26 : decode cX2_partToRank 26 = .ok (.getfield 56, 3) := by decide +kernel
theorem dX2_partToRank_29 : decode cX2_partToRank 29 = .ok (.getfield 174, 3) := by decide +kernel
theorem dX2_partToRank_32 : decode cX2_partToRank 32 = .ok (.getfield 178, 3) := by decide +kernel
theorem dX2_partToRank_35 : decode cX2_partToRank 35 = .ok (.iload_n 1, 1) := by decide +kernel
theorem dX2_partToRank_36 : decode cX2_partToRank 36 = .ok (.iaload, 1) := by decide +kernel
theorem dX2_partToRank_37 : decode cX2_partToRank 37 = .ok (.if_icmp .ge 67, 3) := by decide +kernel
theorem dX2_partToRank_40 : decode cX2_partToRank 40 = .ok (.aload_n 0, 1) := by decide +kernel
theorem dX2_partToRank_41 : decode cX2_partToRank 41 = .ok (.getfield 56, 3) := by decide +kernel
theorem dX2_partToRank_44 : decode cX2_partToRank 44 = .ok (.getfield 174, 3) := by decide +kernel
theorem dX2_partToRank_47 : decode cX2_partToRank 47 = .ok (.iload_n 1, 1) := by decide +kernel
theorem dX2_partToRank_48 : decode cX2_partToRank 48 = .ok (.iload 4, 2) := by decide +kernel
theorem dX2_partToRank_50 : decode cX2_partToRank 50 = .ok (.invokevirtual 183, 3) := by decide +kernel
theorem dX2_partToRank_53 : decode cX2_partToRank 53 = .ok (.istore 5, 2) := by decide +kernel
theorem dX2_partToRank_55 : decode cX2_partToRank 55 = .ok (.aload_n 0, 1) := by decide +kernel
theorem dX2_partToRank_56 : decode cX2_partToRank 56 = .ok (.getfield 56, 3) := by decide +kernel
theorem dX2_partToRank_59 : decode cX2_partToRank 59 = .ok (.getfield 113, 3) := by decide +kernel
theorem dX2_partToRank_62 : decode cX2_partToRank 62 = .ok (.iload 5, 2) := by decide +kernel
theorem dX2_partToRank_64 : decode cX2_partToRank 64 = .ok (.iaload, 1) := by decide +kernel
theorem dX2_partToRank_65 : decode cX2_partToRank 65 = .ok (.iload_n 2, 1) := by decide +kernel
theorem dX2_partToRank_66 : decode cX2_partToRank 66 = .ok (.if_icmp .ne 32, 3) := by decide +kernel
theorem dX2_partToRank_69 : decode cX2_partToRank 69 = .ok (.aload_n 0, 1) := by decide +kernel
theorem dX2_partToRank_70 : decode cX2_partToRank 70 = .ok (.getfield 27, 3) := by decide +kernel
theorem dX2_partToRank_73 : decode cX2_partToRank 73 = .ok (.iload 5, 2) := by decide +kernel
theorem dX2_partToRank_75 : decode cX2_partToRank 75 = .ok (.baload, 1) := by decide +kernel
theorem dX2_partToRank_76 : decode cX2_partToRank 76 = .ok (.ifCond .eq 22, 3) := by decide +kernel
theorem dX2_partToRank_79 : decode cX2_partToRank 79 = .ok (.aload_n 0, 1) := by decide +kernel
theorem dX2_partToRank_80 : decode cX2_partToRank 80 = .ok (.getfield 12, 3) := by decide +kernel
theorem dX2_partToRank_83 : decode cX2_partToRank 83 = .ok (.iload 5, 2) := by decide +kernel
theorem dX2_partToRank_85 : decode cX2_partToRank 85 = .ok (.aload_n 0, 1) := by decide +kernel
theorem dX2_partToRank_86 : decode cX2_partToRank 86 = .ok (.getfield 56, 3) := by decide +kernel
theorem dX2_partToRank_89 : decode cX2_partToRank 89 = .ok (.getfield 124, 3) := by decide +kernel
theorem dX2_partToRank_92 : decode cX2_partToRank 92 = .ok (.iload 5, 2) := by decide +kernel
theorem dX2_partToRank_94 : decode cX2_partToRank 94 = .ok (.iaload, 1) := by decide +kernel
theorem dX2_partToRank_95 : decode cX2_partToRank 95 = .ok (.invokevirtual 186, 3) := by decide +kernel
theorem dX2_partToRank_98 : decode cX2_partToRank 98 = .ok (.iinc 4 1, 3) := by decide +kernel
theorem dX2_partToRank_101 : decode cX2_partToRank 101 = .ok (.goto (-78), 3) := by decide +kernel
theorem dX2_partToRank_104 : decode cX2_partToRank 104 = .ok (.aload_n 0, 1) := by decide +kernel
theorem dX2_partToRank_105 : decode cX2_partToRank 105 = .ok (.getfield 12, 3) := by decide +kernel
theorem dX2_partToRank_108 : decode cX2_partToRank 108 = .ok (.iload_n 3, 1) := by decide +kernel
theorem dX2_partToRank_109 : decode cX2_partToRank 109 = .ok (.invokevirtual 189, 3) := by decide +kernel
theorem dX2_partToRank_112 : decode cX2_partToRank 112 = .ok (.istore 4, 2) := by decide +kernel
theorem dX2_partToRank_114 : decode cX2_partToRank 114 = .ok (.iconst 0, 1) := by decide +kernel
theorem dX2_partToRank_115 : decode cX2_partToRank 115 = .ok (.istore 5, 2) := by decide +kernel
theorem dX2_partToRank_117 : decode cX2_partToRank 117 = .ok (.iload 5, 2) := by decide +kernel
theorem dX2_partToRank_119 : decode cX2_partToRank 119 = .ok (.aload_n 0, 1) := by decide +kernel
theorem dX2_partToRank_120 : decode cX2_partToRank 120 = .ok (.getfield 12, 3) := by decide +kernel
theorem dX2_partToRank_123 : decode cX2_partToRank 123 = .ok (.getfield 193, 3) := by decide +kernel
theorem dX2_partToRank_126 : decode cX2_partToRank 126 = .ok (.if_icmp .ge 34, 3) := by decide +kernel
theorem dX2_partToRank_129 : decode cX2_partToRank 129 = .ok (.aload_n 0, 1) := by decide +kernel
theorem dX2_partToRank_130 : decode cX2_partToRank 130 = .ok (.getfield 31, 3) := by decide +kernel
theorem dX2_partToRank_133 : decode cX2_partToRank 133 = .ok (.aload_n 0, 1) := by decide +kernel
theorem dX2_partToRank_134 : decode cX2_partToRank 134 = .ok (.getfield 12, 3) := by decide +kernel
theorem dX2_partToRank_137 : decode cX2_partToRank 137 = .ok (.getfield 194, 3) := by decide +kernel
theorem dX2_partToRank_140 : decode cX2_partToRank 140 = .ok (.iload 5, 2) := by decide +kernel
theorem dX2_partToRank_142 : decode cX2_partToRank 142 = .ok (.iaload, 1) := by decide +kernel
theorem dX2_partToRank_143 : decode cX2_partToRank 143 = .ok (.aload_n 0, 1) := by decide +kernel
theorem dX2_partToRank_144 : decode cX2_partToRank 144 = .ok (.getfield 12, 3) := by decide +kernel
theorem dX2_partToRank_147 : decode cX2_partToRank 147 = .ok (.getfield 197, 3) := by decide +kernel
theorem dX2_partToRank_150 : decode cX2_partToRank 150 = .ok (.iload 5, 2) := by decide +kernel
theorem dX2_partToRank_152 : decode cX2_partToRank 152 = .ok (.iaload, 1) := by decide +kernel
theorem dX2_partToRank_153 : decode cX2_partToRank 153 = .ok (.iastore, 1) := by decide +kernel
theorem dX2_partToRank_154 : decode cX2_partToRank 154 = .ok (.iinc 5 1, 3) := by decide +kernel
theorem dX2_partToRank_157 : decode cX2_partToRank 157 = .ok (.goto (-40), 3) := by decide +kernel
theorem dX2_partToRank_160 : decode cX2_partToRank 160 = .ok (.iload 4, 2) := by decide +kernel
theorem dX2_partToRank_162 : decode cX2_partToRank 162 = .ok (.ireturn, 1) := by decide +kernel
theorem dX2_leadOn_0 : decode cX2_leadOn 0 = .ok (.aload_n 0, 1) := by decide +kernel
theorem dX2_leadOn_1 : decode cX2_leadOn 1 = .ok (.getfield 12, 3) := by decide +kernel
theorem dX2_leadOn_4 : decode cX2_leadOn 4 = .ok (.invokevirtual 171, 3) := by decide +kernel
theorem dX2_leadOn_7 : decode cX2_leadOn 7 = .ok (.iconst 0, 1) := by decide +kernel
theorem dX2_leadOn_8 : decode cX2_leadOn 8 = .ok (.istore_n 2, 1) := by decide +kernel
theorem dX2_leadOn_9 : decode cX2_leadOn 9 = .ok (.iload_n 2, 1) := by decide +kernel
theorem dX2_leadOn_10 : decode cX2_leadOn 10 = .ok (.aload_n 0, 1) := by decide +kernel
theorem dX2_leadOn_11 : decode cX2_leadOn 11 = .ok (.getfield 52, 3) := by decide +kernel
theorem dX2_leadOn_14 : decode cX2_leadOn 14 = .ok (.getfield 200, 3) := by decide +kernel
theorem dX2_leadOn_17 : decode cX2_leadOn 17 = .ok (.getfield 178, 3) := by decide +kernel
theorem dX2_leadOn_20 : decode cX2_leadOn 20 = .ok (.iload_n 1, 1) := by decide +kernel
theorem dX2_leadOn_21 : decode cX2_leadOn 21 = .ok (.iaload, 1) := by decide +kernel
theorem dX2_leadOn_22 : decode cX2_leadOn 22 = .ok (.if_icmp .ge 36, 3) := by decide +kernel
theorem dX2_leadOn_25 : decode cX2_leadOn 25 = .ok (.aload_n 0, 1) := by decide +kernel
theorem dX2_leadOn_26 : decode cX2_leadOn 26 = .ok (.getfield 52, 3) := by decide +kernel
theorem dX2_leadOn_29 : decode cX2_leadOn 29 = .ok (.getfield 200, 3) := by decide +kernel
theorem dX2_leadOn_32 : decode cX2_leadOn 32 = .ok (.iload_n 1, 1) := by decide +kernel
theorem dX2_leadOn_33 : decode cX2_leadOn 33 = .ok (.iload_n 2, 1) := by decide +kernel
theorem dX2_leadOn_34 : decode cX2_leadOn 34 = .ok (.invokevirtual 183, 3) := by decide +kernel
theorem dX2_leadOn_37 : decode cX2_leadOn 37 = .ok (.istore_n 3, 1) := by decide +kernel
theorem dX2_leadOn_38 : decode cX2_leadOn 38 = .ok (.aload_n 0, 1) := by decide +kernel
theorem dX2_leadOn_39 : decode cX2_leadOn 39 = .ok (.getfield 12, 3) := by decide +kernel
theorem dX2_leadOn_42 : decode cX2_leadOn 42 = .ok (.iload_n 3, 1) := by decide +kernel
theorem dX2_leadOn_43 : decode cX2_leadOn 43 = .ok (.aload_n 0, 1) := by decide +kernel
theorem dX2_leadOn_44 : decode cX2_leadOn 44 = .ok (.getfield 18, 3) := by decide +kernel
theorem dX2_leadOn_47 : decode cX2_leadOn 47 = .ok (.iload_n 3, 1) := by decide +kernel
theorem dX2_leadOn_48 : decode cX2_leadOn 48 = .ok (.iaload, 1) := by decide +kernel
theorem dX2_leadOn_49 : decode cX2_leadOn 49 = .ok (.invokevirtual 186, 3) := by decide +kernel
theorem dX2_leadOn_52 : decode cX2_leadOn 52 = .ok (.iinc 2 1, 3) := by decide +kernel
theorem dX2_leadOn_55 : decode cX2_leadOn 55 = .ok (.goto (-46), 3) := by decide +kernel
theorem dX2_leadOn_58 : decode cX2_leadOn 58 = .ok (.aload_n 0, 1) := by decide +kernel
theorem dX2_leadOn_59 : decode cX2_leadOn 59 = .ok (.getfield 24, 3) := by decide +kernel
theorem dX2_leadOn_62 : decode cX2_leadOn 62 = .ok (.iconst 0, 1) := by decide +kernel
theorem dX2_leadOn_63 : decode cX2_leadOn 63 = .ok (.aaload, 1) := by decide +kernel
theorem dX2_leadOn_64 : decode cX2_leadOn 64 = .ok (.iload_n 1, 1) := by decide +kernel
theorem dX2_leadOn_65 : decode cX2_leadOn 65 = .ok (.iaload, 1) := by decide +kernel
theorem dX2_leadOn_66 : decode cX2_leadOn 66 = .ok (.aload_n 0, 1) := by decide +kernel
theorem dX2_leadOn_67 : decode cX2_leadOn 67 = .ok (.getfield 24, 3) := by decide +kernel
theorem dX2_leadOn_70 : decode cX2_leadOn 70 = .ok (.iconst 4, 1) := by decide +kernel
theorem dX2_leadOn_71 : decode cX2_leadOn 71 = .ok (.aaload, 1) := by decide +kernel
theorem dX2_leadOn_72 : decode cX2_leadOn 72 = .ok (.iload_n 1, 1) := by decide +kernel
theorem dX2_leadOn_73 : decode cX2_leadOn 73 = .ok (.iaload, 1) := by decide +kernel
theorem dX2_leadOn_74 : decode cX2_leadOn 74 = .ok (.isub, 1) := by decide +kernel
theorem dX2_leadOn_75 : decode cX2_leadOn 75 = .ok (.istore_n 2, 1) := by decide +kernel
theorem dX2_leadOn_76 : decode cX2_leadOn 76 = .ok (.aload_n 0, 1) := by decide +kernel
theorem dX2_leadOn_77 : decode cX2_leadOn 77 = .ok (.getfield 12, 3) := by decide +kernel
theorem dX2_leadOn_80 : decode cX2_leadOn 80 = .ok (.iload_n 2, 1) := by decide +kernel
theorem dX2_leadOn_81 : decode cX2_leadOn 81 = .ok (.invokevirtual 189, 3) := by decide +kernel
theorem dX2_leadOn_84 : decode cX2_leadOn 84 = .ok (.istore_n 3, 1) := by decide +kernel
theorem dX2_leadOn_85 : decode cX2_leadOn 85 = .ok (.iconst 0, 1) := by decide +kernel
theorem dX2_leadOn_86 : decode cX2_leadOn 86 = .ok (.istore 4, 2) := by decide +kernel
theorem dX2_leadOn_88 : decode cX2_leadOn 88 = .ok (.iload 4, 2) := by decide +kernel
theorem dX2_leadOn_90 : decode cX2_leadOn 90 = .ok (.aload_n 0, 1) := by decide +kernel
theorem dX2_leadOn_91 : decode cX2_leadOn 91 = .ok (.getfield 12, 3) := by decide +kernel
theorem dX2_leadOn_94 : decode cX2_leadOn 94 = .ok (.getfield 193, 3) := by decide +kernel
theorem dX2_leadOn_97 : decode cX2_leadOn 97 = .ok (.if_icmp .ge 36, 3) := by decide +kernel
theorem dX2_leadOn_100 : decode cX2_leadOn 100 = .ok (.aload_n 0, 1) := by decide +kernel
theorem dX2_leadOn_101 : decode cX2_leadOn 101 = .ok (.getfield 24, 3) := by decide +kernel
theorem dX2_leadOn_104 : decode cX2_leadOn 104 = .ok (.iconst 1, 1) := by decide +kernel
theorem dX2_leadOn_105 : decode cX2_leadOn 105 = .ok (.aaload, 1) := by decide +kernel
theorem dX2_leadOn_106 : decode cX2_leadOn 106 = .ok (.aload_n 0, 1) := by decide +kernel
theorem dX2_leadOn_107 : decode cX2_leadOn 107 = .ok (.getfield 12, 3) := by decide +kernel
theorem dX2_leadOn_110 : decode cX2_leadOn 110 = .ok (.getfield 194, 3) := by decide +kernel
theorem dX2_leadOn_113 : decode cX2_leadOn 113 = .ok (.iload 4, 2) := by decide +kernel
theorem dX2_leadOn_115 : decode cX2_leadOn 115 = .ok (.iaload, 1) := by decide +kernel
theorem dX2_leadOn_116 : decode cX2_leadOn 116 = .ok (.aload_n 0, 1) := by decide +kernel
theorem dX2_leadOn_117 : decode cX2_leadOn 117 = .ok (.getfield 12, 3) := by decide +kernel
theorem dX2_leadOn_120 : decode cX2_leadOn 120 = .ok (.getfield 197, 3) := by decide +kernel
theorem dX2_leadOn_123 : decode cX2_leadOn 123 = .ok (.iload 4, 2) := by decide +kernel
theorem dX2_leadOn_125 : decode cX2_leadOn 125 = .ok (.iaload, 1) := by decide +kernel
theorem dX2_leadOn_126 : decode cX2_leadOn 126 = .ok (.iastore, 1) := by decide +kernel
theorem dX2_leadOn_127 : decode cX2_leadOn 127 = .ok (.iinc 4 1, 3) := by decide +kernel
theorem dX2_leadOn_130 : decode cX2_leadOn 130 = .ok (.goto (-42), 3) := by decide +kernel
theorem dX2_leadOn_133 : decode cX2_leadOn 133 = .ok (.aload_n 0, 1) := by decide +kernel
theorem dX2_leadOn_134 : decode cX2_leadOn 134 = .ok (.getfield 24, 3) := by decide +kernel
theorem dX2_leadOn_137 : decode cX2_leadOn 137 = .ok (.iconst 5, 1) := by decide +kernel
theorem dX2_leadOn_138 : decode cX2_leadOn 138 = .ok (.aaload, 1) := by decide +kernel
theorem dX2_leadOn_139 : decode cX2_leadOn 139 = .ok (.iload_n 1, 1) := by decide +kernel
theorem dX2_leadOn_140 : decode cX2_leadOn 140 = .ok (.iload_n 3, 1) := by decide +kernel
theorem dX2_leadOn_141 : decode cX2_leadOn 141 = .ok (.iastore, 1) := by decide +kernel
theorem dX2_leadOn_142 : decode cX2_leadOn 142 = .ok (.aload_n 0, 1) := by decide +kernel
theorem dX2_leadOn_143 : decode cX2_leadOn 143 = .ok (.getfield 24, 3) := by decide +kernel
theorem dX2_leadOn_146 : decode cX2_leadOn 146 = .ok (.bipush 6, 2) := by decide +kernel
theorem dX2_leadOn_148 : decode cX2_leadOn 148 = .ok (.aaload, 1) := by decide +kernel
theorem dX2_leadOn_149 : decode cX2_leadOn 149 = .ok (.iload_n 1, 1) := by decide +kernel
theorem dX2_leadOn_150 : decode cX2_leadOn 150 = .ok (.iload_n 2, 1) := by decide +kernel
theorem dX2_leadOn_151 : decode cX2_leadOn 151 = .ok (.iload_n 3, 1) := by decide +kernel
theorem dX2_leadOn_152 : decode cX2_leadOn 152 = .ok (.isub, 1) := by decide +kernel
theorem dX2_leadOn_153 : decode cX2_leadOn 153 = .ok (.iastore, 1) := by decide +kernel
theorem dX2_leadOn_154 : decode cX2_leadOn 154 = .ok (.return_, 1) := by decide +kernel
theorem dX2_weighQuarters_0 : decode cX2_weighQuarters 0 = .ok (.iconst 0, 1) := by decide +kernel
theorem dX2_weighQuarters_1 : decode cX2_weighQuarters 1 = .ok (.istore_n 1, 1) := by decide +kernel
theorem dX2_weighQuarters_2 : decode cX2_weighQuarters 2 = .ok (.iload_n 1, 1) := by decide +kernel
theorem dX2_weighQuarters_3 : decode cX2_weighQuarters 3 = .ok (.bipush 8, 2) := by decide +kernel
theorem dX2_weighQuarters_5 : decode cX2_weighQuarters 5 = .ok (.if_icmp .ge 23, 3) := by decide +kernel
theorem dX2_weighQuarters_8 : decode cX2_weighQuarters 8 = .ok (.aload_n 0, 1) := by decide +kernel
theorem dX2_weighQuarters_9 : decode cX2_weighQuarters 9 = .ok (.getfield 34, 3) := by decide +kernel
theorem dX2_weighQuarters_12 : decode cX2_weighQuarters 12 = .ok (.iload_n 1, 1) := by decide +kernel
theorem dX2_weighQuarters_13 : decode cX2_weighQuarters 13 = .ok (.iconst 0, 1) := by decide +kernel
theorem dX2_weighQuarters_14 : decode cX2_weighQuarters 14 = .ok (.iastore, 1) := by decide +kernel
theorem dX2_weighQuarters_15 : decode cX2_weighQuarters 15 = .ok (.aload_n 0, 1) := by decide +kernel
theorem dX2_weighQuarters_16 : decode cX2_weighQuarters 16 = .ok (.getfield 37, 3) := by decide +kernel
theorem dX2_weighQuarters_19 : decode cX2_weighQuarters 19 = .ok (.iload_n 1, 1) := by decide +kernel
theorem dX2_weighQuarters_20 : decode cX2_weighQuarters 20 = .ok (.iconst 0, 1) := by decide +kernel
theorem dX2_weighQuarters_21 : decode cX2_weighQuarters 21 = .ok (.iastore, 1) := by decide +kernel
theorem dX2_weighQuarters_22 : decode cX2_weighQuarters 22 = .ok (.iinc 1 1, 3) := by decide +kernel
theorem dX2_weighQuarters_25 : decode cX2_weighQuarters 25 = .ok (.goto (-23), 3) := by decide +kernel
theorem dX2_weighQuarters_28 : decode cX2_weighQuarters 28 = .ok (.iconst 0, 1) := by decide +kernel
theorem dX2_weighQuarters_29 : decode cX2_weighQuarters 29 = .ok (.istore_n 1, 1) := by decide +kernel
theorem dX2_weighQuarters_30 : decode cX2_weighQuarters 30 = .ok (.iload_n 1, 1) := by decide +kernel
theorem dX2_weighQuarters_31 : decode cX2_weighQuarters 31 = .ok (.aload_n 0, 1) := by decide +kernel
theorem dX2_weighQuarters_32 : decode cX2_weighQuarters 32 = .ok (.getfield 56, 3) := by decide +kernel
theorem dX2_weighQuarters_35 : decode cX2_weighQuarters 35 = .ok (.getfield 110, 3) := by decide +kernel
theorem dX2_weighQuarters_38 : decode cX2_weighQuarters 38 = .ok (.if_icmp .ge 86, 3) := by decide +kernel
theorem dX2_weighQuarters_41 : decode cX2_weighQuarters 41 = .ok (.aload_n 0, 1) := by decide +kernel
theorem dX2_weighQuarters_42 : decode cX2_weighQuarters 42 = .ok (.getfield 56, 3) := by decide +kernel
theorem dX2_weighQuarters_45 : decode cX2_weighQuarters 45 = .ok (.getfield 113, 3) := by decide +kernel
theorem dX2_weighQuarters_48 : decode cX2_weighQuarters 48 = .ok (.iload_n 1, 1) := by decide +kernel
theorem dX2_weighQuarters_49 : decode cX2_weighQuarters 49 = .ok (.iaload, 1) := by decide +kernel
theorem dX2_weighQuarters_50 : decode cX2_weighQuarters 50 = .ok (.iconst 2, 1) := by decide +kernel
theorem dX2_weighQuarters_51 : decode cX2_weighQuarters 51 = .ok (.if_icmp .eq 67, 3) := by decide +kernel
theorem dX2_weighQuarters_54 : decode cX2_weighQuarters 54 = .ok (.aload_n 0, 1) := by decide +kernel
theorem dX2_weighQuarters_55 : decode cX2_weighQuarters 55 = .ok (.getfield 56, 3) := by decide +kernel
theorem dX2_weighQuarters_58 : decode cX2_weighQuarters 58 = .ok (.iload_n 1, 1) := by decide +kernel
theorem dX2_weighQuarters_59 : decode cX2_weighQuarters 59 = .ok (.aload_n 0, 1) := by decide +kernel
theorem dX2_weighQuarters_60 : decode cX2_weighQuarters 60 = .ok (.getfield 75, 3) := by decide +kernel
theorem dX2_weighQuarters_63 : decode cX2_weighQuarters 63 = .ok (.invokevirtual 120, 3) := by decide +kernel
theorem dX2_weighQuarters_66 : decode cX2_weighQuarters 66 = .ok (.ifCond .eq 52, 3) := by decide +kernel
theorem dX2_weighQuarters_69 : decode cX2_weighQuarters 69 = .ok (.aload_n 0, 1) := by decide +kernel
theorem dX2_weighQuarters_70 : decode cX2_weighQuarters 70 = .ok (.getfield 34, 3) := by decide +kernel
theorem dX2_weighQuarters_73 : decode cX2_weighQuarters 73 = .ok (.aload_n 0, 1) := by decide +kernel
theorem dX2_weighQuarters_74 : decode cX2_weighQuarters 74 = .ok (.getfield 56, 3) := by decide +kernel
theorem dX2_weighQuarters_77 : decode cX2_weighQuarters 77 = .ok (.getfield 130, 3) := by decide +kernel
theorem dX2_weighQuarters_80 : decode cX2_weighQuarters 80 = .ok (.iload_n 1, 1) := by decide +kernel
theorem dX2_weighQuarters_81 : decode cX2_weighQuarters 81 = .ok (.iaload, 1) := by decide +kernel
theorem dX2_weighQuarters_82 : decode cX2_weighQuarters 82 = .ok (.dup2, 1) := by decide +kernel
theorem dX2_weighQuarters_83 : decode cX2_weighQuarters 83 = .ok (.iaload, 1) := by decide +kernel
theorem dX2_weighQuarters_84 : decode cX2_weighQuarters 84 = .ok (.aload_n 0, 1) := by decide +kernel
theorem dX2_weighQuarters_85 : decode cX2_weighQuarters 85 = .ok (.getfield 56, 3) := by decide +kernel
theorem dX2_weighQuarters_88 : decode cX2_weighQuarters 88 = .ok (.getfield 124, 3) := by decide +kernel
theorem dX2_weighQuarters_91 : decode cX2_weighQuarters 91 = .ok (.iload_n 1, 1) := by decide +kernel
theorem dX2_weighQuarters_92 : decode cX2_weighQuarters 92 = .ok (.iaload, 1) := by decide +kernel
theorem dX2_weighQuarters_93 : decode cX2_weighQuarters 93 = .ok (.iadd, 1) := by decide +kernel
theorem dX2_weighQuarters_94 : decode cX2_weighQuarters 94 = .ok (.iastore, 1) := by decide +kernel
theorem dX2_weighQuarters_95 : decode cX2_weighQuarters 95 = .ok (.aload_n 0, 1) := by decide +kernel
theorem dX2_weighQuarters_96 : decode cX2_weighQuarters 96 = .ok (.getfield 37, 3) := by decide +kernel
theorem dX2_weighQuarters_99 : decode cX2_weighQuarters 99 = .ok (.aload_n 0, 1) := by decide +kernel
theorem dX2_weighQuarters_100 : decode cX2_weighQuarters 100 = .ok (.getfield 56, 3) := by decide +kernel
theorem dX2_weighQuarters_103 : decode cX2_weighQuarters 103 = .ok (.getfield 130, 3) := by decide +kernel
theorem dX2_weighQuarters_106 : decode cX2_weighQuarters 106 = .ok (.iload_n 1, 1) := by decide +kernel
theorem dX2_weighQuarters_107 : decode cX2_weighQuarters 107 = .ok (.iaload, 1) := by decide +kernel
theorem dX2_weighQuarters_108 : decode cX2_weighQuarters 108 = .ok (.dup2, 1) := by decide +kernel
theorem dX2_weighQuarters_109 : decode cX2_weighQuarters 109 = .ok (.iaload, 1) := by decide +kernel
theorem dX2_weighQuarters_110 : decode cX2_weighQuarters 110 = .ok (.aload_n 0, 1) := by decide +kernel
theorem dX2_weighQuarters_111 : decode cX2_weighQuarters 111 = .ok (.getfield 31, 3) := by decide +kernel
theorem dX2_weighQuarters_114 : decode cX2_weighQuarters 114 = .ok (.iload_n 1, 1) := by decide +kernel
theorem dX2_weighQuarters_115 : decode cX2_weighQuarters 115 = .ok (.iaload, 1) := by decide +kernel
theorem dX2_weighQuarters_116 : decode cX2_weighQuarters 116 = .ok (.iadd, 1) := by decide +kernel
theorem dX2_weighQuarters_117 : decode cX2_weighQuarters 117 = .ok (.iastore, 1) := by decide +kernel
theorem dX2_weighQuarters_118 : decode cX2_weighQuarters 118 = .ok (.iinc 1 1, 3) := by decide +kernel
theorem dX2_weighQuarters_121 : decode cX2_weighQuarters 121 = .ok (.goto (-91), 3) := by decide +kernel
theorem dX2_weighQuarters_124 : decode cX2_weighQuarters 124 = .ok (.return_, 1) := by decide +kernel
theorem dX2_isDry_0 : decode cX2_isDry 0 = .ok (.iconst 2, 1) := by decide +kernel
theorem dX2_isDry_1 : decode cX2_isDry 1 = .ok (.aload_n 0, 1) := by decide +kernel
theorem dX2_isDry_2 : decode cX2_isDry 2 = .ok (.getfield 37, 3) := by decide +kernel
theorem dX2_isDry_5 : decode cX2_isDry 5 = .ok (.iload_n 1, 1) := by decide +kernel
theorem dX2_isDry_6 : decode cX2_isDry 6 = .ok (.iaload, 1) := by decide +kernel
theorem dX2_isDry_7 : decode cX2_isDry 7 = .ok (.imul, 1) := by decide +kernel
theorem dX2_isDry_8 : decode cX2_isDry 8 = .ok (.aload_n 0, 1) := by decide +kernel
theorem dX2_isDry_9 : decode cX2_isDry 9 = .ok (.getfield 34, 3) := by decide +kernel
theorem dX2_isDry_12 : decode cX2_isDry 12 = .ok (.iload_n 1, 1) := by decide +kernel
theorem dX2_isDry_13 : decode cX2_isDry 13 = .ok (.iaload, 1) := by decide +kernel
theorem dX2_isDry_14 : decode cX2_isDry 14 = .ok (.if_icmp .ge 7, 3) := by decide +kernel
theorem dX2_isDry_17 : decode cX2_isDry 17 = .ok (.iconst 1, 1) := by decide +kernel
theorem dX2_isDry_18 : decode cX2_isDry 18 = .ok (.goto 4, 3) := by decide +kernel
theorem dX2_isDry_21 : decode cX2_isDry 21 = .ok (.iconst 0, 1) := by decide +kernel
theorem dX2_isDry_22 : decode cX2_isDry 22 = .ok (.ireturn, 1) := by decide +kernel
theorem dX2_countDry_0 : decode cX2_countDry 0 = .ok (.iconst 0, 1) := by decide +kernel
theorem dX2_countDry_1 : decode cX2_countDry 1 = .ok (.istore_n 1, 1) := by decide +kernel
theorem dX2_countDry_2 : decode cX2_countDry 2 = .ok (.iconst 0, 1) := by decide +kernel
theorem dX2_countDry_3 : decode cX2_countDry 3 = .ok (.istore_n 2, 1) := by decide +kernel
theorem dX2_countDry_4 : decode cX2_countDry 4 = .ok (.iload_n 2, 1) := by decide +kernel
theorem dX2_countDry_5 : decode cX2_countDry 5 = .ok (.bipush 8, 2) := by decide +kernel
theorem dX2_countDry_7 : decode cX2_countDry 7 = .ok (.if_icmp .ge 20, 3) := by decide +kernel
theorem dX2_countDry_10 : decode cX2_countDry 10 = .ok (.aload_n 0, 1) := by decide +kernel
theorem dX2_countDry_11 : decode cX2_countDry 11 = .ok (.iload_n 2, 1) := by decide +kernel
theorem dX2_countDry_12 : decode cX2_countDry 12 = .ok (.invokevirtual 203, 3) := by decide +kernel
theorem dX2_countDry_15 : decode cX2_countDry 15 = .ok (.ifCond .eq 6, 3) := by decide +kernel
theorem dX2_countDry_18 : decode cX2_countDry 18 = .ok (.iinc 1 1, 3) := by decide +kernel
theorem dX2_countDry_21 : decode cX2_countDry 21 = .ok (.iinc 2 1, 3) := by decide +kernel
theorem dX2_countDry_24 : decode cX2_countDry 24 = .ok (.goto (-20), 3) := by decide +kernel
theorem dX2_countDry_27 : decode cX2_countDry 27 = .ok (.iload_n 1, 1) := by decide +kernel
theorem dX2_countDry_28 : decode cX2_countDry 28 = .ok (.ireturn, 1) := by decide +kernel
theorem dX2_leastMissing_0 : decode cX2_leastMissing 0 = .ok (.aload_n 0, 1) := by decide +kernel
theorem dX2_leastMissing_1 : decode cX2_leastMissing 1 = .ok (.getfield 24, 3) := by decide +kernel
theorem dX2_leastMissing_4 : decode cX2_leastMissing 4 = .ok (.iconst 1, 1) := by decide +kernel
theorem dX2_leastMissing_5 : decode cX2_leastMissing 5 = .ok (.aaload, 1) := by decide +kernel
theorem dX2_leastMissing_6 : decode cX2_leastMissing 6 = .ok (.iload_n 1, 1) := by decide +kernel
theorem dX2_leastMissing_7 : decode cX2_leastMissing 7 = .ok (.iaload, 1) := by decide +kernel
theorem dX2_leastMissing_8 : decode cX2_leastMissing 8 = .ok (.istore_n 2, 1) := by decide +kernel
theorem dX2_leastMissing_9 : decode cX2_leastMissing 9 = .ok (.iload_n 2, 1) := by decide +kernel
theorem dX2_leastMissing_10 : decode cX2_leastMissing 10 = .ok (.aload_n 0, 1) := by decide +kernel
theorem dX2_leastMissing_11 : decode cX2_leastMissing 11 = .ok (.getfield 24, 3) := by decide +kernel
theorem dX2_leastMissing_14 : decode cX2_leastMissing 14 = .ok (.iconst 2, 1) := by decide +kernel
theorem dX2_leastMissing_15 : decode cX2_leastMissing 15 = .ok (.aaload, 1) := by decide +kernel
theorem dX2_leastMissing_16 : decode cX2_leastMissing 16 = .ok (.iload_n 1, 1) := by decide +kernel
theorem dX2_leastMissing_17 : decode cX2_leastMissing 17 = .ok (.iaload, 1) := by decide +kernel
theorem dX2_leastMissing_18 : decode cX2_leastMissing 18 = .ok (.isub, 1) := by decide +kernel
theorem dX2_leastMissing_19 : decode cX2_leastMissing 19 = .ok (.istore_n 3, 1) := by decide +kernel
theorem dX2_leastMissing_20 : decode cX2_leastMissing 20 = .ok (.iload_n 2, 1) := by decide +kernel
theorem dX2_leastMissing_21 : decode cX2_leastMissing 21 = .ok (.istore 4, 2) := by decide +kernel
theorem dX2_leastMissing_23 : decode cX2_leastMissing 23 = .ok (.iconst 0, 1) := by decide +kernel
theorem dX2_leastMissing_24 : decode cX2_leastMissing 24 = .ok (.istore 5, 2) := by decide +kernel
theorem dX2_leastMissing_26 : decode cX2_leastMissing 26 = .ok (.iload 5, 2) := by decide +kernel
theorem dX2_leastMissing_28 : decode cX2_leastMissing 28 = .ok (.bipush 32, 2) := by decide +kernel
theorem dX2_leastMissing_30 : decode cX2_leastMissing 30 = .ok (.if_icmp .ge 59, 3) := by decide +kernel
theorem dX2_leastMissing_33 : decode cX2_leastMissing 33 = .ok (.iload_n 3, 1) := by decide +kernel
theorem dX2_leastMissing_34 : decode cX2_leastMissing 34 = .ok (.iload 4, 2) := by decide +kernel
theorem dX2_leastMissing_36 : decode cX2_leastMissing 36 = .ok (.if_icmp .ge 53, 3) := by decide +kernel
theorem dX2_leastMissing_39 : decode cX2_leastMissing 39 = .ok (.iload 4, 2) := by decide +kernel
theorem dX2_leastMissing_41 : decode cX2_leastMissing 41 = .ok (.iload 4, 2) := by decide +kernel
theorem dX2_leastMissing_43 : decode cX2_leastMissing 43 = .ok (.iload_n 3, 1) := by decide +kernel
theorem dX2_leastMissing_44 : decode cX2_leastMissing 44 = .ok (.isub, 1) := by decide +kernel
theorem dX2_leastMissing_45 : decode cX2_leastMissing 45 = .ok (.iconst 2, 1) := by decide +kernel
theorem dX2_leastMissing_46 : decode cX2_leastMissing 46 = .ok (.idiv, 1) := by decide +kernel
theorem dX2_leastMissing_47 : decode cX2_leastMissing 47 = .ok (.isub, 1) := by decide +kernel
theorem dX2_leastMissing_48 : decode cX2_leastMissing 48 = .ok (.istore 6, 2) := by decide +kernel
theorem dX2_leastMissing_50 : decode cX2_leastMissing 50 = .ok (.iload 6, 2) := by decide +kernel
theorem dX2_leastMissing_52 : decode cX2_leastMissing 52 = .ok (.aload_n 0, 1) := by decide +kernel
theorem dX2_leastMissing_53 : decode cX2_leastMissing 53 = .ok (.iload_n 1, 1) := by decide +kernel
theorem dX2_leastMissing_54 : decode cX2_leastMissing 54 = .ok (.iload 6, 2) := by decide +kernel
theorem dX2_leastMissing_56 : decode cX2_leastMissing 56 = .ok (.invokevirtual 159, 3) := by decide +kernel
theorem dX2_leastMissing_59 : decode cX2_leastMissing 59 = .ok (.isub, 1) := by decide +kernel
theorem dX2_leastMissing_60 : decode cX2_leastMissing 60 = .ok (.aload_n 0, 1) := by decide +kernel
theorem dX2_leastMissing_61 : decode cX2_leastMissing 61 = .ok (.getfield 24, 3) := by decide +kernel
theorem dX2_leastMissing_64 : decode cX2_leastMissing 64 = .ok (.iconst 0, 1) := by decide +kernel
theorem dX2_leastMissing_65 : decode cX2_leastMissing 65 = .ok (.aaload, 1) := by decide +kernel
theorem dX2_leastMissing_66 : decode cX2_leastMissing 66 = .ok (.iload_n 1, 1) := by decide +kernel
theorem dX2_leastMissing_67 : decode cX2_leastMissing 67 = .ok (.iaload, 1) := by decide +kernel
theorem dX2_leastMissing_68 : decode cX2_leastMissing 68 = .ok (.if_icmp .gt 9, 3) := by decide +kernel
theorem dX2_leastMissing_71 : decode cX2_leastMissing 71 = .ok (.iload 6, 2) := by decide +kernel
theorem dX2_leastMissing_73 : decode cX2_leastMissing 73 = .ok (.istore_n 3, 1) := by decide +kernel
theorem dX2_leastMissing_74 : decode cX2_leastMissing 74 = .ok (.goto 9, 3) := by decide +kernel
theorem dX2_leastMissing_77 : decode cX2_leastMissing 77 = .ok (.iload 6, 2) := by decide +kernel
theorem dX2_leastMissing_79 : decode cX2_leastMissing 79 = .ok (.iconst 1, 1) := by decide +kernel
theorem dX2_leastMissing_80 : decode cX2_leastMissing 80 = .ok (.isub, 1) := by decide +kernel
theorem dX2_leastMissing_81 : decode cX2_leastMissing 81 = .ok (.istore 4, 2) := by decide +kernel
theorem dX2_leastMissing_83 : decode cX2_leastMissing 83 = .ok (.iinc 5 1, 3) := by decide +kernel
theorem dX2_leastMissing_86 : decode cX2_leastMissing 86 = .ok (.goto (-60), 3) := by decide +kernel
theorem dX2_leastMissing_89 : decode cX2_leastMissing 89 = .ok (.iload_n 2, 1) := by decide +kernel
theorem dX2_leastMissing_90 : decode cX2_leastMissing 90 = .ok (.iload_n 3, 1) := by decide +kernel
theorem dX2_leastMissing_91 : decode cX2_leastMissing 91 = .ok (.isub, 1) := by decide +kernel
theorem dX2_leastMissing_92 : decode cX2_leastMissing 92 = .ok (.ireturn, 1) := by decide +kernel
theorem dX2_rentOf_0 : decode cX2_rentOf 0 = .ok (.aload_n 0, 1) := by decide +kernel
theorem dX2_rentOf_1 : decode cX2_rentOf 1 = .ok (.iload_n 2, 1) := by decide +kernel
theorem dX2_rentOf_2 : decode cX2_rentOf 2 = .ok (.iload_n 3, 1) := by decide +kernel
theorem dX2_rentOf_3 : decode cX2_rentOf 3 = .ok (.invokevirtual 67, 3) := by decide +kernel
theorem dX2_rentOf_6 : decode cX2_rentOf 6 = .ok (.aload_n 0, 1) := by decide +kernel
theorem dX2_rentOf_7 : decode cX2_rentOf 7 = .ok (.getfield 40, 3) := by decide +kernel
theorem dX2_rentOf_10 : decode cX2_rentOf 10 = .ok (.getfield 133, 3) := by decide +kernel
theorem dX2_rentOf_13 : decode cX2_rentOf 13 = .ok (.iconst 2, 1) := by decide +kernel
theorem dX2_rentOf_14 : decode cX2_rentOf 14 = .ok (.iaload, 1) := by decide +kernel
theorem dX2_rentOf_15 : decode cX2_rentOf 15 = .ok (.ifCond .eq 16, 3) := by decide +kernel
theorem dX2_rentOf_18 : decode cX2_rentOf 18 = .ok (.aload_n 0, 1) := by decide +kernel
theorem dX2_rentOf_19 : decode cX2_rentOf 19 = .ok (.getfield 44, 3) := by decide +kernel
theorem dX2_rentOf_22 : decode cX2_rentOf 22 = .ok (.iload_n 1, 1) := by decide +kernel
theorem dX2_rentOf_23 : decode cX2_rentOf 23 = .ok (.iload_n 2, 1) := by decide +kernel
theorem dX2_rentOf_24 : decode cX2_rentOf 24 = .ok (.iconst 0, 1) := by decide +kernel
theorem dX2_rentOf_25 : decode cX2_rentOf 25 = .ok (.invokevirtual 136, 3) := by decide +kernel
theorem dX2_rentOf_28 : decode cX2_rentOf 28 = .ok (.ifCond .ne 5, 3) := by decide +kernel
theorem dX2_rentOf_31 : decode cX2_rentOf 31 = .ok (.lconst 0, 1) := by decide +kernel
theorem dX2_rentOf_32 : decode cX2_rentOf 32 = .ok (.lreturn, 1) := by decide +kernel
theorem dX2_rentOf_33 : decode cX2_rentOf 33 = .ok (.aload_n 0, 1) := by decide +kernel
theorem dX2_rentOf_34 : decode cX2_rentOf 34 = .ok (.iconst (-1), 1) := by decide +kernel
theorem dX2_rentOf_35 : decode cX2_rentOf 35 = .ok (.invokevirtual 71, 3) := by decide +kernel
theorem dX2_rentOf_38 : decode cX2_rentOf 38 = .ok (.lconst 0, 1) := by decide +kernel
theorem dX2_rentOf_39 : decode cX2_rentOf 39 = .ok (.lstore 4, 2) := by decide +kernel
theorem dX2_rentOf_41 : decode cX2_rentOf 41 = .ok (.iconst 0, 1) := by decide +kernel
theorem dX2_rentOf_42 : decode cX2_rentOf 42 = .ok (.istore 6, 2) := by decide +kernel
theorem dX2_rentOf_44 : decode cX2_rentOf 44 = .ok (.iload 6, 2) := by decide +kernel
theorem dX2_rentOf_46 : decode cX2_rentOf 46 = .ok (.aload_n 0, 1) := by decide +kernel
theorem dX2_rentOf_47 : decode cX2_rentOf 47 = .ok (.getfield 56, 3) := by decide +kernel
theorem dX2_rentOf_50 : decode cX2_rentOf 50 = .ok (.getfield 110, 3) := by decide +kernel
theorem dX2_rentOf_53 : decode cX2_rentOf 53 = .ok (.if_icmp .ge 35, 3) := by decide +kernel
theorem dX2_rentOf_56 : decode cX2_rentOf 56 = .ok (.aload_n 0, 1) := by decide +kernel
theorem dX2_rentOf_57 : decode cX2_rentOf 57 = .ok (.getfield 56, 3) := by decide +kernel
theorem dX2_rentOf_60 : decode cX2_rentOf 60 = .ok (.iload 6, 2) := by decide +kernel
theorem dX2_rentOf_62 : decode cX2_rentOf 62 = .ok (.iload_n 1, 1) := by decide +kernel
theorem dX2_rentOf_63 : decode cX2_rentOf 63 = .ok (.invokevirtual 206, 3) := by decide +kernel
theorem dX2_rentOf_66 : decode cX2_rentOf 66 = .ok (.ifCond .eq 16, 3) := by decide +kernel
theorem dX2_rentOf_69 : decode cX2_rentOf 69 = .ok (.lload 4, 2) := by decide +kernel
theorem dX2_rentOf_71 : decode cX2_rentOf 71 = .ok (.aload_n 0, 1) := by decide +kernel
theorem dX2_rentOf_72 : decode cX2_rentOf 72 = .ok (.getfield 31, 3) := by decide +kernel
theorem dX2_rentOf_75 : decode cX2_rentOf 75 = .ok (.iload 6, 2) := by decide +kernel
theorem dX2_rentOf_77 : decode cX2_rentOf 77 = .ok (.iaload, 1) := by decide +kernel
theorem dX2_rentOf_78 : decode cX2_rentOf 78 = .ok (.i2l, 1) := by decide +kernel
theorem dX2_rentOf_79 : decode cX2_rentOf 79 = .ok (.ladd, 1) := by decide +kernel
theorem dX2_rentOf_80 : decode cX2_rentOf 80 = .ok (.lstore 4, 2) := by decide +kernel
theorem dX2_rentOf_82 : decode cX2_rentOf 82 = .ok (.iinc 6 1, 3) := by decide +kernel
theorem dX2_rentOf_85 : decode cX2_rentOf 85 = .ok (.goto (-41), 3) := by decide +kernel
theorem dX2_rentOf_88 : decode cX2_rentOf 88 = .ok (.aload_n 0, 1) := by decide +kernel
theorem dX2_rentOf_89 : decode cX2_rentOf 89 = .ok (.getfield 40, 3) := by decide +kernel
theorem dX2_rentOf_92 : decode cX2_rentOf 92 = .ok (.getfield 133, 3) := by decide +kernel
theorem dX2_rentOf_95 : decode cX2_rentOf 95 = .ok (.iconst 2, 1) := by decide +kernel
theorem dX2_rentOf_96 : decode cX2_rentOf 96 = .ok (.iaload, 1) := by decide +kernel
theorem dX2_rentOf_97 : decode cX2_rentOf 97 = .ok (.i2l, 1) := by decide +kernel
theorem dX2_rentOf_98 : decode cX2_rentOf 98 = .ok (.lload 4, 2) := by decide +kernel
theorem dX2_rentOf_100 : decode cX2_rentOf 100 = .ok (.lmul, 1) := by decide +kernel
theorem dX2_rentOf_101 : decode cX2_rentOf 101 = .ok (.lreturn, 1) := by decide +kernel
theorem dX2_fineOf_0 : decode cX2_fineOf 0 = .ok (.aload_n 0, 1) := by decide +kernel
theorem dX2_fineOf_1 : decode cX2_fineOf 1 = .ok (.iload_n 2, 1) := by decide +kernel
theorem dX2_fineOf_2 : decode cX2_fineOf 2 = .ok (.iload_n 3, 1) := by decide +kernel
theorem dX2_fineOf_3 : decode cX2_fineOf 3 = .ok (.invokevirtual 67, 3) := by decide +kernel
theorem dX2_fineOf_6 : decode cX2_fineOf 6 = .ok (.aload_n 0, 1) := by decide +kernel
theorem dX2_fineOf_7 : decode cX2_fineOf 7 = .ok (.getfield 40, 3) := by decide +kernel
theorem dX2_fineOf_10 : decode cX2_fineOf 10 = .ok (.getfield 133, 3) := by decide +kernel
theorem dX2_fineOf_13 : decode cX2_fineOf 13 = .ok (.iconst 3, 1) := by decide +kernel
theorem dX2_fineOf_14 : decode cX2_fineOf 14 = .ok (.iaload, 1) := by decide +kernel
theorem dX2_fineOf_15 : decode cX2_fineOf 15 = .ok (.ifCond .ne 5, 3) := by decide +kernel
theorem dX2_fineOf_18 : decode cX2_fineOf 18 = .ok (.lconst 0, 1) := by decide +kernel
theorem dX2_fineOf_19 : decode cX2_fineOf 19 = .ok (.lreturn, 1) := by decide +kernel
theorem dX2_fineOf_20 : decode cX2_fineOf 20 = .ok (.aload_n 0, 1) := by decide +kernel
theorem dX2_fineOf_21 : decode cX2_fineOf 21 = .ok (.iconst (-1), 1) := by decide +kernel
theorem dX2_fineOf_22 : decode cX2_fineOf 22 = .ok (.invokevirtual 71, 3) := by decide +kernel
theorem dX2_fineOf_25 : decode cX2_fineOf 25 = .ok (.aload_n 0, 1) := by decide +kernel
theorem dX2_fineOf_26 : decode cX2_fineOf 26 = .ok (.getfield 40, 3) := by decide +kernel
theorem dX2_fineOf_29 : decode cX2_fineOf 29 = .ok (.getfield 133, 3) := by decide +kernel
theorem dX2_fineOf_32 : decode cX2_fineOf 32 = .ok (.iconst 3, 1) := by decide +kernel
theorem dX2_fineOf_33 : decode cX2_fineOf 33 = .ok (.iaload, 1) := by decide +kernel
theorem dX2_fineOf_34 : decode cX2_fineOf 34 = .ok (.i2l, 1) := by decide +kernel
theorem dX2_fineOf_35 : decode cX2_fineOf 35 = .ok (.aload_n 0, 1) := by decide +kernel
theorem dX2_fineOf_36 : decode cX2_fineOf 36 = .ok (.getfield 24, 3) := by decide +kernel
theorem dX2_fineOf_39 : decode cX2_fineOf 39 = .ok (.iconst 2, 1) := by decide +kernel
theorem dX2_fineOf_40 : decode cX2_fineOf 40 = .ok (.aaload, 1) := by decide +kernel
theorem dX2_fineOf_41 : decode cX2_fineOf 41 = .ok (.iload_n 1, 1) := by decide +kernel
theorem dX2_fineOf_42 : decode cX2_fineOf 42 = .ok (.iaload, 1) := by decide +kernel
theorem dX2_fineOf_43 : decode cX2_fineOf 43 = .ok (.i2l, 1) := by decide +kernel
theorem dX2_fineOf_44 : decode cX2_fineOf 44 = .ok (.lmul, 1) := by decide +kernel
theorem dX2_fineOf_45 : decode cX2_fineOf 45 = .ok (.lreturn, 1) := by decide +kernel
theorem dX3_init_0 : decode cX3_init 0 = .ok (.aload_n 0, 1) := by decide +kernel
theorem dX3_init_1 : decode cX3_init 1 = .ok (.invokespecial 3, 3) := by decide +kernel
theorem dX3_init_4 : decode cX3_init 4 = .ok (.aload_n 0, 1) := by decide +kernel
theorem dX3_init_5 : decode cX3_init 5 = .ok (.bipush 12, 2) := by decide +kernel
theorem dX3_init_7 : decode cX3_init 7 = .ok (.newarray .int, 2) := by decide +kernel
theorem dX3_init_9 : decode cX3_init 9 = .ok (.putfield 9, 3) := by decide +kernel
theorem dX3_init_12 : decode cX3_init 12 = .ok (.aload_n 0, 1) := by decide +kernel
theorem dX3_init_13 : decode cX3_init 13 = .ok (.iload_n 1, 1) := by decide +kernel
theorem dX3_init_14 : decode cX3_init 14 = .ok (.putfield 15, 3) := by decide +kernel
theorem dX3_init_17 : decode cX3_init 17 = .ok (.aload_n 0, 1) := by decide +kernel
theorem dX3_init_18 : decode cX3_init 18 = .ok (.bipush 12, 2) := by decide +kernel
theorem dX3_init_20 : decode cX3_init 20 = .ok (.iload_n 1, 1) := by decide +kernel
theorem dX3_init_21 : decode cX3_init 21 = .ok (.imul, 1) := by decide +kernel
theorem dX3_init_22 : decode cX3_init 22 = .ok (.newarray .int, 2) := by decide +kernel
theorem dX3_init_24 : decode cX3_init 24 = .ok (.putfield 19, 3) := by decide +kernel
theorem dX3_init_27 : decode cX3_init 27 = .ok (.return_, 1) := by decide +kernel
theorem dX3_put_0 : decode cX3_put 0 = .ok (.iload_n 1, 1) := by decide +kernel
theorem dX3_put_1 : decode cX3_put 1 = .ok (.iconst 0, 1) := by decide +kernel
theorem dX3_put_2 : decode cX3_put 2 = .ok (.bipush 11, 2) := by decide +kernel
theorem dX3_put_4 : decode cX3_put 4 = .ok (.invokestatic 22, 3) := by decide +kernel
theorem dX3_put_7 : decode cX3_put 7 = .ok (.ifCond .eq 16, 3) := by decide +kernel
theorem dX3_put_10 : decode cX3_put 10 = .ok (.aload_n 0, 1) := by decide +kernel
theorem dX3_put_11 : decode cX3_put 11 = .ok (.getfield 9, 3) := by decide +kernel
theorem dX3_put_14 : decode cX3_put 14 = .ok (.iload_n 1, 1) := by decide +kernel
theorem dX3_put_15 : decode cX3_put 15 = .ok (.iaload, 1) := by decide +kernel
theorem dX3_put_16 : decode cX3_put 16 = .ok (.aload_n 0, 1) := by decide +kernel
theorem dX3_put_17 : decode cX3_put 17 = .ok (.getfield 15, 3) := by decide +kernel
theorem dX3_put_20 : decode cX3_put 20 = .ok (.if_icmp .lt 4, 3) := by decide +kernel
theorem dX3_put_23 : decode cX3_put 23 = .ok (.return_, 1) := by decide +kernel
theorem dX3_put_24 : decode cX3_put 24 = .ok (.aload_n 0, 1) := by decide +kernel
theorem dX3_put_25 : decode cX3_put 25 = .ok (.getfield 19, 3) := by decide +kernel
theorem dX3_put_28 : decode cX3_put 28 = .ok (.iload_n 1, 1) := by decide +kernel
theorem dX3_put_29 : decode cX3_put 29 = .ok (.aload_n 0, 1) := by decide +kernel
theorem dX3_put_30 : decode cX3_put 30 = .ok (.getfield 15, 3) := by decide +kernel
theorem dX3_put_33 : decode cX3_put 33 = .ok (.imul, 1) := by decide +kernel
theorem dX3_put_34 : decode cX3_put 34 = .ok (.aload_n 0, 1) := by decide +kernel
theorem dX3_put_35 : decode cX3_put 35 = .ok (.getfield 9, 3) := by decide +kernel
theorem dX3_put_38 : decode cX3_put 38 = .ok (.iload_n 1, 1) := by decide +kernel
theorem dX3_put_39 : decode cX3_put 39 = .ok (.iaload, 1) := by decide +kernel
theorem dX3_put_40 : decode cX3_put 40 = .ok (.iadd, 1) := by decide +kernel
theorem dX3_put_41 : decode cX3_put 41 = .ok (.iload_n 2, 1) := by decide +kernel
theorem dX3_put_42 : decode cX3_put 42 = .ok (.iastore, 1) := by decide +kernel
theorem dX3_put_43 : decode cX3_put 43 = .ok (.aload_n 0, 1) := by decide +kernel
theorem dX3_put_44 : decode cX3_put 44 = .ok (.getfield 9, 3) := by decide +kernel
theorem dX3_put_47 : decode cX3_put 47 = .ok (.iload_n 1, 1) := by decide +kernel
theorem dX3_put_48 : decode cX3_put 48 = .ok (.dup2, 1) := by decide +kernel
theorem dX3_put_49 : decode cX3_put 49 = .ok (.iaload, 1) := by decide +kernel
theorem dX3_put_50 : decode cX3_put 50 = .ok (.iconst 1, 1) := by decide +kernel
theorem dX3_put_51 : decode cX3_put 51 = .ok (.iadd, 1) := by decide +kernel
theorem dX3_put_52 : decode cX3_put 52 = .ok (.iastore, 1) := by decide +kernel
theorem dX3_put_53 : decode cX3_put 53 = .ok (.return_, 1) := by decide +kernel
theorem dX3_member_0 : decode cX3_member 0 = .ok (.aload_n 0, 1) := by decide +kernel
theorem dX3_member_1 : decode cX3_member 1 = .ok (.getfield 19, 3) := by decide +kernel
theorem dX3_member_4 : decode cX3_member 4 = .ok (.iload_n 1, 1) := by decide +kernel
theorem dX3_member_5 : decode cX3_member 5 = .ok (.aload_n 0, 1) := by decide +kernel
theorem dX3_member_6 : decode cX3_member 6 = .ok (.getfield 15, 3) := by decide +kernel
theorem dX3_member_9 : decode cX3_member 9 = .ok (.imul, 1) := by decide +kernel
theorem dX3_member_10 : decode cX3_member 10 = .ok (.iload_n 2, 1) := by decide +kernel
theorem dX3_member_11 : decode cX3_member 11 = .ok (.iadd, 1) := by decide +kernel
theorem dX3_member_12 : decode cX3_member 12 = .ok (.iaload, 1) := by decide +kernel
theorem dX3_member_13 : decode cX3_member 13 = .ok (.ireturn, 1) := by decide +kernel
theorem dX4_init_0 : decode cX4_init 0 = .ok (.aload_n 0, 1) := by decide +kernel
theorem dX4_init_1 : decode cX4_init 1 = .ok (.invokespecial 3, 3) := by decide +kernel
theorem dX4_init_4 : decode cX4_init 4 = .ok (.aload_n 0, 1) := by decide +kernel
theorem dX4_init_5 : decode cX4_init 5 = .ok (.bipush 30, 2) := by decide +kernel
theorem dX4_init_7 : decode cX4_init 7 = .ok (.newarray .int, 2) := by decide +kernel
theorem dX4_init_9 : decode cX4_init 9 = .ok (.putfield 9, 3) := by decide +kernel
theorem dX4_init_12 : decode cX4_init 12 = .ok (.aload_n 0, 1) := by decide +kernel
theorem dX4_init_13 : decode cX4_init 13 = .ok (.bipush 30, 2) := by decide +kernel
theorem dX4_init_15 : decode cX4_init 15 = .ok (.newarray .int, 2) := by decide +kernel
theorem dX4_init_17 : decode cX4_init 17 = .ok (.putfield 15, 3) := by decide +kernel
theorem dX4_init_20 : decode cX4_init 20 = .ok (.aload_n 0, 1) := by decide +kernel
theorem dX4_init_21 : decode cX4_init 21 = .ok (.bipush 30, 2) := by decide +kernel
theorem dX4_init_23 : decode cX4_init 23 = .ok (.newarray .int, 2) := by decide +kernel
theorem dX4_init_25 : decode cX4_init 25 = .ok (.putfield 18, 3) := by decide +kernel
theorem dX4_init_28 : decode cX4_init 28 = .ok (.aload_n 0, 1) := by decide +kernel
theorem dX4_init_29 : decode cX4_init 29 = .ok (.bipush 30, 2) := by decide +kernel
theorem dX4_init_31 : decode cX4_init 31 = .ok (.newarray .int, 2) := by decide +kernel
theorem dX4_init_33 : decode cX4_init 33 = .ok (.putfield 21, 3) := by decide +kernel
theorem dX4_init_36 : decode cX4_init 36 = .ok (.aload_n 0, 1) := by decide +kernel
theorem dX4_init_37 : decode cX4_init 37 = .ok (.bipush 8, 2) := by decide +kernel
theorem dX4_init_39 : decode cX4_init 39 = .ok (.newarray .int, 2) := by decide +kernel
theorem dX4_init_41 : decode cX4_init 41 = .ok (.putfield 24, 3) := by decide +kernel
theorem dX4_init_44 : decode cX4_init 44 = .ok (.return_, 1) := by decide +kernel
theorem dX4_clear_0 : decode cX4_clear 0 = .ok (.aload_n 0, 1) := by decide +kernel
theorem dX4_clear_1 : decode cX4_clear 1 = .ok (.iconst 0, 1) := by decide +kernel
theorem dX4_clear_2 : decode cX4_clear 2 = .ok (.putfield 27, 3) := by decide +kernel
theorem dX4_clear_5 : decode cX4_clear 5 = .ok (.return_, 1) := by decide +kernel
theorem dX4_add_0 : decode cX4_add 0 = .ok (.aload_n 0, 1) := by decide +kernel
theorem dX4_add_1 : decode cX4_add 1 = .ok (.getfield 27, 3) := by decide +kernel
theorem dX4_add_4 : decode cX4_add 4 = .ok (.bipush 30, 2) := by decide +kernel
theorem dX4_add_6 : decode cX4_add 6 = .ok (.if_icmp .lt 4, 3) := by decide +kernel
theorem dX4_add_9 : decode cX4_add 9 = .ok (.return_, 1) := by decide +kernel
theorem dX4_add_10 : decode cX4_add 10 = .ok (.aload_n 0, 1) := by decide +kernel
theorem dX4_add_11 : decode cX4_add 11 = .ok (.getfield 9, 3) := by decide +kernel
theorem dX4_add_14 : decode cX4_add 14 = .ok (.aload_n 0, 1) := by decide +kernel
theorem dX4_add_15 : decode cX4_add 15 = .ok (.getfield 27, 3) := by decide +kernel
theorem dX4_add_18 : decode cX4_add 18 = .ok (.iload_n 1, 1) := by decide +kernel
theorem dX4_add_19 : decode cX4_add 19 = .ok (.iastore, 1) := by decide +kernel
theorem dX4_add_20 : decode cX4_add 20 = .ok (.aload_n 0, 1) := by decide +kernel
theorem dX4_add_21 : decode cX4_add 21 = .ok (.getfield 15, 3) := by decide +kernel
theorem dX4_add_24 : decode cX4_add 24 = .ok (.aload_n 0, 1) := by decide +kernel
theorem dX4_add_25 : decode cX4_add 25 = .ok (.getfield 27, 3) := by decide +kernel
theorem dX4_add_28 : decode cX4_add 28 = .ok (.iload_n 2, 1) := by decide +kernel
theorem dX4_add_29 : decode cX4_add 29 = .ok (.iastore, 1) := by decide +kernel
theorem dX4_add_30 : decode cX4_add 30 = .ok (.aload_n 0, 1) := by decide +kernel
theorem dX4_add_31 : decode cX4_add 31 = .ok (.getfield 18, 3) := by decide +kernel
theorem dX4_add_34 : decode cX4_add 34 = .ok (.aload_n 0, 1) := by decide +kernel
theorem dX4_add_35 : decode cX4_add 35 = .ok (.getfield 27, 3) := by decide +kernel
theorem dX4_add_38 : decode cX4_add 38 = .ok (.iload_n 3, 1) := by decide +kernel
theorem dX4_add_39 : decode cX4_add 39 = .ok (.iastore, 1) := by decide +kernel
theorem dX4_add_40 : decode cX4_add 40 = .ok (.aload_n 0, 1) := by decide +kernel
theorem dX4_add_41 : decode cX4_add 41 = .ok (.getfield 21, 3) := by decide +kernel
theorem dX4_add_44 : decode cX4_add 44 = .ok (.aload_n 0, 1) := by decide +kernel
theorem dX4_add_45 : decode cX4_add 45 = .ok (.getfield 27, 3) := by decide +kernel
theorem dX4_add_48 : decode cX4_add 48 = .ok (.iload 4, 2) := by decide +kernel
theorem dX4_add_50 : decode cX4_add 50 = .ok (.iastore, 1) := by decide +kernel
theorem dX4_add_51 : decode cX4_add 51 = .ok (.aload_n 0, 1) := by decide +kernel
theorem dX4_add_52 : decode cX4_add 52 = .ok (.dup, 1) := by decide +kernel
theorem dX4_add_53 : decode cX4_add 53 = .ok (.getfield 27, 3) := by decide +kernel
theorem dX4_add_56 : decode cX4_add 56 = .ok (.iconst 1, 1) := by decide +kernel
theorem dX4_add_57 : decode cX4_add 57 = .ok (.iadd, 1) := by decide +kernel
theorem dX4_add_58 : decode cX4_add 58 = .ok (.putfield 27, 3) := by decide +kernel
theorem dX4_add_61 : decode cX4_add 61 = .ok (.return_, 1) := by decide +kernel
theorem dX4_copyFrom_0 : decode cX4_copyFrom 0 = .ok (.aload_n 0, 1) := by decide +kernel
theorem dX4_copyFrom_1 : decode cX4_copyFrom 1 = .ok (.invokevirtual 31, 3) := by decide +kernel
theorem dX4_copyFrom_4 : decode cX4_copyFrom 4 = .ok (.iconst 0, 1) := by decide +kernel
theorem dX4_copyFrom_5 : decode cX4_copyFrom 5 = .ok (.istore_n 2, 1) := by decide +kernel
theorem dX4_copyFrom_6 : decode cX4_copyFrom 6 = .ok (.iload_n 2, 1) := by decide +kernel
theorem dX4_copyFrom_7 : decode cX4_copyFrom 7 = .ok (.aload_n 1, 1) := by decide +kernel
theorem dX4_copyFrom_8 : decode cX4_copyFrom 8 = .ok (.getfield 27, 3) := by decide +kernel
theorem dX4_copyFrom_11 : decode cX4_copyFrom 11 = .ok (.if_icmp .ge 37, 3) := by decide +kernel
theorem dX4_copyFrom_14 : decode cX4_copyFrom 14 = .ok (.aload_n 0, 1) := by decide +kernel
theorem dX4_copyFrom_15 : decode cX4_copyFrom 15 = .ok (.aload_n 1, 1) := by decide +kernel
theorem dX4_copyFrom_16 : decode cX4_copyFrom 16 = .ok (.getfield 9, 3) := by decide +kernel
theorem dX4_copyFrom_19 : decode cX4_copyFrom 19 = .ok (.iload_n 2, 1) := by decide +kernel
theorem dX4_copyFrom_20 : decode cX4_copyFrom 20 = .ok (.iaload, 1) := by decide +kernel
theorem dX4_copyFrom_21 : decode cX4_copyFrom 21 = .ok (.aload_n 1, 1) := by decide +kernel
theorem dX4_copyFrom_22 : decode cX4_copyFrom 22 = .ok (.getfield 15, 3) := by decide +kernel
theorem dX4_copyFrom_25 : decode cX4_copyFrom 25 = .ok (.iload_n 2, 1) := by decide +kernel
theorem dX4_copyFrom_26 : decode cX4_copyFrom 26 = .ok (.iaload, 1) := by decide +kernel
theorem dX4_copyFrom_27 : decode cX4_copyFrom 27 = .ok (.aload_n 1, 1) := by decide +kernel
theorem dX4_copyFrom_28 : decode cX4_copyFrom 28 = .ok (.getfield 18, 3) := by decide +kernel
