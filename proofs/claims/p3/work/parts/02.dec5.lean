theorem dX12_flowAt_485 : decode cX12_flowAt 485 = .ok (.dup, 1) := by decide +kernel
theorem dX12_flowAt_486 : decode cX12_flowAt 486 = .ok (.getfield 289, 3) := by decide +kernel
theorem dX12_flowAt_489 : decode cX12_flowAt 489 = .ok (.iconst 1, 1) := by decide +kernel
theorem dX12_flowAt_490 : decode cX12_flowAt 490 = .ok (.iadd, 1) := by decide +kernel
theorem dX12_flowAt_491 : decode cX12_flowAt 491 = .ok (.putfield 289, 3) := by decide +kernel
theorem dX12_flowAt_494 : decode cX12_flowAt 494 = .ok (.iinc 6 1, 3) := by decide +kernel
theorem dX12_flowAt_497 : decode cX12_flowAt 497 = .ok (.goto (-73), 3) := by decide +kernel
theorem dX12_flowAt_500 : decode cX12_flowAt 500 = .ok (.aload_n 0, 1) := by decide +kernel
theorem dX12_flowAt_501 : decode cX12_flowAt 501 = .ok (.getfield 116, 3) := by decide +kernel
theorem dX12_flowAt_504 : decode cX12_flowAt 504 = .ok (.iload_n 1, 1) := by decide +kernel
theorem dX12_flowAt_505 : decode cX12_flowAt 505 = .ok (.aload_n 0, 1) := by decide +kernel
theorem dX12_flowAt_506 : decode cX12_flowAt 506 = .ok (.iload 4, 2) := by decide +kernel
theorem dX12_flowAt_508 : decode cX12_flowAt 508 = .ok (.invokevirtual 306, 3) := by decide +kernel
theorem dX12_flowAt_511 : decode cX12_flowAt 511 = .ok (.iastore, 1) := by decide +kernel
theorem dX12_flowAt_512 : decode cX12_flowAt 512 = .ok (.iconst 0, 1) := by decide +kernel
theorem dX12_flowAt_513 : decode cX12_flowAt 513 = .ok (.istore 6, 2) := by decide +kernel
theorem dX12_flowAt_515 : decode cX12_flowAt 515 = .ok (.iload 6, 2) := by decide +kernel
theorem dX12_flowAt_517 : decode cX12_flowAt 517 = .ok (.aload_n 0, 1) := by decide +kernel
theorem dX12_flowAt_518 : decode cX12_flowAt 518 = .ok (.getfield 289, 3) := by decide +kernel
theorem dX12_flowAt_521 : decode cX12_flowAt 521 = .ok (.if_icmp .ge 28, 3) := by decide +kernel
theorem dX12_flowAt_524 : decode cX12_flowAt 524 = .ok (.aload_n 0, 1) := by decide +kernel
theorem dX12_flowAt_525 : decode cX12_flowAt 525 = .ok (.getfield 104, 3) := by decide +kernel
theorem dX12_flowAt_528 : decode cX12_flowAt 528 = .ok (.aload_n 0, 1) := by decide +kernel
theorem dX12_flowAt_529 : decode cX12_flowAt 529 = .ok (.getfield 122, 3) := by decide +kernel
theorem dX12_flowAt_532 : decode cX12_flowAt 532 = .ok (.iload 6, 2) := by decide +kernel
theorem dX12_flowAt_534 : decode cX12_flowAt 534 = .ok (.iaload, 1) := by decide +kernel
theorem dX12_flowAt_535 : decode cX12_flowAt 535 = .ok (.aload_n 0, 1) := by decide +kernel
theorem dX12_flowAt_536 : decode cX12_flowAt 536 = .ok (.getfield 128, 3) := by decide +kernel
theorem dX12_flowAt_539 : decode cX12_flowAt 539 = .ok (.iload 6, 2) := by decide +kernel
theorem dX12_flowAt_541 : decode cX12_flowAt 541 = .ok (.iaload, 1) := by decide +kernel
theorem dX12_flowAt_542 : decode cX12_flowAt 542 = .ok (.iastore, 1) := by decide +kernel
theorem dX12_flowAt_543 : decode cX12_flowAt 543 = .ok (.iinc 6 1, 3) := by decide +kernel
theorem dX12_flowAt_546 : decode cX12_flowAt 546 = .ok (.goto (-31), 3) := by decide +kernel
theorem dX12_flowAt_549 : decode cX12_flowAt 549 = .ok (.return_, 1) := by decide +kernel
theorem dX12_lives_0 : decode cX12_lives 0 = .ok (.aload_n 0, 1) := by decide +kernel
theorem dX12_lives_1 : decode cX12_lives 1 = .ok (.iconst 0, 1) := by decide +kernel
theorem dX12_lives_2 : decode cX12_lives 2 = .ok (.putfield 131, 3) := by decide +kernel
theorem dX12_lives_5 : decode cX12_lives 5 = .ok (.aload_n 0, 1) := by decide +kernel
theorem dX12_lives_6 : decode cX12_lives 6 = .ok (.iload_n 1, 1) := by decide +kernel
theorem dX12_lives_7 : decode cX12_lives 7 = .ok (.invokevirtual 197, 3) := by decide +kernel
theorem dX12_lives_10 : decode cX12_lives 10 = .ok (.ifCond .eq 27, 3) := by decide +kernel
theorem dX12_lives_13 : decode cX12_lives 13 = .ok (.aload_n 0, 1) := by decide +kernel
theorem dX12_lives_14 : decode cX12_lives 14 = .ok (.getfield 46, 3) := by decide +kernel
theorem dX12_lives_17 : decode cX12_lives 17 = .ok (.iload_n 1, 1) := by decide +kernel
theorem dX12_lives_18 : decode cX12_lives 18 = .ok (.iaload, 1) := by decide +kernel
theorem dX12_lives_19 : decode cX12_lives 19 = .ok (.iconst 2, 1) := by decide +kernel
theorem dX12_lives_20 : decode cX12_lives 20 = .ok (.if_icmp .ne 17, 3) := by decide +kernel
theorem dX12_lives_23 : decode cX12_lives 23 = .ok (.iload_n 2, 1) := by decide +kernel
theorem dX12_lives_24 : decode cX12_lives 24 = .ok (.invokestatic 161, 3) := by decide +kernel
theorem dX12_lives_27 : decode cX12_lives 27 = .ok (.ifCond .eq 10, 3) := by decide +kernel
theorem dX12_lives_30 : decode cX12_lives 30 = .ok (.iload_n 3, 1) := by decide +kernel
theorem dX12_lives_31 : decode cX12_lives 31 = .ok (.invokestatic 161, 3) := by decide +kernel
theorem dX12_lives_34 : decode cX12_lives 34 = .ok (.ifCond .ne 5, 3) := by decide +kernel
theorem dX12_lives_37 : decode cX12_lives 37 = .ok (.iconst (-1), 1) := by decide +kernel
theorem dX12_lives_38 : decode cX12_lives 38 = .ok (.ireturn, 1) := by decide +kernel
theorem dX12_lives_39 : decode cX12_lives 39 = .ok (.aload_n 0, 1) := by decide +kernel
theorem dX12_lives_40 : decode cX12_lives 40 = .ok (.iload_n 1, 1) := by decide +kernel
theorem dX12_lives_41 : decode cX12_lives 41 = .ok (.iload_n 2, 1) := by decide +kernel
theorem dX12_lives_42 : decode cX12_lives 42 = .ok (.iload_n 3, 1) := by decide +kernel
theorem dX12_lives_43 : decode cX12_lives 43 = .ok (.invokevirtual 302, 3) := by decide +kernel
theorem dX12_lives_46 : decode cX12_lives 46 = .ok (.ifCond .eq 7, 3) := by decide +kernel
theorem dX12_lives_49 : decode cX12_lives 49 = .ok (.iconst 1, 1) := by decide +kernel
theorem dX12_lives_50 : decode cX12_lives 50 = .ok (.goto 4, 3) := by decide +kernel
theorem dX12_lives_53 : decode cX12_lives 53 = .ok (.iconst 0, 1) := by decide +kernel
theorem dX12_lives_54 : decode cX12_lives 54 = .ok (.ireturn, 1) := by decide +kernel
theorem dX12_gets_0 : decode cX12_gets 0 = .ok (.aload_n 0, 1) := by decide +kernel
theorem dX12_gets_1 : decode cX12_gets 1 = .ok (.iconst 0, 1) := by decide +kernel
theorem dX12_gets_2 : decode cX12_gets 2 = .ok (.putfield 131, 3) := by decide +kernel
theorem dX12_gets_5 : decode cX12_gets 5 = .ok (.aload_n 0, 1) := by decide +kernel
theorem dX12_gets_6 : decode cX12_gets 6 = .ok (.iload_n 1, 1) := by decide +kernel
theorem dX12_gets_7 : decode cX12_gets 7 = .ok (.invokevirtual 197, 3) := by decide +kernel
theorem dX12_gets_10 : decode cX12_gets 10 = .ok (.ifCond .eq 17, 3) := by decide +kernel
theorem dX12_gets_13 : decode cX12_gets 13 = .ok (.iload_n 2, 1) := by decide +kernel
theorem dX12_gets_14 : decode cX12_gets 14 = .ok (.invokestatic 161, 3) := by decide +kernel
theorem dX12_gets_17 : decode cX12_gets 17 = .ok (.ifCond .eq 10, 3) := by decide +kernel
theorem dX12_gets_20 : decode cX12_gets 20 = .ok (.iload_n 3, 1) := by decide +kernel
theorem dX12_gets_21 : decode cX12_gets 21 = .ok (.invokestatic 161, 3) := by decide +kernel
theorem dX12_gets_24 : decode cX12_gets 24 = .ok (.ifCond .ne 5, 3) := by decide +kernel
theorem dX12_gets_27 : decode cX12_gets 27 = .ok (.iconst (-1), 1) := by decide +kernel
theorem dX12_gets_28 : decode cX12_gets 28 = .ok (.ireturn, 1) := by decide +kernel
theorem dX12_gets_29 : decode cX12_gets 29 = .ok (.aload_n 0, 1) := by decide +kernel
theorem dX12_gets_30 : decode cX12_gets 30 = .ok (.iload_n 2, 1) := by decide +kernel
theorem dX12_gets_31 : decode cX12_gets 31 = .ok (.iload_n 3, 1) := by decide +kernel
theorem dX12_gets_32 : decode cX12_gets 32 = .ok (.invokevirtual 309, 3) := by decide +kernel
theorem dX12_gets_35 : decode cX12_gets 35 = .ok (.aload_n 0, 1) := by decide +kernel
theorem dX12_gets_36 : decode cX12_gets 36 = .ok (.getfield 119, 3) := by decide +kernel
theorem dX12_gets_39 : decode cX12_gets 39 = .ok (.iload_n 1, 1) := by decide +kernel
theorem dX12_gets_40 : decode cX12_gets 40 = .ok (.iaload, 1) := by decide +kernel
theorem dX12_gets_41 : decode cX12_gets 41 = .ok (.ireturn, 1) := by decide +kernel
theorem dX12_at_0 : decode cX12_at 0 = .ok (.aload_n 0, 1) := by decide +kernel
theorem dX12_at_1 : decode cX12_at 1 = .ok (.iconst 0, 1) := by decide +kernel
theorem dX12_at_2 : decode cX12_at 2 = .ok (.putfield 131, 3) := by decide +kernel
theorem dX12_at_5 : decode cX12_at 5 = .ok (.aload_n 0, 1) := by decide +kernel
theorem dX12_at_6 : decode cX12_at 6 = .ok (.iload_n 1, 1) := by decide +kernel
theorem dX12_at_7 : decode cX12_at 7 = .ok (.invokevirtual 188, 3) := by decide +kernel
theorem dX12_at_10 : decode cX12_at 10 = .ok (.ifCond .eq 17, 3) := by decide +kernel
theorem dX12_at_13 : decode cX12_at 13 = .ok (.iload_n 2, 1) := by decide +kernel
theorem dX12_at_14 : decode cX12_at 14 = .ok (.invokestatic 161, 3) := by decide +kernel
theorem dX12_at_17 : decode cX12_at 17 = .ok (.ifCond .eq 10, 3) := by decide +kernel
theorem dX12_at_20 : decode cX12_at 20 = .ok (.iload_n 3, 1) := by decide +kernel
theorem dX12_at_21 : decode cX12_at 21 = .ok (.invokestatic 161, 3) := by decide +kernel
theorem dX12_at_24 : decode cX12_at 24 = .ok (.ifCond .ne 5, 3) := by decide +kernel
theorem dX12_at_27 : decode cX12_at 27 = .ok (.iconst (-1), 1) := by decide +kernel
theorem dX12_at_28 : decode cX12_at 28 = .ok (.ireturn, 1) := by decide +kernel
theorem dX12_at_29 : decode cX12_at 29 = .ok (.aload_n 0, 1) := by decide +kernel
theorem dX12_at_30 : decode cX12_at 30 = .ok (.iload_n 2, 1) := by decide +kernel
theorem dX12_at_31 : decode cX12_at 31 = .ok (.iload_n 3, 1) := by decide +kernel
theorem dX12_at_32 : decode cX12_at 32 = .ok (.invokevirtual 309, 3) := by decide +kernel
theorem dX12_at_35 : decode cX12_at 35 = .ok (.iload 4, 2) := by decide +kernel
theorem dX12_at_37 : decode cX12_at 37 = .ok (.tableswitch 106 0 6 #[43, 50, 57, 64, 71, 78, 85], 43) := by decide +kernel
theorem dX12_at_80 : decode cX12_at 80 = .ok (.aload_n 0, 1) := by decide +kernel
theorem dX12_at_81 : decode cX12_at 81 = .ok (.getfield 101, 3) := by decide +kernel
theorem dX12_at_84 : decode cX12_at 84 = .ok (.iload_n 1, 1) := by decide +kernel
theorem dX12_at_85 : decode cX12_at 85 = .ok (.iaload, 1) := by decide +kernel
theorem dX12_at_86 : decode cX12_at 86 = .ok (.ireturn, 1) := by decide +kernel
theorem dX12_at_87 : decode cX12_at 87 = .ok (.aload_n 0, 1) := by decide +kernel
theorem dX12_at_88 : decode cX12_at 88 = .ok (.getfield 104, 3) := by decide +kernel
theorem dX12_at_91 : decode cX12_at 91 = .ok (.iload_n 1, 1) := by decide +kernel
theorem dX12_at_92 : decode cX12_at 92 = .ok (.iaload, 1) := by decide +kernel
theorem dX12_at_93 : decode cX12_at 93 = .ok (.ireturn, 1) := by decide +kernel
theorem dX12_at_94 : decode cX12_at 94 = .ok (.aload_n 0, 1) := by decide +kernel
theorem dX12_at_95 : decode cX12_at 95 = .ok (.getfield 107, 3) := by decide +kernel
theorem dX12_at_98 : decode cX12_at 98 = .ok (.iload_n 1, 1) := by decide +kernel
theorem dX12_at_99 : decode cX12_at 99 = .ok (.iaload, 1) := by decide +kernel
theorem dX12_at_100 : decode cX12_at 100 = .ok (.ireturn, 1) := by decide +kernel
theorem dX12_at_101 : decode cX12_at 101 = .ok (.aload_n 0, 1) := by decide +kernel
theorem dX12_at_102 : decode cX12_at 102 = .ok (.getfield 110, 3) := by decide +kernel
theorem dX12_at_105 : decode cX12_at 105 = .ok (.iload_n 1, 1) := by decide +kernel
theorem dX12_at_106 : decode cX12_at 106 = .ok (.iaload, 1) := by decide +kernel
theorem dX12_at_107 : decode cX12_at 107 = .ok (.ireturn, 1) := by decide +kernel
theorem dX12_at_108 : decode cX12_at 108 = .ok (.aload_n 0, 1) := by decide +kernel
theorem dX12_at_109 : decode cX12_at 109 = .ok (.getfield 113, 3) := by decide +kernel
theorem dX12_at_112 : decode cX12_at 112 = .ok (.iload_n 1, 1) := by decide +kernel
theorem dX12_at_113 : decode cX12_at 113 = .ok (.iaload, 1) := by decide +kernel
theorem dX12_at_114 : decode cX12_at 114 = .ok (.ireturn, 1) := by decide +kernel
theorem dX12_at_115 : decode cX12_at 115 = .ok (.aload_n 0, 1) := by decide +kernel
theorem dX12_at_116 : decode cX12_at 116 = .ok (.getfield 116, 3) := by decide +kernel
theorem dX12_at_119 : decode cX12_at 119 = .ok (.iload_n 1, 1) := by decide +kernel
theorem dX12_at_120 : decode cX12_at 120 = .ok (.iaload, 1) := by decide +kernel
theorem dX12_at_121 : decode cX12_at 121 = .ok (.ireturn, 1) := by decide +kernel
theorem dX12_at_122 : decode cX12_at 122 = .ok (.aload_n 0, 1) := by decide +kernel
theorem dX12_at_123 : decode cX12_at 123 = .ok (.getfield 101, 3) := by decide +kernel
theorem dX12_at_126 : decode cX12_at 126 = .ok (.iload_n 1, 1) := by decide +kernel
theorem dX12_at_127 : decode cX12_at 127 = .ok (.iaload, 1) := by decide +kernel
theorem dX12_at_128 : decode cX12_at 128 = .ok (.aload_n 0, 1) := by decide +kernel
theorem dX12_at_129 : decode cX12_at 129 = .ok (.getfield 113, 3) := by decide +kernel
theorem dX12_at_132 : decode cX12_at 132 = .ok (.iload_n 1, 1) := by decide +kernel
theorem dX12_at_133 : decode cX12_at 133 = .ok (.iaload, 1) := by decide +kernel
theorem dX12_at_134 : decode cX12_at 134 = .ok (.isub, 1) := by decide +kernel
theorem dX12_at_135 : decode cX12_at 135 = .ok (.aload_n 0, 1) := by decide +kernel
theorem dX12_at_136 : decode cX12_at 136 = .ok (.getfield 116, 3) := by decide +kernel
theorem dX12_at_139 : decode cX12_at 139 = .ok (.iload_n 1, 1) := by decide +kernel
theorem dX12_at_140 : decode cX12_at 140 = .ok (.iaload, 1) := by decide +kernel
theorem dX12_at_141 : decode cX12_at 141 = .ok (.isub, 1) := by decide +kernel
theorem dX12_at_142 : decode cX12_at 142 = .ok (.ireturn, 1) := by decide +kernel
theorem dX12_at_143 : decode cX12_at 143 = .ok (.iconst (-1), 1) := by decide +kernel
theorem dX12_at_144 : decode cX12_at 144 = .ok (.ireturn, 1) := by decide +kernel
theorem dX12_isDry_0 : decode cX12_isDry 0 = .ok (.iconst 0, 1) := by decide +kernel
theorem dX12_isDry_1 : decode cX12_isDry 1 = .ok (.istore_n 3, 1) := by decide +kernel
theorem dX12_isDry_2 : decode cX12_isDry 2 = .ok (.iconst 0, 1) := by decide +kernel
theorem dX12_isDry_3 : decode cX12_isDry 3 = .ok (.istore 4, 2) := by decide +kernel
theorem dX12_isDry_5 : decode cX12_isDry 5 = .ok (.iconst 0, 1) := by decide +kernel
theorem dX12_isDry_6 : decode cX12_isDry 6 = .ok (.istore 5, 2) := by decide +kernel
theorem dX12_isDry_8 : decode cX12_isDry 8 = .ok (.iload 5, 2) := by decide +kernel
theorem dX12_isDry_10 : decode cX12_isDry 10 = .ok (.aload_n 0, 1) := by decide +kernel
theorem dX12_isDry_11 : decode cX12_isDry 11 = .ok (.getfield 149, 3) := by decide +kernel
theorem dX12_isDry_14 : decode cX12_isDry 14 = .ok (.if_icmp .ge 63, 3) := by decide +kernel
theorem dX12_isDry_17 : decode cX12_isDry 17 = .ok (.aload_n 0, 1) := by decide +kernel
theorem dX12_isDry_18 : decode cX12_isDry 18 = .ok (.getfield 46, 3) := by decide +kernel
theorem dX12_isDry_21 : decode cX12_isDry 21 = .ok (.iload 5, 2) := by decide +kernel
theorem dX12_isDry_23 : decode cX12_isDry 23 = .ok (.iaload, 1) := by decide +kernel
theorem dX12_isDry_24 : decode cX12_isDry 24 = .ok (.iconst 2, 1) := by decide +kernel
theorem dX12_isDry_25 : decode cX12_isDry 25 = .ok (.if_icmp .ge 46, 3) := by decide +kernel
theorem dX12_isDry_28 : decode cX12_isDry 28 = .ok (.aload_n 0, 1) := by decide +kernel
theorem dX12_isDry_29 : decode cX12_isDry 29 = .ok (.getfield 49, 3) := by decide +kernel
theorem dX12_isDry_32 : decode cX12_isDry 32 = .ok (.iload 5, 2) := by decide +kernel
theorem dX12_isDry_34 : decode cX12_isDry 34 = .ok (.iaload, 1) := by decide +kernel
theorem dX12_isDry_35 : decode cX12_isDry 35 = .ok (.iload_n 1, 1) := by decide +kernel
theorem dX12_isDry_36 : decode cX12_isDry 36 = .ok (.if_icmp .ne 35, 3) := by decide +kernel
theorem dX12_isDry_39 : decode cX12_isDry 39 = .ok (.aload_n 0, 1) := by decide +kernel
theorem dX12_isDry_40 : decode cX12_isDry 40 = .ok (.iload 5, 2) := by decide +kernel
theorem dX12_isDry_42 : decode cX12_isDry 42 = .ok (.iload_n 2, 1) := by decide +kernel
theorem dX12_isDry_43 : decode cX12_isDry 43 = .ok (.invokevirtual 286, 3) := by decide +kernel
theorem dX12_isDry_46 : decode cX12_isDry 46 = .ok (.ifCond .eq 25, 3) := by decide +kernel
theorem dX12_isDry_49 : decode cX12_isDry 49 = .ok (.iload_n 3, 1) := by decide +kernel
theorem dX12_isDry_50 : decode cX12_isDry 50 = .ok (.aload_n 0, 1) := by decide +kernel
theorem dX12_isDry_51 : decode cX12_isDry 51 = .ok (.getfield 43, 3) := by decide +kernel
theorem dX12_isDry_54 : decode cX12_isDry 54 = .ok (.iload 5, 2) := by decide +kernel
theorem dX12_isDry_56 : decode cX12_isDry 56 = .ok (.iaload, 1) := by decide +kernel
theorem dX12_isDry_57 : decode cX12_isDry 57 = .ok (.iadd, 1) := by decide +kernel
theorem dX12_isDry_58 : decode cX12_isDry 58 = .ok (.istore_n 3, 1) := by decide +kernel
theorem dX12_isDry_59 : decode cX12_isDry 59 = .ok (.iload 4, 2) := by decide +kernel
theorem dX12_isDry_61 : decode cX12_isDry 61 = .ok (.aload_n 0, 1) := by decide +kernel
theorem dX12_isDry_62 : decode cX12_isDry 62 = .ok (.getfield 119, 3) := by decide +kernel
theorem dX12_isDry_65 : decode cX12_isDry 65 = .ok (.iload 5, 2) := by decide +kernel
theorem dX12_isDry_67 : decode cX12_isDry 67 = .ok (.iaload, 1) := by decide +kernel
theorem dX12_isDry_68 : decode cX12_isDry 68 = .ok (.iadd, 1) := by decide +kernel
theorem dX12_isDry_69 : decode cX12_isDry 69 = .ok (.istore 4, 2) := by decide +kernel
theorem dX12_isDry_71 : decode cX12_isDry 71 = .ok (.iinc 5 1, 3) := by decide +kernel
theorem dX12_isDry_74 : decode cX12_isDry 74 = .ok (.goto (-66), 3) := by decide +kernel
theorem dX12_isDry_77 : decode cX12_isDry 77 = .ok (.iconst 2, 1) := by decide +kernel
theorem dX12_isDry_78 : decode cX12_isDry 78 = .ok (.iload 4, 2) := by decide +kernel
theorem dX12_isDry_80 : decode cX12_isDry 80 = .ok (.imul, 1) := by decide +kernel
theorem dX12_isDry_81 : decode cX12_isDry 81 = .ok (.iload_n 3, 1) := by decide +kernel
theorem dX12_isDry_82 : decode cX12_isDry 82 = .ok (.if_icmp .ge 7, 3) := by decide +kernel
theorem dX12_isDry_85 : decode cX12_isDry 85 = .ok (.iconst 1, 1) := by decide +kernel
theorem dX12_isDry_86 : decode cX12_isDry 86 = .ok (.goto 4, 3) := by decide +kernel
theorem dX12_isDry_89 : decode cX12_isDry 89 = .ok (.iconst 0, 1) := by decide +kernel
theorem dX12_isDry_90 : decode cX12_isDry 90 = .ok (.ireturn, 1) := by decide +kernel
theorem dX12_dry_0 : decode cX12_dry 0 = .ok (.aload_n 0, 1) := by decide +kernel
theorem dX12_dry_1 : decode cX12_dry 1 = .ok (.iconst 0, 1) := by decide +kernel
theorem dX12_dry_2 : decode cX12_dry 2 = .ok (.putfield 131, 3) := by decide +kernel
theorem dX12_dry_5 : decode cX12_dry 5 = .ok (.iload_n 1, 1) := by decide +kernel
theorem dX12_dry_6 : decode cX12_dry 6 = .ok (.i2l, 1) := by decide +kernel
theorem dX12_dry_7 : decode cX12_dry 7 = .ok (.lconst 0, 1) := by decide +kernel
theorem dX12_dry_8 : decode cX12_dry 8 = .ok (.ldc2_w 186, 3) := by decide +kernel
theorem dX12_dry_11 : decode cX12_dry 11 = .ok (.invokestatic 139, 3) := by decide +kernel
theorem dX12_dry_14 : decode cX12_dry 14 = .ok (.ifCond .eq 17, 3) := by decide +kernel
theorem dX12_dry_17 : decode cX12_dry 17 = .ok (.iload_n 2, 1) := by decide +kernel
theorem dX12_dry_18 : decode cX12_dry 18 = .ok (.invokestatic 161, 3) := by decide +kernel
theorem dX12_dry_21 : decode cX12_dry 21 = .ok (.ifCond .eq 10, 3) := by decide +kernel
theorem dX12_dry_24 : decode cX12_dry 24 = .ok (.iload_n 3, 1) := by decide +kernel
theorem dX12_dry_25 : decode cX12_dry 25 = .ok (.invokestatic 161, 3) := by decide +kernel
theorem dX12_dry_28 : decode cX12_dry 28 = .ok (.ifCond .ne 5, 3) := by decide +kernel
theorem dX12_dry_31 : decode cX12_dry 31 = .ok (.iconst (-1), 1) := by decide +kernel
theorem dX12_dry_32 : decode cX12_dry 32 = .ok (.ireturn, 1) := by decide +kernel
theorem dX12_dry_33 : decode cX12_dry 33 = .ok (.aload_n 0, 1) := by decide +kernel
theorem dX12_dry_34 : decode cX12_dry 34 = .ok (.iload_n 2, 1) := by decide +kernel
theorem dX12_dry_35 : decode cX12_dry 35 = .ok (.iload_n 3, 1) := by decide +kernel
theorem dX12_dry_36 : decode cX12_dry 36 = .ok (.invokevirtual 309, 3) := by decide +kernel
theorem dX12_dry_39 : decode cX12_dry 39 = .ok (.aload_n 0, 1) := by decide +kernel
theorem dX12_dry_40 : decode cX12_dry 40 = .ok (.iload_n 1, 1) := by decide +kernel
theorem dX12_dry_41 : decode cX12_dry 41 = .ok (.iload_n 2, 1) := by decide +kernel
theorem dX12_dry_42 : decode cX12_dry 42 = .ok (.invokevirtual 313, 3) := by decide +kernel
theorem dX12_dry_45 : decode cX12_dry 45 = .ok (.ifCond .eq 7, 3) := by decide +kernel
theorem dX12_dry_48 : decode cX12_dry 48 = .ok (.iconst 1, 1) := by decide +kernel
theorem dX12_dry_49 : decode cX12_dry 49 = .ok (.goto 4, 3) := by decide +kernel
theorem dX12_dry_52 : decode cX12_dry 52 = .ok (.iconst 0, 1) := by decide +kernel
theorem dX12_dry_53 : decode cX12_dry 53 = .ok (.ireturn, 1) := by decide +kernel
theorem dX12_found_0 : decode cX12_found 0 = .ok (.aload_n 0, 1) := by decide +kernel
theorem dX12_found_1 : decode cX12_found 1 = .ok (.iconst 0, 1) := by decide +kernel
theorem dX12_found_2 : decode cX12_found 2 = .ok (.putfield 131, 3) := by decide +kernel
theorem dX12_found_5 : decode cX12_found 5 = .ok (.aload_n 0, 1) := by decide +kernel
theorem dX12_found_6 : decode cX12_found 6 = .ok (.iload_n 1, 1) := by decide +kernel
theorem dX12_found_7 : decode cX12_found 7 = .ok (.invokevirtual 188, 3) := by decide +kernel
theorem dX12_found_10 : decode cX12_found 10 = .ok (.ifCond .eq 10, 3) := by decide +kernel
theorem dX12_found_13 : decode cX12_found 13 = .ok (.iload_n 2, 1) := by decide +kernel
theorem dX12_found_14 : decode cX12_found 14 = .ok (.invokestatic 161, 3) := by decide +kernel
theorem dX12_found_17 : decode cX12_found 17 = .ok (.ifCond .ne 5, 3) := by decide +kernel
theorem dX12_found_20 : decode cX12_found 20 = .ok (.iconst (-1), 1) := by decide +kernel
theorem dX12_found_21 : decode cX12_found 21 = .ok (.ireturn, 1) := by decide +kernel
theorem dX12_found_22 : decode cX12_found 22 = .ok (.aload_n 0, 1) := by decide +kernel
theorem dX12_found_23 : decode cX12_found 23 = .ok (.iload_n 2, 1) := by decide +kernel
theorem dX12_found_24 : decode cX12_found 24 = .ok (.aload_n 0, 1) := by decide +kernel
theorem dX12_found_25 : decode cX12_found 25 = .ok (.getfield 191, 3) := by decide +kernel
theorem dX12_found_28 : decode cX12_found 28 = .ok (.invokevirtual 309, 3) := by decide +kernel
theorem dX12_found_31 : decode cX12_found 31 = .ok (.iconst 0, 1) := by decide +kernel
theorem dX12_found_32 : decode cX12_found 32 = .ok (.istore_n 3, 1) := by decide +kernel
theorem dX12_found_33 : decode cX12_found 33 = .ok (.aload_n 0, 1) := by decide +kernel
theorem dX12_found_34 : decode cX12_found 34 = .ok (.getfield 104, 3) := by decide +kernel
theorem dX12_found_37 : decode cX12_found 37 = .ok (.iload_n 1, 1) := by decide +kernel
theorem dX12_found_38 : decode cX12_found 38 = .ok (.iaload, 1) := by decide +kernel
theorem dX12_found_39 : decode cX12_found 39 = .ok (.istore 4, 2) := by decide +kernel
theorem dX12_found_41 : decode cX12_found 41 = .ok (.iload 4, 2) := by decide +kernel
theorem dX12_found_43 : decode cX12_found 43 = .ok (.iload_n 3, 1) := by decide +kernel
theorem dX12_found_44 : decode cX12_found 44 = .ok (.isub, 1) := by decide +kernel
theorem dX12_found_45 : decode cX12_found 45 = .ok (.iload 4, 2) := by decide +kernel
theorem dX12_found_47 : decode cX12_found 47 = .ok (.iload_n 3, 1) := by decide +kernel
theorem dX12_found_48 : decode cX12_found 48 = .ok (.isub, 1) := by decide +kernel
theorem dX12_found_49 : decode cX12_found 49 = .ok (.i2l, 1) := by decide +kernel
theorem dX12_found_50 : decode cX12_found 50 = .ok (.aload_n 0, 1) := by decide +kernel
theorem dX12_found_51 : decode cX12_found 51 = .ok (.getfield 28, 3) := by decide +kernel
theorem dX12_found_54 : decode cX12_found 54 = .ok (.iload_n 1, 1) := by decide +kernel
theorem dX12_found_55 : decode cX12_found 55 = .ok (.iaload, 1) := by decide +kernel
theorem dX12_found_56 : decode cX12_found 56 = .ok (.i2l, 1) := by decide +kernel
theorem dX12_found_57 : decode cX12_found 57 = .ok (.lmul, 1) := by decide +kernel
theorem dX12_found_58 : decode cX12_found 58 = .ok (.ldc2_w 168, 3) := by decide +kernel
theorem dX12_found_61 : decode cX12_found 61 = .ok (.ldiv, 1) := by decide +kernel
theorem dX12_found_62 : decode cX12_found 62 = .ok (.l2i, 1) := by decide +kernel
theorem dX12_found_63 : decode cX12_found 63 = .ok (.isub, 1) := by decide +kernel
theorem dX12_found_64 : decode cX12_found 64 = .ok (.aload_n 0, 1) := by decide +kernel
theorem dX12_found_65 : decode cX12_found 65 = .ok (.getfield 101, 3) := by decide +kernel
theorem dX12_found_68 : decode cX12_found 68 = .ok (.iload_n 1, 1) := by decide +kernel
theorem dX12_found_69 : decode cX12_found 69 = .ok (.iaload, 1) := by decide +kernel
theorem dX12_found_70 : decode cX12_found 70 = .ok (.if_icmp .eq 9, 3) := by decide +kernel
theorem dX12_found_73 : decode cX12_found 73 = .ok (.iinc 3 1, 3) := by decide +kernel
theorem dX12_found_76 : decode cX12_found 76 = .ok (.goto (-35), 3) := by decide +kernel
theorem dX12_found_79 : decode cX12_found 79 = .ok (.iload_n 3, 1) := by decide +kernel
theorem dX12_found_80 : decode cX12_found 80 = .ok (.ireturn, 1) := by decide +kernel
theorem dX12_best_0 : decode cX12_best 0 = .ok (.aload_n 0, 1) := by decide +kernel
theorem dX12_best_1 : decode cX12_best 1 = .ok (.iconst 0, 1) := by decide +kernel
theorem dX12_best_2 : decode cX12_best 2 = .ok (.putfield 131, 3) := by decide +kernel
theorem dX12_best_5 : decode cX12_best 5 = .ok (.iload_n 2, 1) := by decide +kernel
theorem dX12_best_6 : decode cX12_best 6 = .ok (.i2l, 1) := by decide +kernel
theorem dX12_best_7 : decode cX12_best 7 = .ok (.lconst 1, 1) := by decide +kernel
theorem dX12_best_8 : decode cX12_best 8 = .ok (.ldc2_w 251, 3) := by decide +kernel
theorem dX12_best_11 : decode cX12_best 11 = .ok (.invokestatic 139, 3) := by decide +kernel
theorem dX12_best_14 : decode cX12_best 14 = .ok (.ifCond .eq 27, 3) := by decide +kernel
theorem dX12_best_17 : decode cX12_best 17 = .ok (.iload_n 3, 1) := by decide +kernel
theorem dX12_best_18 : decode cX12_best 18 = .ok (.invokestatic 161, 3) := by decide +kernel
theorem dX12_best_21 : decode cX12_best 21 = .ok (.ifCond .eq 20, 3) := by decide +kernel
theorem dX12_best_24 : decode cX12_best 24 = .ok (.iload 4, 2) := by decide +kernel
theorem dX12_best_26 : decode cX12_best 26 = .ok (.i2l, 1) := by decide +kernel
theorem dX12_best_27 : decode cX12_best 27 = .ok (.iload_n 3, 1) := by decide +kernel
theorem dX12_best_28 : decode cX12_best 28 = .ok (.i2l, 1) := by decide +kernel
theorem dX12_best_29 : decode cX12_best 29 = .ok (.ldc2_w 316, 3) := by decide +kernel
theorem dX12_best_32 : decode cX12_best 32 = .ok (.iload_n 2, 1) := by decide +kernel
theorem dX12_best_33 : decode cX12_best 33 = .ok (.i2l, 1) := by decide +kernel
theorem dX12_best_34 : decode cX12_best 34 = .ok (.lsub, 1) := by decide +kernel
theorem dX12_best_35 : decode cX12_best 35 = .ok (.invokestatic 139, 3) := by decide +kernel
theorem dX12_best_38 : decode cX12_best 38 = .ok (.ifCond .ne 5, 3) := by decide +kernel
theorem dX12_best_41 : decode cX12_best 41 = .ok (.iconst (-1), 1) := by decide +kernel
theorem dX12_best_42 : decode cX12_best 42 = .ok (.ireturn, 1) := by decide +kernel
theorem dX12_best_43 : decode cX12_best 43 = .ok (.aload_n 0, 1) := by decide +kernel
theorem dX12_best_44 : decode cX12_best 44 = .ok (.iload_n 1, 1) := by decide +kernel
theorem dX12_best_45 : decode cX12_best 45 = .ok (.invokevirtual 188, 3) := by decide +kernel
theorem dX12_best_48 : decode cX12_best 48 = .ok (.ifCond .ne 6, 3) := by decide +kernel
theorem dX12_best_51 : decode cX12_best 51 = .ok (.bipush (-2), 2) := by decide +kernel
theorem dX12_best_53 : decode cX12_best 53 = .ok (.ireturn, 1) := by decide +kernel
theorem dX12_best_54 : decode cX12_best 54 = .ok (.iconst (-1), 1) := by decide +kernel
theorem dX12_best_55 : decode cX12_best 55 = .ok (.istore 5, 2) := by decide +kernel
theorem dX12_best_57 : decode cX12_best 57 = .ok (.iconst 0, 1) := by decide +kernel
theorem dX12_best_58 : decode cX12_best 58 = .ok (.istore 6, 2) := by decide +kernel
theorem dX12_best_60 : decode cX12_best 60 = .ok (.aload_n 0, 1) := by decide +kernel
theorem dX12_best_61 : decode cX12_best 61 = .ok (.dup, 1) := by decide +kernel
theorem dX12_best_62 : decode cX12_best 62 = .ok (.getfield 205, 3) := by decide +kernel
theorem dX12_best_65 : decode cX12_best 65 = .ok (.iconst 1, 1) := by decide +kernel
theorem dX12_best_66 : decode cX12_best 66 = .ok (.iadd, 1) := by decide +kernel
theorem dX12_best_67 : decode cX12_best 67 = .ok (.putfield 205, 3) := by decide +kernel
theorem dX12_best_70 : decode cX12_best 70 = .ok (.aload_n 0, 1) := by decide +kernel
theorem dX12_best_71 : decode cX12_best 71 = .ok (.getfield 70, 3) := by decide +kernel
theorem dX12_best_74 : decode cX12_best 74 = .ok (.aload_n 0, 1) := by decide +kernel
theorem dX12_best_75 : decode cX12_best 75 = .ok (.getfield 205, 3) := by decide +kernel
theorem dX12_best_78 : decode cX12_best 78 = .ok (.iconst 1, 1) := by decide +kernel
theorem dX12_best_79 : decode cX12_best 79 = .ok (.isub, 1) := by decide +kernel
theorem dX12_best_80 : decode cX12_best 80 = .ok (.iload_n 1, 1) := by decide +kernel
theorem dX12_best_81 : decode cX12_best 81 = .ok (.iastore, 1) := by decide +kernel
theorem dX12_best_82 : decode cX12_best 82 = .ok (.iload_n 3, 1) := by decide +kernel
theorem dX12_best_83 : decode cX12_best 83 = .ok (.istore 7, 2) := by decide +kernel
theorem dX12_best_85 : decode cX12_best 85 = .ok (.iload 7, 2) := by decide +kernel
theorem dX12_best_87 : decode cX12_best 87 = .ok (.iload 4, 2) := by decide +kernel
theorem dX12_best_89 : decode cX12_best 89 = .ok (.if_icmp .gt 128, 3) := by decide +kernel
theorem dX12_best_92 : decode cX12_best 92 = .ok (.aload_n 0, 1) := by decide +kernel
theorem dX12_best_93 : decode cX12_best 93 = .ok (.getfield 73, 3) := by decide +kernel
theorem dX12_best_96 : decode cX12_best 96 = .ok (.aload_n 0, 1) := by decide +kernel
theorem dX12_best_97 : decode cX12_best 97 = .ok (.getfield 205, 3) := by decide +kernel
theorem dX12_best_100 : decode cX12_best 100 = .ok (.iconst 1, 1) := by decide +kernel
theorem dX12_best_101 : decode cX12_best 101 = .ok (.isub, 1) := by decide +kernel
theorem dX12_best_102 : decode cX12_best 102 = .ok (.iload 7, 2) := by decide +kernel
theorem dX12_best_104 : decode cX12_best 104 = .ok (.iastore, 1) := by decide +kernel
theorem dX12_best_105 : decode cX12_best 105 = .ok (.aload_n 0, 1) := by decide +kernel
theorem dX12_best_106 : decode cX12_best 106 = .ok (.getfield 76, 3) := by decide +kernel
theorem dX12_best_109 : decode cX12_best 109 = .ok (.aload_n 0, 1) := by decide +kernel
theorem dX12_best_110 : decode cX12_best 110 = .ok (.getfield 205, 3) := by decide +kernel
theorem dX12_best_113 : decode cX12_best 113 = .ok (.iconst 1, 1) := by decide +kernel
theorem dX12_best_114 : decode cX12_best 114 = .ok (.isub, 1) := by decide +kernel
theorem dX12_best_115 : decode cX12_best 115 = .ok (.iload 7, 2) := by decide +kernel
theorem dX12_best_117 : decode cX12_best 117 = .ok (.iload_n 2, 1) := by decide +kernel
theorem dX12_best_118 : decode cX12_best 118 = .ok (.iadd, 1) := by decide +kernel
theorem dX12_best_119 : decode cX12_best 119 = .ok (.iconst 1, 1) := by decide +kernel
theorem dX12_best_120 : decode cX12_best 120 = .ok (.isub, 1) := by decide +kernel
theorem dX12_best_121 : decode cX12_best 121 = .ok (.iastore, 1) := by decide +kernel
theorem dX12_best_122 : decode cX12_best 122 = .ok (.iconst 0, 1) := by decide +kernel
theorem dX12_best_123 : decode cX12_best 123 = .ok (.istore 8, 2) := by decide +kernel
theorem dX12_best_125 : decode cX12_best 125 = .ok (.iload 7, 2) := by decide +kernel
theorem dX12_best_127 : decode cX12_best 127 = .ok (.istore 9, 2) := by decide +kernel
theorem dX12_best_129 : decode cX12_best 129 = .ok (.iload 9, 2) := by decide +kernel
theorem dX12_best_131 : decode cX12_best 131 = .ok (.iload 7, 2) := by decide +kernel
theorem dX12_best_133 : decode cX12_best 133 = .ok (.iload_n 2, 1) := by decide +kernel
theorem dX12_best_134 : decode cX12_best 134 = .ok (.iadd, 1) := by decide +kernel
theorem dX12_best_135 : decode cX12_best 135 = .ok (.if_icmp .ge 56, 3) := by decide +kernel
theorem dX12_best_138 : decode cX12_best 138 = .ok (.aload_n 0, 1) := by decide +kernel
theorem dX12_best_139 : decode cX12_best 139 = .ok (.iload 9, 2) := by decide +kernel
theorem dX12_best_141 : decode cX12_best 141 = .ok (.aload_n 0, 1) := by decide +kernel
theorem dX12_best_142 : decode cX12_best 142 = .ok (.getfield 191, 3) := by decide +kernel
theorem dX12_best_145 : decode cX12_best 145 = .ok (.invokevirtual 309, 3) := by decide +kernel
theorem dX12_best_148 : decode cX12_best 148 = .ok (.iconst 0, 1) := by decide +kernel
theorem dX12_best_149 : decode cX12_best 149 = .ok (.istore 10, 2) := by decide +kernel
theorem dX12_best_151 : decode cX12_best 151 = .ok (.iload 10, 2) := by decide +kernel
theorem dX12_best_153 : decode cX12_best 153 = .ok (.bipush 8, 2) := by decide +kernel
theorem dX12_best_155 : decode cX12_best 155 = .ok (.if_icmp .ge 30, 3) := by decide +kernel
theorem dX12_best_158 : decode cX12_best 158 = .ok (.iload 8, 2) := by decide +kernel
theorem dX12_best_160 : decode cX12_best 160 = .ok (.aload_n 0, 1) := by decide +kernel
theorem dX12_best_161 : decode cX12_best 161 = .ok (.iload 10, 2) := by decide +kernel
theorem dX12_best_163 : decode cX12_best 163 = .ok (.iload 9, 2) := by decide +kernel
theorem dX12_best_165 : decode cX12_best 165 = .ok (.invokevirtual 313, 3) := by decide +kernel
theorem dX12_best_168 : decode cX12_best 168 = .ok (.ifCond .eq 7, 3) := by decide +kernel
theorem dX12_best_171 : decode cX12_best 171 = .ok (.iconst 1, 1) := by decide +kernel
theorem dX12_best_172 : decode cX12_best 172 = .ok (.goto 4, 3) := by decide +kernel
theorem dX12_best_175 : decode cX12_best 175 = .ok (.iconst 0, 1) := by decide +kernel
theorem dX12_best_176 : decode cX12_best 176 = .ok (.iadd, 1) := by decide +kernel
theorem dX12_best_177 : decode cX12_best 177 = .ok (.istore 8, 2) := by decide +kernel
theorem dX12_best_179 : decode cX12_best 179 = .ok (.iinc 10 1, 3) := by decide +kernel
theorem dX12_best_182 : decode cX12_best 182 = .ok (.goto (-31), 3) := by decide +kernel
theorem dX12_best_185 : decode cX12_best 185 = .ok (.iinc 9 1, 3) := by decide +kernel
theorem dX12_best_188 : decode cX12_best 188 = .ok (.goto (-59), 3) := by decide +kernel
theorem dX12_best_191 : decode cX12_best 191 = .ok (.iload 5, 2) := by decide +kernel
theorem dX12_best_193 : decode cX12_best 193 = .ok (.ifCond .lt 10, 3) := by decide +kernel
theorem dX12_best_196 : decode cX12_best 196 = .ok (.iload 8, 2) := by decide +kernel
theorem dX12_best_198 : decode cX12_best 198 = .ok (.iload 6, 2) := by decide +kernel
theorem dX12_best_200 : decode cX12_best 200 = .ok (.if_icmp .ge 11, 3) := by decide +kernel
theorem dX12_best_203 : decode cX12_best 203 = .ok (.iload 7, 2) := by decide +kernel
theorem dX12_best_205 : decode cX12_best 205 = .ok (.istore 5, 2) := by decide +kernel
theorem dX12_best_207 : decode cX12_best 207 = .ok (.iload 8, 2) := by decide +kernel
theorem dX12_best_209 : decode cX12_best 209 = .ok (.istore 6, 2) := by decide +kernel
theorem dX12_best_211 : decode cX12_best 211 = .ok (.iinc 7 1, 3) := by decide +kernel
theorem dX12_best_214 : decode cX12_best 214 = .ok (.goto (-129), 3) := by decide +kernel
theorem dX12_best_217 : decode cX12_best 217 = .ok (.aload_n 0, 1) := by decide +kernel
theorem dX12_best_218 : decode cX12_best 218 = .ok (.dup, 1) := by decide +kernel
theorem dX12_best_219 : decode cX12_best 219 = .ok (.getfield 205, 3) := by decide +kernel
theorem dX12_best_222 : decode cX12_best 222 = .ok (.iconst 1, 1) := by decide +kernel
theorem dX12_best_223 : decode cX12_best 223 = .ok (.isub, 1) := by decide +kernel
theorem dX12_best_224 : decode cX12_best 224 = .ok (.putfield 205, 3) := by decide +kernel
theorem dX12_best_227 : decode cX12_best 227 = .ok (.iload 5, 2) := by decide +kernel
theorem dX12_best_229 : decode cX12_best 229 = .ok (.ireturn, 1) := by decide +kernel
theorem dX12_rent_0 : decode cX12_rent 0 = .ok (.aload_n 0, 1) := by decide +kernel
theorem dX12_rent_1 : decode cX12_rent 1 = .ok (.iconst 0, 1) := by decide +kernel
theorem dX12_rent_2 : decode cX12_rent 2 = .ok (.putfield 131, 3) := by decide +kernel
theorem dX12_rent_5 : decode cX12_rent 5 = .ok (.iload_n 2, 1) := by decide +kernel
theorem dX12_rent_6 : decode cX12_rent 6 = .ok (.invokestatic 161, 3) := by decide +kernel
theorem dX12_rent_9 : decode cX12_rent 9 = .ok (.ifCond .ne 7, 3) := by decide +kernel
theorem dX12_rent_12 : decode cX12_rent 12 = .ok (.ldc2_w 247, 3) := by decide +kernel
theorem dX12_rent_15 : decode cX12_rent 15 = .ok (.lreturn, 1) := by decide +kernel
theorem dX12_rent_16 : decode cX12_rent 16 = .ok (.aload_n 0, 1) := by decide +kernel
theorem dX12_rent_17 : decode cX12_rent 17 = .ok (.iload_n 1, 1) := by decide +kernel
theorem dX12_rent_18 : decode cX12_rent 18 = .ok (.invokevirtual 174, 3) := by decide +kernel
theorem dX12_rent_21 : decode cX12_rent 21 = .ok (.ifCond .ne 7, 3) := by decide +kernel
theorem dX12_rent_24 : decode cX12_rent 24 = .ok (.ldc2_w 318, 3) := by decide +kernel
theorem dX12_rent_27 : decode cX12_rent 27 = .ok (.lreturn, 1) := by decide +kernel
theorem dX12_rent_28 : decode cX12_rent 28 = .ok (.aload_n 0, 1) := by decide +kernel
theorem dX12_rent_29 : decode cX12_rent 29 = .ok (.iload_n 1, 1) := by decide +kernel
theorem dX12_rent_30 : decode cX12_rent 30 = .ok (.iload_n 2, 1) := by decide +kernel
theorem dX12_rent_31 : decode cX12_rent 31 = .ok (.invokevirtual 180, 3) := by decide +kernel
theorem dX12_rent_34 : decode cX12_rent 34 = .ok (.istore_n 3, 1) := by decide +kernel
theorem dX12_rent_35 : decode cX12_rent 35 = .ok (.lconst 0, 1) := by decide +kernel
theorem dX12_rent_36 : decode cX12_rent 36 = .ok (.lstore 4, 2) := by decide +kernel
theorem dX12_rent_38 : decode cX12_rent 38 = .ok (.iconst 0, 1) := by decide +kernel
theorem dX12_rent_39 : decode cX12_rent 39 = .ok (.istore 6, 2) := by decide +kernel
theorem dX12_rent_41 : decode cX12_rent 41 = .ok (.iload 6, 2) := by decide +kernel
theorem dX12_rent_43 : decode cX12_rent 43 = .ok (.aload_n 0, 1) := by decide +kernel
theorem dX12_rent_44 : decode cX12_rent 44 = .ok (.getfield 191, 3) := by decide +kernel
theorem dX12_rent_47 : decode cX12_rent 47 = .ok (.if_icmp .ge 117, 3) := by decide +kernel
theorem dX12_rent_50 : decode cX12_rent 50 = .ok (.aload_n 0, 1) := by decide +kernel
theorem dX12_rent_51 : decode cX12_rent 51 = .ok (.iload 6, 2) := by decide +kernel
theorem dX12_rent_53 : decode cX12_rent 53 = .ok (.iconst 2, 1) := by decide +kernel
theorem dX12_rent_54 : decode cX12_rent 54 = .ok (.invokevirtual 194, 3) := by decide +kernel
theorem dX12_rent_57 : decode cX12_rent 57 = .ok (.istore 7, 2) := by decide +kernel
theorem dX12_rent_59 : decode cX12_rent 59 = .ok (.iload 7, 2) := by decide +kernel
theorem dX12_rent_61 : decode cX12_rent 61 = .ok (.ifCond .eq 97, 3) := by decide +kernel
theorem dX12_rent_64 : decode cX12_rent 64 = .ok (.iload_n 3, 1) := by decide +kernel
theorem dX12_rent_65 : decode cX12_rent 65 = .ok (.iconst (-1), 1) := by decide +kernel
theorem dX12_rent_66 : decode cX12_rent 66 = .ok (.if_icmp .eq 12, 3) := by decide +kernel
theorem dX12_rent_69 : decode cX12_rent 69 = .ok (.iload_n 3, 1) := by decide +kernel
theorem dX12_rent_70 : decode cX12_rent 70 = .ok (.iload 6, 2) := by decide +kernel
theorem dX12_rent_72 : decode cX12_rent 72 = .ok (.if_icmp .ge 6, 3) := by decide +kernel
theorem dX12_rent_75 : decode cX12_rent 75 = .ok (.goto 83, 3) := by decide +kernel
theorem dX12_rent_78 : decode cX12_rent 78 = .ok (.aload_n 0, 1) := by decide +kernel
theorem dX12_rent_79 : decode cX12_rent 79 = .ok (.iload 6, 2) := by decide +kernel
theorem dX12_rent_81 : decode cX12_rent 81 = .ok (.iload_n 2, 1) := by decide +kernel
theorem dX12_rent_82 : decode cX12_rent 82 = .ok (.invokevirtual 309, 3) := by decide +kernel
theorem dX12_rent_85 : decode cX12_rent 85 = .ok (.iconst 0, 1) := by decide +kernel
theorem dX12_rent_86 : decode cX12_rent 86 = .ok (.istore 8, 2) := by decide +kernel
theorem dX12_rent_88 : decode cX12_rent 88 = .ok (.iload 8, 2) := by decide +kernel
theorem dX12_rent_90 : decode cX12_rent 90 = .ok (.aload_n 0, 1) := by decide +kernel
theorem dX12_rent_91 : decode cX12_rent 91 = .ok (.getfield 149, 3) := by decide +kernel
theorem dX12_rent_94 : decode cX12_rent 94 = .ok (.if_icmp .ge 64, 3) := by decide +kernel
theorem dX12_rent_97 : decode cX12_rent 97 = .ok (.lload 4, 2) := by decide +kernel
theorem dX12_rent_99 : decode cX12_rent 99 = .ok (.aload_n 0, 1) := by decide +kernel
theorem dX12_rent_100 : decode cX12_rent 100 = .ok (.getfield 46, 3) := by decide +kernel
theorem dX12_rent_103 : decode cX12_rent 103 = .ok (.iload 8, 2) := by decide +kernel
theorem dX12_rent_105 : decode cX12_rent 105 = .ok (.iaload, 1) := by decide +kernel
theorem dX12_rent_106 : decode cX12_rent 106 = .ok (.iconst 2, 1) := by decide +kernel
theorem dX12_rent_107 : decode cX12_rent 107 = .ok (.if_icmp .ne 41, 3) := by decide +kernel
theorem dX12_rent_110 : decode cX12_rent 110 = .ok (.aload_n 0, 1) := by decide +kernel
theorem dX12_rent_111 : decode cX12_rent 111 = .ok (.getfield 49, 3) := by decide +kernel
theorem dX12_rent_114 : decode cX12_rent 114 = .ok (.iload 8, 2) := by decide +kernel
theorem dX12_rent_116 : decode cX12_rent 116 = .ok (.iaload, 1) := by decide +kernel
theorem dX12_rent_117 : decode cX12_rent 117 = .ok (.iload_n 1, 1) := by decide +kernel
theorem dX12_rent_118 : decode cX12_rent 118 = .ok (.if_icmp .ne 30, 3) := by decide +kernel
theorem dX12_rent_121 : decode cX12_rent 121 = .ok (.aload_n 0, 1) := by decide +kernel
theorem dX12_rent_122 : decode cX12_rent 122 = .ok (.iload 8, 2) := by decide +kernel
theorem dX12_rent_124 : decode cX12_rent 124 = .ok (.iload 6, 2) := by decide +kernel
theorem dX12_rent_126 : decode cX12_rent 126 = .ok (.iload_n 2, 1) := by decide +kernel
theorem dX12_rent_127 : decode cX12_rent 127 = .ok (.invokevirtual 302, 3) := by decide +kernel
theorem dX12_rent_130 : decode cX12_rent 130 = .ok (.ifCond .eq 18, 3) := by decide +kernel
theorem dX12_rent_133 : decode cX12_rent 133 = .ok (.iload 7, 2) := by decide +kernel
theorem dX12_rent_135 : decode cX12_rent 135 = .ok (.i2l, 1) := by decide +kernel
theorem dX12_rent_136 : decode cX12_rent 136 = .ok (.aload_n 0, 1) := by decide +kernel
theorem dX12_rent_137 : decode cX12_rent 137 = .ok (.getfield 119, 3) := by decide +kernel
theorem dX12_rent_140 : decode cX12_rent 140 = .ok (.iload 8, 2) := by decide +kernel
theorem dX12_rent_142 : decode cX12_rent 142 = .ok (.iaload, 1) := by decide +kernel
theorem dX12_rent_143 : decode cX12_rent 143 = .ok (.i2l, 1) := by decide +kernel
theorem dX12_rent_144 : decode cX12_rent 144 = .ok (.lmul, 1) := by decide +kernel
theorem dX12_rent_145 : decode cX12_rent 145 = .ok (.goto 4, 3) := by decide +kernel
theorem dX12_rent_148 : decode cX12_rent 148 = .ok (.lconst 0, 1) := by decide +kernel
theorem dX12_rent_149 : decode cX12_rent 149 = .ok (.ladd, 1) := by decide +kernel
theorem dX12_rent_150 : decode cX12_rent 150 = .ok (.lstore 4, 2) := by decide +kernel
theorem dX12_rent_152 : decode cX12_rent 152 = .ok (.iinc 8 1, 3) := by decide +kernel
theorem dX12_rent_155 : decode cX12_rent 155 = .ok (.goto (-67), 3) := by decide +kernel
theorem dX12_rent_158 : decode cX12_rent 158 = .ok (.iinc 6 1, 3) := by decide +kernel
theorem dX12_rent_161 : decode cX12_rent 161 = .ok (.goto (-120), 3) := by decide +kernel
theorem dX12_rent_164 : decode cX12_rent 164 = .ok (.lload 4, 2) := by decide +kernel
theorem dX12_rent_166 : decode cX12_rent 166 = .ok (.lreturn, 1) := by decide +kernel
theorem dX12_fines_0 : decode cX12_fines 0 = .ok (.aload_n 0, 1) := by decide +kernel
theorem dX12_fines_1 : decode cX12_fines 1 = .ok (.iconst 0, 1) := by decide +kernel
theorem dX12_fines_2 : decode cX12_fines 2 = .ok (.putfield 131, 3) := by decide +kernel
theorem dX12_fines_5 : decode cX12_fines 5 = .ok (.aload_n 0, 1) := by decide +kernel
theorem dX12_fines_6 : decode cX12_fines 6 = .ok (.iload_n 1, 1) := by decide +kernel
theorem dX12_fines_7 : decode cX12_fines 7 = .ok (.invokevirtual 188, 3) := by decide +kernel
theorem dX12_fines_10 : decode cX12_fines 10 = .ok (.ifCond .ne 7, 3) := by decide +kernel
theorem dX12_fines_13 : decode cX12_fines 13 = .ok (.ldc2_w 318, 3) := by decide +kernel
theorem dX12_fines_16 : decode cX12_fines 16 = .ok (.lreturn, 1) := by decide +kernel
theorem dX12_fines_17 : decode cX12_fines 17 = .ok (.lconst 0, 1) := by decide +kernel
theorem dX12_fines_18 : decode cX12_fines 18 = .ok (.lstore_n 2, 1) := by decide +kernel
theorem dX12_fines_19 : decode cX12_fines 19 = .ok (.iconst 0, 1) := by decide +kernel
theorem dX12_fines_20 : decode cX12_fines 20 = .ok (.istore 4, 2) := by decide +kernel
theorem dX12_fines_22 : decode cX12_fines 22 = .ok (.iload 4, 2) := by decide +kernel
theorem dX12_fines_24 : decode cX12_fines 24 = .ok (.aload_n 0, 1) := by decide +kernel
theorem dX12_fines_25 : decode cX12_fines 25 = .ok (.getfield 191, 3) := by decide +kernel
theorem dX12_fines_28 : decode cX12_fines 28 = .ok (.if_icmp .ge 47, 3) := by decide +kernel
theorem dX12_fines_31 : decode cX12_fines 31 = .ok (.aload_n 0, 1) := by decide +kernel
theorem dX12_fines_32 : decode cX12_fines 32 = .ok (.iload 4, 2) := by decide +kernel
theorem dX12_fines_34 : decode cX12_fines 34 = .ok (.iconst 3, 1) := by decide +kernel
theorem dX12_fines_35 : decode cX12_fines 35 = .ok (.invokevirtual 194, 3) := by decide +kernel
theorem dX12_fines_38 : decode cX12_fines 38 = .ok (.istore 5, 2) := by decide +kernel
theorem dX12_fines_40 : decode cX12_fines 40 = .ok (.iload 5, 2) := by decide +kernel
theorem dX12_fines_42 : decode cX12_fines 42 = .ok (.ifCond .le 27, 3) := by decide +kernel
theorem dX12_fines_45 : decode cX12_fines 45 = .ok (.aload_n 0, 1) := by decide +kernel
theorem dX12_fines_46 : decode cX12_fines 46 = .ok (.iload 4, 2) := by decide +kernel
theorem dX12_fines_48 : decode cX12_fines 48 = .ok (.aload_n 0, 1) := by decide +kernel
theorem dX12_fines_49 : decode cX12_fines 49 = .ok (.getfield 191, 3) := by decide +kernel
theorem dX12_fines_52 : decode cX12_fines 52 = .ok (.invokevirtual 309, 3) := by decide +kernel
theorem dX12_fines_55 : decode cX12_fines 55 = .ok (.lload_n 2, 1) := by decide +kernel
theorem dX12_fines_56 : decode cX12_fines 56 = .ok (.iload 5, 2) := by decide +kernel
theorem dX12_fines_58 : decode cX12_fines 58 = .ok (.i2l, 1) := by decide +kernel
theorem dX12_fines_59 : decode cX12_fines 59 = .ok (.aload_n 0, 1) := by decide +kernel
theorem dX12_fines_60 : decode cX12_fines 60 = .ok (.getfield 107, 3) := by decide +kernel
theorem dX12_fines_63 : decode cX12_fines 63 = .ok (.iload_n 1, 1) := by decide +kernel
theorem dX12_fines_64 : decode cX12_fines 64 = .ok (.iaload, 1) := by decide +kernel
theorem dX12_fines_65 : decode cX12_fines 65 = .ok (.i2l, 1) := by decide +kernel
theorem dX12_fines_66 : decode cX12_fines 66 = .ok (.lmul, 1) := by decide +kernel
theorem dX12_fines_67 : decode cX12_fines 67 = .ok (.ladd, 1) := by decide +kernel
theorem dX12_fines_68 : decode cX12_fines 68 = .ok (.lstore_n 2, 1) := by decide +kernel
theorem dX12_fines_69 : decode cX12_fines 69 = .ok (.iinc 4 1, 3) := by decide +kernel
theorem dX12_fines_72 : decode cX12_fines 72 = .ok (.goto (-50), 3) := by decide +kernel
theorem dX12_fines_75 : decode cX12_fines 75 = .ok (.lload_n 2, 1) := by decide +kernel
theorem dX12_fines_76 : decode cX12_fines 76 = .ok (.lreturn, 1) := by decide +kernel
theorem dX12_count_0 : decode cX12_count 0 = .ok (.aload_n 0, 1) := by decide +kernel
theorem dX12_count_1 : decode cX12_count 1 = .ok (.iconst 0, 1) := by decide +kernel
theorem dX12_count_2 : decode cX12_count 2 = .ok (.putfield 131, 3) := by decide +kernel
theorem dX12_count_5 : decode cX12_count 5 = .ok (.iload_n 1, 1) := by decide +kernel
theorem dX12_count_6 : decode cX12_count 6 = .ok (.tableswitch 113 0 10 #[58, 63, 68, 73, 78, 83, 88, 93, 98, 103, 108], 58) := by decide +kernel
theorem dX12_count_64 : decode cX12_count 64 = .ok (.aload_n 0, 1) := by decide +kernel
theorem dX12_count_65 : decode cX12_count 65 = .ok (.getfield 191, 3) := by decide +kernel
theorem dX12_count_68 : decode cX12_count 68 = .ok (.ireturn, 1) := by decide +kernel
theorem dX12_count_69 : decode cX12_count 69 = .ok (.aload_n 0, 1) := by decide +kernel
theorem dX12_count_70 : decode cX12_count 70 = .ok (.getfield 158, 3) := by decide +kernel
theorem dX12_count_73 : decode cX12_count 73 = .ok (.ireturn, 1) := by decide +kernel
theorem dX12_count_74 : decode cX12_count 74 = .ok (.aload_n 0, 1) := by decide +kernel
theorem dX12_count_75 : decode cX12_count 75 = .ok (.getfield 143, 3) := by decide +kernel
theorem dX12_count_78 : decode cX12_count 78 = .ok (.ireturn, 1) := by decide +kernel
theorem dX12_count_79 : decode cX12_count 79 = .ok (.aload_n 0, 1) := by decide +kernel
theorem dX12_count_80 : decode cX12_count 80 = .ok (.getfield 149, 3) := by decide +kernel
theorem dX12_count_83 : decode cX12_count 83 = .ok (.ireturn, 1) := by decide +kernel
theorem dX12_count_84 : decode cX12_count 84 = .ok (.aload_n 0, 1) := by decide +kernel
theorem dX12_count_85 : decode cX12_count 85 = .ok (.getfield 146, 3) := by decide +kernel
theorem dX12_count_88 : decode cX12_count 88 = .ok (.ireturn, 1) := by decide +kernel
theorem dX12_count_89 : decode cX12_count 89 = .ok (.aload_n 0, 1) := by decide +kernel
theorem dX12_count_90 : decode cX12_count 90 = .ok (.getfield 177, 3) := by decide +kernel
theorem dX12_count_93 : decode cX12_count 93 = .ok (.ireturn, 1) := by decide +kernel
theorem dX12_count_94 : decode cX12_count 94 = .ok (.aload_n 0, 1) := by decide +kernel
theorem dX12_count_95 : decode cX12_count 95 = .ok (.getfield 202, 3) := by decide +kernel
theorem dX12_count_98 : decode cX12_count 98 = .ok (.ireturn, 1) := by decide +kernel
theorem dX12_count_99 : decode cX12_count 99 = .ok (.aload_n 0, 1) := by decide +kernel
theorem dX12_count_100 : decode cX12_count 100 = .ok (.getfield 205, 3) := by decide +kernel
theorem dX12_count_103 : decode cX12_count 103 = .ok (.ireturn, 1) := by decide +kernel
theorem dX12_count_104 : decode cX12_count 104 = .ok (.aload_n 0, 1) := by decide +kernel
theorem dX12_count_105 : decode cX12_count 105 = .ok (.getfield 210, 3) := by decide +kernel
theorem dX12_count_108 : decode cX12_count 108 = .ok (.ireturn, 1) := by decide +kernel
theorem dX12_count_109 : decode cX12_count 109 = .ok (.aload_n 0, 1) := by decide +kernel
theorem dX12_count_110 : decode cX12_count 110 = .ok (.getfield 217, 3) := by decide +kernel
theorem dX12_count_113 : decode cX12_count 113 = .ok (.ireturn, 1) := by decide +kernel
theorem dX12_count_114 : decode cX12_count 114 = .ok (.aload_n 0, 1) := by decide +kernel
theorem dX12_count_115 : decode cX12_count 115 = .ok (.getfield 165, 3) := by decide +kernel
theorem dX12_count_118 : decode cX12_count 118 = .ok (.ireturn, 1) := by decide +kernel
theorem dX12_count_119 : decode cX12_count 119 = .ok (.iconst (-1), 1) := by decide +kernel
theorem dX12_count_120 : decode cX12_count 120 = .ok (.ireturn, 1) := by decide +kernel
theorem dX12_status_0 : decode cX12_status 0 = .ok (.aload_n 0, 1) := by decide +kernel
theorem dX12_status_1 : decode cX12_status 1 = .ok (.iconst 0, 1) := by decide +kernel
theorem dX12_status_2 : decode cX12_status 2 = .ok (.putfield 131, 3) := by decide +kernel
theorem dX12_status_5 : decode cX12_status 5 = .ok (.aload_n 0, 1) := by decide +kernel
theorem dX12_status_6 : decode cX12_status 6 = .ok (.getfield 134, 3) := by decide +kernel
theorem dX12_status_9 : decode cX12_status 9 = .ok (.ireturn, 1) := by decide +kernel
theorem dJ9_max_7cf53_0 : decode cJ9_max_7cf53 0 = .ok (.iload_n 0, 1) := by decide +kernel
theorem dJ9_max_7cf53_1 : decode cJ9_max_7cf53 1 = .ok (.iload_n 1, 1) := by decide +kernel
theorem dJ9_max_7cf53_2 : decode cJ9_max_7cf53 2 = .ok (.if_icmp .lt 7, 3) := by decide +kernel
theorem dJ9_max_7cf53_5 : decode cJ9_max_7cf53 5 = .ok (.iload_n 0, 1) := by decide +kernel
theorem dJ9_max_7cf53_6 : decode cJ9_max_7cf53 6 = .ok (.goto 4, 3) := by decide +kernel
theorem dJ9_max_7cf53_9 : decode cJ9_max_7cf53 9 = .ok (.iload_n 1, 1) := by decide +kernel
theorem dJ9_max_7cf53_10 : decode cJ9_max_7cf53 10 = .ok (.ireturn, 1) := by decide +kernel
theorem dJ9_min_7cf53_0 : decode cJ9_min_7cf53 0 = .ok (.iload_n 0, 1) := by decide +kernel
theorem dJ9_min_7cf53_1 : decode cJ9_min_7cf53 1 = .ok (.iload_n 1, 1) := by decide +kernel
theorem dJ9_min_7cf53_2 : decode cJ9_min_7cf53 2 = .ok (.if_icmp .gt 7, 3) := by decide +kernel
theorem dJ9_min_7cf53_5 : decode cJ9_min_7cf53 5 = .ok (.iload_n 0, 1) := by decide +kernel
theorem dJ9_min_7cf53_6 : decode cJ9_min_7cf53 6 = .ok (.goto 4, 3) := by decide +kernel
theorem dJ9_min_7cf53_9 : decode cJ9_min_7cf53 9 = .ok (.iload_n 1, 1) := by decide +kernel
theorem dJ9_min_7cf53_10 : decode cJ9_min_7cf53 10 = .ok (.ireturn, 1) := by decide +kernel
theorem dJ0_length_8abf5_0 : decode cJ0_length_8abf5 0 = .ok (.aload_n 0, 1) := by decide +kernel
theorem dJ0_length_8abf5_1 : decode cJ0_length_8abf5 1 = .ok (.getfield 9, 3) := by decide +kernel
theorem dJ0_length_8abf5_4 : decode cJ0_length_8abf5 4 = .ok (.arraylength, 1) := by decide +kernel
theorem dJ0_length_8abf5_5 : decode cJ0_length_8abf5 5 = .ok (.aload_n 0, 1) := by decide +kernel
theorem dJ0_length_8abf5_6 : decode cJ0_length_8abf5 6 = .ok (.invokevirtual 335, 3) := by decide +kernel
theorem dJ0_length_8abf5_9 : decode cJ0_length_8abf5 9 = .ok (.ishr, 1) := by decide +kernel
theorem dJ0_length_8abf5_10 : decode cJ0_length_8abf5 10 = .ok (.ireturn, 1) := by decide +kernel
theorem dJ0_charAt_5068e_0 : decode cJ0_charAt_5068e 0 = .ok (.aload_n 0, 1) := by decide +kernel
theorem dJ0_charAt_5068e_1 : decode cJ0_charAt_5068e 1 = .ok (.invokevirtual 492, 3) := by decide +kernel
theorem dJ0_charAt_5068e_4 : decode cJ0_charAt_5068e 4 = .ok (.ifCond .eq 12, 3) := by decide +kernel
theorem dJ0_charAt_5068e_7 : decode cJ0_charAt_5068e 7 = .ok (.aload_n 0, 1) := by decide +kernel
theorem dJ0_charAt_5068e_8 : decode cJ0_charAt_5068e 8 = .ok (.getfield 9, 3) := by decide +kernel
theorem dJ0_charAt_5068e_11 : decode cJ0_charAt_5068e 11 = .ok (.iload_n 1, 1) := by decide +kernel
theorem dJ0_charAt_5068e_12 : decode cJ0_charAt_5068e 12 = .ok (.invokestatic 495, 3) := by decide +kernel
theorem dJ0_charAt_5068e_15 : decode cJ0_charAt_5068e 15 = .ok (.ireturn, 1) := by decide +kernel
theorem dJ0_charAt_5068e_16 : decode cJ0_charAt_5068e 16 = .ok (.aload_n 0, 1) := by decide +kernel
theorem dJ0_charAt_5068e_17 : decode cJ0_charAt_5068e 17 = .ok (.getfield 9, 3) := by decide +kernel
theorem dJ0_charAt_5068e_20 : decode cJ0_charAt_5068e 20 = .ok (.iload_n 1, 1) := by decide +kernel
theorem dJ0_charAt_5068e_21 : decode cJ0_charAt_5068e 21 = .ok (.invokestatic 498, 3) := by decide +kernel
theorem dJ0_charAt_5068e_24 : decode cJ0_charAt_5068e 24 = .ok (.ireturn, 1) := by decide +kernel
theorem dJ0_coder_7d493_0 : decode cJ0_coder_7d493 0 = .ok (.getstatic 38, 3) := by decide +kernel
theorem dJ0_coder_7d493_3 : decode cJ0_coder_7d493 3 = .ok (.ifCond .eq 10, 3) := by decide +kernel
theorem dJ0_coder_7d493_6 : decode cJ0_coder_7d493 6 = .ok (.aload_n 0, 1) := by decide +kernel
theorem dJ0_coder_7d493_7 : decode cJ0_coder_7d493 7 = .ok (.getfield 15, 3) := by decide +kernel
theorem dJ0_coder_7d493_10 : decode cJ0_coder_7d493 10 = .ok (.goto 4, 3) := by decide +kernel
theorem dJ0_coder_7d493_13 : decode cJ0_coder_7d493 13 = .ok (.iconst 1, 1) := by decide +kernel
theorem dJ0_coder_7d493_14 : decode cJ0_coder_7d493 14 = .ok (.ireturn, 1) := by decide +kernel
theorem dJ0_isLatin1_aae02_0 : decode cJ0_isLatin1_aae02 0 = .ok (.getstatic 38, 3) := by decide +kernel
theorem dJ0_isLatin1_aae02_3 : decode cJ0_isLatin1_aae02 3 = .ok (.ifCond .eq 14, 3) := by decide +kernel
theorem dJ0_isLatin1_aae02_6 : decode cJ0_isLatin1_aae02 6 = .ok (.aload_n 0, 1) := by decide +kernel
theorem dJ0_isLatin1_aae02_7 : decode cJ0_isLatin1_aae02 7 = .ok (.getfield 15, 3) := by decide +kernel
theorem dJ0_isLatin1_aae02_10 : decode cJ0_isLatin1_aae02 10 = .ok (.ifCond .ne 7, 3) := by decide +kernel
theorem dJ0_isLatin1_aae02_13 : decode cJ0_isLatin1_aae02 13 = .ok (.iconst 1, 1) := by decide +kernel
theorem dJ0_isLatin1_aae02_14 : decode cJ0_isLatin1_aae02 14 = .ok (.goto 4, 3) := by decide +kernel
theorem dJ0_isLatin1_aae02_17 : decode cJ0_isLatin1_aae02 17 = .ok (.iconst 0, 1) := by decide +kernel
theorem dJ0_isLatin1_aae02_18 : decode cJ0_isLatin1_aae02 18 = .ok (.ireturn, 1) := by decide +kernel
theorem dJ0_checkIndex_df160_0 : decode cJ0_checkIndex_df160 0 = .ok (.iload_n 0, 1) := by decide +kernel
theorem dJ0_checkIndex_df160_1 : decode cJ0_checkIndex_df160 1 = .ok (.iload_n 1, 1) := by decide +kernel
theorem dJ0_checkIndex_df160_2 : decode cJ0_checkIndex_df160 2 = .ok (.getstatic 1053, 3) := by decide +kernel
theorem dJ0_checkIndex_df160_5 : decode cJ0_checkIndex_df160 5 = .ok (.invokestatic 1059, 3) := by decide +kernel
theorem dJ0_checkIndex_df160_8 : decode cJ0_checkIndex_df160 8 = .ok (.pop, 1) := by decide +kernel
theorem dJ0_checkIndex_df160_9 : decode cJ0_checkIndex_df160 9 = .ok (.return_, 1) := by decide +kernel
theorem dJ1_charAt_3b067_0 : decode cJ1_charAt_3b067 0 = .ok (.iload_n 1, 1) := by decide +kernel
theorem dJ1_charAt_3b067_1 : decode cJ1_charAt_3b067 1 = .ok (.aload_n 0, 1) := by decide +kernel
theorem dJ1_charAt_3b067_2 : decode cJ1_charAt_3b067 2 = .ok (.arraylength, 1) := by decide +kernel
theorem dJ1_charAt_3b067_3 : decode cJ1_charAt_3b067 3 = .ok (.invokestatic 9, 3) := by decide +kernel
theorem dJ1_charAt_3b067_6 : decode cJ1_charAt_3b067 6 = .ok (.aload_n 0, 1) := by decide +kernel
theorem dJ1_charAt_3b067_7 : decode cJ1_charAt_3b067 7 = .ok (.iload_n 1, 1) := by decide +kernel
theorem dJ1_charAt_3b067_8 : decode cJ1_charAt_3b067 8 = .ok (.baload, 1) := by decide +kernel
theorem dJ1_charAt_3b067_9 : decode cJ1_charAt_3b067 9 = .ok (.sipush 255, 3) := by decide +kernel
theorem dJ1_charAt_3b067_12 : decode cJ1_charAt_3b067 12 = .ok (.iand, 1) := by decide +kernel
theorem dJ1_charAt_3b067_13 : decode cJ1_charAt_3b067 13 = .ok (.i2c, 1) := by decide +kernel
theorem dJ1_charAt_3b067_14 : decode cJ1_charAt_3b067 14 = .ok (.ireturn, 1) := by decide +kernel
theorem dJ2_getChar_3b067_0 : decode cJ2_getChar_3b067 0 = .ok (.getstatic 44, 3) := by decide +kernel
theorem dJ2_getChar_3b067_3 : decode cJ2_getChar_3b067 3 = .ok (.ifCond .ne 25, 3) := by decide +kernel
theorem dJ2_getChar_3b067_6 : decode cJ2_getChar_3b067 6 = .ok (.iload_n 1, 1) := by decide +kernel
theorem dJ2_getChar_3b067_7 : decode cJ2_getChar_3b067 7 = .ok (.ifCond .lt 11, 3) := by decide +kernel
theorem dJ2_getChar_3b067_10 : decode cJ2_getChar_3b067 10 = .ok (.iload_n 1, 1) := by decide +kernel
theorem dJ2_getChar_3b067_11 : decode cJ2_getChar_3b067 11 = .ok (.aload_n 0, 1) := by decide +kernel
theorem dJ2_getChar_3b067_12 : decode cJ2_getChar_3b067 12 = .ok (.invokestatic 48, 3) := by decide +kernel
theorem dJ2_getChar_3b067_15 : decode cJ2_getChar_3b067 15 = .ok (.if_icmp .lt 13, 3) := by decide +kernel
theorem dJ2_getChar_3b067_18 : decode cJ2_getChar_3b067 18 = .ok (.new 52, 3) := by decide +kernel
theorem dJ2_getChar_3b067_21 : decode cJ2_getChar_3b067 21 = .ok (.dup, 1) := by decide +kernel
theorem dJ2_getChar_3b067_22 : decode cJ2_getChar_3b067 22 = .ok (.ldc 54, 2) := by decide +kernel
theorem dJ2_getChar_3b067_24 : decode cJ2_getChar_3b067 24 = .ok (.invokespecial 56, 3) := by decide +kernel
theorem dJ2_getChar_3b067_27 : decode cJ2_getChar_3b067 27 = .ok (.athrow, 1) := by decide +kernel
theorem dJ2_getChar_3b067_28 : decode cJ2_getChar_3b067 28 = .ok (.iload_n 1, 1) := by decide +kernel
theorem dJ2_getChar_3b067_29 : decode cJ2_getChar_3b067 29 = .ok (.iconst 1, 1) := by decide +kernel
theorem dJ2_getChar_3b067_30 : decode cJ2_getChar_3b067 30 = .ok (.ishl, 1) := by decide +kernel
theorem dJ2_getChar_3b067_31 : decode cJ2_getChar_3b067 31 = .ok (.istore_n 1, 1) := by decide +kernel
theorem dJ2_getChar_3b067_32 : decode cJ2_getChar_3b067 32 = .ok (.aload_n 0, 1) := by decide +kernel
theorem dJ2_getChar_3b067_33 : decode cJ2_getChar_3b067 33 = .ok (.iload_n 1, 1) := by decide +kernel
theorem dJ2_getChar_3b067_34 : decode cJ2_getChar_3b067 34 = .ok (.iinc 1 1, 3) := by decide +kernel
theorem dJ2_getChar_3b067_37 : decode cJ2_getChar_3b067 37 = .ok (.baload, 1) := by decide +kernel
theorem dJ2_getChar_3b067_38 : decode cJ2_getChar_3b067 38 = .ok (.sipush 255, 3) := by decide +kernel
theorem dJ2_getChar_3b067_41 : decode cJ2_getChar_3b067 41 = .ok (.iand, 1) := by decide +kernel
theorem dJ2_getChar_3b067_42 : decode cJ2_getChar_3b067 42 = .ok (.getstatic 59, 3) := by decide +kernel
theorem dJ2_getChar_3b067_45 : decode cJ2_getChar_3b067 45 = .ok (.ishl, 1) := by decide +kernel
theorem dJ2_getChar_3b067_46 : decode cJ2_getChar_3b067 46 = .ok (.aload_n 0, 1) := by decide +kernel
theorem dJ2_getChar_3b067_47 : decode cJ2_getChar_3b067 47 = .ok (.iload_n 1, 1) := by decide +kernel
theorem dJ2_getChar_3b067_48 : decode cJ2_getChar_3b067 48 = .ok (.baload, 1) := by decide +kernel
theorem dJ2_getChar_3b067_49 : decode cJ2_getChar_3b067 49 = .ok (.sipush 255, 3) := by decide +kernel
theorem dJ2_getChar_3b067_52 : decode cJ2_getChar_3b067 52 = .ok (.iand, 1) := by decide +kernel
theorem dJ2_getChar_3b067_53 : decode cJ2_getChar_3b067 53 = .ok (.getstatic 63, 3) := by decide +kernel
theorem dJ2_getChar_3b067_56 : decode cJ2_getChar_3b067 56 = .ok (.ishl, 1) := by decide +kernel
theorem dJ2_getChar_3b067_57 : decode cJ2_getChar_3b067 57 = .ok (.ior, 1) := by decide +kernel
theorem dJ2_getChar_3b067_58 : decode cJ2_getChar_3b067 58 = .ok (.i2c, 1) := by decide +kernel
theorem dJ2_getChar_3b067_59 : decode cJ2_getChar_3b067 59 = .ok (.ireturn, 1) := by decide +kernel
theorem dJ2_length_9d52b_0 : decode cJ2_length_9d52b 0 = .ok (.aload_n 0, 1) := by decide +kernel
theorem dJ2_length_9d52b_1 : decode cJ2_length_9d52b 1 = .ok (.arraylength, 1) := by decide +kernel
theorem dJ2_length_9d52b_2 : decode cJ2_length_9d52b 2 = .ok (.iconst 1, 1) := by decide +kernel
theorem dJ2_length_9d52b_3 : decode cJ2_length_9d52b 3 = .ok (.ishr, 1) := by decide +kernel
theorem dJ2_length_9d52b_4 : decode cJ2_length_9d52b 4 = .ok (.ireturn, 1) := by decide +kernel
theorem dJ2_charAt_3b067_0 : decode cJ2_charAt_3b067 0 = .ok (.iload_n 1, 1) := by decide +kernel
theorem dJ2_charAt_3b067_1 : decode cJ2_charAt_3b067 1 = .ok (.aload_n 0, 1) := by decide +kernel
theorem dJ2_charAt_3b067_2 : decode cJ2_charAt_3b067 2 = .ok (.invokestatic 67, 3) := by decide +kernel
theorem dJ2_charAt_3b067_5 : decode cJ2_charAt_3b067 5 = .ok (.aload_n 0, 1) := by decide +kernel
theorem dJ2_charAt_3b067_6 : decode cJ2_charAt_3b067 6 = .ok (.iload_n 1, 1) := by decide +kernel
theorem dJ2_charAt_3b067_7 : decode cJ2_charAt_3b067 7 = .ok (.invokestatic 71, 3) := by decide +kernel
theorem dJ2_charAt_3b067_10 : decode cJ2_charAt_3b067 10 = .ok (.ireturn, 1) := by decide +kernel
theorem dJ2_checkIndex_2214a_0 : decode cJ2_checkIndex_2214a 0 = .ok (.iload_n 0, 1) := by decide +kernel
theorem dJ2_checkIndex_2214a_1 : decode cJ2_checkIndex_2214a 1 = .ok (.aload_n 1, 1) := by decide +kernel
theorem dJ2_checkIndex_2214a_2 : decode cJ2_checkIndex_2214a 2 = .ok (.invokestatic 48, 3) := by decide +kernel
theorem dJ2_checkIndex_2214a_5 : decode cJ2_checkIndex_2214a 5 = .ok (.invokestatic 414, 3) := by decide +kernel
theorem dJ2_checkIndex_2214a_8 : decode cJ2_checkIndex_2214a 8 = .ok (.return_, 1) := by decide +kernel
theorem dJ3_checkIndex_8e157_0 : decode cJ3_checkIndex_8e157 0 = .ok (.iload_n 0, 1) := by decide +kernel
theorem dJ3_checkIndex_8e157_1 : decode cJ3_checkIndex_8e157 1 = .ok (.ifCond .lt 8, 3) := by decide +kernel
theorem dJ3_checkIndex_8e157_4 : decode cJ3_checkIndex_8e157 4 = .ok (.iload_n 0, 1) := by decide +kernel
theorem dJ3_checkIndex_8e157_5 : decode cJ3_checkIndex_8e157 5 = .ok (.iload_n 1, 1) := by decide +kernel
theorem dJ3_checkIndex_8e157_6 : decode cJ3_checkIndex_8e157 6 = .ok (.if_icmp .lt 10, 3) := by decide +kernel
theorem dJ3_checkIndex_8e157_9 : decode cJ3_checkIndex_8e157 9 = .ok (.aload_n 2, 1) := by decide +kernel
theorem dJ3_checkIndex_8e157_10 : decode cJ3_checkIndex_8e157 10 = .ok (.iload_n 0, 1) := by decide +kernel
theorem dJ3_checkIndex_8e157_11 : decode cJ3_checkIndex_8e157 11 = .ok (.iload_n 1, 1) := by decide +kernel
theorem dJ3_checkIndex_8e157_12 : decode cJ3_checkIndex_8e157 12 = .ok (.invokestatic 95, 3) := by decide +kernel
theorem dJ3_checkIndex_8e157_15 : decode cJ3_checkIndex_8e157 15 = .ok (.athrow, 1) := by decide +kernel
theorem dJ3_checkIndex_8e157_16 : decode cJ3_checkIndex_8e157 16 = .ok (.iload_n 0, 1) := by decide +kernel
theorem dJ3_checkIndex_8e157_17 : decode cJ3_checkIndex_8e157 17 = .ok (.ireturn, 1) := by decide +kernel
