theorem dX12_isYear_0 : decode cX12_isYear 0 = .ok (.iload_n 0, 1) := by decide +kernel
theorem dX12_isYear_1 : decode cX12_isYear 1 = .ok (.i2l, 1) := by decide +kernel
theorem dX12_isYear_2 : decode cX12_isYear 2 = .ok (.lconst 0, 1) := by decide +kernel
theorem dX12_isYear_3 : decode cX12_isYear 3 = .ok (.ldc2_w 137, 3) := by decide +kernel
theorem dX12_isYear_6 : decode cX12_isYear 6 = .ok (.invokestatic 139, 3) := by decide +kernel
theorem dX12_isYear_9 : decode cX12_isYear 9 = .ok (.ireturn, 1) := by decide +kernel
theorem dX12_isCastle_0 : decode cX12_isCastle 0 = .ok (.iload_n 1, 1) := by decide +kernel
theorem dX12_isCastle_1 : decode cX12_isCastle 1 = .ok (.i2l, 1) := by decide +kernel
theorem dX12_isCastle_2 : decode cX12_isCastle 2 = .ok (.lconst 0, 1) := by decide +kernel
theorem dX12_isCastle_3 : decode cX12_isCastle 3 = .ok (.aload_n 0, 1) := by decide +kernel
theorem dX12_isCastle_4 : decode cX12_isCastle 4 = .ok (.getfield 143, 3) := by decide +kernel
theorem dX12_isCastle_7 : decode cX12_isCastle 7 = .ok (.i2l, 1) := by decide +kernel
theorem dX12_isCastle_8 : decode cX12_isCastle 8 = .ok (.lconst 1, 1) := by decide +kernel
theorem dX12_isCastle_9 : decode cX12_isCastle 9 = .ok (.lsub, 1) := by decide +kernel
theorem dX12_isCastle_10 : decode cX12_isCastle 10 = .ok (.invokestatic 139, 3) := by decide +kernel
theorem dX12_isCastle_13 : decode cX12_isCastle 13 = .ok (.ireturn, 1) := by decide +kernel
theorem dX12_isPerson_0 : decode cX12_isPerson 0 = .ok (.iload_n 1, 1) := by decide +kernel
theorem dX12_isPerson_1 : decode cX12_isPerson 1 = .ok (.i2l, 1) := by decide +kernel
theorem dX12_isPerson_2 : decode cX12_isPerson 2 = .ok (.lconst 0, 1) := by decide +kernel
theorem dX12_isPerson_3 : decode cX12_isPerson 3 = .ok (.aload_n 0, 1) := by decide +kernel
theorem dX12_isPerson_4 : decode cX12_isPerson 4 = .ok (.getfield 146, 3) := by decide +kernel
theorem dX12_isPerson_7 : decode cX12_isPerson 7 = .ok (.i2l, 1) := by decide +kernel
theorem dX12_isPerson_8 : decode cX12_isPerson 8 = .ok (.lconst 1, 1) := by decide +kernel
theorem dX12_isPerson_9 : decode cX12_isPerson 9 = .ok (.lsub, 1) := by decide +kernel
theorem dX12_isPerson_10 : decode cX12_isPerson 10 = .ok (.invokestatic 139, 3) := by decide +kernel
theorem dX12_isPerson_13 : decode cX12_isPerson 13 = .ok (.ireturn, 1) := by decide +kernel
theorem dX12_isNozzle_0 : decode cX12_isNozzle 0 = .ok (.iload_n 1, 1) := by decide +kernel
theorem dX12_isNozzle_1 : decode cX12_isNozzle 1 = .ok (.i2l, 1) := by decide +kernel
theorem dX12_isNozzle_2 : decode cX12_isNozzle 2 = .ok (.lconst 0, 1) := by decide +kernel
theorem dX12_isNozzle_3 : decode cX12_isNozzle 3 = .ok (.aload_n 0, 1) := by decide +kernel
theorem dX12_isNozzle_4 : decode cX12_isNozzle 4 = .ok (.getfield 149, 3) := by decide +kernel
theorem dX12_isNozzle_7 : decode cX12_isNozzle 7 = .ok (.i2l, 1) := by decide +kernel
theorem dX12_isNozzle_8 : decode cX12_isNozzle 8 = .ok (.lconst 1, 1) := by decide +kernel
theorem dX12_isNozzle_9 : decode cX12_isNozzle 9 = .ok (.lsub, 1) := by decide +kernel
theorem dX12_isNozzle_10 : decode cX12_isNozzle 10 = .ok (.invokestatic 139, 3) := by decide +kernel
theorem dX12_isNozzle_13 : decode cX12_isNozzle 13 = .ok (.ireturn, 1) := by decide +kernel
theorem dX12_aqueduct_0 : decode cX12_aqueduct 0 = .ok (.aload_n 0, 1) := by decide +kernel
theorem dX12_aqueduct_1 : decode cX12_aqueduct 1 = .ok (.iconst 0, 1) := by decide +kernel
theorem dX12_aqueduct_2 : decode cX12_aqueduct 2 = .ok (.putfield 131, 3) := by decide +kernel
theorem dX12_aqueduct_5 : decode cX12_aqueduct 5 = .ok (.iload_n 1, 1) := by decide +kernel
theorem dX12_aqueduct_6 : decode cX12_aqueduct 6 = .ok (.i2l, 1) := by decide +kernel
theorem dX12_aqueduct_7 : decode cX12_aqueduct 7 = .ok (.lconst 0, 1) := by decide +kernel
theorem dX12_aqueduct_8 : decode cX12_aqueduct 8 = .ok (.ldc2_w 152, 3) := by decide +kernel
theorem dX12_aqueduct_11 : decode cX12_aqueduct 11 = .ok (.invokestatic 139, 3) := by decide +kernel
theorem dX12_aqueduct_14 : decode cX12_aqueduct 14 = .ok (.ifCond .ne 9, 3) := by decide +kernel
theorem dX12_aqueduct_17 : decode cX12_aqueduct 17 = .ok (.aload_n 0, 1) := by decide +kernel
theorem dX12_aqueduct_18 : decode cX12_aqueduct 18 = .ok (.iconst (-1), 1) := by decide +kernel
theorem dX12_aqueduct_19 : decode cX12_aqueduct 19 = .ok (.invokevirtual 154, 3) := by decide +kernel
theorem dX12_aqueduct_22 : decode cX12_aqueduct 22 = .ok (.ireturn, 1) := by decide +kernel
theorem dX12_aqueduct_23 : decode cX12_aqueduct 23 = .ok (.aload_n 0, 1) := by decide +kernel
theorem dX12_aqueduct_24 : decode cX12_aqueduct 24 = .ok (.getfield 158, 3) := by decide +kernel
theorem dX12_aqueduct_27 : decode cX12_aqueduct 27 = .ok (.iconst 4, 1) := by decide +kernel
theorem dX12_aqueduct_28 : decode cX12_aqueduct 28 = .ok (.if_icmp .ne 10, 3) := by decide +kernel
theorem dX12_aqueduct_31 : decode cX12_aqueduct 31 = .ok (.aload_n 0, 1) := by decide +kernel
theorem dX12_aqueduct_32 : decode cX12_aqueduct 32 = .ok (.bipush (-5), 2) := by decide +kernel
theorem dX12_aqueduct_34 : decode cX12_aqueduct 34 = .ok (.invokevirtual 154, 3) := by decide +kernel
theorem dX12_aqueduct_37 : decode cX12_aqueduct 37 = .ok (.ireturn, 1) := by decide +kernel
theorem dX12_aqueduct_38 : decode cX12_aqueduct 38 = .ok (.aload_n 0, 1) := by decide +kernel
theorem dX12_aqueduct_39 : decode cX12_aqueduct 39 = .ok (.getfield 7, 3) := by decide +kernel
theorem dX12_aqueduct_42 : decode cX12_aqueduct 42 = .ok (.aload_n 0, 1) := by decide +kernel
theorem dX12_aqueduct_43 : decode cX12_aqueduct 43 = .ok (.getfield 158, 3) := by decide +kernel
theorem dX12_aqueduct_46 : decode cX12_aqueduct 46 = .ok (.iload_n 1, 1) := by decide +kernel
theorem dX12_aqueduct_47 : decode cX12_aqueduct 47 = .ok (.iastore, 1) := by decide +kernel
theorem dX12_aqueduct_48 : decode cX12_aqueduct 48 = .ok (.aload_n 0, 1) := by decide +kernel
theorem dX12_aqueduct_49 : decode cX12_aqueduct 49 = .ok (.dup, 1) := by decide +kernel
theorem dX12_aqueduct_50 : decode cX12_aqueduct 50 = .ok (.getfield 158, 3) := by decide +kernel
theorem dX12_aqueduct_53 : decode cX12_aqueduct 53 = .ok (.iconst 1, 1) := by decide +kernel
theorem dX12_aqueduct_54 : decode cX12_aqueduct 54 = .ok (.iadd, 1) := by decide +kernel
theorem dX12_aqueduct_55 : decode cX12_aqueduct 55 = .ok (.putfield 158, 3) := by decide +kernel
theorem dX12_aqueduct_58 : decode cX12_aqueduct 58 = .ok (.aload_n 0, 1) := by decide +kernel
theorem dX12_aqueduct_59 : decode cX12_aqueduct 59 = .ok (.aload_n 0, 1) := by decide +kernel
theorem dX12_aqueduct_60 : decode cX12_aqueduct 60 = .ok (.getfield 158, 3) := by decide +kernel
theorem dX12_aqueduct_63 : decode cX12_aqueduct 63 = .ok (.iconst 1, 1) := by decide +kernel
theorem dX12_aqueduct_64 : decode cX12_aqueduct 64 = .ok (.isub, 1) := by decide +kernel
theorem dX12_aqueduct_65 : decode cX12_aqueduct 65 = .ok (.invokevirtual 154, 3) := by decide +kernel
theorem dX12_aqueduct_68 : decode cX12_aqueduct 68 = .ok (.ireturn, 1) := by decide +kernel
theorem dX12_spring_0 : decode cX12_spring 0 = .ok (.aload_n 0, 1) := by decide +kernel
theorem dX12_spring_1 : decode cX12_spring 1 = .ok (.iconst 0, 1) := by decide +kernel
theorem dX12_spring_2 : decode cX12_spring 2 = .ok (.putfield 131, 3) := by decide +kernel
theorem dX12_spring_5 : decode cX12_spring 5 = .ok (.iload_n 2, 1) := by decide +kernel
theorem dX12_spring_6 : decode cX12_spring 6 = .ok (.invokestatic 161, 3) := by decide +kernel
theorem dX12_spring_9 : decode cX12_spring 9 = .ok (.ifCond .eq 15, 3) := by decide +kernel
theorem dX12_spring_12 : decode cX12_spring 12 = .ok (.iload_n 3, 1) := by decide +kernel
theorem dX12_spring_13 : decode cX12_spring 13 = .ok (.i2l, 1) := by decide +kernel
theorem dX12_spring_14 : decode cX12_spring 14 = .ok (.lconst 0, 1) := by decide +kernel
theorem dX12_spring_15 : decode cX12_spring 15 = .ok (.ldc2_w 152, 3) := by decide +kernel
theorem dX12_spring_18 : decode cX12_spring 18 = .ok (.invokestatic 139, 3) := by decide +kernel
theorem dX12_spring_21 : decode cX12_spring 21 = .ok (.ifCond .ne 9, 3) := by decide +kernel
theorem dX12_spring_24 : decode cX12_spring 24 = .ok (.aload_n 0, 1) := by decide +kernel
theorem dX12_spring_25 : decode cX12_spring 25 = .ok (.iconst (-1), 1) := by decide +kernel
theorem dX12_spring_26 : decode cX12_spring 26 = .ok (.invokevirtual 154, 3) := by decide +kernel
theorem dX12_spring_29 : decode cX12_spring 29 = .ok (.ireturn, 1) := by decide +kernel
theorem dX12_spring_30 : decode cX12_spring 30 = .ok (.iload_n 1, 1) := by decide +kernel
theorem dX12_spring_31 : decode cX12_spring 31 = .ok (.i2l, 1) := by decide +kernel
theorem dX12_spring_32 : decode cX12_spring 32 = .ok (.lconst 0, 1) := by decide +kernel
theorem dX12_spring_33 : decode cX12_spring 33 = .ok (.aload_n 0, 1) := by decide +kernel
theorem dX12_spring_34 : decode cX12_spring 34 = .ok (.getfield 158, 3) := by decide +kernel
theorem dX12_spring_37 : decode cX12_spring 37 = .ok (.i2l, 1) := by decide +kernel
theorem dX12_spring_38 : decode cX12_spring 38 = .ok (.lconst 1, 1) := by decide +kernel
theorem dX12_spring_39 : decode cX12_spring 39 = .ok (.lsub, 1) := by decide +kernel
theorem dX12_spring_40 : decode cX12_spring 40 = .ok (.invokestatic 139, 3) := by decide +kernel
theorem dX12_spring_43 : decode cX12_spring 43 = .ok (.ifCond .ne 10, 3) := by decide +kernel
theorem dX12_spring_46 : decode cX12_spring 46 = .ok (.aload_n 0, 1) := by decide +kernel
theorem dX12_spring_47 : decode cX12_spring 47 = .ok (.bipush (-2), 2) := by decide +kernel
theorem dX12_spring_49 : decode cX12_spring 49 = .ok (.invokevirtual 154, 3) := by decide +kernel
theorem dX12_spring_52 : decode cX12_spring 52 = .ok (.ireturn, 1) := by decide +kernel
theorem dX12_spring_53 : decode cX12_spring 53 = .ok (.iconst 0, 1) := by decide +kernel
theorem dX12_spring_54 : decode cX12_spring 54 = .ok (.istore 4, 2) := by decide +kernel
theorem dX12_spring_56 : decode cX12_spring 56 = .ok (.iload 4, 2) := by decide +kernel
theorem dX12_spring_58 : decode cX12_spring 58 = .ok (.aload_n 0, 1) := by decide +kernel
theorem dX12_spring_59 : decode cX12_spring 59 = .ok (.getfield 165, 3) := by decide +kernel
theorem dX12_spring_62 : decode cX12_spring 62 = .ok (.if_icmp .ge 31, 3) := by decide +kernel
theorem dX12_spring_65 : decode cX12_spring 65 = .ok (.aload_n 0, 1) := by decide +kernel
theorem dX12_spring_66 : decode cX12_spring 66 = .ok (.getfield 13, 3) := by decide +kernel
theorem dX12_spring_69 : decode cX12_spring 69 = .ok (.iload 4, 2) := by decide +kernel
theorem dX12_spring_71 : decode cX12_spring 71 = .ok (.iaload, 1) := by decide +kernel
theorem dX12_spring_72 : decode cX12_spring 72 = .ok (.iload_n 1, 1) := by decide +kernel
theorem dX12_spring_73 : decode cX12_spring 73 = .ok (.if_icmp .ne 14, 3) := by decide +kernel
theorem dX12_spring_76 : decode cX12_spring 76 = .ok (.aload_n 0, 1) := by decide +kernel
theorem dX12_spring_77 : decode cX12_spring 77 = .ok (.getfield 16, 3) := by decide +kernel
theorem dX12_spring_80 : decode cX12_spring 80 = .ok (.iload 4, 2) := by decide +kernel
theorem dX12_spring_82 : decode cX12_spring 82 = .ok (.iaload, 1) := by decide +kernel
theorem dX12_spring_83 : decode cX12_spring 83 = .ok (.iload_n 2, 1) := by decide +kernel
theorem dX12_spring_84 : decode cX12_spring 84 = .ok (.if_icmp .eq 9, 3) := by decide +kernel
theorem dX12_spring_87 : decode cX12_spring 87 = .ok (.iinc 4 1, 3) := by decide +kernel
theorem dX12_spring_90 : decode cX12_spring 90 = .ok (.goto (-34), 3) := by decide +kernel
theorem dX12_spring_93 : decode cX12_spring 93 = .ok (.iload 4, 2) := by decide +kernel
theorem dX12_spring_95 : decode cX12_spring 95 = .ok (.bipush 60, 2) := by decide +kernel
theorem dX12_spring_97 : decode cX12_spring 97 = .ok (.if_icmp .ne 10, 3) := by decide +kernel
theorem dX12_spring_100 : decode cX12_spring 100 = .ok (.aload_n 0, 1) := by decide +kernel
theorem dX12_spring_101 : decode cX12_spring 101 = .ok (.bipush (-5), 2) := by decide +kernel
theorem dX12_spring_103 : decode cX12_spring 103 = .ok (.invokevirtual 154, 3) := by decide +kernel
theorem dX12_spring_106 : decode cX12_spring 106 = .ok (.ireturn, 1) := by decide +kernel
theorem dX12_spring_107 : decode cX12_spring 107 = .ok (.aload_n 0, 1) := by decide +kernel
theorem dX12_spring_108 : decode cX12_spring 108 = .ok (.getfield 13, 3) := by decide +kernel
theorem dX12_spring_111 : decode cX12_spring 111 = .ok (.iload 4, 2) := by decide +kernel
theorem dX12_spring_113 : decode cX12_spring 113 = .ok (.iload_n 1, 1) := by decide +kernel
theorem dX12_spring_114 : decode cX12_spring 114 = .ok (.iastore, 1) := by decide +kernel
theorem dX12_spring_115 : decode cX12_spring 115 = .ok (.aload_n 0, 1) := by decide +kernel
theorem dX12_spring_116 : decode cX12_spring 116 = .ok (.getfield 16, 3) := by decide +kernel
theorem dX12_spring_119 : decode cX12_spring 119 = .ok (.iload 4, 2) := by decide +kernel
theorem dX12_spring_121 : decode cX12_spring 121 = .ok (.iload_n 2, 1) := by decide +kernel
theorem dX12_spring_122 : decode cX12_spring 122 = .ok (.iastore, 1) := by decide +kernel
theorem dX12_spring_123 : decode cX12_spring 123 = .ok (.aload_n 0, 1) := by decide +kernel
theorem dX12_spring_124 : decode cX12_spring 124 = .ok (.getfield 19, 3) := by decide +kernel
theorem dX12_spring_127 : decode cX12_spring 127 = .ok (.iload 4, 2) := by decide +kernel
theorem dX12_spring_129 : decode cX12_spring 129 = .ok (.iload_n 3, 1) := by decide +kernel
theorem dX12_spring_130 : decode cX12_spring 130 = .ok (.iastore, 1) := by decide +kernel
theorem dX12_spring_131 : decode cX12_spring 131 = .ok (.aload_n 0, 1) := by decide +kernel
theorem dX12_spring_132 : decode cX12_spring 132 = .ok (.dup, 1) := by decide +kernel
theorem dX12_spring_133 : decode cX12_spring 133 = .ok (.getfield 165, 3) := by decide +kernel
theorem dX12_spring_136 : decode cX12_spring 136 = .ok (.iload 4, 2) := by decide +kernel
theorem dX12_spring_138 : decode cX12_spring 138 = .ok (.aload_n 0, 1) := by decide +kernel
theorem dX12_spring_139 : decode cX12_spring 139 = .ok (.getfield 165, 3) := by decide +kernel
theorem dX12_spring_142 : decode cX12_spring 142 = .ok (.if_icmp .ne 7, 3) := by decide +kernel
theorem dX12_spring_145 : decode cX12_spring 145 = .ok (.iconst 1, 1) := by decide +kernel
theorem dX12_spring_146 : decode cX12_spring 146 = .ok (.goto 4, 3) := by decide +kernel
theorem dX12_spring_149 : decode cX12_spring 149 = .ok (.iconst 0, 1) := by decide +kernel
theorem dX12_spring_150 : decode cX12_spring 150 = .ok (.iadd, 1) := by decide +kernel
theorem dX12_spring_151 : decode cX12_spring 151 = .ok (.putfield 165, 3) := by decide +kernel
theorem dX12_spring_154 : decode cX12_spring 154 = .ok (.aload_n 0, 1) := by decide +kernel
theorem dX12_spring_155 : decode cX12_spring 155 = .ok (.iconst 0, 1) := by decide +kernel
theorem dX12_spring_156 : decode cX12_spring 156 = .ok (.invokevirtual 154, 3) := by decide +kernel
theorem dX12_spring_159 : decode cX12_spring 159 = .ok (.ireturn, 1) := by decide +kernel
theorem dX12_castle_0 : decode cX12_castle 0 = .ok (.aload_n 0, 1) := by decide +kernel
theorem dX12_castle_1 : decode cX12_castle 1 = .ok (.iconst 0, 1) := by decide +kernel
theorem dX12_castle_2 : decode cX12_castle 2 = .ok (.putfield 131, 3) := by decide +kernel
theorem dX12_castle_5 : decode cX12_castle 5 = .ok (.iload_n 2, 1) := by decide +kernel
theorem dX12_castle_6 : decode cX12_castle 6 = .ok (.i2l, 1) := by decide +kernel
theorem dX12_castle_7 : decode cX12_castle 7 = .ok (.lconst 1, 1) := by decide +kernel
theorem dX12_castle_8 : decode cX12_castle 8 = .ok (.ldc2_w 152, 3) := by decide +kernel
theorem dX12_castle_11 : decode cX12_castle 11 = .ok (.invokestatic 139, 3) := by decide +kernel
theorem dX12_castle_14 : decode cX12_castle 14 = .ok (.ifCond .eq 15, 3) := by decide +kernel
theorem dX12_castle_17 : decode cX12_castle 17 = .ok (.iload_n 3, 1) := by decide +kernel
theorem dX12_castle_18 : decode cX12_castle 18 = .ok (.i2l, 1) := by decide +kernel
theorem dX12_castle_19 : decode cX12_castle 19 = .ok (.lconst 0, 1) := by decide +kernel
theorem dX12_castle_20 : decode cX12_castle 20 = .ok (.ldc2_w 168, 3) := by decide +kernel
theorem dX12_castle_23 : decode cX12_castle 23 = .ok (.invokestatic 139, 3) := by decide +kernel
theorem dX12_castle_26 : decode cX12_castle 26 = .ok (.ifCond .ne 9, 3) := by decide +kernel
theorem dX12_castle_29 : decode cX12_castle 29 = .ok (.aload_n 0, 1) := by decide +kernel
theorem dX12_castle_30 : decode cX12_castle 30 = .ok (.iconst (-1), 1) := by decide +kernel
theorem dX12_castle_31 : decode cX12_castle 31 = .ok (.invokevirtual 154, 3) := by decide +kernel
theorem dX12_castle_34 : decode cX12_castle 34 = .ok (.ireturn, 1) := by decide +kernel
theorem dX12_castle_35 : decode cX12_castle 35 = .ok (.iload_n 1, 1) := by decide +kernel
theorem dX12_castle_36 : decode cX12_castle 36 = .ok (.i2l, 1) := by decide +kernel
theorem dX12_castle_37 : decode cX12_castle 37 = .ok (.lconst 0, 1) := by decide +kernel
theorem dX12_castle_38 : decode cX12_castle 38 = .ok (.aload_n 0, 1) := by decide +kernel
theorem dX12_castle_39 : decode cX12_castle 39 = .ok (.getfield 158, 3) := by decide +kernel
theorem dX12_castle_42 : decode cX12_castle 42 = .ok (.i2l, 1) := by decide +kernel
theorem dX12_castle_43 : decode cX12_castle 43 = .ok (.lconst 1, 1) := by decide +kernel
theorem dX12_castle_44 : decode cX12_castle 44 = .ok (.lsub, 1) := by decide +kernel
theorem dX12_castle_45 : decode cX12_castle 45 = .ok (.invokestatic 139, 3) := by decide +kernel
theorem dX12_castle_48 : decode cX12_castle 48 = .ok (.ifCond .ne 30, 3) := by decide +kernel
theorem dX12_castle_51 : decode cX12_castle 51 = .ok (.iload_n 1, 1) := by decide +kernel
theorem dX12_castle_52 : decode cX12_castle 52 = .ok (.i2l, 1) := by decide +kernel
theorem dX12_castle_53 : decode cX12_castle 53 = .ok (.ldc2_w 170, 3) := by decide +kernel
theorem dX12_castle_56 : decode cX12_castle 56 = .ok (.ldc2_w 172, 3) := by decide +kernel
theorem dX12_castle_59 : decode cX12_castle 59 = .ok (.aload_n 0, 1) := by decide +kernel
theorem dX12_castle_60 : decode cX12_castle 60 = .ok (.getfield 143, 3) := by decide +kernel
theorem dX12_castle_63 : decode cX12_castle 63 = .ok (.i2l, 1) := by decide +kernel
theorem dX12_castle_64 : decode cX12_castle 64 = .ok (.ladd, 1) := by decide +kernel
theorem dX12_castle_65 : decode cX12_castle 65 = .ok (.invokestatic 139, 3) := by decide +kernel
theorem dX12_castle_68 : decode cX12_castle 68 = .ok (.ifCond .ne 10, 3) := by decide +kernel
theorem dX12_castle_71 : decode cX12_castle 71 = .ok (.aload_n 0, 1) := by decide +kernel
theorem dX12_castle_72 : decode cX12_castle 72 = .ok (.bipush (-2), 2) := by decide +kernel
theorem dX12_castle_74 : decode cX12_castle 74 = .ok (.invokevirtual 154, 3) := by decide +kernel
theorem dX12_castle_77 : decode cX12_castle 77 = .ok (.ireturn, 1) := by decide +kernel
theorem dX12_castle_78 : decode cX12_castle 78 = .ok (.aload_n 0, 1) := by decide +kernel
theorem dX12_castle_79 : decode cX12_castle 79 = .ok (.getfield 143, 3) := by decide +kernel
theorem dX12_castle_82 : decode cX12_castle 82 = .ok (.bipush 12, 2) := by decide +kernel
theorem dX12_castle_84 : decode cX12_castle 84 = .ok (.if_icmp .ne 10, 3) := by decide +kernel
theorem dX12_castle_87 : decode cX12_castle 87 = .ok (.aload_n 0, 1) := by decide +kernel
theorem dX12_castle_88 : decode cX12_castle 88 = .ok (.bipush (-5), 2) := by decide +kernel
theorem dX12_castle_90 : decode cX12_castle 90 = .ok (.invokevirtual 154, 3) := by decide +kernel
theorem dX12_castle_93 : decode cX12_castle 93 = .ok (.ireturn, 1) := by decide +kernel
theorem dX12_castle_94 : decode cX12_castle 94 = .ok (.aload_n 0, 1) := by decide +kernel
theorem dX12_castle_95 : decode cX12_castle 95 = .ok (.getfield 22, 3) := by decide +kernel
theorem dX12_castle_98 : decode cX12_castle 98 = .ok (.aload_n 0, 1) := by decide +kernel
theorem dX12_castle_99 : decode cX12_castle 99 = .ok (.getfield 143, 3) := by decide +kernel
theorem dX12_castle_102 : decode cX12_castle 102 = .ok (.iload_n 1, 1) := by decide +kernel
theorem dX12_castle_103 : decode cX12_castle 103 = .ok (.iastore, 1) := by decide +kernel
theorem dX12_castle_104 : decode cX12_castle 104 = .ok (.aload_n 0, 1) := by decide +kernel
theorem dX12_castle_105 : decode cX12_castle 105 = .ok (.getfield 25, 3) := by decide +kernel
theorem dX12_castle_108 : decode cX12_castle 108 = .ok (.aload_n 0, 1) := by decide +kernel
theorem dX12_castle_109 : decode cX12_castle 109 = .ok (.getfield 143, 3) := by decide +kernel
theorem dX12_castle_112 : decode cX12_castle 112 = .ok (.iload_n 2, 1) := by decide +kernel
theorem dX12_castle_113 : decode cX12_castle 113 = .ok (.iastore, 1) := by decide +kernel
theorem dX12_castle_114 : decode cX12_castle 114 = .ok (.aload_n 0, 1) := by decide +kernel
theorem dX12_castle_115 : decode cX12_castle 115 = .ok (.getfield 28, 3) := by decide +kernel
theorem dX12_castle_118 : decode cX12_castle 118 = .ok (.aload_n 0, 1) := by decide +kernel
theorem dX12_castle_119 : decode cX12_castle 119 = .ok (.getfield 143, 3) := by decide +kernel
theorem dX12_castle_122 : decode cX12_castle 122 = .ok (.iload_n 3, 1) := by decide +kernel
theorem dX12_castle_123 : decode cX12_castle 123 = .ok (.iastore, 1) := by decide +kernel
theorem dX12_castle_124 : decode cX12_castle 124 = .ok (.aload_n 0, 1) := by decide +kernel
theorem dX12_castle_125 : decode cX12_castle 125 = .ok (.dup, 1) := by decide +kernel
theorem dX12_castle_126 : decode cX12_castle 126 = .ok (.getfield 143, 3) := by decide +kernel
theorem dX12_castle_129 : decode cX12_castle 129 = .ok (.iconst 1, 1) := by decide +kernel
theorem dX12_castle_130 : decode cX12_castle 130 = .ok (.iadd, 1) := by decide +kernel
theorem dX12_castle_131 : decode cX12_castle 131 = .ok (.putfield 143, 3) := by decide +kernel
theorem dX12_castle_134 : decode cX12_castle 134 = .ok (.aload_n 0, 1) := by decide +kernel
theorem dX12_castle_135 : decode cX12_castle 135 = .ok (.aload_n 0, 1) := by decide +kernel
theorem dX12_castle_136 : decode cX12_castle 136 = .ok (.getfield 143, 3) := by decide +kernel
theorem dX12_castle_139 : decode cX12_castle 139 = .ok (.iconst 1, 1) := by decide +kernel
theorem dX12_castle_140 : decode cX12_castle 140 = .ok (.isub, 1) := by decide +kernel
theorem dX12_castle_141 : decode cX12_castle 141 = .ok (.invokevirtual 154, 3) := by decide +kernel
theorem dX12_castle_144 : decode cX12_castle 144 = .ok (.ireturn, 1) := by decide +kernel
theorem dX12_person_0 : decode cX12_person 0 = .ok (.aload_n 0, 1) := by decide +kernel
theorem dX12_person_1 : decode cX12_person 1 = .ok (.iconst 0, 1) := by decide +kernel
theorem dX12_person_2 : decode cX12_person 2 = .ok (.putfield 131, 3) := by decide +kernel
theorem dX12_person_5 : decode cX12_person 5 = .ok (.aload_n 0, 1) := by decide +kernel
theorem dX12_person_6 : decode cX12_person 6 = .ok (.getfield 146, 3) := by decide +kernel
theorem dX12_person_9 : decode cX12_person 9 = .ok (.bipush 40, 2) := by decide +kernel
theorem dX12_person_11 : decode cX12_person 11 = .ok (.if_icmp .ne 10, 3) := by decide +kernel
theorem dX12_person_14 : decode cX12_person 14 = .ok (.aload_n 0, 1) := by decide +kernel
theorem dX12_person_15 : decode cX12_person 15 = .ok (.bipush (-5), 2) := by decide +kernel
theorem dX12_person_17 : decode cX12_person 17 = .ok (.invokevirtual 154, 3) := by decide +kernel
theorem dX12_person_20 : decode cX12_person 20 = .ok (.ireturn, 1) := by decide +kernel
theorem dX12_person_21 : decode cX12_person 21 = .ok (.aload_n 0, 1) := by decide +kernel
theorem dX12_person_22 : decode cX12_person 22 = .ok (.dup, 1) := by decide +kernel
theorem dX12_person_23 : decode cX12_person 23 = .ok (.getfield 146, 3) := by decide +kernel
theorem dX12_person_26 : decode cX12_person 26 = .ok (.iconst 1, 1) := by decide +kernel
theorem dX12_person_27 : decode cX12_person 27 = .ok (.iadd, 1) := by decide +kernel
theorem dX12_person_28 : decode cX12_person 28 = .ok (.putfield 146, 3) := by decide +kernel
theorem dX12_person_31 : decode cX12_person 31 = .ok (.aload_n 0, 1) := by decide +kernel
theorem dX12_person_32 : decode cX12_person 32 = .ok (.aload_n 0, 1) := by decide +kernel
theorem dX12_person_33 : decode cX12_person 33 = .ok (.getfield 146, 3) := by decide +kernel
theorem dX12_person_36 : decode cX12_person 36 = .ok (.iconst 1, 1) := by decide +kernel
theorem dX12_person_37 : decode cX12_person 37 = .ok (.isub, 1) := by decide +kernel
theorem dX12_person_38 : decode cX12_person 38 = .ok (.invokevirtual 154, 3) := by decide +kernel
theorem dX12_person_41 : decode cX12_person 41 = .ok (.ireturn, 1) := by decide +kernel
theorem dX12_death_0 : decode cX12_death 0 = .ok (.aload_n 0, 1) := by decide +kernel
theorem dX12_death_1 : decode cX12_death 1 = .ok (.iconst 0, 1) := by decide +kernel
theorem dX12_death_2 : decode cX12_death 2 = .ok (.putfield 131, 3) := by decide +kernel
theorem dX12_death_5 : decode cX12_death 5 = .ok (.iload_n 2, 1) := by decide +kernel
theorem dX12_death_6 : decode cX12_death 6 = .ok (.invokestatic 161, 3) := by decide +kernel
theorem dX12_death_9 : decode cX12_death 9 = .ok (.ifCond .eq 10, 3) := by decide +kernel
theorem dX12_death_12 : decode cX12_death 12 = .ok (.iload_n 3, 1) := by decide +kernel
theorem dX12_death_13 : decode cX12_death 13 = .ok (.invokestatic 161, 3) := by decide +kernel
theorem dX12_death_16 : decode cX12_death 16 = .ok (.ifCond .ne 9, 3) := by decide +kernel
theorem dX12_death_19 : decode cX12_death 19 = .ok (.aload_n 0, 1) := by decide +kernel
theorem dX12_death_20 : decode cX12_death 20 = .ok (.iconst (-1), 1) := by decide +kernel
theorem dX12_death_21 : decode cX12_death 21 = .ok (.invokevirtual 154, 3) := by decide +kernel
theorem dX12_death_24 : decode cX12_death 24 = .ok (.ireturn, 1) := by decide +kernel
theorem dX12_death_25 : decode cX12_death 25 = .ok (.aload_n 0, 1) := by decide +kernel
theorem dX12_death_26 : decode cX12_death 26 = .ok (.iload_n 1, 1) := by decide +kernel
theorem dX12_death_27 : decode cX12_death 27 = .ok (.invokevirtual 174, 3) := by decide +kernel
theorem dX12_death_30 : decode cX12_death 30 = .ok (.ifCond .ne 10, 3) := by decide +kernel
theorem dX12_death_33 : decode cX12_death 33 = .ok (.aload_n 0, 1) := by decide +kernel
theorem dX12_death_34 : decode cX12_death 34 = .ok (.bipush (-2), 2) := by decide +kernel
theorem dX12_death_36 : decode cX12_death 36 = .ok (.invokevirtual 154, 3) := by decide +kernel
theorem dX12_death_39 : decode cX12_death 39 = .ok (.ireturn, 1) := by decide +kernel
theorem dX12_death_40 : decode cX12_death 40 = .ok (.aload_n 0, 1) := by decide +kernel
theorem dX12_death_41 : decode cX12_death 41 = .ok (.getfield 177, 3) := by decide +kernel
theorem dX12_death_44 : decode cX12_death 44 = .ok (.bipush 60, 2) := by decide +kernel
theorem dX12_death_46 : decode cX12_death 46 = .ok (.if_icmp .ne 10, 3) := by decide +kernel
theorem dX12_death_49 : decode cX12_death 49 = .ok (.aload_n 0, 1) := by decide +kernel
theorem dX12_death_50 : decode cX12_death 50 = .ok (.bipush (-5), 2) := by decide +kernel
theorem dX12_death_52 : decode cX12_death 52 = .ok (.invokevirtual 154, 3) := by decide +kernel
theorem dX12_death_55 : decode cX12_death 55 = .ok (.ireturn, 1) := by decide +kernel
theorem dX12_death_56 : decode cX12_death 56 = .ok (.aload_n 0, 1) := by decide +kernel
theorem dX12_death_57 : decode cX12_death 57 = .ok (.getfield 31, 3) := by decide +kernel
theorem dX12_death_60 : decode cX12_death 60 = .ok (.aload_n 0, 1) := by decide +kernel
theorem dX12_death_61 : decode cX12_death 61 = .ok (.getfield 177, 3) := by decide +kernel
theorem dX12_death_64 : decode cX12_death 64 = .ok (.iload_n 1, 1) := by decide +kernel
theorem dX12_death_65 : decode cX12_death 65 = .ok (.iastore, 1) := by decide +kernel
theorem dX12_death_66 : decode cX12_death 66 = .ok (.aload_n 0, 1) := by decide +kernel
theorem dX12_death_67 : decode cX12_death 67 = .ok (.getfield 34, 3) := by decide +kernel
theorem dX12_death_70 : decode cX12_death 70 = .ok (.aload_n 0, 1) := by decide +kernel
theorem dX12_death_71 : decode cX12_death 71 = .ok (.getfield 177, 3) := by decide +kernel
theorem dX12_death_74 : decode cX12_death 74 = .ok (.iload_n 2, 1) := by decide +kernel
theorem dX12_death_75 : decode cX12_death 75 = .ok (.iastore, 1) := by decide +kernel
theorem dX12_death_76 : decode cX12_death 76 = .ok (.aload_n 0, 1) := by decide +kernel
theorem dX12_death_77 : decode cX12_death 77 = .ok (.getfield 37, 3) := by decide +kernel
theorem dX12_death_80 : decode cX12_death 80 = .ok (.aload_n 0, 1) := by decide +kernel
theorem dX12_death_81 : decode cX12_death 81 = .ok (.getfield 177, 3) := by decide +kernel
theorem dX12_death_84 : decode cX12_death 84 = .ok (.iload_n 3, 1) := by decide +kernel
theorem dX12_death_85 : decode cX12_death 85 = .ok (.iastore, 1) := by decide +kernel
theorem dX12_death_86 : decode cX12_death 86 = .ok (.aload_n 0, 1) := by decide +kernel
theorem dX12_death_87 : decode cX12_death 87 = .ok (.dup, 1) := by decide +kernel
theorem dX12_death_88 : decode cX12_death 88 = .ok (.getfield 177, 3) := by decide +kernel
theorem dX12_death_91 : decode cX12_death 91 = .ok (.iconst 1, 1) := by decide +kernel
theorem dX12_death_92 : decode cX12_death 92 = .ok (.iadd, 1) := by decide +kernel
theorem dX12_death_93 : decode cX12_death 93 = .ok (.putfield 177, 3) := by decide +kernel
theorem dX12_death_96 : decode cX12_death 96 = .ok (.aload_n 0, 1) := by decide +kernel
theorem dX12_death_97 : decode cX12_death 97 = .ok (.aload_n 0, 1) := by decide +kernel
theorem dX12_death_98 : decode cX12_death 98 = .ok (.getfield 177, 3) := by decide +kernel
theorem dX12_death_101 : decode cX12_death 101 = .ok (.invokevirtual 154, 3) := by decide +kernel
theorem dX12_death_104 : decode cX12_death 104 = .ok (.ireturn, 1) := by decide +kernel
theorem dX12_deadOf_0 : decode cX12_deadOf 0 = .ok (.iconst (-1), 1) := by decide +kernel
theorem dX12_deadOf_1 : decode cX12_deadOf 1 = .ok (.istore_n 3, 1) := by decide +kernel
theorem dX12_deadOf_2 : decode cX12_deadOf 2 = .ok (.iconst 0, 1) := by decide +kernel
theorem dX12_deadOf_3 : decode cX12_deadOf 3 = .ok (.istore 4, 2) := by decide +kernel
theorem dX12_deadOf_5 : decode cX12_deadOf 5 = .ok (.iload 4, 2) := by decide +kernel
theorem dX12_deadOf_7 : decode cX12_deadOf 7 = .ok (.aload_n 0, 1) := by decide +kernel
theorem dX12_deadOf_8 : decode cX12_deadOf 8 = .ok (.getfield 177, 3) := by decide +kernel
theorem dX12_deadOf_11 : decode cX12_deadOf 11 = .ok (.if_icmp .ge 43, 3) := by decide +kernel
theorem dX12_deadOf_14 : decode cX12_deadOf 14 = .ok (.aload_n 0, 1) := by decide +kernel
theorem dX12_deadOf_15 : decode cX12_deadOf 15 = .ok (.getfield 31, 3) := by decide +kernel
theorem dX12_deadOf_18 : decode cX12_deadOf 18 = .ok (.iload 4, 2) := by decide +kernel
theorem dX12_deadOf_20 : decode cX12_deadOf 20 = .ok (.iaload, 1) := by decide +kernel
theorem dX12_deadOf_21 : decode cX12_deadOf 21 = .ok (.iload_n 1, 1) := by decide +kernel
theorem dX12_deadOf_22 : decode cX12_deadOf 22 = .ok (.if_icmp .ne 24, 3) := by decide +kernel
theorem dX12_deadOf_25 : decode cX12_deadOf 25 = .ok (.aload_n 0, 1) := by decide +kernel
theorem dX12_deadOf_26 : decode cX12_deadOf 26 = .ok (.getfield 37, 3) := by decide +kernel
theorem dX12_deadOf_29 : decode cX12_deadOf 29 = .ok (.iload 4, 2) := by decide +kernel
theorem dX12_deadOf_31 : decode cX12_deadOf 31 = .ok (.iaload, 1) := by decide +kernel
theorem dX12_deadOf_32 : decode cX12_deadOf 32 = .ok (.iload_n 2, 1) := by decide +kernel
theorem dX12_deadOf_33 : decode cX12_deadOf 33 = .ok (.if_icmp .gt 13, 3) := by decide +kernel
theorem dX12_deadOf_36 : decode cX12_deadOf 36 = .ok (.aload_n 0, 1) := by decide +kernel
theorem dX12_deadOf_37 : decode cX12_deadOf 37 = .ok (.getfield 34, 3) := by decide +kernel
theorem dX12_deadOf_40 : decode cX12_deadOf 40 = .ok (.iload 4, 2) := by decide +kernel
theorem dX12_deadOf_42 : decode cX12_deadOf 42 = .ok (.iaload, 1) := by decide +kernel
theorem dX12_deadOf_43 : decode cX12_deadOf 43 = .ok (.goto 4, 3) := by decide +kernel
theorem dX12_deadOf_46 : decode cX12_deadOf 46 = .ok (.iload_n 3, 1) := by decide +kernel
theorem dX12_deadOf_47 : decode cX12_deadOf 47 = .ok (.istore_n 3, 1) := by decide +kernel
theorem dX12_deadOf_48 : decode cX12_deadOf 48 = .ok (.iinc 4 1, 3) := by decide +kernel
theorem dX12_deadOf_51 : decode cX12_deadOf 51 = .ok (.goto (-46), 3) := by decide +kernel
theorem dX12_deadOf_54 : decode cX12_deadOf 54 = .ok (.iload_n 3, 1) := by decide +kernel
theorem dX12_deadOf_55 : decode cX12_deadOf 55 = .ok (.ireturn, 1) := by decide +kernel
theorem dX12_dead_0 : decode cX12_dead 0 = .ok (.aload_n 0, 1) := by decide +kernel
theorem dX12_dead_1 : decode cX12_dead 1 = .ok (.iconst 0, 1) := by decide +kernel
theorem dX12_dead_2 : decode cX12_dead 2 = .ok (.putfield 131, 3) := by decide +kernel
theorem dX12_dead_5 : decode cX12_dead 5 = .ok (.aload_n 0, 1) := by decide +kernel
theorem dX12_dead_6 : decode cX12_dead 6 = .ok (.iload_n 1, 1) := by decide +kernel
theorem dX12_dead_7 : decode cX12_dead 7 = .ok (.invokevirtual 174, 3) := by decide +kernel
theorem dX12_dead_10 : decode cX12_dead 10 = .ok (.ifCond .eq 19, 3) := by decide +kernel
theorem dX12_dead_13 : decode cX12_dead 13 = .ok (.iload_n 2, 1) := by decide +kernel
theorem dX12_dead_14 : decode cX12_dead 14 = .ok (.invokestatic 161, 3) := by decide +kernel
theorem dX12_dead_17 : decode cX12_dead 17 = .ok (.ifCond .eq 12, 3) := by decide +kernel
theorem dX12_dead_20 : decode cX12_dead 20 = .ok (.aload_n 0, 1) := by decide +kernel
theorem dX12_dead_21 : decode cX12_dead 21 = .ok (.iload_n 1, 1) := by decide +kernel
theorem dX12_dead_22 : decode cX12_dead 22 = .ok (.iload_n 2, 1) := by decide +kernel
theorem dX12_dead_23 : decode cX12_dead 23 = .ok (.invokevirtual 180, 3) := by decide +kernel
theorem dX12_dead_26 : decode cX12_dead 26 = .ok (.goto 4, 3) := by decide +kernel
theorem dX12_dead_29 : decode cX12_dead 29 = .ok (.iconst (-1), 1) := by decide +kernel
theorem dX12_dead_30 : decode cX12_dead 30 = .ok (.ireturn, 1) := by decide +kernel
theorem dX12_nozzle_0 : decode cX12_nozzle 0 = .ok (.aload_n 0, 1) := by decide +kernel
theorem dX12_nozzle_1 : decode cX12_nozzle 1 = .ok (.iconst 0, 1) := by decide +kernel
theorem dX12_nozzle_2 : decode cX12_nozzle 2 = .ok (.putfield 131, 3) := by decide +kernel
theorem dX12_nozzle_5 : decode cX12_nozzle 5 = .ok (.iload_n 2, 1) := by decide +kernel
theorem dX12_nozzle_6 : decode cX12_nozzle 6 = .ok (.i2l, 1) := by decide +kernel
theorem dX12_nozzle_7 : decode cX12_nozzle 7 = .ok (.lconst 1, 1) := by decide +kernel
theorem dX12_nozzle_8 : decode cX12_nozzle 8 = .ok (.ldc2_w 168, 3) := by decide +kernel
theorem dX12_nozzle_11 : decode cX12_nozzle 11 = .ok (.invokestatic 139, 3) := by decide +kernel
theorem dX12_nozzle_14 : decode cX12_nozzle 14 = .ok (.ifCond .eq 33, 3) := by decide +kernel
theorem dX12_nozzle_17 : decode cX12_nozzle 17 = .ok (.iload_n 3, 1) := by decide +kernel
theorem dX12_nozzle_18 : decode cX12_nozzle 18 = .ok (.i2l, 1) := by decide +kernel
theorem dX12_nozzle_19 : decode cX12_nozzle 19 = .ok (.lconst 0, 1) := by decide +kernel
theorem dX12_nozzle_20 : decode cX12_nozzle 20 = .ok (.ldc2_w 184, 3) := by decide +kernel
theorem dX12_nozzle_23 : decode cX12_nozzle 23 = .ok (.invokestatic 139, 3) := by decide +kernel
theorem dX12_nozzle_26 : decode cX12_nozzle 26 = .ok (.ifCond .eq 21, 3) := by decide +kernel
theorem dX12_nozzle_29 : decode cX12_nozzle 29 = .ok (.iload_n 3, 1) := by decide +kernel
theorem dX12_nozzle_30 : decode cX12_nozzle 30 = .ok (.iconst 2, 1) := by decide +kernel
theorem dX12_nozzle_31 : decode cX12_nozzle 31 = .ok (.if_icmp .ge 22, 3) := by decide +kernel
theorem dX12_nozzle_34 : decode cX12_nozzle 34 = .ok (.iload 4, 2) := by decide +kernel
theorem dX12_nozzle_36 : decode cX12_nozzle 36 = .ok (.i2l, 1) := by decide +kernel
theorem dX12_nozzle_37 : decode cX12_nozzle 37 = .ok (.lconst 0, 1) := by decide +kernel
theorem dX12_nozzle_38 : decode cX12_nozzle 38 = .ok (.ldc2_w 186, 3) := by decide +kernel
theorem dX12_nozzle_41 : decode cX12_nozzle 41 = .ok (.invokestatic 139, 3) := by decide +kernel
theorem dX12_nozzle_44 : decode cX12_nozzle 44 = .ok (.ifCond .ne 9, 3) := by decide +kernel
theorem dX12_nozzle_47 : decode cX12_nozzle 47 = .ok (.aload_n 0, 1) := by decide +kernel
theorem dX12_nozzle_48 : decode cX12_nozzle 48 = .ok (.iconst (-1), 1) := by decide +kernel
theorem dX12_nozzle_49 : decode cX12_nozzle 49 = .ok (.invokevirtual 154, 3) := by decide +kernel
theorem dX12_nozzle_52 : decode cX12_nozzle 52 = .ok (.ireturn, 1) := by decide +kernel
theorem dX12_nozzle_53 : decode cX12_nozzle 53 = .ok (.aload_n 0, 1) := by decide +kernel
theorem dX12_nozzle_54 : decode cX12_nozzle 54 = .ok (.iload_n 1, 1) := by decide +kernel
theorem dX12_nozzle_55 : decode cX12_nozzle 55 = .ok (.invokevirtual 188, 3) := by decide +kernel
theorem dX12_nozzle_58 : decode cX12_nozzle 58 = .ok (.ifCond .eq 17, 3) := by decide +kernel
theorem dX12_nozzle_61 : decode cX12_nozzle 61 = .ok (.iload_n 3, 1) := by decide +kernel
theorem dX12_nozzle_62 : decode cX12_nozzle 62 = .ok (.iconst 2, 1) := by decide +kernel
theorem dX12_nozzle_63 : decode cX12_nozzle 63 = .ok (.if_icmp .ne 19, 3) := by decide +kernel
theorem dX12_nozzle_66 : decode cX12_nozzle 66 = .ok (.aload_n 0, 1) := by decide +kernel
theorem dX12_nozzle_67 : decode cX12_nozzle 67 = .ok (.iload 4, 2) := by decide +kernel
theorem dX12_nozzle_69 : decode cX12_nozzle 69 = .ok (.invokevirtual 174, 3) := by decide +kernel
theorem dX12_nozzle_72 : decode cX12_nozzle 72 = .ok (.ifCond .ne 10, 3) := by decide +kernel
theorem dX12_nozzle_75 : decode cX12_nozzle 75 = .ok (.aload_n 0, 1) := by decide +kernel
theorem dX12_nozzle_76 : decode cX12_nozzle 76 = .ok (.bipush (-2), 2) := by decide +kernel
theorem dX12_nozzle_78 : decode cX12_nozzle 78 = .ok (.invokevirtual 154, 3) := by decide +kernel
theorem dX12_nozzle_81 : decode cX12_nozzle 81 = .ok (.ireturn, 1) := by decide +kernel
theorem dX12_nozzle_82 : decode cX12_nozzle 82 = .ok (.aload_n 0, 1) := by decide +kernel
theorem dX12_nozzle_83 : decode cX12_nozzle 83 = .ok (.aload_n 0, 1) := by decide +kernel
theorem dX12_nozzle_84 : decode cX12_nozzle 84 = .ok (.getfield 191, 3) := by decide +kernel
theorem dX12_nozzle_87 : decode cX12_nozzle 87 = .ok (.iconst 4, 1) := by decide +kernel
theorem dX12_nozzle_88 : decode cX12_nozzle 88 = .ok (.invokevirtual 194, 3) := by decide +kernel
theorem dX12_nozzle_91 : decode cX12_nozzle 91 = .ok (.istore 5, 2) := by decide +kernel
theorem dX12_nozzle_93 : decode cX12_nozzle 93 = .ok (.iload_n 3, 1) := by decide +kernel
theorem dX12_nozzle_94 : decode cX12_nozzle 94 = .ok (.iconst 2, 1) := by decide +kernel
theorem dX12_nozzle_95 : decode cX12_nozzle 95 = .ok (.if_icmp .ne 22, 3) := by decide +kernel
theorem dX12_nozzle_98 : decode cX12_nozzle 98 = .ok (.iload 5, 2) := by decide +kernel
theorem dX12_nozzle_100 : decode cX12_nozzle 100 = .ok (.iconst (-1), 1) := by decide +kernel
theorem dX12_nozzle_101 : decode cX12_nozzle 101 = .ok (.if_icmp .eq 16, 3) := by decide +kernel
theorem dX12_nozzle_104 : decode cX12_nozzle 104 = .ok (.iload_n 2, 1) := by decide +kernel
theorem dX12_nozzle_105 : decode cX12_nozzle 105 = .ok (.iload 5, 2) := by decide +kernel
theorem dX12_nozzle_107 : decode cX12_nozzle 107 = .ok (.if_icmp .le 10, 3) := by decide +kernel
theorem dX12_nozzle_110 : decode cX12_nozzle 110 = .ok (.aload_n 0, 1) := by decide +kernel
theorem dX12_nozzle_111 : decode cX12_nozzle 111 = .ok (.bipush (-3), 2) := by decide +kernel
theorem dX12_nozzle_113 : decode cX12_nozzle 113 = .ok (.invokevirtual 154, 3) := by decide +kernel
theorem dX12_nozzle_116 : decode cX12_nozzle 116 = .ok (.ireturn, 1) := by decide +kernel
theorem dX12_nozzle_117 : decode cX12_nozzle 117 = .ok (.aload_n 0, 1) := by decide +kernel
theorem dX12_nozzle_118 : decode cX12_nozzle 118 = .ok (.getfield 149, 3) := by decide +kernel
theorem dX12_nozzle_121 : decode cX12_nozzle 121 = .ok (.bipush 80, 2) := by decide +kernel
theorem dX12_nozzle_123 : decode cX12_nozzle 123 = .ok (.if_icmp .ne 10, 3) := by decide +kernel
theorem dX12_nozzle_126 : decode cX12_nozzle 126 = .ok (.aload_n 0, 1) := by decide +kernel
theorem dX12_nozzle_127 : decode cX12_nozzle 127 = .ok (.bipush (-5), 2) := by decide +kernel
theorem dX12_nozzle_129 : decode cX12_nozzle 129 = .ok (.invokevirtual 154, 3) := by decide +kernel
theorem dX12_nozzle_132 : decode cX12_nozzle 132 = .ok (.ireturn, 1) := by decide +kernel
theorem dX12_nozzle_133 : decode cX12_nozzle 133 = .ok (.aload_n 0, 1) := by decide +kernel
theorem dX12_nozzle_134 : decode cX12_nozzle 134 = .ok (.getfield 40, 3) := by decide +kernel
theorem dX12_nozzle_137 : decode cX12_nozzle 137 = .ok (.aload_n 0, 1) := by decide +kernel
theorem dX12_nozzle_138 : decode cX12_nozzle 138 = .ok (.getfield 149, 3) := by decide +kernel
theorem dX12_nozzle_141 : decode cX12_nozzle 141 = .ok (.iload_n 1, 1) := by decide +kernel
theorem dX12_nozzle_142 : decode cX12_nozzle 142 = .ok (.iastore, 1) := by decide +kernel
theorem dX12_nozzle_143 : decode cX12_nozzle 143 = .ok (.aload_n 0, 1) := by decide +kernel
theorem dX12_nozzle_144 : decode cX12_nozzle 144 = .ok (.getfield 43, 3) := by decide +kernel
theorem dX12_nozzle_147 : decode cX12_nozzle 147 = .ok (.aload_n 0, 1) := by decide +kernel
theorem dX12_nozzle_148 : decode cX12_nozzle 148 = .ok (.getfield 149, 3) := by decide +kernel
theorem dX12_nozzle_151 : decode cX12_nozzle 151 = .ok (.iload_n 2, 1) := by decide +kernel
theorem dX12_nozzle_152 : decode cX12_nozzle 152 = .ok (.iastore, 1) := by decide +kernel
theorem dX12_nozzle_153 : decode cX12_nozzle 153 = .ok (.aload_n 0, 1) := by decide +kernel
theorem dX12_nozzle_154 : decode cX12_nozzle 154 = .ok (.getfield 46, 3) := by decide +kernel
theorem dX12_nozzle_157 : decode cX12_nozzle 157 = .ok (.aload_n 0, 1) := by decide +kernel
theorem dX12_nozzle_158 : decode cX12_nozzle 158 = .ok (.getfield 149, 3) := by decide +kernel
theorem dX12_nozzle_161 : decode cX12_nozzle 161 = .ok (.iload_n 3, 1) := by decide +kernel
theorem dX12_nozzle_162 : decode cX12_nozzle 162 = .ok (.iastore, 1) := by decide +kernel
theorem dX12_nozzle_163 : decode cX12_nozzle 163 = .ok (.aload_n 0, 1) := by decide +kernel
theorem dX12_nozzle_164 : decode cX12_nozzle 164 = .ok (.getfield 49, 3) := by decide +kernel
theorem dX12_nozzle_167 : decode cX12_nozzle 167 = .ok (.aload_n 0, 1) := by decide +kernel
theorem dX12_nozzle_168 : decode cX12_nozzle 168 = .ok (.getfield 149, 3) := by decide +kernel
theorem dX12_nozzle_171 : decode cX12_nozzle 171 = .ok (.iload 4, 2) := by decide +kernel
theorem dX12_nozzle_173 : decode cX12_nozzle 173 = .ok (.iastore, 1) := by decide +kernel
theorem dX12_nozzle_174 : decode cX12_nozzle 174 = .ok (.aload_n 0, 1) := by decide +kernel
theorem dX12_nozzle_175 : decode cX12_nozzle 175 = .ok (.getfield 52, 3) := by decide +kernel
theorem dX12_nozzle_178 : decode cX12_nozzle 178 = .ok (.aload_n 0, 1) := by decide +kernel
theorem dX12_nozzle_179 : decode cX12_nozzle 179 = .ok (.getfield 149, 3) := by decide +kernel
theorem dX12_nozzle_182 : decode cX12_nozzle 182 = .ok (.aload_n 0, 1) := by decide +kernel
theorem dX12_nozzle_183 : decode cX12_nozzle 183 = .ok (.getfield 191, 3) := by decide +kernel
theorem dX12_nozzle_186 : decode cX12_nozzle 186 = .ok (.iastore, 1) := by decide +kernel
theorem dX12_nozzle_187 : decode cX12_nozzle 187 = .ok (.aload_n 0, 1) := by decide +kernel
theorem dX12_nozzle_188 : decode cX12_nozzle 188 = .ok (.getfield 55, 3) := by decide +kernel
theorem dX12_nozzle_191 : decode cX12_nozzle 191 = .ok (.aload_n 0, 1) := by decide +kernel
theorem dX12_nozzle_192 : decode cX12_nozzle 192 = .ok (.getfield 149, 3) := by decide +kernel
theorem dX12_nozzle_195 : decode cX12_nozzle 195 = .ok (.sipush 1000, 3) := by decide +kernel
theorem dX12_nozzle_198 : decode cX12_nozzle 198 = .ok (.iastore, 1) := by decide +kernel
theorem dX12_nozzle_199 : decode cX12_nozzle 199 = .ok (.aload_n 0, 1) := by decide +kernel
theorem dX12_nozzle_200 : decode cX12_nozzle 200 = .ok (.dup, 1) := by decide +kernel
theorem dX12_nozzle_201 : decode cX12_nozzle 201 = .ok (.getfield 149, 3) := by decide +kernel
theorem dX12_nozzle_204 : decode cX12_nozzle 204 = .ok (.iconst 1, 1) := by decide +kernel
theorem dX12_nozzle_205 : decode cX12_nozzle 205 = .ok (.iadd, 1) := by decide +kernel
theorem dX12_nozzle_206 : decode cX12_nozzle 206 = .ok (.putfield 149, 3) := by decide +kernel
theorem dX12_nozzle_209 : decode cX12_nozzle 209 = .ok (.aload_n 0, 1) := by decide +kernel
theorem dX12_nozzle_210 : decode cX12_nozzle 210 = .ok (.aload_n 0, 1) := by decide +kernel
theorem dX12_nozzle_211 : decode cX12_nozzle 211 = .ok (.getfield 149, 3) := by decide +kernel
theorem dX12_nozzle_214 : decode cX12_nozzle 214 = .ok (.iconst 1, 1) := by decide +kernel
theorem dX12_nozzle_215 : decode cX12_nozzle 215 = .ok (.isub, 1) := by decide +kernel
theorem dX12_nozzle_216 : decode cX12_nozzle 216 = .ok (.invokevirtual 154, 3) := by decide +kernel
theorem dX12_nozzle_219 : decode cX12_nozzle 219 = .ok (.ireturn, 1) := by decide +kernel
theorem dX12_shut_0 : decode cX12_shut 0 = .ok (.aload_n 0, 1) := by decide +kernel
theorem dX12_shut_1 : decode cX12_shut 1 = .ok (.iconst 0, 1) := by decide +kernel
theorem dX12_shut_2 : decode cX12_shut 2 = .ok (.putfield 131, 3) := by decide +kernel
theorem dX12_shut_5 : decode cX12_shut 5 = .ok (.aload_n 0, 1) := by decide +kernel
theorem dX12_shut_6 : decode cX12_shut 6 = .ok (.iload_n 1, 1) := by decide +kernel
theorem dX12_shut_7 : decode cX12_shut 7 = .ok (.invokevirtual 197, 3) := by decide +kernel
theorem dX12_shut_10 : decode cX12_shut 10 = .ok (.ifCond .ne 10, 3) := by decide +kernel
theorem dX12_shut_13 : decode cX12_shut 13 = .ok (.aload_n 0, 1) := by decide +kernel
theorem dX12_shut_14 : decode cX12_shut 14 = .ok (.bipush (-2), 2) := by decide +kernel
theorem dX12_shut_16 : decode cX12_shut 16 = .ok (.invokevirtual 154, 3) := by decide +kernel
theorem dX12_shut_19 : decode cX12_shut 19 = .ok (.ireturn, 1) := by decide +kernel
theorem dX12_shut_20 : decode cX12_shut 20 = .ok (.aload_n 0, 1) := by decide +kernel
theorem dX12_shut_21 : decode cX12_shut 21 = .ok (.getfield 55, 3) := by decide +kernel
theorem dX12_shut_24 : decode cX12_shut 24 = .ok (.iload_n 1, 1) := by decide +kernel
theorem dX12_shut_25 : decode cX12_shut 25 = .ok (.aload_n 0, 1) := by decide +kernel
theorem dX12_shut_26 : decode cX12_shut 26 = .ok (.getfield 55, 3) := by decide +kernel
theorem dX12_shut_29 : decode cX12_shut 29 = .ok (.iload_n 1, 1) := by decide +kernel
theorem dX12_shut_30 : decode cX12_shut 30 = .ok (.iaload, 1) := by decide +kernel
theorem dX12_shut_31 : decode cX12_shut 31 = .ok (.sipush 1000, 3) := by decide +kernel
theorem dX12_shut_34 : decode cX12_shut 34 = .ok (.if_icmp .ge 12, 3) := by decide +kernel
theorem dX12_shut_37 : decode cX12_shut 37 = .ok (.aload_n 0, 1) := by decide +kernel
theorem dX12_shut_38 : decode cX12_shut 38 = .ok (.getfield 55, 3) := by decide +kernel
theorem dX12_shut_41 : decode cX12_shut 41 = .ok (.iload_n 1, 1) := by decide +kernel
theorem dX12_shut_42 : decode cX12_shut 42 = .ok (.iaload, 1) := by decide +kernel
theorem dX12_shut_43 : decode cX12_shut 43 = .ok (.goto 7, 3) := by decide +kernel
theorem dX12_shut_46 : decode cX12_shut 46 = .ok (.aload_n 0, 1) := by decide +kernel
theorem dX12_shut_47 : decode cX12_shut 47 = .ok (.getfield 191, 3) := by decide +kernel
theorem dX12_shut_50 : decode cX12_shut 50 = .ok (.iastore, 1) := by decide +kernel
theorem dX12_shut_51 : decode cX12_shut 51 = .ok (.aload_n 0, 1) := by decide +kernel
theorem dX12_shut_52 : decode cX12_shut 52 = .ok (.iconst 0, 1) := by decide +kernel
theorem dX12_shut_53 : decode cX12_shut 53 = .ok (.invokevirtual 154, 3) := by decide +kernel
theorem dX12_shut_56 : decode cX12_shut 56 = .ok (.ireturn, 1) := by decide +kernel
theorem dX12_tap_0 : decode cX12_tap 0 = .ok (.aload_n 0, 1) := by decide +kernel
theorem dX12_tap_1 : decode cX12_tap 1 = .ok (.iconst 0, 1) := by decide +kernel
theorem dX12_tap_2 : decode cX12_tap 2 = .ok (.putfield 131, 3) := by decide +kernel
theorem dX12_tap_5 : decode cX12_tap 5 = .ok (.iload_n 2, 1) := by decide +kernel
theorem dX12_tap_6 : decode cX12_tap 6 = .ok (.i2l, 1) := by decide +kernel
theorem dX12_tap_7 : decode cX12_tap 7 = .ok (.lconst 1, 1) := by decide +kernel
theorem dX12_tap_8 : decode cX12_tap 8 = .ok (.ldc2_w 200, 3) := by decide +kernel
theorem dX12_tap_11 : decode cX12_tap 11 = .ok (.invokestatic 139, 3) := by decide +kernel
theorem dX12_tap_14 : decode cX12_tap 14 = .ok (.ifCond .eq 24, 3) := by decide +kernel
theorem dX12_tap_17 : decode cX12_tap 17 = .ok (.iload_n 3, 1) := by decide +kernel
theorem dX12_tap_18 : decode cX12_tap 18 = .ok (.invokestatic 161, 3) := by decide +kernel
theorem dX12_tap_21 : decode cX12_tap 21 = .ok (.ifCond .eq 17, 3) := by decide +kernel
theorem dX12_tap_24 : decode cX12_tap 24 = .ok (.iload 4, 2) := by decide +kernel
theorem dX12_tap_26 : decode cX12_tap 26 = .ok (.invokestatic 161, 3) := by decide +kernel
theorem dX12_tap_29 : decode cX12_tap 29 = .ok (.ifCond .eq 9, 3) := by decide +kernel
theorem dX12_tap_32 : decode cX12_tap 32 = .ok (.iload_n 3, 1) := by decide +kernel
theorem dX12_tap_33 : decode cX12_tap 33 = .ok (.iload 4, 2) := by decide +kernel
theorem dX12_tap_35 : decode cX12_tap 35 = .ok (.if_icmp .le 9, 3) := by decide +kernel
theorem dX12_tap_38 : decode cX12_tap 38 = .ok (.aload_n 0, 1) := by decide +kernel
theorem dX12_tap_39 : decode cX12_tap 39 = .ok (.iconst (-1), 1) := by decide +kernel
theorem dX12_tap_40 : decode cX12_tap 40 = .ok (.invokevirtual 154, 3) := by decide +kernel
theorem dX12_tap_43 : decode cX12_tap 43 = .ok (.ireturn, 1) := by decide +kernel
theorem dX12_tap_44 : decode cX12_tap 44 = .ok (.aload_n 0, 1) := by decide +kernel
theorem dX12_tap_45 : decode cX12_tap 45 = .ok (.iload_n 1, 1) := by decide +kernel
theorem dX12_tap_46 : decode cX12_tap 46 = .ok (.invokevirtual 188, 3) := by decide +kernel
theorem dX12_tap_49 : decode cX12_tap 49 = .ok (.ifCond .ne 10, 3) := by decide +kernel
theorem dX12_tap_52 : decode cX12_tap 52 = .ok (.aload_n 0, 1) := by decide +kernel
theorem dX12_tap_53 : decode cX12_tap 53 = .ok (.bipush (-2), 2) := by decide +kernel
theorem dX12_tap_55 : decode cX12_tap 55 = .ok (.invokevirtual 154, 3) := by decide +kernel
theorem dX12_tap_58 : decode cX12_tap 58 = .ok (.ireturn, 1) := by decide +kernel
theorem dX12_tap_59 : decode cX12_tap 59 = .ok (.aload_n 0, 1) := by decide +kernel
theorem dX12_tap_60 : decode cX12_tap 60 = .ok (.getfield 202, 3) := by decide +kernel
theorem dX12_tap_63 : decode cX12_tap 63 = .ok (.bipush 60, 2) := by decide +kernel
theorem dX12_tap_65 : decode cX12_tap 65 = .ok (.if_icmp .ne 10, 3) := by decide +kernel
theorem dX12_tap_68 : decode cX12_tap 68 = .ok (.aload_n 0, 1) := by decide +kernel
theorem dX12_tap_69 : decode cX12_tap 69 = .ok (.bipush (-5), 2) := by decide +kernel
theorem dX12_tap_71 : decode cX12_tap 71 = .ok (.invokevirtual 154, 3) := by decide +kernel
theorem dX12_tap_74 : decode cX12_tap 74 = .ok (.ireturn, 1) := by decide +kernel
theorem dX12_tap_75 : decode cX12_tap 75 = .ok (.aload_n 0, 1) := by decide +kernel
theorem dX12_tap_76 : decode cX12_tap 76 = .ok (.getfield 58, 3) := by decide +kernel
theorem dX12_tap_79 : decode cX12_tap 79 = .ok (.aload_n 0, 1) := by decide +kernel
theorem dX12_tap_80 : decode cX12_tap 80 = .ok (.getfield 202, 3) := by decide +kernel
theorem dX12_tap_83 : decode cX12_tap 83 = .ok (.iload_n 1, 1) := by decide +kernel
theorem dX12_tap_84 : decode cX12_tap 84 = .ok (.iastore, 1) := by decide +kernel
theorem dX12_tap_85 : decode cX12_tap 85 = .ok (.aload_n 0, 1) := by decide +kernel
theorem dX12_tap_86 : decode cX12_tap 86 = .ok (.getfield 61, 3) := by decide +kernel
theorem dX12_tap_89 : decode cX12_tap 89 = .ok (.aload_n 0, 1) := by decide +kernel
theorem dX12_tap_90 : decode cX12_tap 90 = .ok (.getfield 202, 3) := by decide +kernel
theorem dX12_tap_93 : decode cX12_tap 93 = .ok (.iload_n 2, 1) := by decide +kernel
theorem dX12_tap_94 : decode cX12_tap 94 = .ok (.iastore, 1) := by decide +kernel
theorem dX12_tap_95 : decode cX12_tap 95 = .ok (.aload_n 0, 1) := by decide +kernel
theorem dX12_tap_96 : decode cX12_tap 96 = .ok (.getfield 64, 3) := by decide +kernel
theorem dX12_tap_99 : decode cX12_tap 99 = .ok (.aload_n 0, 1) := by decide +kernel
theorem dX12_tap_100 : decode cX12_tap 100 = .ok (.getfield 202, 3) := by decide +kernel
theorem dX12_tap_103 : decode cX12_tap 103 = .ok (.iload_n 3, 1) := by decide +kernel
theorem dX12_tap_104 : decode cX12_tap 104 = .ok (.iastore, 1) := by decide +kernel
theorem dX12_tap_105 : decode cX12_tap 105 = .ok (.aload_n 0, 1) := by decide +kernel
theorem dX12_tap_106 : decode cX12_tap 106 = .ok (.getfield 67, 3) := by decide +kernel
theorem dX12_tap_109 : decode cX12_tap 109 = .ok (.aload_n 0, 1) := by decide +kernel
theorem dX12_tap_110 : decode cX12_tap 110 = .ok (.getfield 202, 3) := by decide +kernel
theorem dX12_tap_113 : decode cX12_tap 113 = .ok (.iload 4, 2) := by decide +kernel
theorem dX12_tap_115 : decode cX12_tap 115 = .ok (.iastore, 1) := by decide +kernel
theorem dX12_tap_116 : decode cX12_tap 116 = .ok (.aload_n 0, 1) := by decide +kernel
theorem dX12_tap_117 : decode cX12_tap 117 = .ok (.dup, 1) := by decide +kernel
theorem dX12_tap_118 : decode cX12_tap 118 = .ok (.getfield 202, 3) := by decide +kernel
theorem dX12_tap_121 : decode cX12_tap 121 = .ok (.iconst 1, 1) := by decide +kernel
theorem dX12_tap_122 : decode cX12_tap 122 = .ok (.iadd, 1) := by decide +kernel
theorem dX12_tap_123 : decode cX12_tap 123 = .ok (.putfield 202, 3) := by decide +kernel
theorem dX12_tap_126 : decode cX12_tap 126 = .ok (.aload_n 0, 1) := by decide +kernel
theorem dX12_tap_127 : decode cX12_tap 127 = .ok (.aload_n 0, 1) := by decide +kernel
theorem dX12_tap_128 : decode cX12_tap 128 = .ok (.getfield 202, 3) := by decide +kernel
theorem dX12_tap_131 : decode cX12_tap 131 = .ok (.invokevirtual 154, 3) := by decide +kernel
theorem dX12_tap_134 : decode cX12_tap 134 = .ok (.ireturn, 1) := by decide +kernel
theorem dX12_repair_0 : decode cX12_repair 0 = .ok (.aload_n 0, 1) := by decide +kernel
theorem dX12_repair_1 : decode cX12_repair 1 = .ok (.iconst 0, 1) := by decide +kernel
theorem dX12_repair_2 : decode cX12_repair 2 = .ok (.putfield 131, 3) := by decide +kernel
theorem dX12_repair_5 : decode cX12_repair 5 = .ok (.iload_n 2, 1) := by decide +kernel
theorem dX12_repair_6 : decode cX12_repair 6 = .ok (.invokestatic 161, 3) := by decide +kernel
theorem dX12_repair_9 : decode cX12_repair 9 = .ok (.ifCond .eq 15, 3) := by decide +kernel
theorem dX12_repair_12 : decode cX12_repair 12 = .ok (.iload_n 3, 1) := by decide +kernel
theorem dX12_repair_13 : decode cX12_repair 13 = .ok (.invokestatic 161, 3) := by decide +kernel
theorem dX12_repair_16 : decode cX12_repair 16 = .ok (.ifCond .eq 8, 3) := by decide +kernel
theorem dX12_repair_19 : decode cX12_repair 19 = .ok (.iload_n 2, 1) := by decide +kernel
theorem dX12_repair_20 : decode cX12_repair 20 = .ok (.iload_n 3, 1) := by decide +kernel
theorem dX12_repair_21 : decode cX12_repair 21 = .ok (.if_icmp .le 9, 3) := by decide +kernel
theorem dX12_repair_24 : decode cX12_repair 24 = .ok (.aload_n 0, 1) := by decide +kernel
theorem dX12_repair_25 : decode cX12_repair 25 = .ok (.iconst (-1), 1) := by decide +kernel
theorem dX12_repair_26 : decode cX12_repair 26 = .ok (.invokevirtual 154, 3) := by decide +kernel
theorem dX12_repair_29 : decode cX12_repair 29 = .ok (.ireturn, 1) := by decide +kernel
theorem dX12_repair_30 : decode cX12_repair 30 = .ok (.aload_n 0, 1) := by decide +kernel
theorem dX12_repair_31 : decode cX12_repair 31 = .ok (.iload_n 1, 1) := by decide +kernel
theorem dX12_repair_32 : decode cX12_repair 32 = .ok (.invokevirtual 188, 3) := by decide +kernel
theorem dX12_repair_35 : decode cX12_repair 35 = .ok (.ifCond .ne 10, 3) := by decide +kernel
theorem dX12_repair_38 : decode cX12_repair 38 = .ok (.aload_n 0, 1) := by decide +kernel
theorem dX12_repair_39 : decode cX12_repair 39 = .ok (.bipush (-2), 2) := by decide +kernel
theorem dX12_repair_41 : decode cX12_repair 41 = .ok (.invokevirtual 154, 3) := by decide +kernel
theorem dX12_repair_44 : decode cX12_repair 44 = .ok (.ireturn, 1) := by decide +kernel
theorem dX12_repair_45 : decode cX12_repair 45 = .ok (.aload_n 0, 1) := by decide +kernel
theorem dX12_repair_46 : decode cX12_repair 46 = .ok (.getfield 205, 3) := by decide +kernel
theorem dX12_repair_49 : decode cX12_repair 49 = .ok (.bipush 40, 2) := by decide +kernel
theorem dX12_repair_51 : decode cX12_repair 51 = .ok (.if_icmp .ne 10, 3) := by decide +kernel
theorem dX12_repair_54 : decode cX12_repair 54 = .ok (.aload_n 0, 1) := by decide +kernel
theorem dX12_repair_55 : decode cX12_repair 55 = .ok (.bipush (-5), 2) := by decide +kernel
theorem dX12_repair_57 : decode cX12_repair 57 = .ok (.invokevirtual 154, 3) := by decide +kernel
theorem dX12_repair_60 : decode cX12_repair 60 = .ok (.ireturn, 1) := by decide +kernel
theorem dX12_repair_61 : decode cX12_repair 61 = .ok (.aload_n 0, 1) := by decide +kernel
theorem dX12_repair_62 : decode cX12_repair 62 = .ok (.getfield 70, 3) := by decide +kernel
theorem dX12_repair_65 : decode cX12_repair 65 = .ok (.aload_n 0, 1) := by decide +kernel
theorem dX12_repair_66 : decode cX12_repair 66 = .ok (.getfield 205, 3) := by decide +kernel
theorem dX12_repair_69 : decode cX12_repair 69 = .ok (.iload_n 1, 1) := by decide +kernel
theorem dX12_repair_70 : decode cX12_repair 70 = .ok (.iastore, 1) := by decide +kernel
theorem dX12_repair_71 : decode cX12_repair 71 = .ok (.aload_n 0, 1) := by decide +kernel
theorem dX12_repair_72 : decode cX12_repair 72 = .ok (.getfield 73, 3) := by decide +kernel
theorem dX12_repair_75 : decode cX12_repair 75 = .ok (.aload_n 0, 1) := by decide +kernel
theorem dX12_repair_76 : decode cX12_repair 76 = .ok (.getfield 205, 3) := by decide +kernel
theorem dX12_repair_79 : decode cX12_repair 79 = .ok (.iload_n 2, 1) := by decide +kernel
theorem dX12_repair_80 : decode cX12_repair 80 = .ok (.iastore, 1) := by decide +kernel
theorem dX12_repair_81 : decode cX12_repair 81 = .ok (.aload_n 0, 1) := by decide +kernel
theorem dX12_repair_82 : decode cX12_repair 82 = .ok (.getfield 76, 3) := by decide +kernel
theorem dX12_repair_85 : decode cX12_repair 85 = .ok (.aload_n 0, 1) := by decide +kernel
theorem dX12_repair_86 : decode cX12_repair 86 = .ok (.getfield 205, 3) := by decide +kernel
theorem dX12_repair_89 : decode cX12_repair 89 = .ok (.iload_n 3, 1) := by decide +kernel
theorem dX12_repair_90 : decode cX12_repair 90 = .ok (.iastore, 1) := by decide +kernel
theorem dX12_repair_91 : decode cX12_repair 91 = .ok (.aload_n 0, 1) := by decide +kernel
theorem dX12_repair_92 : decode cX12_repair 92 = .ok (.dup, 1) := by decide +kernel
theorem dX12_repair_93 : decode cX12_repair 93 = .ok (.getfield 205, 3) := by decide +kernel
theorem dX12_repair_96 : decode cX12_repair 96 = .ok (.iconst 1, 1) := by decide +kernel
theorem dX12_repair_97 : decode cX12_repair 97 = .ok (.iadd, 1) := by decide +kernel
theorem dX12_repair_98 : decode cX12_repair 98 = .ok (.putfield 205, 3) := by decide +kernel
theorem dX12_repair_101 : decode cX12_repair 101 = .ok (.aload_n 0, 1) := by decide +kernel
theorem dX12_repair_102 : decode cX12_repair 102 = .ok (.aload_n 0, 1) := by decide +kernel
theorem dX12_repair_103 : decode cX12_repair 103 = .ok (.getfield 205, 3) := by decide +kernel
theorem dX12_repair_106 : decode cX12_repair 106 = .ok (.invokevirtual 154, 3) := by decide +kernel
theorem dX12_repair_109 : decode cX12_repair 109 = .ok (.ireturn, 1) := by decide +kernel
theorem dX12_go_0 : decode cX12_go 0 = .ok (.aload_n 0, 1) := by decide +kernel
theorem dX12_go_1 : decode cX12_go 1 = .ok (.iconst 0, 1) := by decide +kernel
theorem dX12_go_2 : decode cX12_go 2 = .ok (.putfield 131, 3) := by decide +kernel
theorem dX12_go_5 : decode cX12_go 5 = .ok (.iload_n 1, 1) := by decide +kernel
theorem dX12_go_6 : decode cX12_go 6 = .ok (.i2l, 1) := by decide +kernel
theorem dX12_go_7 : decode cX12_go 7 = .ok (.lconst 1, 1) := by decide +kernel
theorem dX12_go_8 : decode cX12_go 8 = .ok (.ldc2_w 208, 3) := by decide +kernel
theorem dX12_go_11 : decode cX12_go 11 = .ok (.invokestatic 139, 3) := by decide +kernel
theorem dX12_go_14 : decode cX12_go 14 = .ok (.ifCond .eq 15, 3) := by decide +kernel
theorem dX12_go_17 : decode cX12_go 17 = .ok (.aload_n 0, 1) := by decide +kernel
theorem dX12_go_18 : decode cX12_go 18 = .ok (.getfield 191, 3) := by decide +kernel
theorem dX12_go_21 : decode cX12_go 21 = .ok (.iload_n 1, 1) := by decide +kernel
theorem dX12_go_22 : decode cX12_go 22 = .ok (.iadd, 1) := by decide +kernel
theorem dX12_go_23 : decode cX12_go 23 = .ok (.sipush 200, 3) := by decide +kernel
theorem dX12_go_26 : decode cX12_go 26 = .ok (.if_icmp .le 9, 3) := by decide +kernel
theorem dX12_go_29 : decode cX12_go 29 = .ok (.aload_n 0, 1) := by decide +kernel
theorem dX12_go_30 : decode cX12_go 30 = .ok (.iconst (-1), 1) := by decide +kernel
theorem dX12_go_31 : decode cX12_go 31 = .ok (.invokevirtual 154, 3) := by decide +kernel
theorem dX12_go_34 : decode cX12_go 34 = .ok (.ireturn, 1) := by decide +kernel
theorem dX12_go_35 : decode cX12_go 35 = .ok (.aload_n 0, 1) := by decide +kernel
theorem dX12_go_36 : decode cX12_go 36 = .ok (.dup, 1) := by decide +kernel
theorem dX12_go_37 : decode cX12_go 37 = .ok (.getfield 191, 3) := by decide +kernel
theorem dX12_go_40 : decode cX12_go 40 = .ok (.iload_n 1, 1) := by decide +kernel
theorem dX12_go_41 : decode cX12_go 41 = .ok (.iadd, 1) := by decide +kernel
theorem dX12_go_42 : decode cX12_go 42 = .ok (.putfield 191, 3) := by decide +kernel
theorem dX12_go_45 : decode cX12_go 45 = .ok (.aload_n 0, 1) := by decide +kernel
theorem dX12_go_46 : decode cX12_go 46 = .ok (.aload_n 0, 1) := by decide +kernel
theorem dX12_go_47 : decode cX12_go 47 = .ok (.getfield 191, 3) := by decide +kernel
theorem dX12_go_50 : decode cX12_go 50 = .ok (.invokevirtual 154, 3) := by decide +kernel
theorem dX12_go_53 : decode cX12_go 53 = .ok (.ireturn, 1) := by decide +kernel
theorem dX12_lawOf_0 : decode cX12_lawOf 0 = .ok (.iload_n 2, 1) := by decide +kernel
theorem dX12_lawOf_1 : decode cX12_lawOf 1 = .ok (.iconst 4, 1) := by decide +kernel
theorem dX12_lawOf_2 : decode cX12_lawOf 2 = .ok (.if_icmp .ne 7, 3) := by decide +kernel
theorem dX12_lawOf_5 : decode cX12_lawOf 5 = .ok (.iconst (-1), 1) := by decide +kernel
theorem dX12_lawOf_6 : decode cX12_lawOf 6 = .ok (.goto 4, 3) := by decide +kernel
theorem dX12_lawOf_9 : decode cX12_lawOf 9 = .ok (.iconst 0, 1) := by decide +kernel
theorem dX12_lawOf_10 : decode cX12_lawOf 10 = .ok (.istore_n 3, 1) := by decide +kernel
theorem dX12_lawOf_11 : decode cX12_lawOf 11 = .ok (.iconst 0, 1) := by decide +kernel
theorem dX12_lawOf_12 : decode cX12_lawOf 12 = .ok (.istore 4, 2) := by decide +kernel
theorem dX12_lawOf_14 : decode cX12_lawOf 14 = .ok (.iload 4, 2) := by decide +kernel
theorem dX12_lawOf_16 : decode cX12_lawOf 16 = .ok (.aload_n 0, 1) := by decide +kernel
theorem dX12_lawOf_17 : decode cX12_lawOf 17 = .ok (.getfield 210, 3) := by decide +kernel
theorem dX12_lawOf_20 : decode cX12_lawOf 20 = .ok (.if_icmp .ge 56, 3) := by decide +kernel
theorem dX12_lawOf_23 : decode cX12_lawOf 23 = .ok (.aload_n 0, 1) := by decide +kernel
theorem dX12_lawOf_24 : decode cX12_lawOf 24 = .ok (.getfield 79, 3) := by decide +kernel
theorem dX12_lawOf_27 : decode cX12_lawOf 27 = .ok (.iload 4, 2) := by decide +kernel
theorem dX12_lawOf_29 : decode cX12_lawOf 29 = .ok (.iaload, 1) := by decide +kernel
theorem dX12_lawOf_30 : decode cX12_lawOf 30 = .ok (.iload_n 2, 1) := by decide +kernel
theorem dX12_lawOf_31 : decode cX12_lawOf 31 = .ok (.if_icmp .ne 37, 3) := by decide +kernel
theorem dX12_lawOf_34 : decode cX12_lawOf 34 = .ok (.iload_n 1, 1) := by decide +kernel
theorem dX12_lawOf_35 : decode cX12_lawOf 35 = .ok (.i2l, 1) := by decide +kernel
theorem dX12_lawOf_36 : decode cX12_lawOf 36 = .ok (.aload_n 0, 1) := by decide +kernel
theorem dX12_lawOf_37 : decode cX12_lawOf 37 = .ok (.getfield 82, 3) := by decide +kernel
theorem dX12_lawOf_40 : decode cX12_lawOf 40 = .ok (.iload 4, 2) := by decide +kernel
theorem dX12_lawOf_42 : decode cX12_lawOf 42 = .ok (.iaload, 1) := by decide +kernel
theorem dX12_lawOf_43 : decode cX12_lawOf 43 = .ok (.i2l, 1) := by decide +kernel
theorem dX12_lawOf_44 : decode cX12_lawOf 44 = .ok (.aload_n 0, 1) := by decide +kernel
theorem dX12_lawOf_45 : decode cX12_lawOf 45 = .ok (.getfield 85, 3) := by decide +kernel
theorem dX12_lawOf_48 : decode cX12_lawOf 48 = .ok (.iload 4, 2) := by decide +kernel
theorem dX12_lawOf_50 : decode cX12_lawOf 50 = .ok (.iaload, 1) := by decide +kernel
theorem dX12_lawOf_51 : decode cX12_lawOf 51 = .ok (.i2l, 1) := by decide +kernel
theorem dX12_lawOf_52 : decode cX12_lawOf 52 = .ok (.invokestatic 139, 3) := by decide +kernel
theorem dX12_lawOf_55 : decode cX12_lawOf 55 = .ok (.ifCond .eq 13, 3) := by decide +kernel
theorem dX12_lawOf_58 : decode cX12_lawOf 58 = .ok (.aload_n 0, 1) := by decide +kernel
theorem dX12_lawOf_59 : decode cX12_lawOf 59 = .ok (.getfield 88, 3) := by decide +kernel
theorem dX12_lawOf_62 : decode cX12_lawOf 62 = .ok (.iload 4, 2) := by decide +kernel
theorem dX12_lawOf_64 : decode cX12_lawOf 64 = .ok (.iaload, 1) := by decide +kernel
theorem dX12_lawOf_65 : decode cX12_lawOf 65 = .ok (.goto 4, 3) := by decide +kernel
theorem dX12_lawOf_68 : decode cX12_lawOf 68 = .ok (.iload_n 3, 1) := by decide +kernel
theorem dX12_lawOf_69 : decode cX12_lawOf 69 = .ok (.istore_n 3, 1) := by decide +kernel
theorem dX12_lawOf_70 : decode cX12_lawOf 70 = .ok (.iinc 4 1, 3) := by decide +kernel
theorem dX12_lawOf_73 : decode cX12_lawOf 73 = .ok (.goto (-59), 3) := by decide +kernel
theorem dX12_lawOf_76 : decode cX12_lawOf 76 = .ok (.iload_n 3, 1) := by decide +kernel
theorem dX12_lawOf_77 : decode cX12_lawOf 77 = .ok (.ireturn, 1) := by decide +kernel
theorem dX12_isClosed_0 : decode cX12_isClosed 0 = .ok (.iconst 0, 1) := by decide +kernel
theorem dX12_isClosed_1 : decode cX12_isClosed 1 = .ok (.istore_n 3, 1) := by decide +kernel
theorem dX12_isClosed_2 : decode cX12_isClosed 2 = .ok (.iconst 0, 1) := by decide +kernel
theorem dX12_isClosed_3 : decode cX12_isClosed 3 = .ok (.istore 4, 2) := by decide +kernel
theorem dX12_isClosed_5 : decode cX12_isClosed 5 = .ok (.iload 4, 2) := by decide +kernel
theorem dX12_isClosed_7 : decode cX12_isClosed 7 = .ok (.aload_n 0, 1) := by decide +kernel
theorem dX12_isClosed_8 : decode cX12_isClosed 8 = .ok (.getfield 210, 3) := by decide +kernel
theorem dX12_isClosed_11 : decode cX12_isClosed 11 = .ok (.if_icmp .ge 65, 3) := by decide +kernel
theorem dX12_isClosed_14 : decode cX12_isClosed 14 = .ok (.iload_n 3, 1) := by decide +kernel
theorem dX12_isClosed_15 : decode cX12_isClosed 15 = .ok (.ifCond .ne 49, 3) := by decide +kernel
theorem dX12_isClosed_18 : decode cX12_isClosed 18 = .ok (.aload_n 0, 1) := by decide +kernel
theorem dX12_isClosed_19 : decode cX12_isClosed 19 = .ok (.getfield 79, 3) := by decide +kernel
theorem dX12_isClosed_22 : decode cX12_isClosed 22 = .ok (.iload 4, 2) := by decide +kernel
theorem dX12_isClosed_24 : decode cX12_isClosed 24 = .ok (.iaload, 1) := by decide +kernel
theorem dX12_isClosed_25 : decode cX12_isClosed 25 = .ok (.iconst 5, 1) := by decide +kernel
theorem dX12_isClosed_26 : decode cX12_isClosed 26 = .ok (.if_icmp .ne 42, 3) := by decide +kernel
theorem dX12_isClosed_29 : decode cX12_isClosed 29 = .ok (.aload_n 0, 1) := by decide +kernel
theorem dX12_isClosed_30 : decode cX12_isClosed 30 = .ok (.getfield 88, 3) := by decide +kernel
theorem dX12_isClosed_33 : decode cX12_isClosed 33 = .ok (.iload 4, 2) := by decide +kernel
theorem dX12_isClosed_35 : decode cX12_isClosed 35 = .ok (.iaload, 1) := by decide +kernel
theorem dX12_isClosed_36 : decode cX12_isClosed 36 = .ok (.iload_n 2, 1) := by decide +kernel
theorem dX12_isClosed_37 : decode cX12_isClosed 37 = .ok (.if_icmp .ne 31, 3) := by decide +kernel
theorem dX12_isClosed_40 : decode cX12_isClosed 40 = .ok (.iload_n 1, 1) := by decide +kernel
theorem dX12_isClosed_41 : decode cX12_isClosed 41 = .ok (.i2l, 1) := by decide +kernel
theorem dX12_isClosed_42 : decode cX12_isClosed 42 = .ok (.aload_n 0, 1) := by decide +kernel
theorem dX12_isClosed_43 : decode cX12_isClosed 43 = .ok (.getfield 82, 3) := by decide +kernel
theorem dX12_isClosed_46 : decode cX12_isClosed 46 = .ok (.iload 4, 2) := by decide +kernel
theorem dX12_isClosed_48 : decode cX12_isClosed 48 = .ok (.iaload, 1) := by decide +kernel
theorem dX12_isClosed_49 : decode cX12_isClosed 49 = .ok (.i2l, 1) := by decide +kernel
theorem dX12_isClosed_50 : decode cX12_isClosed 50 = .ok (.aload_n 0, 1) := by decide +kernel
theorem dX12_isClosed_51 : decode cX12_isClosed 51 = .ok (.getfield 85, 3) := by decide +kernel
theorem dX12_isClosed_54 : decode cX12_isClosed 54 = .ok (.iload 4, 2) := by decide +kernel
theorem dX12_isClosed_56 : decode cX12_isClosed 56 = .ok (.iaload, 1) := by decide +kernel
theorem dX12_isClosed_57 : decode cX12_isClosed 57 = .ok (.i2l, 1) := by decide +kernel
theorem dX12_isClosed_58 : decode cX12_isClosed 58 = .ok (.invokestatic 139, 3) := by decide +kernel
theorem dX12_isClosed_61 : decode cX12_isClosed 61 = .ok (.ifCond .eq 7, 3) := by decide +kernel
theorem dX12_isClosed_64 : decode cX12_isClosed 64 = .ok (.iconst 1, 1) := by decide +kernel
theorem dX12_isClosed_65 : decode cX12_isClosed 65 = .ok (.goto 4, 3) := by decide +kernel
theorem dX12_isClosed_68 : decode cX12_isClosed 68 = .ok (.iconst 0, 1) := by decide +kernel
theorem dX12_isClosed_69 : decode cX12_isClosed 69 = .ok (.istore_n 3, 1) := by decide +kernel
theorem dX12_isClosed_70 : decode cX12_isClosed 70 = .ok (.iinc 4 1, 3) := by decide +kernel
theorem dX12_isClosed_73 : decode cX12_isClosed 73 = .ok (.goto (-68), 3) := by decide +kernel
theorem dX12_isClosed_76 : decode cX12_isClosed 76 = .ok (.iload_n 3, 1) := by decide +kernel
theorem dX12_isClosed_77 : decode cX12_isClosed 77 = .ok (.ireturn, 1) := by decide +kernel
theorem dX12_law_0 : decode cX12_law 0 = .ok (.aload_n 0, 1) := by decide +kernel
theorem dX12_law_1 : decode cX12_law 1 = .ok (.iconst 0, 1) := by decide +kernel
theorem dX12_law_2 : decode cX12_law 2 = .ok (.putfield 131, 3) := by decide +kernel
theorem dX12_law_5 : decode cX12_law 5 = .ok (.iload_n 1, 1) := by decide +kernel
theorem dX12_law_6 : decode cX12_law 6 = .ok (.invokestatic 161, 3) := by decide +kernel
theorem dX12_law_9 : decode cX12_law 9 = .ok (.ifCond .eq 15, 3) := by decide +kernel
theorem dX12_law_12 : decode cX12_law 12 = .ok (.iload_n 2, 1) := by decide +kernel
theorem dX12_law_13 : decode cX12_law 13 = .ok (.i2l, 1) := by decide +kernel
theorem dX12_law_14 : decode cX12_law 14 = .ok (.lconst 0, 1) := by decide +kernel
theorem dX12_law_15 : decode cX12_law 15 = .ok (.ldc2_w 186, 3) := by decide +kernel
theorem dX12_law_18 : decode cX12_law 18 = .ok (.invokestatic 139, 3) := by decide +kernel
theorem dX12_law_21 : decode cX12_law 21 = .ok (.ifCond .ne 5, 3) := by decide +kernel
theorem dX12_law_24 : decode cX12_law 24 = .ok (.iconst (-1), 1) := by decide +kernel
theorem dX12_law_25 : decode cX12_law 25 = .ok (.ireturn, 1) := by decide +kernel
theorem dX12_law_26 : decode cX12_law 26 = .ok (.iload_n 2, 1) := by decide +kernel
theorem dX12_law_27 : decode cX12_law 27 = .ok (.iconst 5, 1) := by decide +kernel
theorem dX12_law_28 : decode cX12_law 28 = .ok (.if_icmp .ge 12, 3) := by decide +kernel
theorem dX12_law_31 : decode cX12_law 31 = .ok (.aload_n 0, 1) := by decide +kernel
theorem dX12_law_32 : decode cX12_law 32 = .ok (.iload_n 1, 1) := by decide +kernel
theorem dX12_law_33 : decode cX12_law 33 = .ok (.iload_n 2, 1) := by decide +kernel
theorem dX12_law_34 : decode cX12_law 34 = .ok (.invokevirtual 194, 3) := by decide +kernel
theorem dX12_law_37 : decode cX12_law 37 = .ok (.goto 19, 3) := by decide +kernel
theorem dX12_law_40 : decode cX12_law 40 = .ok (.aload_n 0, 1) := by decide +kernel
theorem dX12_law_41 : decode cX12_law 41 = .ok (.iload_n 1, 1) := by decide +kernel
theorem dX12_law_42 : decode cX12_law 42 = .ok (.iload_n 2, 1) := by decide +kernel
theorem dX12_law_43 : decode cX12_law 43 = .ok (.iconst 5, 1) := by decide +kernel
theorem dX12_law_44 : decode cX12_law 44 = .ok (.isub, 1) := by decide +kernel
theorem dX12_law_45 : decode cX12_law 45 = .ok (.invokevirtual 213, 3) := by decide +kernel
theorem dX12_law_48 : decode cX12_law 48 = .ok (.ifCond .eq 7, 3) := by decide +kernel
theorem dX12_law_51 : decode cX12_law 51 = .ok (.iconst 1, 1) := by decide +kernel
theorem dX12_law_52 : decode cX12_law 52 = .ok (.goto 4, 3) := by decide +kernel
theorem dX12_law_55 : decode cX12_law 55 = .ok (.iconst 0, 1) := by decide +kernel
theorem dX12_law_56 : decode cX12_law 56 = .ok (.ireturn, 1) := by decide +kernel
theorem dX12_four_0 : decode cX12_four 0 = .ok (.bipush 24, 2) := by decide +kernel
theorem dX12_four_2 : decode cX12_four 2 = .ok (.istore_n 2, 1) := by decide +kernel
theorem dX12_four_3 : decode cX12_four 3 = .ok (.iload_n 2, 1) := by decide +kernel
theorem dX12_four_4 : decode cX12_four 4 = .ok (.ifCond .lt 35, 3) := by decide +kernel
theorem dX12_four_7 : decode cX12_four 7 = .ok (.aload_n 0, 1) := by decide +kernel
theorem dX12_four_8 : decode cX12_four 8 = .ok (.getfield 94, 3) := by decide +kernel
theorem dX12_four_11 : decode cX12_four 11 = .ok (.aload_n 0, 1) := by decide +kernel
theorem dX12_four_12 : decode cX12_four 12 = .ok (.getfield 217, 3) := by decide +kernel
theorem dX12_four_15 : decode cX12_four 15 = .ok (.iload_n 1, 1) := by decide +kernel
theorem dX12_four_16 : decode cX12_four 16 = .ok (.iload_n 2, 1) := by decide +kernel
theorem dX12_four_17 : decode cX12_four 17 = .ok (.ishr, 1) := by decide +kernel
theorem dX12_four_18 : decode cX12_four 18 = .ok (.sipush 255, 3) := by decide +kernel
theorem dX12_four_21 : decode cX12_four 21 = .ok (.iand, 1) := by decide +kernel
theorem dX12_four_22 : decode cX12_four 22 = .ok (.iastore, 1) := by decide +kernel
theorem dX12_four_23 : decode cX12_four 23 = .ok (.aload_n 0, 1) := by decide +kernel
theorem dX12_four_24 : decode cX12_four 24 = .ok (.dup, 1) := by decide +kernel
theorem dX12_four_25 : decode cX12_four 25 = .ok (.getfield 217, 3) := by decide +kernel
theorem dX12_four_28 : decode cX12_four 28 = .ok (.iconst 1, 1) := by decide +kernel
theorem dX12_four_29 : decode cX12_four 29 = .ok (.iadd, 1) := by decide +kernel
theorem dX12_four_30 : decode cX12_four 30 = .ok (.putfield 217, 3) := by decide +kernel
theorem dX12_four_33 : decode cX12_four 33 = .ok (.iinc 2 (-8), 3) := by decide +kernel
theorem dX12_four_36 : decode cX12_four 36 = .ok (.goto (-33), 3) := by decide +kernel
theorem dX12_four_39 : decode cX12_four 39 = .ok (.return_, 1) := by decide +kernel
theorem dX12_feed_0 : decode cX12_feed 0 = .ok (.aload_n 0, 1) := by decide +kernel
theorem dX12_feed_1 : decode cX12_feed 1 = .ok (.iconst 0, 1) := by decide +kernel
theorem dX12_feed_2 : decode cX12_feed 2 = .ok (.putfield 131, 3) := by decide +kernel
theorem dX12_feed_5 : decode cX12_feed 5 = .ok (.aload_n 0, 1) := by decide +kernel
theorem dX12_feed_6 : decode cX12_feed 6 = .ok (.getfield 217, 3) := by decide +kernel
theorem dX12_feed_9 : decode cX12_feed 9 = .ok (.bipush 20, 2) := by decide +kernel
theorem dX12_feed_11 : decode cX12_feed 11 = .ok (.iadd, 1) := by decide +kernel
theorem dX12_feed_12 : decode cX12_feed 12 = .ok (.sipush 400, 3) := by decide +kernel
theorem dX12_feed_15 : decode cX12_feed 15 = .ok (.if_icmp .le 5, 3) := by decide +kernel
theorem dX12_feed_18 : decode cX12_feed 18 = .ok (.iconst (-1), 1) := by decide +kernel
theorem dX12_feed_19 : decode cX12_feed 19 = .ok (.ireturn, 1) := by decide +kernel
theorem dX12_feed_20 : decode cX12_feed 20 = .ok (.aload_n 0, 1) := by decide +kernel
theorem dX12_feed_21 : decode cX12_feed 21 = .ok (.iload_n 1, 1) := by decide +kernel
theorem dX12_feed_22 : decode cX12_feed 22 = .ok (.invokevirtual 220, 3) := by decide +kernel
theorem dX12_feed_25 : decode cX12_feed 25 = .ok (.aload_n 0, 1) := by decide +kernel
theorem dX12_feed_26 : decode cX12_feed 26 = .ok (.iload_n 2, 1) := by decide +kernel
theorem dX12_feed_27 : decode cX12_feed 27 = .ok (.invokevirtual 220, 3) := by decide +kernel
theorem dX12_feed_30 : decode cX12_feed 30 = .ok (.aload_n 0, 1) := by decide +kernel
theorem dX12_feed_31 : decode cX12_feed 31 = .ok (.iload_n 3, 1) := by decide +kernel
theorem dX12_feed_32 : decode cX12_feed 32 = .ok (.invokevirtual 220, 3) := by decide +kernel
theorem dX12_feed_35 : decode cX12_feed 35 = .ok (.aload_n 0, 1) := by decide +kernel
theorem dX12_feed_36 : decode cX12_feed 36 = .ok (.iload 4, 2) := by decide +kernel
theorem dX12_feed_38 : decode cX12_feed 38 = .ok (.invokevirtual 220, 3) := by decide +kernel
theorem dX12_feed_41 : decode cX12_feed 41 = .ok (.aload_n 0, 1) := by decide +kernel
theorem dX12_feed_42 : decode cX12_feed 42 = .ok (.iload 5, 2) := by decide +kernel
theorem dX12_feed_44 : decode cX12_feed 44 = .ok (.invokevirtual 220, 3) := by decide +kernel
theorem dX12_feed_47 : decode cX12_feed 47 = .ok (.aload_n 0, 1) := by decide +kernel
theorem dX12_feed_48 : decode cX12_feed 48 = .ok (.getfield 217, 3) := by decide +kernel
theorem dX12_feed_51 : decode cX12_feed 51 = .ok (.ireturn, 1) := by decide +kernel
theorem dX12_end_0 : decode cX12_end 0 = .ok (.aload_n 0, 1) := by decide +kernel
theorem dX12_end_1 : decode cX12_end 1 = .ok (.iconst 0, 1) := by decide +kernel
theorem dX12_end_2 : decode cX12_end 2 = .ok (.putfield 131, 3) := by decide +kernel
theorem dX12_end_5 : decode cX12_end 5 = .ok (.iload_n 1, 1) := by decide +kernel
theorem dX12_end_6 : decode cX12_end 6 = .ok (.ifCond .lt 11, 3) := by decide +kernel
theorem dX12_end_9 : decode cX12_end 9 = .ok (.iload_n 1, 1) := by decide +kernel
theorem dX12_end_10 : decode cX12_end 10 = .ok (.aload_n 0, 1) := by decide +kernel
theorem dX12_end_11 : decode cX12_end 11 = .ok (.getfield 217, 3) := by decide +kernel
theorem dX12_end_14 : decode cX12_end 14 = .ok (.if_icmp .le 5, 3) := by decide +kernel
theorem dX12_end_17 : decode cX12_end 17 = .ok (.iconst (-1), 1) := by decide +kernel
theorem dX12_end_18 : decode cX12_end 18 = .ok (.ireturn, 1) := by decide +kernel
theorem dX12_end_19 : decode cX12_end 19 = .ok (.aload_n 0, 1) := by decide +kernel
theorem dX12_end_20 : decode cX12_end 20 = .ok (.iload_n 1, 1) := by decide +kernel
theorem dX12_end_21 : decode cX12_end 21 = .ok (.putfield 217, 3) := by decide +kernel
theorem dX12_end_24 : decode cX12_end 24 = .ok (.iload_n 1, 1) := by decide +kernel
theorem dX12_end_25 : decode cX12_end 25 = .ok (.ireturn, 1) := by decide +kernel
theorem dX12_isSmall_0 : decode cX12_isSmall 0 = .ok (.iload_n 0, 1) := by decide +kernel
theorem dX12_isSmall_1 : decode cX12_isSmall 1 = .ok (.bipush 97, 2) := by decide +kernel
theorem dX12_isSmall_3 : decode cX12_isSmall 3 = .ok (.if_icmp .lt 13, 3) := by decide +kernel
theorem dX12_isSmall_6 : decode cX12_isSmall 6 = .ok (.iload_n 0, 1) := by decide +kernel
theorem dX12_isSmall_7 : decode cX12_isSmall 7 = .ok (.bipush 122, 2) := by decide +kernel
theorem dX12_isSmall_9 : decode cX12_isSmall 9 = .ok (.if_icmp .gt 7, 3) := by decide +kernel
theorem dX12_isSmall_12 : decode cX12_isSmall 12 = .ok (.iconst 1, 1) := by decide +kernel
theorem dX12_isSmall_13 : decode cX12_isSmall 13 = .ok (.goto 4, 3) := by decide +kernel
theorem dX12_isSmall_16 : decode cX12_isSmall 16 = .ok (.iconst 0, 1) := by decide +kernel
theorem dX12_isSmall_17 : decode cX12_isSmall 17 = .ok (.ireturn, 1) := by decide +kernel
theorem dX12_isDigit_0 : decode cX12_isDigit 0 = .ok (.iload_n 0, 1) := by decide +kernel
theorem dX12_isDigit_1 : decode cX12_isDigit 1 = .ok (.bipush 48, 2) := by decide +kernel
theorem dX12_isDigit_3 : decode cX12_isDigit 3 = .ok (.if_icmp .lt 13, 3) := by decide +kernel
theorem dX12_isDigit_6 : decode cX12_isDigit 6 = .ok (.iload_n 0, 1) := by decide +kernel
theorem dX12_isDigit_7 : decode cX12_isDigit 7 = .ok (.bipush 57, 2) := by decide +kernel
theorem dX12_isDigit_9 : decode cX12_isDigit 9 = .ok (.if_icmp .gt 7, 3) := by decide +kernel
theorem dX12_isDigit_12 : decode cX12_isDigit 12 = .ok (.iconst 1, 1) := by decide +kernel
theorem dX12_isDigit_13 : decode cX12_isDigit 13 = .ok (.goto 4, 3) := by decide +kernel
theorem dX12_isDigit_16 : decode cX12_isDigit 16 = .ok (.iconst 0, 1) := by decide +kernel
theorem dX12_isDigit_17 : decode cX12_isDigit 17 = .ok (.ireturn, 1) := by decide +kernel
theorem dX12_next_0 : decode cX12_next 0 = .ok (.aload_n 0, 1) := by decide +kernel
theorem dX12_next_1 : decode cX12_next 1 = .ok (.aload_n 0, 1) := by decide +kernel
theorem dX12_next_2 : decode cX12_next 2 = .ok (.getfield 224, 3) := by decide +kernel
theorem dX12_next_5 : decode cX12_next 5 = .ok (.putfield 227, 3) := by decide +kernel
theorem dX12_next_8 : decode cX12_next 8 = .ok (.aload_n 0, 1) := by decide +kernel
theorem dX12_next_9 : decode cX12_next 9 = .ok (.getfield 227, 3) := by decide +kernel
theorem dX12_next_12 : decode cX12_next 12 = .ok (.aload_n 0, 1) := by decide +kernel
theorem dX12_next_13 : decode cX12_next 13 = .ok (.getfield 217, 3) := by decide +kernel
theorem dX12_next_16 : decode cX12_next 16 = .ok (.if_icmp .ge 30, 3) := by decide +kernel
theorem dX12_next_19 : decode cX12_next 19 = .ok (.aload_n 0, 1) := by decide +kernel
theorem dX12_next_20 : decode cX12_next 20 = .ok (.getfield 94, 3) := by decide +kernel
theorem dX12_next_23 : decode cX12_next 23 = .ok (.aload_n 0, 1) := by decide +kernel
theorem dX12_next_24 : decode cX12_next 24 = .ok (.getfield 227, 3) := by decide +kernel
theorem dX12_next_27 : decode cX12_next 27 = .ok (.iaload, 1) := by decide +kernel
theorem dX12_next_28 : decode cX12_next 28 = .ok (.bipush 32, 2) := by decide +kernel
theorem dX12_next_30 : decode cX12_next 30 = .ok (.if_icmp .ne 16, 3) := by decide +kernel
theorem dX12_next_33 : decode cX12_next 33 = .ok (.aload_n 0, 1) := by decide +kernel
theorem dX12_next_34 : decode cX12_next 34 = .ok (.dup, 1) := by decide +kernel
theorem dX12_next_35 : decode cX12_next 35 = .ok (.getfield 227, 3) := by decide +kernel
theorem dX12_next_38 : decode cX12_next 38 = .ok (.iconst 1, 1) := by decide +kernel
theorem dX12_next_39 : decode cX12_next 39 = .ok (.iadd, 1) := by decide +kernel
theorem dX12_next_40 : decode cX12_next 40 = .ok (.putfield 227, 3) := by decide +kernel
theorem dX12_next_43 : decode cX12_next 43 = .ok (.goto (-35), 3) := by decide +kernel
theorem dX12_next_46 : decode cX12_next 46 = .ok (.aload_n 0, 1) := by decide +kernel
theorem dX12_next_47 : decode cX12_next 47 = .ok (.aload_n 0, 1) := by decide +kernel
theorem dX12_next_48 : decode cX12_next 48 = .ok (.getfield 227, 3) := by decide +kernel
theorem dX12_next_51 : decode cX12_next 51 = .ok (.putfield 224, 3) := by decide +kernel
theorem dX12_next_54 : decode cX12_next 54 = .ok (.aload_n 0, 1) := by decide +kernel
theorem dX12_next_55 : decode cX12_next 55 = .ok (.lconst 0, 1) := by decide +kernel
theorem dX12_next_56 : decode cX12_next 56 = .ok (.putfield 230, 3) := by decide +kernel
theorem dX12_next_59 : decode cX12_next 59 = .ok (.aload_n 0, 1) := by decide +kernel
theorem dX12_next_60 : decode cX12_next 60 = .ok (.aload_n 0, 1) := by decide +kernel
theorem dX12_next_61 : decode cX12_next 61 = .ok (.getfield 227, 3) := by decide +kernel
theorem dX12_next_64 : decode cX12_next 64 = .ok (.aload_n 0, 1) := by decide +kernel
theorem dX12_next_65 : decode cX12_next 65 = .ok (.getfield 217, 3) := by decide +kernel
theorem dX12_next_68 : decode cX12_next 68 = .ok (.if_icmp .ne 7, 3) := by decide +kernel
theorem dX12_next_71 : decode cX12_next 71 = .ok (.iconst 0, 1) := by decide +kernel
theorem dX12_next_72 : decode cX12_next 72 = .ok (.goto 42, 3) := by decide +kernel
theorem dX12_next_75 : decode cX12_next 75 = .ok (.aload_n 0, 1) := by decide +kernel
theorem dX12_next_76 : decode cX12_next 76 = .ok (.getfield 94, 3) := by decide +kernel
theorem dX12_next_79 : decode cX12_next 79 = .ok (.aload_n 0, 1) := by decide +kernel
theorem dX12_next_80 : decode cX12_next 80 = .ok (.getfield 227, 3) := by decide +kernel
theorem dX12_next_83 : decode cX12_next 83 = .ok (.iaload, 1) := by decide +kernel
theorem dX12_next_84 : decode cX12_next 84 = .ok (.invokestatic 234, 3) := by decide +kernel
theorem dX12_next_87 : decode cX12_next 87 = .ok (.ifCond .eq 7, 3) := by decide +kernel
theorem dX12_next_90 : decode cX12_next 90 = .ok (.iconst 1, 1) := by decide +kernel
theorem dX12_next_91 : decode cX12_next 91 = .ok (.goto 23, 3) := by decide +kernel
theorem dX12_next_94 : decode cX12_next 94 = .ok (.aload_n 0, 1) := by decide +kernel
theorem dX12_next_95 : decode cX12_next 95 = .ok (.getfield 94, 3) := by decide +kernel
theorem dX12_next_98 : decode cX12_next 98 = .ok (.aload_n 0, 1) := by decide +kernel
theorem dX12_next_99 : decode cX12_next 99 = .ok (.getfield 227, 3) := by decide +kernel
theorem dX12_next_102 : decode cX12_next 102 = .ok (.iaload, 1) := by decide +kernel
theorem dX12_next_103 : decode cX12_next 103 = .ok (.invokestatic 237, 3) := by decide +kernel
theorem dX12_next_106 : decode cX12_next 106 = .ok (.ifCond .eq 7, 3) := by decide +kernel
theorem dX12_next_109 : decode cX12_next 109 = .ok (.iconst 2, 1) := by decide +kernel
theorem dX12_next_110 : decode cX12_next 110 = .ok (.goto 4, 3) := by decide +kernel
theorem dX12_next_113 : decode cX12_next 113 = .ok (.iconst 3, 1) := by decide +kernel
theorem dX12_next_114 : decode cX12_next 114 = .ok (.putfield 240, 3) := by decide +kernel
theorem dX12_next_117 : decode cX12_next 117 = .ok (.aload_n 0, 1) := by decide +kernel
theorem dX12_next_118 : decode cX12_next 118 = .ok (.getfield 240, 3) := by decide +kernel
theorem dX12_next_121 : decode cX12_next 121 = .ok (.iconst 3, 1) := by decide +kernel
theorem dX12_next_122 : decode cX12_next 122 = .ok (.if_icmp .ne 27, 3) := by decide +kernel
theorem dX12_next_125 : decode cX12_next 125 = .ok (.aload_n 0, 1) := by decide +kernel
theorem dX12_next_126 : decode cX12_next 126 = .ok (.aload_n 0, 1) := by decide +kernel
theorem dX12_next_127 : decode cX12_next 127 = .ok (.getfield 94, 3) := by decide +kernel
theorem dX12_next_130 : decode cX12_next 130 = .ok (.aload_n 0, 1) := by decide +kernel
theorem dX12_next_131 : decode cX12_next 131 = .ok (.getfield 227, 3) := by decide +kernel
theorem dX12_next_134 : decode cX12_next 134 = .ok (.iaload, 1) := by decide +kernel
theorem dX12_next_135 : decode cX12_next 135 = .ok (.i2l, 1) := by decide +kernel
theorem dX12_next_136 : decode cX12_next 136 = .ok (.putfield 230, 3) := by decide +kernel
theorem dX12_next_139 : decode cX12_next 139 = .ok (.aload_n 0, 1) := by decide +kernel
theorem dX12_next_140 : decode cX12_next 140 = .ok (.dup, 1) := by decide +kernel
theorem dX12_next_141 : decode cX12_next 141 = .ok (.getfield 224, 3) := by decide +kernel
theorem dX12_next_144 : decode cX12_next 144 = .ok (.iconst 1, 1) := by decide +kernel
theorem dX12_next_145 : decode cX12_next 145 = .ok (.iadd, 1) := by decide +kernel
theorem dX12_next_146 : decode cX12_next 146 = .ok (.putfield 224, 3) := by decide +kernel
theorem dX12_next_149 : decode cX12_next 149 = .ok (.aload_n 0, 1) := by decide +kernel
theorem dX12_next_150 : decode cX12_next 150 = .ok (.getfield 240, 3) := by decide +kernel
theorem dX12_next_153 : decode cX12_next 153 = .ok (.iconst 1, 1) := by decide +kernel
theorem dX12_next_154 : decode cX12_next 154 = .ok (.if_icmp .ne 89, 3) := by decide +kernel
theorem dX12_next_157 : decode cX12_next 157 = .ok (.aload_n 0, 1) := by decide +kernel
theorem dX12_next_158 : decode cX12_next 158 = .ok (.getfield 224, 3) := by decide +kernel
theorem dX12_next_161 : decode cX12_next 161 = .ok (.aload_n 0, 1) := by decide +kernel
theorem dX12_next_162 : decode cX12_next 162 = .ok (.getfield 217, 3) := by decide +kernel
theorem dX12_next_165 : decode cX12_next 165 = .ok (.if_icmp .ge 78, 3) := by decide +kernel
theorem dX12_next_168 : decode cX12_next 168 = .ok (.aload_n 0, 1) := by decide +kernel
theorem dX12_next_169 : decode cX12_next 169 = .ok (.getfield 94, 3) := by decide +kernel
theorem dX12_next_172 : decode cX12_next 172 = .ok (.aload_n 0, 1) := by decide +kernel
theorem dX12_next_173 : decode cX12_next 173 = .ok (.getfield 224, 3) := by decide +kernel
theorem dX12_next_176 : decode cX12_next 176 = .ok (.iaload, 1) := by decide +kernel
theorem dX12_next_177 : decode cX12_next 177 = .ok (.invokestatic 234, 3) := by decide +kernel
theorem dX12_next_180 : decode cX12_next 180 = .ok (.ifCond .eq 63, 3) := by decide +kernel
theorem dX12_next_183 : decode cX12_next 183 = .ok (.aload_n 0, 1) := by decide +kernel
theorem dX12_next_184 : decode cX12_next 184 = .ok (.aload_n 0, 1) := by decide +kernel
theorem dX12_next_185 : decode cX12_next 185 = .ok (.getfield 224, 3) := by decide +kernel
theorem dX12_next_188 : decode cX12_next 188 = .ok (.aload_n 0, 1) := by decide +kernel
theorem dX12_next_189 : decode cX12_next 189 = .ok (.getfield 227, 3) := by decide +kernel
theorem dX12_next_192 : decode cX12_next 192 = .ok (.isub, 1) := by decide +kernel
theorem dX12_next_193 : decode cX12_next 193 = .ok (.bipush 9, 2) := by decide +kernel
theorem dX12_next_195 : decode cX12_next 195 = .ok (.if_icmp .ge 29, 3) := by decide +kernel
theorem dX12_next_198 : decode cX12_next 198 = .ok (.aload_n 0, 1) := by decide +kernel
theorem dX12_next_199 : decode cX12_next 199 = .ok (.getfield 230, 3) := by decide +kernel
theorem dX12_next_202 : decode cX12_next 202 = .ok (.ldc2_w 243, 3) := by decide +kernel
theorem dX12_next_205 : decode cX12_next 205 = .ok (.lmul, 1) := by decide +kernel
theorem dX12_next_206 : decode cX12_next 206 = .ok (.aload_n 0, 1) := by decide +kernel
theorem dX12_next_207 : decode cX12_next 207 = .ok (.getfield 94, 3) := by decide +kernel
theorem dX12_next_210 : decode cX12_next 210 = .ok (.aload_n 0, 1) := by decide +kernel
theorem dX12_next_211 : decode cX12_next 211 = .ok (.getfield 224, 3) := by decide +kernel
theorem dX12_next_214 : decode cX12_next 214 = .ok (.iaload, 1) := by decide +kernel
theorem dX12_next_215 : decode cX12_next 215 = .ok (.i2l, 1) := by decide +kernel
theorem dX12_next_216 : decode cX12_next 216 = .ok (.ladd, 1) := by decide +kernel
theorem dX12_next_217 : decode cX12_next 217 = .ok (.ldc2_w 245, 3) := by decide +kernel
theorem dX12_next_220 : decode cX12_next 220 = .ok (.lsub, 1) := by decide +kernel
theorem dX12_next_221 : decode cX12_next 221 = .ok (.goto 6, 3) := by decide +kernel
theorem dX12_next_224 : decode cX12_next 224 = .ok (.ldc2_w 247, 3) := by decide +kernel
theorem dX12_next_227 : decode cX12_next 227 = .ok (.putfield 230, 3) := by decide +kernel
theorem dX12_next_230 : decode cX12_next 230 = .ok (.aload_n 0, 1) := by decide +kernel
theorem dX12_next_231 : decode cX12_next 231 = .ok (.dup, 1) := by decide +kernel
theorem dX12_next_232 : decode cX12_next 232 = .ok (.getfield 224, 3) := by decide +kernel
theorem dX12_next_235 : decode cX12_next 235 = .ok (.iconst 1, 1) := by decide +kernel
theorem dX12_next_236 : decode cX12_next 236 = .ok (.iadd, 1) := by decide +kernel
theorem dX12_next_237 : decode cX12_next 237 = .ok (.putfield 224, 3) := by decide +kernel
theorem dX12_next_240 : decode cX12_next 240 = .ok (.goto (-91), 3) := by decide +kernel
theorem dX12_next_243 : decode cX12_next 243 = .ok (.aload_n 0, 1) := by decide +kernel
theorem dX12_next_244 : decode cX12_next 244 = .ok (.getfield 240, 3) := by decide +kernel
theorem dX12_next_247 : decode cX12_next 247 = .ok (.iconst 2, 1) := by decide +kernel
theorem dX12_next_248 : decode cX12_next 248 = .ok (.if_icmp .ne 87, 3) := by decide +kernel
theorem dX12_next_251 : decode cX12_next 251 = .ok (.aload_n 0, 1) := by decide +kernel
theorem dX12_next_252 : decode cX12_next 252 = .ok (.getfield 224, 3) := by decide +kernel
theorem dX12_next_255 : decode cX12_next 255 = .ok (.aload_n 0, 1) := by decide +kernel
theorem dX12_next_256 : decode cX12_next 256 = .ok (.getfield 217, 3) := by decide +kernel
theorem dX12_next_259 : decode cX12_next 259 = .ok (.if_icmp .ge 76, 3) := by decide +kernel
theorem dX12_next_262 : decode cX12_next 262 = .ok (.aload_n 0, 1) := by decide +kernel
theorem dX12_next_263 : decode cX12_next 263 = .ok (.getfield 94, 3) := by decide +kernel
theorem dX12_next_266 : decode cX12_next 266 = .ok (.aload_n 0, 1) := by decide +kernel
theorem dX12_next_267 : decode cX12_next 267 = .ok (.getfield 224, 3) := by decide +kernel
theorem dX12_next_270 : decode cX12_next 270 = .ok (.iaload, 1) := by decide +kernel
theorem dX12_next_271 : decode cX12_next 271 = .ok (.invokestatic 237, 3) := by decide +kernel
theorem dX12_next_274 : decode cX12_next 274 = .ok (.ifCond .eq 61, 3) := by decide +kernel
theorem dX12_next_277 : decode cX12_next 277 = .ok (.aload_n 0, 1) := by decide +kernel
theorem dX12_next_278 : decode cX12_next 278 = .ok (.aload_n 0, 1) := by decide +kernel
theorem dX12_next_279 : decode cX12_next 279 = .ok (.getfield 230, 3) := by decide +kernel
theorem dX12_next_282 : decode cX12_next 282 = .ok (.ldc2_w 249, 3) := by decide +kernel
theorem dX12_next_285 : decode cX12_next 285 = .ok (.lcmp, 1) := by decide +kernel
theorem dX12_next_286 : decode cX12_next 286 = .ok (.ifCond .le 10, 3) := by decide +kernel
theorem dX12_next_289 : decode cX12_next 289 = .ok (.aload_n 0, 1) := by decide +kernel
theorem dX12_next_290 : decode cX12_next 290 = .ok (.getfield 230, 3) := by decide +kernel
theorem dX12_next_293 : decode cX12_next 293 = .ok (.goto 26, 3) := by decide +kernel
theorem dX12_next_296 : decode cX12_next 296 = .ok (.aload_n 0, 1) := by decide +kernel
theorem dX12_next_297 : decode cX12_next 297 = .ok (.getfield 230, 3) := by decide +kernel
theorem dX12_next_300 : decode cX12_next 300 = .ok (.ldc2_w 251, 3) := by decide +kernel
theorem dX12_next_303 : decode cX12_next 303 = .ok (.lmul, 1) := by decide +kernel
theorem dX12_next_304 : decode cX12_next 304 = .ok (.aload_n 0, 1) := by decide +kernel
theorem dX12_next_305 : decode cX12_next 305 = .ok (.getfield 94, 3) := by decide +kernel
theorem dX12_next_308 : decode cX12_next 308 = .ok (.aload_n 0, 1) := by decide +kernel
theorem dX12_next_309 : decode cX12_next 309 = .ok (.getfield 224, 3) := by decide +kernel
theorem dX12_next_312 : decode cX12_next 312 = .ok (.iaload, 1) := by decide +kernel
theorem dX12_next_313 : decode cX12_next 313 = .ok (.i2l, 1) := by decide +kernel
theorem dX12_next_314 : decode cX12_next 314 = .ok (.ladd, 1) := by decide +kernel
theorem dX12_next_315 : decode cX12_next 315 = .ok (.ldc2_w 253, 3) := by decide +kernel
theorem dX12_next_318 : decode cX12_next 318 = .ok (.lsub, 1) := by decide +kernel
theorem dX12_next_319 : decode cX12_next 319 = .ok (.putfield 230, 3) := by decide +kernel
theorem dX12_next_322 : decode cX12_next 322 = .ok (.aload_n 0, 1) := by decide +kernel
theorem dX12_next_323 : decode cX12_next 323 = .ok (.dup, 1) := by decide +kernel
theorem dX12_next_324 : decode cX12_next 324 = .ok (.getfield 224, 3) := by decide +kernel
theorem dX12_next_327 : decode cX12_next 327 = .ok (.iconst 1, 1) := by decide +kernel
theorem dX12_next_328 : decode cX12_next 328 = .ok (.iadd, 1) := by decide +kernel
theorem dX12_next_329 : decode cX12_next 329 = .ok (.putfield 224, 3) := by decide +kernel
theorem dX12_next_332 : decode cX12_next 332 = .ok (.goto (-89), 3) := by decide +kernel
theorem dX12_next_335 : decode cX12_next 335 = .ok (.return_, 1) := by decide +kernel
theorem dX12_isWord_0 : decode cX12_isWord 0 = .ok (.iload_n 1, 1) := by decide +kernel
theorem dX12_isWord_1 : decode cX12_isWord 1 = .ok (.i2l, 1) := by decide +kernel
theorem dX12_isWord_2 : decode cX12_isWord 2 = .ok (.ldc2_w 245, 3) := by decide +kernel
theorem dX12_isWord_5 : decode cX12_isWord 5 = .ok (.lsub, 1) := by decide +kernel
theorem dX12_isWord_6 : decode cX12_isWord 6 = .ok (.ldc2_w 243, 3) := by decide +kernel
theorem dX12_isWord_9 : decode cX12_isWord 9 = .ok (.lmul, 1) := by decide +kernel
theorem dX12_isWord_10 : decode cX12_isWord 10 = .ok (.iload_n 2, 1) := by decide +kernel
theorem dX12_isWord_11 : decode cX12_isWord 11 = .ok (.i2l, 1) := by decide +kernel
theorem dX12_isWord_12 : decode cX12_isWord 12 = .ok (.ladd, 1) := by decide +kernel
theorem dX12_isWord_13 : decode cX12_isWord 13 = .ok (.ldc2_w 245, 3) := by decide +kernel
theorem dX12_isWord_16 : decode cX12_isWord 16 = .ok (.lsub, 1) := by decide +kernel
theorem dX12_isWord_17 : decode cX12_isWord 17 = .ok (.lstore 6, 2) := by decide +kernel
theorem dX12_isWord_19 : decode cX12_isWord 19 = .ok (.iload_n 3, 1) := by decide +kernel
theorem dX12_isWord_20 : decode cX12_isWord 20 = .ok (.ifCond .ne 8, 3) := by decide +kernel
theorem dX12_isWord_23 : decode cX12_isWord 23 = .ok (.lload 6, 2) := by decide +kernel
theorem dX12_isWord_25 : decode cX12_isWord 25 = .ok (.goto 16, 3) := by decide +kernel
theorem dX12_isWord_28 : decode cX12_isWord 28 = .ok (.lload 6, 2) := by decide +kernel
theorem dX12_isWord_30 : decode cX12_isWord 30 = .ok (.ldc2_w 243, 3) := by decide +kernel
theorem dX12_isWord_33 : decode cX12_isWord 33 = .ok (.lmul, 1) := by decide +kernel
theorem dX12_isWord_34 : decode cX12_isWord 34 = .ok (.iload_n 3, 1) := by decide +kernel
theorem dX12_isWord_35 : decode cX12_isWord 35 = .ok (.i2l, 1) := by decide +kernel
theorem dX12_isWord_36 : decode cX12_isWord 36 = .ok (.ladd, 1) := by decide +kernel
theorem dX12_isWord_37 : decode cX12_isWord 37 = .ok (.ldc2_w 245, 3) := by decide +kernel
theorem dX12_isWord_40 : decode cX12_isWord 40 = .ok (.lsub, 1) := by decide +kernel
theorem dX12_isWord_41 : decode cX12_isWord 41 = .ok (.lstore 6, 2) := by decide +kernel
theorem dX12_isWord_43 : decode cX12_isWord 43 = .ok (.iload 4, 2) := by decide +kernel
theorem dX12_isWord_45 : decode cX12_isWord 45 = .ok (.ifCond .ne 8, 3) := by decide +kernel
theorem dX12_isWord_48 : decode cX12_isWord 48 = .ok (.lload 6, 2) := by decide +kernel
theorem dX12_isWord_50 : decode cX12_isWord 50 = .ok (.goto 17, 3) := by decide +kernel
