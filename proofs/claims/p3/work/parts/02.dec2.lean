theorem dX10_byteAt_21 : decode cX10_byteAt 21 = .ok (.iand, 1) := by decide +kernel
theorem dX10_byteAt_22 : decode cX10_byteAt 22 = .ok (.goto 4, 3) := by decide +kernel
theorem dX10_byteAt_25 : decode cX10_byteAt 25 = .ok (.iconst (-1), 1) := by decide +kernel
theorem dX10_byteAt_26 : decode cX10_byteAt 26 = .ok (.ireturn, 1) := by decide +kernel
theorem dX11_init_0 : decode cX11_init 0 = .ok (.aload_n 0, 1) := by decide +kernel
theorem dX11_init_1 : decode cX11_init 1 = .ok (.invokespecial 3, 3) := by decide +kernel
theorem dX11_init_4 : decode cX11_init 4 = .ok (.aload_n 0, 1) := by decide +kernel
theorem dX11_init_5 : decode cX11_init 5 = .ok (.new 9, 3) := by decide +kernel
theorem dX11_init_8 : decode cX11_init 8 = .ok (.dup, 1) := by decide +kernel
theorem dX11_init_9 : decode cX11_init 9 = .ok (.invokespecial 11, 3) := by decide +kernel
theorem dX11_init_12 : decode cX11_init 12 = .ok (.putfield 12, 3) := by decide +kernel
theorem dX11_init_15 : decode cX11_init 15 = .ok (.aload_n 0, 1) := by decide +kernel
theorem dX11_init_16 : decode cX11_init 16 = .ok (.new 16, 3) := by decide +kernel
theorem dX11_init_19 : decode cX11_init 19 = .ok (.dup, 1) := by decide +kernel
theorem dX11_init_20 : decode cX11_init 20 = .ok (.aload_n 0, 1) := by decide +kernel
theorem dX11_init_21 : decode cX11_init 21 = .ok (.getfield 12, 3) := by decide +kernel
theorem dX11_init_24 : decode cX11_init 24 = .ok (.invokespecial 18, 3) := by decide +kernel
theorem dX11_init_27 : decode cX11_init 27 = .ok (.putfield 21, 3) := by decide +kernel
theorem dX11_init_30 : decode cX11_init 30 = .ok (.aload_n 0, 1) := by decide +kernel
theorem dX11_init_31 : decode cX11_init 31 = .ok (.new 25, 3) := by decide +kernel
theorem dX11_init_34 : decode cX11_init 34 = .ok (.dup, 1) := by decide +kernel
theorem dX11_init_35 : decode cX11_init 35 = .ok (.invokespecial 27, 3) := by decide +kernel
theorem dX11_init_38 : decode cX11_init 38 = .ok (.putfield 28, 3) := by decide +kernel
theorem dX11_init_41 : decode cX11_init 41 = .ok (.aload_n 0, 1) := by decide +kernel
theorem dX11_init_42 : decode cX11_init 42 = .ok (.new 32, 3) := by decide +kernel
theorem dX11_init_45 : decode cX11_init 45 = .ok (.dup, 1) := by decide +kernel
theorem dX11_init_46 : decode cX11_init 46 = .ok (.invokespecial 34, 3) := by decide +kernel
theorem dX11_init_49 : decode cX11_init 49 = .ok (.putfield 35, 3) := by decide +kernel
theorem dX11_init_52 : decode cX11_init 52 = .ok (.aload_n 0, 1) := by decide +kernel
theorem dX11_init_53 : decode cX11_init 53 = .ok (.new 39, 3) := by decide +kernel
theorem dX11_init_56 : decode cX11_init 56 = .ok (.dup, 1) := by decide +kernel
theorem dX11_init_57 : decode cX11_init 57 = .ok (.invokespecial 41, 3) := by decide +kernel
theorem dX11_init_60 : decode cX11_init 60 = .ok (.putfield 42, 3) := by decide +kernel
theorem dX11_init_63 : decode cX11_init 63 = .ok (.aload_n 0, 1) := by decide +kernel
theorem dX11_init_64 : decode cX11_init 64 = .ok (.new 46, 3) := by decide +kernel
theorem dX11_init_67 : decode cX11_init 67 = .ok (.dup, 1) := by decide +kernel
theorem dX11_init_68 : decode cX11_init 68 = .ok (.invokespecial 48, 3) := by decide +kernel
theorem dX11_init_71 : decode cX11_init 71 = .ok (.putfield 49, 3) := by decide +kernel
theorem dX11_init_74 : decode cX11_init 74 = .ok (.aload_n 0, 1) := by decide +kernel
theorem dX11_init_75 : decode cX11_init 75 = .ok (.new 53, 3) := by decide +kernel
theorem dX11_init_78 : decode cX11_init 78 = .ok (.dup, 1) := by decide +kernel
theorem dX11_init_79 : decode cX11_init 79 = .ok (.invokespecial 55, 3) := by decide +kernel
theorem dX11_init_82 : decode cX11_init 82 = .ok (.putfield 56, 3) := by decide +kernel
theorem dX11_init_85 : decode cX11_init 85 = .ok (.aload_n 0, 1) := by decide +kernel
theorem dX11_init_86 : decode cX11_init 86 = .ok (.new 60, 3) := by decide +kernel
theorem dX11_init_89 : decode cX11_init 89 = .ok (.dup, 1) := by decide +kernel
theorem dX11_init_90 : decode cX11_init 90 = .ok (.bipush 60, 2) := by decide +kernel
theorem dX11_init_92 : decode cX11_init 92 = .ok (.invokespecial 62, 3) := by decide +kernel
theorem dX11_init_95 : decode cX11_init 95 = .ok (.putfield 65, 3) := by decide +kernel
theorem dX11_init_98 : decode cX11_init 98 = .ok (.aload_n 0, 1) := by decide +kernel
theorem dX11_init_99 : decode cX11_init 99 = .ok (.new 60, 3) := by decide +kernel
theorem dX11_init_102 : decode cX11_init 102 = .ok (.dup, 1) := by decide +kernel
theorem dX11_init_103 : decode cX11_init 103 = .ok (.bipush 40, 2) := by decide +kernel
theorem dX11_init_105 : decode cX11_init 105 = .ok (.invokespecial 62, 3) := by decide +kernel
theorem dX11_init_108 : decode cX11_init 108 = .ok (.putfield 69, 3) := by decide +kernel
theorem dX11_init_111 : decode cX11_init 111 = .ok (.aload_n 0, 1) := by decide +kernel
theorem dX11_init_112 : decode cX11_init 112 = .ok (.new 72, 3) := by decide +kernel
theorem dX11_init_115 : decode cX11_init 115 = .ok (.dup, 1) := by decide +kernel
theorem dX11_init_116 : decode cX11_init 116 = .ok (.aload_n 0, 1) := by decide +kernel
theorem dX11_init_117 : decode cX11_init 117 = .ok (.getfield 28, 3) := by decide +kernel
theorem dX11_init_120 : decode cX11_init 120 = .ok (.aload_n 0, 1) := by decide +kernel
theorem dX11_init_121 : decode cX11_init 121 = .ok (.getfield 35, 3) := by decide +kernel
theorem dX11_init_124 : decode cX11_init 124 = .ok (.aload_n 0, 1) := by decide +kernel
theorem dX11_init_125 : decode cX11_init 125 = .ok (.getfield 42, 3) := by decide +kernel
theorem dX11_init_128 : decode cX11_init 128 = .ok (.aload_n 0, 1) := by decide +kernel
theorem dX11_init_129 : decode cX11_init 129 = .ok (.getfield 49, 3) := by decide +kernel
theorem dX11_init_132 : decode cX11_init 132 = .ok (.aload_n 0, 1) := by decide +kernel
theorem dX11_init_133 : decode cX11_init 133 = .ok (.getfield 56, 3) := by decide +kernel
theorem dX11_init_136 : decode cX11_init 136 = .ok (.aload_n 0, 1) := by decide +kernel
theorem dX11_init_137 : decode cX11_init 137 = .ok (.getfield 65, 3) := by decide +kernel
theorem dX11_init_140 : decode cX11_init 140 = .ok (.aload_n 0, 1) := by decide +kernel
theorem dX11_init_141 : decode cX11_init 141 = .ok (.getfield 69, 3) := by decide +kernel
theorem dX11_init_144 : decode cX11_init 144 = .ok (.invokespecial 74, 3) := by decide +kernel
theorem dX11_init_147 : decode cX11_init 147 = .ok (.putfield 77, 3) := by decide +kernel
theorem dX11_init_150 : decode cX11_init 150 = .ok (.aload_n 0, 1) := by decide +kernel
theorem dX11_init_151 : decode cX11_init 151 = .ok (.sipush 201, 3) := by decide +kernel
theorem dX11_init_154 : decode cX11_init 154 = .ok (.newarray .int, 2) := by decide +kernel
theorem dX11_init_156 : decode cX11_init 156 = .ok (.putfield 81, 3) := by decide +kernel
theorem dX11_init_159 : decode cX11_init 159 = .ok (.return_, 1) := by decide +kernel
theorem dX11_aqueduct_0 : decode cX11_aqueduct 0 = .ok (.iload_n 1, 1) := by decide +kernel
theorem dX11_aqueduct_1 : decode cX11_aqueduct 1 = .ok (.iconst 0, 1) := by decide +kernel
theorem dX11_aqueduct_2 : decode cX11_aqueduct 2 = .ok (.ldc 85, 2) := by decide +kernel
theorem dX11_aqueduct_4 : decode cX11_aqueduct 4 = .ok (.invokestatic 86, 3) := by decide +kernel
theorem dX11_aqueduct_7 : decode cX11_aqueduct 7 = .ok (.ifCond .ne 9, 3) := by decide +kernel
theorem dX11_aqueduct_10 : decode cX11_aqueduct 10 = .ok (.aload_n 0, 1) := by decide +kernel
theorem dX11_aqueduct_11 : decode cX11_aqueduct 11 = .ok (.iconst (-1), 1) := by decide +kernel
theorem dX11_aqueduct_12 : decode cX11_aqueduct 12 = .ok (.invokevirtual 90, 3) := by decide +kernel
theorem dX11_aqueduct_15 : decode cX11_aqueduct 15 = .ok (.ireturn, 1) := by decide +kernel
theorem dX11_aqueduct_16 : decode cX11_aqueduct 16 = .ok (.aload_n 0, 1) := by decide +kernel
theorem dX11_aqueduct_17 : decode cX11_aqueduct 17 = .ok (.aload_n 0, 1) := by decide +kernel
theorem dX11_aqueduct_18 : decode cX11_aqueduct 18 = .ok (.getfield 42, 3) := by decide +kernel
theorem dX11_aqueduct_21 : decode cX11_aqueduct 21 = .ok (.iload_n 1, 1) := by decide +kernel
theorem dX11_aqueduct_22 : decode cX11_aqueduct 22 = .ok (.invokevirtual 94, 3) := by decide +kernel
theorem dX11_aqueduct_25 : decode cX11_aqueduct 25 = .ok (.invokevirtual 90, 3) := by decide +kernel
theorem dX11_aqueduct_28 : decode cX11_aqueduct 28 = .ok (.ireturn, 1) := by decide +kernel
theorem dX11_spring_0 : decode cX11_spring 0 = .ok (.iload_n 2, 1) := by decide +kernel
theorem dX11_spring_1 : decode cX11_spring 1 = .ok (.invokestatic 97, 3) := by decide +kernel
theorem dX11_spring_4 : decode cX11_spring 4 = .ok (.ifCond .eq 13, 3) := by decide +kernel
theorem dX11_spring_7 : decode cX11_spring 7 = .ok (.iload_n 3, 1) := by decide +kernel
theorem dX11_spring_8 : decode cX11_spring 8 = .ok (.iconst 0, 1) := by decide +kernel
theorem dX11_spring_9 : decode cX11_spring 9 = .ok (.ldc 85, 2) := by decide +kernel
theorem dX11_spring_11 : decode cX11_spring 11 = .ok (.invokestatic 86, 3) := by decide +kernel
theorem dX11_spring_14 : decode cX11_spring 14 = .ok (.ifCond .ne 9, 3) := by decide +kernel
theorem dX11_spring_17 : decode cX11_spring 17 = .ok (.aload_n 0, 1) := by decide +kernel
theorem dX11_spring_18 : decode cX11_spring 18 = .ok (.iconst (-1), 1) := by decide +kernel
theorem dX11_spring_19 : decode cX11_spring 19 = .ok (.invokevirtual 90, 3) := by decide +kernel
theorem dX11_spring_22 : decode cX11_spring 22 = .ok (.ireturn, 1) := by decide +kernel
theorem dX11_spring_23 : decode cX11_spring 23 = .ok (.aload_n 0, 1) := by decide +kernel
theorem dX11_spring_24 : decode cX11_spring 24 = .ok (.getfield 42, 3) := by decide +kernel
theorem dX11_spring_27 : decode cX11_spring 27 = .ok (.iload_n 1, 1) := by decide +kernel
theorem dX11_spring_28 : decode cX11_spring 28 = .ok (.invokevirtual 101, 3) := by decide +kernel
theorem dX11_spring_31 : decode cX11_spring 31 = .ok (.ifCond .ne 10, 3) := by decide +kernel
theorem dX11_spring_34 : decode cX11_spring 34 = .ok (.aload_n 0, 1) := by decide +kernel
theorem dX11_spring_35 : decode cX11_spring 35 = .ok (.bipush (-2), 2) := by decide +kernel
theorem dX11_spring_37 : decode cX11_spring 37 = .ok (.invokevirtual 90, 3) := by decide +kernel
theorem dX11_spring_40 : decode cX11_spring 40 = .ok (.ireturn, 1) := by decide +kernel
theorem dX11_spring_41 : decode cX11_spring 41 = .ok (.aload_n 0, 1) := by decide +kernel
theorem dX11_spring_42 : decode cX11_spring 42 = .ok (.aload_n 0, 1) := by decide +kernel
theorem dX11_spring_43 : decode cX11_spring 43 = .ok (.getfield 42, 3) := by decide +kernel
theorem dX11_spring_46 : decode cX11_spring 46 = .ok (.iload_n 1, 1) := by decide +kernel
theorem dX11_spring_47 : decode cX11_spring 47 = .ok (.iload_n 2, 1) := by decide +kernel
theorem dX11_spring_48 : decode cX11_spring 48 = .ok (.iload_n 3, 1) := by decide +kernel
theorem dX11_spring_49 : decode cX11_spring 49 = .ok (.invokevirtual 104, 3) := by decide +kernel
theorem dX11_spring_52 : decode cX11_spring 52 = .ok (.invokevirtual 90, 3) := by decide +kernel
theorem dX11_spring_55 : decode cX11_spring 55 = .ok (.ireturn, 1) := by decide +kernel
theorem dX11_castle_0 : decode cX11_castle 0 = .ok (.iload_n 2, 1) := by decide +kernel
theorem dX11_castle_1 : decode cX11_castle 1 = .ok (.iconst 1, 1) := by decide +kernel
theorem dX11_castle_2 : decode cX11_castle 2 = .ok (.ldc 85, 2) := by decide +kernel
theorem dX11_castle_4 : decode cX11_castle 4 = .ok (.invokestatic 86, 3) := by decide +kernel
theorem dX11_castle_7 : decode cX11_castle 7 = .ok (.ifCond .eq 14, 3) := by decide +kernel
theorem dX11_castle_10 : decode cX11_castle 10 = .ok (.iload_n 3, 1) := by decide +kernel
theorem dX11_castle_11 : decode cX11_castle 11 = .ok (.iconst 0, 1) := by decide +kernel
theorem dX11_castle_12 : decode cX11_castle 12 = .ok (.sipush 1000, 3) := by decide +kernel
theorem dX11_castle_15 : decode cX11_castle 15 = .ok (.invokestatic 86, 3) := by decide +kernel
theorem dX11_castle_18 : decode cX11_castle 18 = .ok (.ifCond .ne 9, 3) := by decide +kernel
theorem dX11_castle_21 : decode cX11_castle 21 = .ok (.aload_n 0, 1) := by decide +kernel
theorem dX11_castle_22 : decode cX11_castle 22 = .ok (.iconst (-1), 1) := by decide +kernel
theorem dX11_castle_23 : decode cX11_castle 23 = .ok (.invokevirtual 90, 3) := by decide +kernel
theorem dX11_castle_26 : decode cX11_castle 26 = .ok (.ireturn, 1) := by decide +kernel
theorem dX11_castle_27 : decode cX11_castle 27 = .ok (.aload_n 0, 1) := by decide +kernel
theorem dX11_castle_28 : decode cX11_castle 28 = .ok (.iload_n 1, 1) := by decide +kernel
theorem dX11_castle_29 : decode cX11_castle 29 = .ok (.invokevirtual 108, 3) := by decide +kernel
theorem dX11_castle_32 : decode cX11_castle 32 = .ok (.ifCond .ne 10, 3) := by decide +kernel
theorem dX11_castle_35 : decode cX11_castle 35 = .ok (.aload_n 0, 1) := by decide +kernel
theorem dX11_castle_36 : decode cX11_castle 36 = .ok (.bipush (-2), 2) := by decide +kernel
theorem dX11_castle_38 : decode cX11_castle 38 = .ok (.invokevirtual 90, 3) := by decide +kernel
theorem dX11_castle_41 : decode cX11_castle 41 = .ok (.ireturn, 1) := by decide +kernel
theorem dX11_castle_42 : decode cX11_castle 42 = .ok (.aload_n 0, 1) := by decide +kernel
theorem dX11_castle_43 : decode cX11_castle 43 = .ok (.aload_n 0, 1) := by decide +kernel
theorem dX11_castle_44 : decode cX11_castle 44 = .ok (.getfield 49, 3) := by decide +kernel
theorem dX11_castle_47 : decode cX11_castle 47 = .ok (.iload_n 1, 1) := by decide +kernel
theorem dX11_castle_48 : decode cX11_castle 48 = .ok (.iload_n 2, 1) := by decide +kernel
theorem dX11_castle_49 : decode cX11_castle 49 = .ok (.iload_n 3, 1) := by decide +kernel
theorem dX11_castle_50 : decode cX11_castle 50 = .ok (.invokevirtual 111, 3) := by decide +kernel
theorem dX11_castle_53 : decode cX11_castle 53 = .ok (.invokevirtual 90, 3) := by decide +kernel
theorem dX11_castle_56 : decode cX11_castle 56 = .ok (.ireturn, 1) := by decide +kernel
theorem dX11_person_0 : decode cX11_person 0 = .ok (.aload_n 0, 1) := by decide +kernel
theorem dX11_person_1 : decode cX11_person 1 = .ok (.getfield 114, 3) := by decide +kernel
theorem dX11_person_4 : decode cX11_person 4 = .ok (.bipush 40, 2) := by decide +kernel
theorem dX11_person_6 : decode cX11_person 6 = .ok (.if_icmp .lt 10, 3) := by decide +kernel
theorem dX11_person_9 : decode cX11_person 9 = .ok (.aload_n 0, 1) := by decide +kernel
theorem dX11_person_10 : decode cX11_person 10 = .ok (.bipush (-5), 2) := by decide +kernel
theorem dX11_person_12 : decode cX11_person 12 = .ok (.invokevirtual 90, 3) := by decide +kernel
theorem dX11_person_15 : decode cX11_person 15 = .ok (.ireturn, 1) := by decide +kernel
theorem dX11_person_16 : decode cX11_person 16 = .ok (.aload_n 0, 1) := by decide +kernel
theorem dX11_person_17 : decode cX11_person 17 = .ok (.dup, 1) := by decide +kernel
theorem dX11_person_18 : decode cX11_person 18 = .ok (.getfield 114, 3) := by decide +kernel
theorem dX11_person_21 : decode cX11_person 21 = .ok (.iconst 1, 1) := by decide +kernel
theorem dX11_person_22 : decode cX11_person 22 = .ok (.iadd, 1) := by decide +kernel
theorem dX11_person_23 : decode cX11_person 23 = .ok (.putfield 114, 3) := by decide +kernel
theorem dX11_person_26 : decode cX11_person 26 = .ok (.aload_n 0, 1) := by decide +kernel
theorem dX11_person_27 : decode cX11_person 27 = .ok (.aload_n 0, 1) := by decide +kernel
theorem dX11_person_28 : decode cX11_person 28 = .ok (.getfield 114, 3) := by decide +kernel
theorem dX11_person_31 : decode cX11_person 31 = .ok (.iconst 1, 1) := by decide +kernel
theorem dX11_person_32 : decode cX11_person 32 = .ok (.isub, 1) := by decide +kernel
theorem dX11_person_33 : decode cX11_person 33 = .ok (.invokevirtual 90, 3) := by decide +kernel
theorem dX11_person_36 : decode cX11_person 36 = .ok (.ireturn, 1) := by decide +kernel
theorem dX11_death_0 : decode cX11_death 0 = .ok (.iload_n 2, 1) := by decide +kernel
theorem dX11_death_1 : decode cX11_death 1 = .ok (.invokestatic 97, 3) := by decide +kernel
theorem dX11_death_4 : decode cX11_death 4 = .ok (.ifCond .eq 10, 3) := by decide +kernel
theorem dX11_death_7 : decode cX11_death 7 = .ok (.iload_n 3, 1) := by decide +kernel
theorem dX11_death_8 : decode cX11_death 8 = .ok (.invokestatic 97, 3) := by decide +kernel
theorem dX11_death_11 : decode cX11_death 11 = .ok (.ifCond .ne 9, 3) := by decide +kernel
theorem dX11_death_14 : decode cX11_death 14 = .ok (.aload_n 0, 1) := by decide +kernel
theorem dX11_death_15 : decode cX11_death 15 = .ok (.iconst (-1), 1) := by decide +kernel
theorem dX11_death_16 : decode cX11_death 16 = .ok (.invokevirtual 90, 3) := by decide +kernel
theorem dX11_death_19 : decode cX11_death 19 = .ok (.ireturn, 1) := by decide +kernel
theorem dX11_death_20 : decode cX11_death 20 = .ok (.aload_n 0, 1) := by decide +kernel
theorem dX11_death_21 : decode cX11_death 21 = .ok (.iload_n 1, 1) := by decide +kernel
theorem dX11_death_22 : decode cX11_death 22 = .ok (.invokevirtual 118, 3) := by decide +kernel
theorem dX11_death_25 : decode cX11_death 25 = .ok (.ifCond .ne 10, 3) := by decide +kernel
theorem dX11_death_28 : decode cX11_death 28 = .ok (.aload_n 0, 1) := by decide +kernel
theorem dX11_death_29 : decode cX11_death 29 = .ok (.bipush (-2), 2) := by decide +kernel
theorem dX11_death_31 : decode cX11_death 31 = .ok (.invokevirtual 90, 3) := by decide +kernel
theorem dX11_death_34 : decode cX11_death 34 = .ok (.ireturn, 1) := by decide +kernel
theorem dX11_death_35 : decode cX11_death 35 = .ok (.aload_n 0, 1) := by decide +kernel
theorem dX11_death_36 : decode cX11_death 36 = .ok (.aload_n 0, 1) := by decide +kernel
theorem dX11_death_37 : decode cX11_death 37 = .ok (.getfield 35, 3) := by decide +kernel
theorem dX11_death_40 : decode cX11_death 40 = .ok (.iload_n 1, 1) := by decide +kernel
theorem dX11_death_41 : decode cX11_death 41 = .ok (.iload_n 2, 1) := by decide +kernel
theorem dX11_death_42 : decode cX11_death 42 = .ok (.iload_n 3, 1) := by decide +kernel
theorem dX11_death_43 : decode cX11_death 43 = .ok (.invokevirtual 121, 3) := by decide +kernel
theorem dX11_death_46 : decode cX11_death 46 = .ok (.invokevirtual 90, 3) := by decide +kernel
theorem dX11_death_49 : decode cX11_death 49 = .ok (.ireturn, 1) := by decide +kernel
theorem dX11_nozzle_0 : decode cX11_nozzle 0 = .ok (.iload_n 2, 1) := by decide +kernel
theorem dX11_nozzle_1 : decode cX11_nozzle 1 = .ok (.iconst 1, 1) := by decide +kernel
theorem dX11_nozzle_2 : decode cX11_nozzle 2 = .ok (.sipush 1000, 3) := by decide +kernel
theorem dX11_nozzle_5 : decode cX11_nozzle 5 = .ok (.invokestatic 86, 3) := by decide +kernel
theorem dX11_nozzle_8 : decode cX11_nozzle 8 = .ok (.ifCond .eq 25, 3) := by decide +kernel
theorem dX11_nozzle_11 : decode cX11_nozzle 11 = .ok (.iload_n 3, 1) := by decide +kernel
theorem dX11_nozzle_12 : decode cX11_nozzle 12 = .ok (.iconst 0, 1) := by decide +kernel
theorem dX11_nozzle_13 : decode cX11_nozzle 13 = .ok (.iconst 2, 1) := by decide +kernel
theorem dX11_nozzle_14 : decode cX11_nozzle 14 = .ok (.invokestatic 86, 3) := by decide +kernel
theorem dX11_nozzle_17 : decode cX11_nozzle 17 = .ok (.ifCond .eq 16, 3) := by decide +kernel
theorem dX11_nozzle_20 : decode cX11_nozzle 20 = .ok (.iload_n 3, 1) := by decide +kernel
theorem dX11_nozzle_21 : decode cX11_nozzle 21 = .ok (.iconst 2, 1) := by decide +kernel
theorem dX11_nozzle_22 : decode cX11_nozzle 22 = .ok (.if_icmp .eq 17, 3) := by decide +kernel
theorem dX11_nozzle_25 : decode cX11_nozzle 25 = .ok (.iload 4, 2) := by decide +kernel
theorem dX11_nozzle_27 : decode cX11_nozzle 27 = .ok (.invokestatic 124, 3) := by decide +kernel
theorem dX11_nozzle_30 : decode cX11_nozzle 30 = .ok (.ifCond .ne 9, 3) := by decide +kernel
theorem dX11_nozzle_33 : decode cX11_nozzle 33 = .ok (.aload_n 0, 1) := by decide +kernel
theorem dX11_nozzle_34 : decode cX11_nozzle 34 = .ok (.iconst (-1), 1) := by decide +kernel
theorem dX11_nozzle_35 : decode cX11_nozzle 35 = .ok (.invokevirtual 90, 3) := by decide +kernel
theorem dX11_nozzle_38 : decode cX11_nozzle 38 = .ok (.ireturn, 1) := by decide +kernel
theorem dX11_nozzle_39 : decode cX11_nozzle 39 = .ok (.aload_n 0, 1) := by decide +kernel
theorem dX11_nozzle_40 : decode cX11_nozzle 40 = .ok (.getfield 49, 3) := by decide +kernel
theorem dX11_nozzle_43 : decode cX11_nozzle 43 = .ok (.iload_n 1, 1) := by decide +kernel
theorem dX11_nozzle_44 : decode cX11_nozzle 44 = .ok (.invokevirtual 127, 3) := by decide +kernel
theorem dX11_nozzle_47 : decode cX11_nozzle 47 = .ok (.ifCond .eq 17, 3) := by decide +kernel
theorem dX11_nozzle_50 : decode cX11_nozzle 50 = .ok (.iload_n 3, 1) := by decide +kernel
theorem dX11_nozzle_51 : decode cX11_nozzle 51 = .ok (.iconst 2, 1) := by decide +kernel
theorem dX11_nozzle_52 : decode cX11_nozzle 52 = .ok (.if_icmp .ne 19, 3) := by decide +kernel
theorem dX11_nozzle_55 : decode cX11_nozzle 55 = .ok (.aload_n 0, 1) := by decide +kernel
theorem dX11_nozzle_56 : decode cX11_nozzle 56 = .ok (.iload 4, 2) := by decide +kernel
theorem dX11_nozzle_58 : decode cX11_nozzle 58 = .ok (.invokevirtual 118, 3) := by decide +kernel
theorem dX11_nozzle_61 : decode cX11_nozzle 61 = .ok (.ifCond .ne 10, 3) := by decide +kernel
theorem dX11_nozzle_64 : decode cX11_nozzle 64 = .ok (.aload_n 0, 1) := by decide +kernel
theorem dX11_nozzle_65 : decode cX11_nozzle 65 = .ok (.bipush (-2), 2) := by decide +kernel
theorem dX11_nozzle_67 : decode cX11_nozzle 67 = .ok (.invokevirtual 90, 3) := by decide +kernel
theorem dX11_nozzle_70 : decode cX11_nozzle 70 = .ok (.ireturn, 1) := by decide +kernel
theorem dX11_nozzle_71 : decode cX11_nozzle 71 = .ok (.aload_n 0, 1) := by decide +kernel
theorem dX11_nozzle_72 : decode cX11_nozzle 72 = .ok (.getfield 28, 3) := by decide +kernel
theorem dX11_nozzle_75 : decode cX11_nozzle 75 = .ok (.aload_n 0, 1) := by decide +kernel
theorem dX11_nozzle_76 : decode cX11_nozzle 76 = .ok (.getfield 130, 3) := by decide +kernel
theorem dX11_nozzle_79 : decode cX11_nozzle 79 = .ok (.invokevirtual 133, 3) := by decide +kernel
theorem dX11_nozzle_82 : decode cX11_nozzle 82 = .ok (.iload_n 3, 1) := by decide +kernel
theorem dX11_nozzle_83 : decode cX11_nozzle 83 = .ok (.iconst 2, 1) := by decide +kernel
theorem dX11_nozzle_84 : decode cX11_nozzle 84 = .ok (.if_icmp .ne 21, 3) := by decide +kernel
theorem dX11_nozzle_87 : decode cX11_nozzle 87 = .ok (.aload_n 0, 1) := by decide +kernel
theorem dX11_nozzle_88 : decode cX11_nozzle 88 = .ok (.getfield 28, 3) := by decide +kernel
theorem dX11_nozzle_91 : decode cX11_nozzle 91 = .ok (.iload_n 2, 1) := by decide +kernel
theorem dX11_nozzle_92 : decode cX11_nozzle 92 = .ok (.invokevirtual 136, 3) := by decide +kernel
theorem dX11_nozzle_95 : decode cX11_nozzle 95 = .ok (.ifCond .eq 10, 3) := by decide +kernel
theorem dX11_nozzle_98 : decode cX11_nozzle 98 = .ok (.aload_n 0, 1) := by decide +kernel
theorem dX11_nozzle_99 : decode cX11_nozzle 99 = .ok (.bipush (-3), 2) := by decide +kernel
theorem dX11_nozzle_101 : decode cX11_nozzle 101 = .ok (.invokevirtual 90, 3) := by decide +kernel
theorem dX11_nozzle_104 : decode cX11_nozzle 104 = .ok (.ireturn, 1) := by decide +kernel
theorem dX11_nozzle_105 : decode cX11_nozzle 105 = .ok (.aload_n 0, 1) := by decide +kernel
theorem dX11_nozzle_106 : decode cX11_nozzle 106 = .ok (.aload_n 0, 1) := by decide +kernel
theorem dX11_nozzle_107 : decode cX11_nozzle 107 = .ok (.getfield 56, 3) := by decide +kernel
theorem dX11_nozzle_110 : decode cX11_nozzle 110 = .ok (.iload_n 1, 1) := by decide +kernel
theorem dX11_nozzle_111 : decode cX11_nozzle 111 = .ok (.iload_n 2, 1) := by decide +kernel
theorem dX11_nozzle_112 : decode cX11_nozzle 112 = .ok (.iload_n 3, 1) := by decide +kernel
theorem dX11_nozzle_113 : decode cX11_nozzle 113 = .ok (.iload 4, 2) := by decide +kernel
theorem dX11_nozzle_115 : decode cX11_nozzle 115 = .ok (.aload_n 0, 1) := by decide +kernel
theorem dX11_nozzle_116 : decode cX11_nozzle 116 = .ok (.getfield 130, 3) := by decide +kernel
theorem dX11_nozzle_119 : decode cX11_nozzle 119 = .ok (.invokevirtual 139, 3) := by decide +kernel
theorem dX11_nozzle_122 : decode cX11_nozzle 122 = .ok (.invokevirtual 90, 3) := by decide +kernel
theorem dX11_nozzle_125 : decode cX11_nozzle 125 = .ok (.ireturn, 1) := by decide +kernel
theorem dX11_shut_0 : decode cX11_shut 0 = .ok (.aload_n 0, 1) := by decide +kernel
theorem dX11_shut_1 : decode cX11_shut 1 = .ok (.getfield 56, 3) := by decide +kernel
theorem dX11_shut_4 : decode cX11_shut 4 = .ok (.iload_n 1, 1) := by decide +kernel
theorem dX11_shut_5 : decode cX11_shut 5 = .ok (.invokevirtual 143, 3) := by decide +kernel
theorem dX11_shut_8 : decode cX11_shut 8 = .ok (.ifCond .ne 10, 3) := by decide +kernel
theorem dX11_shut_11 : decode cX11_shut 11 = .ok (.aload_n 0, 1) := by decide +kernel
theorem dX11_shut_12 : decode cX11_shut 12 = .ok (.bipush (-2), 2) := by decide +kernel
theorem dX11_shut_14 : decode cX11_shut 14 = .ok (.invokevirtual 90, 3) := by decide +kernel
theorem dX11_shut_17 : decode cX11_shut 17 = .ok (.ireturn, 1) := by decide +kernel
theorem dX11_shut_18 : decode cX11_shut 18 = .ok (.aload_n 0, 1) := by decide +kernel
theorem dX11_shut_19 : decode cX11_shut 19 = .ok (.getfield 56, 3) := by decide +kernel
theorem dX11_shut_22 : decode cX11_shut 22 = .ok (.iload_n 1, 1) := by decide +kernel
theorem dX11_shut_23 : decode cX11_shut 23 = .ok (.aload_n 0, 1) := by decide +kernel
theorem dX11_shut_24 : decode cX11_shut 24 = .ok (.getfield 130, 3) := by decide +kernel
theorem dX11_shut_27 : decode cX11_shut 27 = .ok (.invokevirtual 144, 3) := by decide +kernel
theorem dX11_shut_30 : decode cX11_shut 30 = .ok (.aload_n 0, 1) := by decide +kernel
theorem dX11_shut_31 : decode cX11_shut 31 = .ok (.iconst 0, 1) := by decide +kernel
theorem dX11_shut_32 : decode cX11_shut 32 = .ok (.invokevirtual 90, 3) := by decide +kernel
theorem dX11_shut_35 : decode cX11_shut 35 = .ok (.ireturn, 1) := by decide +kernel
theorem dX11_tap_0 : decode cX11_tap 0 = .ok (.iload_n 2, 1) := by decide +kernel
theorem dX11_tap_1 : decode cX11_tap 1 = .ok (.iconst 1, 1) := by decide +kernel
theorem dX11_tap_2 : decode cX11_tap 2 = .ok (.sipush 10000, 3) := by decide +kernel
theorem dX11_tap_5 : decode cX11_tap 5 = .ok (.invokestatic 86, 3) := by decide +kernel
theorem dX11_tap_8 : decode cX11_tap 8 = .ok (.ifCond .eq 12, 3) := by decide +kernel
theorem dX11_tap_11 : decode cX11_tap 11 = .ok (.iload_n 3, 1) := by decide +kernel
theorem dX11_tap_12 : decode cX11_tap 12 = .ok (.iload 4, 2) := by decide +kernel
theorem dX11_tap_14 : decode cX11_tap 14 = .ok (.invokestatic 148, 3) := by decide +kernel
theorem dX11_tap_17 : decode cX11_tap 17 = .ok (.ifCond .ne 9, 3) := by decide +kernel
theorem dX11_tap_20 : decode cX11_tap 20 = .ok (.aload_n 0, 1) := by decide +kernel
theorem dX11_tap_21 : decode cX11_tap 21 = .ok (.iconst (-1), 1) := by decide +kernel
theorem dX11_tap_22 : decode cX11_tap 22 = .ok (.invokevirtual 90, 3) := by decide +kernel
theorem dX11_tap_25 : decode cX11_tap 25 = .ok (.ireturn, 1) := by decide +kernel
theorem dX11_tap_26 : decode cX11_tap 26 = .ok (.aload_n 0, 1) := by decide +kernel
theorem dX11_tap_27 : decode cX11_tap 27 = .ok (.getfield 49, 3) := by decide +kernel
theorem dX11_tap_30 : decode cX11_tap 30 = .ok (.iload_n 1, 1) := by decide +kernel
theorem dX11_tap_31 : decode cX11_tap 31 = .ok (.invokevirtual 127, 3) := by decide +kernel
theorem dX11_tap_34 : decode cX11_tap 34 = .ok (.ifCond .ne 10, 3) := by decide +kernel
theorem dX11_tap_37 : decode cX11_tap 37 = .ok (.aload_n 0, 1) := by decide +kernel
theorem dX11_tap_38 : decode cX11_tap 38 = .ok (.bipush (-2), 2) := by decide +kernel
theorem dX11_tap_40 : decode cX11_tap 40 = .ok (.invokevirtual 90, 3) := by decide +kernel
theorem dX11_tap_43 : decode cX11_tap 43 = .ok (.ireturn, 1) := by decide +kernel
theorem dX11_tap_44 : decode cX11_tap 44 = .ok (.aload_n 0, 1) := by decide +kernel
theorem dX11_tap_45 : decode cX11_tap 45 = .ok (.aload_n 0, 1) := by decide +kernel
theorem dX11_tap_46 : decode cX11_tap 46 = .ok (.getfield 65, 3) := by decide +kernel
theorem dX11_tap_49 : decode cX11_tap 49 = .ok (.iload_n 1, 1) := by decide +kernel
theorem dX11_tap_50 : decode cX11_tap 50 = .ok (.iload_n 2, 1) := by decide +kernel
theorem dX11_tap_51 : decode cX11_tap 51 = .ok (.iload_n 3, 1) := by decide +kernel
theorem dX11_tap_52 : decode cX11_tap 52 = .ok (.iload 4, 2) := by decide +kernel
theorem dX11_tap_54 : decode cX11_tap 54 = .ok (.invokevirtual 152, 3) := by decide +kernel
theorem dX11_tap_57 : decode cX11_tap 57 = .ok (.invokevirtual 90, 3) := by decide +kernel
theorem dX11_tap_60 : decode cX11_tap 60 = .ok (.ireturn, 1) := by decide +kernel
theorem dX11_repair_0 : decode cX11_repair 0 = .ok (.iload_n 2, 1) := by decide +kernel
theorem dX11_repair_1 : decode cX11_repair 1 = .ok (.iload_n 3, 1) := by decide +kernel
theorem dX11_repair_2 : decode cX11_repair 2 = .ok (.invokestatic 148, 3) := by decide +kernel
theorem dX11_repair_5 : decode cX11_repair 5 = .ok (.ifCond .ne 9, 3) := by decide +kernel
theorem dX11_repair_8 : decode cX11_repair 8 = .ok (.aload_n 0, 1) := by decide +kernel
theorem dX11_repair_9 : decode cX11_repair 9 = .ok (.iconst (-1), 1) := by decide +kernel
theorem dX11_repair_10 : decode cX11_repair 10 = .ok (.invokevirtual 90, 3) := by decide +kernel
theorem dX11_repair_13 : decode cX11_repair 13 = .ok (.ireturn, 1) := by decide +kernel
theorem dX11_repair_14 : decode cX11_repair 14 = .ok (.aload_n 0, 1) := by decide +kernel
theorem dX11_repair_15 : decode cX11_repair 15 = .ok (.getfield 49, 3) := by decide +kernel
theorem dX11_repair_18 : decode cX11_repair 18 = .ok (.iload_n 1, 1) := by decide +kernel
theorem dX11_repair_19 : decode cX11_repair 19 = .ok (.invokevirtual 127, 3) := by decide +kernel
theorem dX11_repair_22 : decode cX11_repair 22 = .ok (.ifCond .ne 10, 3) := by decide +kernel
theorem dX11_repair_25 : decode cX11_repair 25 = .ok (.aload_n 0, 1) := by decide +kernel
theorem dX11_repair_26 : decode cX11_repair 26 = .ok (.bipush (-2), 2) := by decide +kernel
theorem dX11_repair_28 : decode cX11_repair 28 = .ok (.invokevirtual 90, 3) := by decide +kernel
theorem dX11_repair_31 : decode cX11_repair 31 = .ok (.ireturn, 1) := by decide +kernel
theorem dX11_repair_32 : decode cX11_repair 32 = .ok (.aload_n 0, 1) := by decide +kernel
theorem dX11_repair_33 : decode cX11_repair 33 = .ok (.aload_n 0, 1) := by decide +kernel
theorem dX11_repair_34 : decode cX11_repair 34 = .ok (.getfield 69, 3) := by decide +kernel
theorem dX11_repair_37 : decode cX11_repair 37 = .ok (.iload_n 1, 1) := by decide +kernel
theorem dX11_repair_38 : decode cX11_repair 38 = .ok (.iconst 0, 1) := by decide +kernel
theorem dX11_repair_39 : decode cX11_repair 39 = .ok (.iload_n 2, 1) := by decide +kernel
theorem dX11_repair_40 : decode cX11_repair 40 = .ok (.iload_n 3, 1) := by decide +kernel
theorem dX11_repair_41 : decode cX11_repair 41 = .ok (.invokevirtual 152, 3) := by decide +kernel
theorem dX11_repair_44 : decode cX11_repair 44 = .ok (.invokevirtual 90, 3) := by decide +kernel
theorem dX11_repair_47 : decode cX11_repair 47 = .ok (.ireturn, 1) := by decide +kernel
theorem dX11_go_0 : decode cX11_go 0 = .ok (.iload_n 1, 1) := by decide +kernel
theorem dX11_go_1 : decode cX11_go 1 = .ok (.iconst 1, 1) := by decide +kernel
theorem dX11_go_2 : decode cX11_go 2 = .ok (.bipush 50, 2) := by decide +kernel
theorem dX11_go_4 : decode cX11_go 4 = .ok (.invokestatic 86, 3) := by decide +kernel
theorem dX11_go_7 : decode cX11_go 7 = .ok (.ifCond .eq 15, 3) := by decide +kernel
theorem dX11_go_10 : decode cX11_go 10 = .ok (.aload_n 0, 1) := by decide +kernel
theorem dX11_go_11 : decode cX11_go 11 = .ok (.getfield 130, 3) := by decide +kernel
theorem dX11_go_14 : decode cX11_go 14 = .ok (.iload_n 1, 1) := by decide +kernel
theorem dX11_go_15 : decode cX11_go 15 = .ok (.iadd, 1) := by decide +kernel
theorem dX11_go_16 : decode cX11_go 16 = .ok (.sipush 200, 3) := by decide +kernel
theorem dX11_go_19 : decode cX11_go 19 = .ok (.if_icmp .le 9, 3) := by decide +kernel
theorem dX11_go_22 : decode cX11_go 22 = .ok (.aload_n 0, 1) := by decide +kernel
theorem dX11_go_23 : decode cX11_go 23 = .ok (.iconst (-1), 1) := by decide +kernel
theorem dX11_go_24 : decode cX11_go 24 = .ok (.invokevirtual 90, 3) := by decide +kernel
theorem dX11_go_27 : decode cX11_go 27 = .ok (.ireturn, 1) := by decide +kernel
theorem dX11_go_28 : decode cX11_go 28 = .ok (.aload_n 0, 1) := by decide +kernel
theorem dX11_go_29 : decode cX11_go 29 = .ok (.dup, 1) := by decide +kernel
theorem dX11_go_30 : decode cX11_go 30 = .ok (.getfield 130, 3) := by decide +kernel
theorem dX11_go_33 : decode cX11_go 33 = .ok (.iload_n 1, 1) := by decide +kernel
theorem dX11_go_34 : decode cX11_go 34 = .ok (.iadd, 1) := by decide +kernel
theorem dX11_go_35 : decode cX11_go 35 = .ok (.putfield 130, 3) := by decide +kernel
theorem dX11_go_38 : decode cX11_go 38 = .ok (.aload_n 0, 1) := by decide +kernel
theorem dX11_go_39 : decode cX11_go 39 = .ok (.aload_n 0, 1) := by decide +kernel
theorem dX11_go_40 : decode cX11_go 40 = .ok (.getfield 130, 3) := by decide +kernel
theorem dX11_go_43 : decode cX11_go 43 = .ok (.invokevirtual 90, 3) := by decide +kernel
theorem dX11_go_46 : decode cX11_go 46 = .ok (.ireturn, 1) := by decide +kernel
theorem dX11_feed_0 : decode cX11_feed 0 = .ok (.aload_n 0, 1) := by decide +kernel
theorem dX11_feed_1 : decode cX11_feed 1 = .ok (.getfield 12, 3) := by decide +kernel
theorem dX11_feed_4 : decode cX11_feed 4 = .ok (.bipush 20, 2) := by decide +kernel
theorem dX11_feed_6 : decode cX11_feed 6 = .ok (.invokevirtual 155, 3) := by decide +kernel
theorem dX11_feed_9 : decode cX11_feed 9 = .ok (.ifCond .ne 5, 3) := by decide +kernel
theorem dX11_feed_12 : decode cX11_feed 12 = .ok (.iconst (-1), 1) := by decide +kernel
theorem dX11_feed_13 : decode cX11_feed 13 = .ok (.ireturn, 1) := by decide +kernel
theorem dX11_feed_14 : decode cX11_feed 14 = .ok (.aload_n 0, 1) := by decide +kernel
theorem dX11_feed_15 : decode cX11_feed 15 = .ok (.getfield 12, 3) := by decide +kernel
theorem dX11_feed_18 : decode cX11_feed 18 = .ok (.iload_n 1, 1) := by decide +kernel
theorem dX11_feed_19 : decode cX11_feed 19 = .ok (.invokevirtual 158, 3) := by decide +kernel
theorem dX11_feed_22 : decode cX11_feed 22 = .ok (.aload_n 0, 1) := by decide +kernel
theorem dX11_feed_23 : decode cX11_feed 23 = .ok (.getfield 12, 3) := by decide +kernel
theorem dX11_feed_26 : decode cX11_feed 26 = .ok (.iload_n 2, 1) := by decide +kernel
theorem dX11_feed_27 : decode cX11_feed 27 = .ok (.invokevirtual 158, 3) := by decide +kernel
theorem dX11_feed_30 : decode cX11_feed 30 = .ok (.aload_n 0, 1) := by decide +kernel
theorem dX11_feed_31 : decode cX11_feed 31 = .ok (.getfield 12, 3) := by decide +kernel
theorem dX11_feed_34 : decode cX11_feed 34 = .ok (.iload_n 3, 1) := by decide +kernel
theorem dX11_feed_35 : decode cX11_feed 35 = .ok (.invokevirtual 158, 3) := by decide +kernel
theorem dX11_feed_38 : decode cX11_feed 38 = .ok (.aload_n 0, 1) := by decide +kernel
theorem dX11_feed_39 : decode cX11_feed 39 = .ok (.getfield 12, 3) := by decide +kernel
theorem dX11_feed_42 : decode cX11_feed 42 = .ok (.iload 4, 2) := by decide +kernel
theorem dX11_feed_44 : decode cX11_feed 44 = .ok (.invokevirtual 158, 3) := by decide +kernel
theorem dX11_feed_47 : decode cX11_feed 47 = .ok (.aload_n 0, 1) := by decide +kernel
theorem dX11_feed_48 : decode cX11_feed 48 = .ok (.getfield 12, 3) := by decide +kernel
theorem dX11_feed_51 : decode cX11_feed 51 = .ok (.iload 5, 2) := by decide +kernel
theorem dX11_feed_53 : decode cX11_feed 53 = .ok (.invokevirtual 158, 3) := by decide +kernel
theorem dX11_feed_56 : decode cX11_feed 56 = .ok (.aload_n 0, 1) := by decide +kernel
theorem dX11_feed_57 : decode cX11_feed 57 = .ok (.getfield 12, 3) := by decide +kernel
theorem dX11_feed_60 : decode cX11_feed 60 = .ok (.getfield 161, 3) := by decide +kernel
theorem dX11_feed_63 : decode cX11_feed 63 = .ok (.ireturn, 1) := by decide +kernel
theorem dX11_end_0 : decode cX11_end 0 = .ok (.iload_n 1, 1) := by decide +kernel
theorem dX11_end_1 : decode cX11_end 1 = .ok (.iconst 0, 1) := by decide +kernel
theorem dX11_end_2 : decode cX11_end 2 = .ok (.aload_n 0, 1) := by decide +kernel
theorem dX11_end_3 : decode cX11_end 3 = .ok (.getfield 12, 3) := by decide +kernel
theorem dX11_end_6 : decode cX11_end 6 = .ok (.getfield 161, 3) := by decide +kernel
theorem dX11_end_9 : decode cX11_end 9 = .ok (.invokestatic 86, 3) := by decide +kernel
theorem dX11_end_12 : decode cX11_end 12 = .ok (.ifCond .ne 5, 3) := by decide +kernel
theorem dX11_end_15 : decode cX11_end 15 = .ok (.iconst (-1), 1) := by decide +kernel
theorem dX11_end_16 : decode cX11_end 16 = .ok (.ireturn, 1) := by decide +kernel
theorem dX11_end_17 : decode cX11_end 17 = .ok (.aload_n 0, 1) := by decide +kernel
theorem dX11_end_18 : decode cX11_end 18 = .ok (.getfield 12, 3) := by decide +kernel
theorem dX11_end_21 : decode cX11_end 21 = .ok (.iload_n 1, 1) := by decide +kernel
theorem dX11_end_22 : decode cX11_end 22 = .ok (.putfield 161, 3) := by decide +kernel
theorem dX11_end_25 : decode cX11_end 25 = .ok (.iload_n 1, 1) := by decide +kernel
theorem dX11_end_26 : decode cX11_end 26 = .ok (.ireturn, 1) := by decide +kernel
theorem dX11_laws_0 : decode cX11_laws 0 = .ok (.aload_n 0, 1) := by decide +kernel
theorem dX11_laws_1 : decode cX11_laws 1 = .ok (.getfield 21, 3) := by decide +kernel
theorem dX11_laws_4 : decode cX11_laws 4 = .ok (.invokevirtual 164, 3) := by decide +kernel
theorem dX11_laws_7 : decode cX11_laws 7 = .ok (.istore_n 1, 1) := by decide +kernel
theorem dX11_laws_8 : decode cX11_laws 8 = .ok (.aload_n 0, 1) := by decide +kernel
theorem dX11_laws_9 : decode cX11_laws 9 = .ok (.getfield 12, 3) := by decide +kernel
theorem dX11_laws_12 : decode cX11_laws 12 = .ok (.iconst 0, 1) := by decide +kernel
theorem dX11_laws_13 : decode cX11_laws 13 = .ok (.putfield 161, 3) := by decide +kernel
theorem dX11_laws_16 : decode cX11_laws 16 = .ok (.iload_n 1, 1) := by decide +kernel
theorem dX11_laws_17 : decode cX11_laws 17 = .ok (.ifCond .ne 10, 3) := by decide +kernel
theorem dX11_laws_20 : decode cX11_laws 20 = .ok (.aload_n 0, 1) := by decide +kernel
theorem dX11_laws_21 : decode cX11_laws 21 = .ok (.bipush (-6), 2) := by decide +kernel
theorem dX11_laws_23 : decode cX11_laws 23 = .ok (.invokevirtual 90, 3) := by decide +kernel
theorem dX11_laws_26 : decode cX11_laws 26 = .ok (.ireturn, 1) := by decide +kernel
theorem dX11_laws_27 : decode cX11_laws 27 = .ok (.aload_n 0, 1) := by decide +kernel
theorem dX11_laws_28 : decode cX11_laws 28 = .ok (.getfield 28, 3) := by decide +kernel
theorem dX11_laws_31 : decode cX11_laws 31 = .ok (.aload_n 0, 1) := by decide +kernel
theorem dX11_laws_32 : decode cX11_laws 32 = .ok (.getfield 21, 3) := by decide +kernel
theorem dX11_laws_35 : decode cX11_laws 35 = .ok (.getfield 168, 3) := by decide +kernel
theorem dX11_laws_38 : decode cX11_laws 38 = .ok (.invokevirtual 171, 3) := by decide +kernel
theorem dX11_laws_41 : decode cX11_laws 41 = .ok (.aload_n 0, 1) := by decide +kernel
theorem dX11_laws_42 : decode cX11_laws 42 = .ok (.aload_n 0, 1) := by decide +kernel
theorem dX11_laws_43 : decode cX11_laws 43 = .ok (.getfield 28, 3) := by decide +kernel
theorem dX11_laws_46 : decode cX11_laws 46 = .ok (.getfield 175, 3) := by decide +kernel
theorem dX11_laws_49 : decode cX11_laws 49 = .ok (.invokevirtual 90, 3) := by decide +kernel
theorem dX11_laws_52 : decode cX11_laws 52 = .ok (.ireturn, 1) := by decide +kernel
theorem dX11_fault_0 : decode cX11_fault 0 = .ok (.aload_n 0, 1) := by decide +kernel
theorem dX11_fault_1 : decode cX11_fault 1 = .ok (.getfield 21, 3) := by decide +kernel
theorem dX11_fault_4 : decode cX11_fault 4 = .ok (.getfield 176, 3) := by decide +kernel
theorem dX11_fault_7 : decode cX11_fault 7 = .ok (.ireturn, 1) := by decide +kernel
theorem dX11_law_0 : decode cX11_law 0 = .ok (.iload_n 1, 1) := by decide +kernel
theorem dX11_law_1 : decode cX11_law 1 = .ok (.invokestatic 97, 3) := by decide +kernel
theorem dX11_law_4 : decode cX11_law 4 = .ok (.ifCond .eq 13, 3) := by decide +kernel
theorem dX11_law_7 : decode cX11_law 7 = .ok (.iload_n 2, 1) := by decide +kernel
theorem dX11_law_8 : decode cX11_law 8 = .ok (.iconst 0, 1) := by decide +kernel
theorem dX11_law_9 : decode cX11_law 9 = .ok (.bipush 7, 2) := by decide +kernel
theorem dX11_law_11 : decode cX11_law 11 = .ok (.invokestatic 86, 3) := by decide +kernel
theorem dX11_law_14 : decode cX11_law 14 = .ok (.ifCond .ne 5, 3) := by decide +kernel
theorem dX11_law_17 : decode cX11_law 17 = .ok (.iconst (-1), 1) := by decide +kernel
theorem dX11_law_18 : decode cX11_law 18 = .ok (.ireturn, 1) := by decide +kernel
theorem dX11_law_19 : decode cX11_law 19 = .ok (.aload_n 0, 1) := by decide +kernel
theorem dX11_law_20 : decode cX11_law 20 = .ok (.getfield 28, 3) := by decide +kernel
theorem dX11_law_23 : decode cX11_law 23 = .ok (.iload_n 1, 1) := by decide +kernel
theorem dX11_law_24 : decode cX11_law 24 = .ok (.invokevirtual 133, 3) := by decide +kernel
theorem dX11_law_27 : decode cX11_law 27 = .ok (.aload_n 0, 1) := by decide +kernel
theorem dX11_law_28 : decode cX11_law 28 = .ok (.getfield 28, 3) := by decide +kernel
theorem dX11_law_31 : decode cX11_law 31 = .ok (.getfield 179, 3) := by decide +kernel
theorem dX11_law_34 : decode cX11_law 34 = .ok (.iload_n 2, 1) := by decide +kernel
theorem dX11_law_35 : decode cX11_law 35 = .ok (.iaload, 1) := by decide +kernel
theorem dX11_law_36 : decode cX11_law 36 = .ok (.ireturn, 1) := by decide +kernel
theorem dX11_lives_0 : decode cX11_lives 0 = .ok (.aload_n 0, 1) := by decide +kernel
theorem dX11_lives_1 : decode cX11_lives 1 = .ok (.getfield 56, 3) := by decide +kernel
theorem dX11_lives_4 : decode cX11_lives 4 = .ok (.iload_n 1, 1) := by decide +kernel
theorem dX11_lives_5 : decode cX11_lives 5 = .ok (.invokevirtual 143, 3) := by decide +kernel
theorem dX11_lives_8 : decode cX11_lives 8 = .ok (.ifCond .eq 30, 3) := by decide +kernel
theorem dX11_lives_11 : decode cX11_lives 11 = .ok (.iload_n 2, 1) := by decide +kernel
theorem dX11_lives_12 : decode cX11_lives 12 = .ok (.invokestatic 97, 3) := by decide +kernel
theorem dX11_lives_15 : decode cX11_lives 15 = .ok (.ifCond .eq 23, 3) := by decide +kernel
theorem dX11_lives_18 : decode cX11_lives 18 = .ok (.iload_n 3, 1) := by decide +kernel
theorem dX11_lives_19 : decode cX11_lives 19 = .ok (.invokestatic 97, 3) := by decide +kernel
theorem dX11_lives_22 : decode cX11_lives 22 = .ok (.ifCond .eq 16, 3) := by decide +kernel
theorem dX11_lives_25 : decode cX11_lives 25 = .ok (.aload_n 0, 1) := by decide +kernel
theorem dX11_lives_26 : decode cX11_lives 26 = .ok (.getfield 56, 3) := by decide +kernel
theorem dX11_lives_29 : decode cX11_lives 29 = .ok (.getfield 182, 3) := by decide +kernel
theorem dX11_lives_32 : decode cX11_lives 32 = .ok (.iload_n 1, 1) := by decide +kernel
theorem dX11_lives_33 : decode cX11_lives 33 = .ok (.iaload, 1) := by decide +kernel
theorem dX11_lives_34 : decode cX11_lives 34 = .ok (.iconst 2, 1) := by decide +kernel
theorem dX11_lives_35 : decode cX11_lives 35 = .ok (.if_icmp .eq 5, 3) := by decide +kernel
theorem dX11_lives_38 : decode cX11_lives 38 = .ok (.iconst (-1), 1) := by decide +kernel
theorem dX11_lives_39 : decode cX11_lives 39 = .ok (.ireturn, 1) := by decide +kernel
theorem dX11_lives_40 : decode cX11_lives 40 = .ok (.aload_n 0, 1) := by decide +kernel
theorem dX11_lives_41 : decode cX11_lives 41 = .ok (.getfield 77, 3) := by decide +kernel
theorem dX11_lives_44 : decode cX11_lives 44 = .ok (.iload_n 2, 1) := by decide +kernel
theorem dX11_lives_45 : decode cX11_lives 45 = .ok (.iload_n 3, 1) := by decide +kernel
theorem dX11_lives_46 : decode cX11_lives 46 = .ok (.invokevirtual 185, 3) := by decide +kernel
theorem dX11_lives_49 : decode cX11_lives 49 = .ok (.aload_n 0, 1) := by decide +kernel
theorem dX11_lives_50 : decode cX11_lives 50 = .ok (.getfield 77, 3) := by decide +kernel
theorem dX11_lives_53 : decode cX11_lives 53 = .ok (.iload_n 1, 1) := by decide +kernel
theorem dX11_lives_54 : decode cX11_lives 54 = .ok (.invokevirtual 188, 3) := by decide +kernel
theorem dX11_lives_57 : decode cX11_lives 57 = .ok (.ifCond .eq 7, 3) := by decide +kernel
theorem dX11_lives_60 : decode cX11_lives 60 = .ok (.iconst 1, 1) := by decide +kernel
theorem dX11_lives_61 : decode cX11_lives 61 = .ok (.goto 4, 3) := by decide +kernel
theorem dX11_lives_64 : decode cX11_lives 64 = .ok (.iconst 0, 1) := by decide +kernel
theorem dX11_lives_65 : decode cX11_lives 65 = .ok (.ireturn, 1) := by decide +kernel
theorem dX11_gets_0 : decode cX11_gets 0 = .ok (.aload_n 0, 1) := by decide +kernel
theorem dX11_gets_1 : decode cX11_gets 1 = .ok (.getfield 56, 3) := by decide +kernel
theorem dX11_gets_4 : decode cX11_gets 4 = .ok (.iload_n 1, 1) := by decide +kernel
theorem dX11_gets_5 : decode cX11_gets 5 = .ok (.invokevirtual 143, 3) := by decide +kernel
theorem dX11_gets_8 : decode cX11_gets 8 = .ok (.ifCond .eq 17, 3) := by decide +kernel
theorem dX11_gets_11 : decode cX11_gets 11 = .ok (.iload_n 2, 1) := by decide +kernel
theorem dX11_gets_12 : decode cX11_gets 12 = .ok (.invokestatic 97, 3) := by decide +kernel
theorem dX11_gets_15 : decode cX11_gets 15 = .ok (.ifCond .eq 10, 3) := by decide +kernel
theorem dX11_gets_18 : decode cX11_gets 18 = .ok (.iload_n 3, 1) := by decide +kernel
theorem dX11_gets_19 : decode cX11_gets 19 = .ok (.invokestatic 97, 3) := by decide +kernel
theorem dX11_gets_22 : decode cX11_gets 22 = .ok (.ifCond .ne 5, 3) := by decide +kernel
theorem dX11_gets_25 : decode cX11_gets 25 = .ok (.iconst (-1), 1) := by decide +kernel
theorem dX11_gets_26 : decode cX11_gets 26 = .ok (.ireturn, 1) := by decide +kernel
theorem dX11_gets_27 : decode cX11_gets 27 = .ok (.aload_n 0, 1) := by decide +kernel
theorem dX11_gets_28 : decode cX11_gets 28 = .ok (.getfield 77, 3) := by decide +kernel
theorem dX11_gets_31 : decode cX11_gets 31 = .ok (.iload_n 2, 1) := by decide +kernel
theorem dX11_gets_32 : decode cX11_gets 32 = .ok (.iload_n 3, 1) := by decide +kernel
theorem dX11_gets_33 : decode cX11_gets 33 = .ok (.invokevirtual 191, 3) := by decide +kernel
theorem dX11_gets_36 : decode cX11_gets 36 = .ok (.aload_n 0, 1) := by decide +kernel
theorem dX11_gets_37 : decode cX11_gets 37 = .ok (.getfield 77, 3) := by decide +kernel
theorem dX11_gets_40 : decode cX11_gets 40 = .ok (.getfield 194, 3) := by decide +kernel
theorem dX11_gets_43 : decode cX11_gets 43 = .ok (.iload_n 1, 1) := by decide +kernel
theorem dX11_gets_44 : decode cX11_gets 44 = .ok (.iaload, 1) := by decide +kernel
theorem dX11_gets_45 : decode cX11_gets 45 = .ok (.ireturn, 1) := by decide +kernel
theorem dX11_at_0 : decode cX11_at 0 = .ok (.aload_n 0, 1) := by decide +kernel
theorem dX11_at_1 : decode cX11_at 1 = .ok (.getfield 49, 3) := by decide +kernel
theorem dX11_at_4 : decode cX11_at 4 = .ok (.iload_n 1, 1) := by decide +kernel
theorem dX11_at_5 : decode cX11_at 5 = .ok (.invokevirtual 127, 3) := by decide +kernel
theorem dX11_at_8 : decode cX11_at 8 = .ok (.ifCond .eq 28, 3) := by decide +kernel
theorem dX11_at_11 : decode cX11_at 11 = .ok (.iload_n 2, 1) := by decide +kernel
theorem dX11_at_12 : decode cX11_at 12 = .ok (.invokestatic 97, 3) := by decide +kernel
theorem dX11_at_15 : decode cX11_at 15 = .ok (.ifCond .eq 21, 3) := by decide +kernel
theorem dX11_at_18 : decode cX11_at 18 = .ok (.iload_n 3, 1) := by decide +kernel
theorem dX11_at_19 : decode cX11_at 19 = .ok (.invokestatic 97, 3) := by decide +kernel
theorem dX11_at_22 : decode cX11_at 22 = .ok (.ifCond .eq 14, 3) := by decide +kernel
theorem dX11_at_25 : decode cX11_at 25 = .ok (.iload 4, 2) := by decide +kernel
theorem dX11_at_27 : decode cX11_at 27 = .ok (.iconst 0, 1) := by decide +kernel
theorem dX11_at_28 : decode cX11_at 28 = .ok (.bipush 6, 2) := by decide +kernel
theorem dX11_at_30 : decode cX11_at 30 = .ok (.invokestatic 86, 3) := by decide +kernel
theorem dX11_at_33 : decode cX11_at 33 = .ok (.ifCond .ne 5, 3) := by decide +kernel
theorem dX11_at_36 : decode cX11_at 36 = .ok (.iconst (-1), 1) := by decide +kernel
theorem dX11_at_37 : decode cX11_at 37 = .ok (.ireturn, 1) := by decide +kernel
theorem dX11_at_38 : decode cX11_at 38 = .ok (.aload_n 0, 1) := by decide +kernel
theorem dX11_at_39 : decode cX11_at 39 = .ok (.getfield 77, 3) := by decide +kernel
theorem dX11_at_42 : decode cX11_at 42 = .ok (.iload_n 2, 1) := by decide +kernel
theorem dX11_at_43 : decode cX11_at 43 = .ok (.iload_n 3, 1) := by decide +kernel
theorem dX11_at_44 : decode cX11_at 44 = .ok (.invokevirtual 191, 3) := by decide +kernel
theorem dX11_at_47 : decode cX11_at 47 = .ok (.aload_n 0, 1) := by decide +kernel
theorem dX11_at_48 : decode cX11_at 48 = .ok (.getfield 77, 3) := by decide +kernel
theorem dX11_at_51 : decode cX11_at 51 = .ok (.getfield 197, 3) := by decide +kernel
theorem dX11_at_54 : decode cX11_at 54 = .ok (.iload 4, 2) := by decide +kernel
theorem dX11_at_56 : decode cX11_at 56 = .ok (.aaload, 1) := by decide +kernel
theorem dX11_at_57 : decode cX11_at 57 = .ok (.iload_n 1, 1) := by decide +kernel
theorem dX11_at_58 : decode cX11_at 58 = .ok (.iaload, 1) := by decide +kernel
theorem dX11_at_59 : decode cX11_at 59 = .ok (.ireturn, 1) := by decide +kernel
theorem dX11_dry_0 : decode cX11_dry 0 = .ok (.iload_n 1, 1) := by decide +kernel
theorem dX11_dry_1 : decode cX11_dry 1 = .ok (.invokestatic 124, 3) := by decide +kernel
theorem dX11_dry_4 : decode cX11_dry 4 = .ok (.ifCond .eq 17, 3) := by decide +kernel
theorem dX11_dry_7 : decode cX11_dry 7 = .ok (.iload_n 2, 1) := by decide +kernel
theorem dX11_dry_8 : decode cX11_dry 8 = .ok (.invokestatic 97, 3) := by decide +kernel
theorem dX11_dry_11 : decode cX11_dry 11 = .ok (.ifCond .eq 10, 3) := by decide +kernel
theorem dX11_dry_14 : decode cX11_dry 14 = .ok (.iload_n 3, 1) := by decide +kernel
theorem dX11_dry_15 : decode cX11_dry 15 = .ok (.invokestatic 97, 3) := by decide +kernel
theorem dX11_dry_18 : decode cX11_dry 18 = .ok (.ifCond .ne 5, 3) := by decide +kernel
theorem dX11_dry_21 : decode cX11_dry 21 = .ok (.iconst (-1), 1) := by decide +kernel
theorem dX11_dry_22 : decode cX11_dry 22 = .ok (.ireturn, 1) := by decide +kernel
theorem dX11_dry_23 : decode cX11_dry 23 = .ok (.aload_n 0, 1) := by decide +kernel
theorem dX11_dry_24 : decode cX11_dry 24 = .ok (.getfield 77, 3) := by decide +kernel
theorem dX11_dry_27 : decode cX11_dry 27 = .ok (.iload_n 2, 1) := by decide +kernel
theorem dX11_dry_28 : decode cX11_dry 28 = .ok (.iload_n 3, 1) := by decide +kernel
theorem dX11_dry_29 : decode cX11_dry 29 = .ok (.invokevirtual 191, 3) := by decide +kernel
theorem dX11_dry_32 : decode cX11_dry 32 = .ok (.aload_n 0, 1) := by decide +kernel
theorem dX11_dry_33 : decode cX11_dry 33 = .ok (.getfield 77, 3) := by decide +kernel
theorem dX11_dry_36 : decode cX11_dry 36 = .ok (.invokevirtual 201, 3) := by decide +kernel
theorem dX11_dry_39 : decode cX11_dry 39 = .ok (.aload_n 0, 1) := by decide +kernel
theorem dX11_dry_40 : decode cX11_dry 40 = .ok (.getfield 77, 3) := by decide +kernel
theorem dX11_dry_43 : decode cX11_dry 43 = .ok (.iload_n 1, 1) := by decide +kernel
theorem dX11_dry_44 : decode cX11_dry 44 = .ok (.invokevirtual 204, 3) := by decide +kernel
theorem dX11_dry_47 : decode cX11_dry 47 = .ok (.ifCond .eq 7, 3) := by decide +kernel
theorem dX11_dry_50 : decode cX11_dry 50 = .ok (.iconst 1, 1) := by decide +kernel
theorem dX11_dry_51 : decode cX11_dry 51 = .ok (.goto 4, 3) := by decide +kernel
theorem dX11_dry_54 : decode cX11_dry 54 = .ok (.iconst 0, 1) := by decide +kernel
theorem dX11_dry_55 : decode cX11_dry 55 = .ok (.ireturn, 1) := by decide +kernel
theorem dX11_found_0 : decode cX11_found 0 = .ok (.aload_n 0, 1) := by decide +kernel
theorem dX11_found_1 : decode cX11_found 1 = .ok (.getfield 49, 3) := by decide +kernel
theorem dX11_found_4 : decode cX11_found 4 = .ok (.iload_n 1, 1) := by decide +kernel
theorem dX11_found_5 : decode cX11_found 5 = .ok (.invokevirtual 127, 3) := by decide +kernel
theorem dX11_found_8 : decode cX11_found 8 = .ok (.ifCond .eq 10, 3) := by decide +kernel
theorem dX11_found_11 : decode cX11_found 11 = .ok (.iload_n 2, 1) := by decide +kernel
theorem dX11_found_12 : decode cX11_found 12 = .ok (.invokestatic 97, 3) := by decide +kernel
theorem dX11_found_15 : decode cX11_found 15 = .ok (.ifCond .ne 5, 3) := by decide +kernel
theorem dX11_found_18 : decode cX11_found 18 = .ok (.iconst (-1), 1) := by decide +kernel
theorem dX11_found_19 : decode cX11_found 19 = .ok (.ireturn, 1) := by decide +kernel
theorem dX11_found_20 : decode cX11_found 20 = .ok (.aload_n 0, 1) := by decide +kernel
theorem dX11_found_21 : decode cX11_found 21 = .ok (.getfield 77, 3) := by decide +kernel
theorem dX11_found_24 : decode cX11_found 24 = .ok (.iload_n 2, 1) := by decide +kernel
theorem dX11_found_25 : decode cX11_found 25 = .ok (.aload_n 0, 1) := by decide +kernel
theorem dX11_found_26 : decode cX11_found 26 = .ok (.getfield 130, 3) := by decide +kernel
theorem dX11_found_29 : decode cX11_found 29 = .ok (.invokevirtual 191, 3) := by decide +kernel
theorem dX11_found_32 : decode cX11_found 32 = .ok (.aload_n 0, 1) := by decide +kernel
theorem dX11_found_33 : decode cX11_found 33 = .ok (.getfield 77, 3) := by decide +kernel
theorem dX11_found_36 : decode cX11_found 36 = .ok (.iload_n 1, 1) := by decide +kernel
theorem dX11_found_37 : decode cX11_found 37 = .ok (.invokevirtual 207, 3) := by decide +kernel
theorem dX11_found_40 : decode cX11_found 40 = .ok (.ireturn, 1) := by decide +kernel
theorem dX11_best_0 : decode cX11_best 0 = .ok (.iload_n 2, 1) := by decide +kernel
theorem dX11_best_1 : decode cX11_best 1 = .ok (.iconst 1, 1) := by decide +kernel
theorem dX11_best_2 : decode cX11_best 2 = .ok (.bipush 10, 2) := by decide +kernel
theorem dX11_best_4 : decode cX11_best 4 = .ok (.invokestatic 86, 3) := by decide +kernel
theorem dX11_best_7 : decode cX11_best 7 = .ok (.ifCond .eq 24, 3) := by decide +kernel
theorem dX11_best_10 : decode cX11_best 10 = .ok (.iload_n 3, 1) := by decide +kernel
theorem dX11_best_11 : decode cX11_best 11 = .ok (.iload 4, 2) := by decide +kernel
theorem dX11_best_13 : decode cX11_best 13 = .ok (.invokestatic 148, 3) := by decide +kernel
theorem dX11_best_16 : decode cX11_best 16 = .ok (.ifCond .eq 15, 3) := by decide +kernel
theorem dX11_best_19 : decode cX11_best 19 = .ok (.iload 4, 2) := by decide +kernel
theorem dX11_best_21 : decode cX11_best 21 = .ok (.iload_n 2, 1) := by decide +kernel
theorem dX11_best_22 : decode cX11_best 22 = .ok (.iadd, 1) := by decide +kernel
theorem dX11_best_23 : decode cX11_best 23 = .ok (.iconst 1, 1) := by decide +kernel
theorem dX11_best_24 : decode cX11_best 24 = .ok (.isub, 1) := by decide +kernel
theorem dX11_best_25 : decode cX11_best 25 = .ok (.sipush 200, 3) := by decide +kernel
theorem dX11_best_28 : decode cX11_best 28 = .ok (.if_icmp .le 5, 3) := by decide +kernel
theorem dX11_best_31 : decode cX11_best 31 = .ok (.iconst (-1), 1) := by decide +kernel
theorem dX11_best_32 : decode cX11_best 32 = .ok (.ireturn, 1) := by decide +kernel
theorem dX11_best_33 : decode cX11_best 33 = .ok (.aload_n 0, 1) := by decide +kernel
theorem dX11_best_34 : decode cX11_best 34 = .ok (.getfield 49, 3) := by decide +kernel
theorem dX11_best_37 : decode cX11_best 37 = .ok (.iload_n 1, 1) := by decide +kernel
theorem dX11_best_38 : decode cX11_best 38 = .ok (.invokevirtual 127, 3) := by decide +kernel
theorem dX11_best_41 : decode cX11_best 41 = .ok (.ifCond .ne 6, 3) := by decide +kernel
theorem dX11_best_44 : decode cX11_best 44 = .ok (.bipush (-2), 2) := by decide +kernel
theorem dX11_best_46 : decode cX11_best 46 = .ok (.ireturn, 1) := by decide +kernel
theorem dX11_best_47 : decode cX11_best 47 = .ok (.aload_n 0, 1) := by decide +kernel
theorem dX11_best_48 : decode cX11_best 48 = .ok (.iload_n 1, 1) := by decide +kernel
theorem dX11_best_49 : decode cX11_best 49 = .ok (.iload_n 3, 1) := by decide +kernel
theorem dX11_best_50 : decode cX11_best 50 = .ok (.iload 4, 2) := by decide +kernel
theorem dX11_best_52 : decode cX11_best 52 = .ok (.iload_n 2, 1) := by decide +kernel
theorem dX11_best_53 : decode cX11_best 53 = .ok (.iadd, 1) := by decide +kernel
theorem dX11_best_54 : decode cX11_best 54 = .ok (.iconst 1, 1) := by decide +kernel
theorem dX11_best_55 : decode cX11_best 55 = .ok (.isub, 1) := by decide +kernel
theorem dX11_best_56 : decode cX11_best 56 = .ok (.invokevirtual 210, 3) := by decide +kernel
theorem dX11_best_59 : decode cX11_best 59 = .ok (.aload_n 0, 1) := by decide +kernel
theorem dX11_best_60 : decode cX11_best 60 = .ok (.iload_n 2, 1) := by decide +kernel
theorem dX11_best_61 : decode cX11_best 61 = .ok (.iload_n 3, 1) := by decide +kernel
theorem dX11_best_62 : decode cX11_best 62 = .ok (.iload 4, 2) := by decide +kernel
theorem dX11_best_64 : decode cX11_best 64 = .ok (.invokevirtual 214, 3) := by decide +kernel
theorem dX11_best_67 : decode cX11_best 67 = .ok (.ireturn, 1) := by decide +kernel
theorem dX11_rent_0 : decode cX11_rent 0 = .ok (.iload_n 2, 1) := by decide +kernel
theorem dX11_rent_1 : decode cX11_rent 1 = .ok (.invokestatic 97, 3) := by decide +kernel
theorem dX11_rent_4 : decode cX11_rent 4 = .ok (.ifCond .ne 7, 3) := by decide +kernel
theorem dX11_rent_7 : decode cX11_rent 7 = .ok (.ldc2_w 217, 3) := by decide +kernel
theorem dX11_rent_10 : decode cX11_rent 10 = .ok (.lreturn, 1) := by decide +kernel
theorem dX11_rent_11 : decode cX11_rent 11 = .ok (.aload_n 0, 1) := by decide +kernel
theorem dX11_rent_12 : decode cX11_rent 12 = .ok (.iload_n 1, 1) := by decide +kernel
theorem dX11_rent_13 : decode cX11_rent 13 = .ok (.invokevirtual 118, 3) := by decide +kernel
theorem dX11_rent_16 : decode cX11_rent 16 = .ok (.ifCond .ne 7, 3) := by decide +kernel
theorem dX11_rent_19 : decode cX11_rent 19 = .ok (.ldc2_w 219, 3) := by decide +kernel
theorem dX11_rent_22 : decode cX11_rent 22 = .ok (.lreturn, 1) := by decide +kernel
theorem dX11_rent_23 : decode cX11_rent 23 = .ok (.lconst 0, 1) := by decide +kernel
theorem dX11_rent_24 : decode cX11_rent 24 = .ok (.lstore_n 3, 1) := by decide +kernel
theorem dX11_rent_25 : decode cX11_rent 25 = .ok (.iconst 0, 1) := by decide +kernel
theorem dX11_rent_26 : decode cX11_rent 26 = .ok (.istore 5, 2) := by decide +kernel
theorem dX11_rent_28 : decode cX11_rent 28 = .ok (.iload 5, 2) := by decide +kernel
theorem dX11_rent_30 : decode cX11_rent 30 = .ok (.aload_n 0, 1) := by decide +kernel
theorem dX11_rent_31 : decode cX11_rent 31 = .ok (.getfield 130, 3) := by decide +kernel
theorem dX11_rent_34 : decode cX11_rent 34 = .ok (.if_icmp .ge 23, 3) := by decide +kernel
theorem dX11_rent_37 : decode cX11_rent 37 = .ok (.lload_n 3, 1) := by decide +kernel
theorem dX11_rent_38 : decode cX11_rent 38 = .ok (.aload_n 0, 1) := by decide +kernel
theorem dX11_rent_39 : decode cX11_rent 39 = .ok (.getfield 77, 3) := by decide +kernel
theorem dX11_rent_42 : decode cX11_rent 42 = .ok (.iload_n 1, 1) := by decide +kernel
theorem dX11_rent_43 : decode cX11_rent 43 = .ok (.iload 5, 2) := by decide +kernel
theorem dX11_rent_45 : decode cX11_rent 45 = .ok (.iload_n 2, 1) := by decide +kernel
theorem dX11_rent_46 : decode cX11_rent 46 = .ok (.invokevirtual 221, 3) := by decide +kernel
theorem dX11_rent_49 : decode cX11_rent 49 = .ok (.ladd, 1) := by decide +kernel
theorem dX11_rent_50 : decode cX11_rent 50 = .ok (.lstore_n 3, 1) := by decide +kernel
theorem dX11_rent_51 : decode cX11_rent 51 = .ok (.iinc 5 1, 3) := by decide +kernel
theorem dX11_rent_54 : decode cX11_rent 54 = .ok (.goto (-26), 3) := by decide +kernel
theorem dX11_rent_57 : decode cX11_rent 57 = .ok (.lload_n 3, 1) := by decide +kernel
theorem dX11_rent_58 : decode cX11_rent 58 = .ok (.lreturn, 1) := by decide +kernel
theorem dX11_fines_0 : decode cX11_fines 0 = .ok (.aload_n 0, 1) := by decide +kernel
theorem dX11_fines_1 : decode cX11_fines 1 = .ok (.getfield 49, 3) := by decide +kernel
theorem dX11_fines_4 : decode cX11_fines 4 = .ok (.iload_n 1, 1) := by decide +kernel
theorem dX11_fines_5 : decode cX11_fines 5 = .ok (.invokevirtual 127, 3) := by decide +kernel
theorem dX11_fines_8 : decode cX11_fines 8 = .ok (.ifCond .ne 7, 3) := by decide +kernel
theorem dX11_fines_11 : decode cX11_fines 11 = .ok (.ldc2_w 219, 3) := by decide +kernel
theorem dX11_fines_14 : decode cX11_fines 14 = .ok (.lreturn, 1) := by decide +kernel
theorem dX11_fines_15 : decode cX11_fines 15 = .ok (.lconst 0, 1) := by decide +kernel
theorem dX11_fines_16 : decode cX11_fines 16 = .ok (.lstore_n 2, 1) := by decide +kernel
theorem dX11_fines_17 : decode cX11_fines 17 = .ok (.iconst 0, 1) := by decide +kernel
theorem dX11_fines_18 : decode cX11_fines 18 = .ok (.istore 4, 2) := by decide +kernel
theorem dX11_fines_20 : decode cX11_fines 20 = .ok (.iload 4, 2) := by decide +kernel
theorem dX11_fines_22 : decode cX11_fines 22 = .ok (.aload_n 0, 1) := by decide +kernel
theorem dX11_fines_23 : decode cX11_fines 23 = .ok (.getfield 130, 3) := by decide +kernel
theorem dX11_fines_26 : decode cX11_fines 26 = .ok (.if_icmp .ge 26, 3) := by decide +kernel
theorem dX11_fines_29 : decode cX11_fines 29 = .ok (.lload_n 2, 1) := by decide +kernel
theorem dX11_fines_30 : decode cX11_fines 30 = .ok (.aload_n 0, 1) := by decide +kernel
theorem dX11_fines_31 : decode cX11_fines 31 = .ok (.getfield 77, 3) := by decide +kernel
theorem dX11_fines_34 : decode cX11_fines 34 = .ok (.iload_n 1, 1) := by decide +kernel
theorem dX11_fines_35 : decode cX11_fines 35 = .ok (.iload 4, 2) := by decide +kernel
theorem dX11_fines_37 : decode cX11_fines 37 = .ok (.aload_n 0, 1) := by decide +kernel
theorem dX11_fines_38 : decode cX11_fines 38 = .ok (.getfield 130, 3) := by decide +kernel
theorem dX11_fines_41 : decode cX11_fines 41 = .ok (.invokevirtual 225, 3) := by decide +kernel
theorem dX11_fines_44 : decode cX11_fines 44 = .ok (.ladd, 1) := by decide +kernel
theorem dX11_fines_45 : decode cX11_fines 45 = .ok (.lstore_n 2, 1) := by decide +kernel
theorem dX11_fines_46 : decode cX11_fines 46 = .ok (.iinc 4 1, 3) := by decide +kernel
theorem dX11_fines_49 : decode cX11_fines 49 = .ok (.goto (-29), 3) := by decide +kernel
theorem dX11_fines_52 : decode cX11_fines 52 = .ok (.lload_n 2, 1) := by decide +kernel
theorem dX11_fines_53 : decode cX11_fines 53 = .ok (.lreturn, 1) := by decide +kernel
theorem dX11_dead_0 : decode cX11_dead 0 = .ok (.aload_n 0, 1) := by decide +kernel
theorem dX11_dead_1 : decode cX11_dead 1 = .ok (.iload_n 1, 1) := by decide +kernel
theorem dX11_dead_2 : decode cX11_dead 2 = .ok (.invokevirtual 118, 3) := by decide +kernel
theorem dX11_dead_5 : decode cX11_dead 5 = .ok (.ifCond .eq 10, 3) := by decide +kernel
theorem dX11_dead_8 : decode cX11_dead 8 = .ok (.iload_n 2, 1) := by decide +kernel
theorem dX11_dead_9 : decode cX11_dead 9 = .ok (.invokestatic 97, 3) := by decide +kernel
theorem dX11_dead_12 : decode cX11_dead 12 = .ok (.ifCond .ne 5, 3) := by decide +kernel
theorem dX11_dead_15 : decode cX11_dead 15 = .ok (.iconst (-1), 1) := by decide +kernel
theorem dX11_dead_16 : decode cX11_dead 16 = .ok (.ireturn, 1) := by decide +kernel
theorem dX11_dead_17 : decode cX11_dead 17 = .ok (.aload_n 0, 1) := by decide +kernel
theorem dX11_dead_18 : decode cX11_dead 18 = .ok (.getfield 35, 3) := by decide +kernel
theorem dX11_dead_21 : decode cX11_dead 21 = .ok (.iload_n 2, 1) := by decide +kernel
theorem dX11_dead_22 : decode cX11_dead 22 = .ok (.invokevirtual 228, 3) := by decide +kernel
theorem dX11_dead_25 : decode cX11_dead 25 = .ok (.aload_n 0, 1) := by decide +kernel
theorem dX11_dead_26 : decode cX11_dead 26 = .ok (.getfield 35, 3) := by decide +kernel
theorem dX11_dead_29 : decode cX11_dead 29 = .ok (.getfield 229, 3) := by decide +kernel
theorem dX11_dead_32 : decode cX11_dead 32 = .ok (.iload_n 1, 1) := by decide +kernel
theorem dX11_dead_33 : decode cX11_dead 33 = .ok (.iaload, 1) := by decide +kernel
theorem dX11_dead_34 : decode cX11_dead 34 = .ok (.ireturn, 1) := by decide +kernel
theorem dX11_count_0 : decode cX11_count 0 = .ok (.iload_n 1, 1) := by decide +kernel
theorem dX11_count_1 : decode cX11_count 1 = .ok (.tableswitch 141 0 10 #[59, 64, 72, 80, 88, 93, 101, 109, 117, 125, 133], 59) := by decide +kernel
theorem dX11_count_60 : decode cX11_count 60 = .ok (.aload_n 0, 1) := by decide +kernel
theorem dX11_count_61 : decode cX11_count 61 = .ok (.getfield 130, 3) := by decide +kernel
theorem dX11_count_64 : decode cX11_count 64 = .ok (.ireturn, 1) := by decide +kernel
theorem dX11_count_65 : decode cX11_count 65 = .ok (.aload_n 0, 1) := by decide +kernel
theorem dX11_count_66 : decode cX11_count 66 = .ok (.getfield 42, 3) := by decide +kernel
theorem dX11_count_69 : decode cX11_count 69 = .ok (.getfield 232, 3) := by decide +kernel
theorem dX11_count_72 : decode cX11_count 72 = .ok (.ireturn, 1) := by decide +kernel
theorem dX11_count_73 : decode cX11_count 73 = .ok (.aload_n 0, 1) := by decide +kernel
theorem dX11_count_74 : decode cX11_count 74 = .ok (.getfield 49, 3) := by decide +kernel
theorem dX11_count_77 : decode cX11_count 77 = .ok (.getfield 235, 3) := by decide +kernel
theorem dX11_count_80 : decode cX11_count 80 = .ok (.ireturn, 1) := by decide +kernel
theorem dX11_count_81 : decode cX11_count 81 = .ok (.aload_n 0, 1) := by decide +kernel
theorem dX11_count_82 : decode cX11_count 82 = .ok (.getfield 56, 3) := by decide +kernel
theorem dX11_count_85 : decode cX11_count 85 = .ok (.getfield 236, 3) := by decide +kernel
theorem dX11_count_88 : decode cX11_count 88 = .ok (.ireturn, 1) := by decide +kernel
theorem dX11_count_89 : decode cX11_count 89 = .ok (.aload_n 0, 1) := by decide +kernel
theorem dX11_count_90 : decode cX11_count 90 = .ok (.getfield 114, 3) := by decide +kernel
theorem dX11_count_93 : decode cX11_count 93 = .ok (.ireturn, 1) := by decide +kernel
theorem dX11_count_94 : decode cX11_count 94 = .ok (.aload_n 0, 1) := by decide +kernel
theorem dX11_count_95 : decode cX11_count 95 = .ok (.getfield 35, 3) := by decide +kernel
theorem dX11_count_98 : decode cX11_count 98 = .ok (.getfield 237, 3) := by decide +kernel
theorem dX11_count_101 : decode cX11_count 101 = .ok (.ireturn, 1) := by decide +kernel
theorem dX11_count_102 : decode cX11_count 102 = .ok (.aload_n 0, 1) := by decide +kernel
theorem dX11_count_103 : decode cX11_count 103 = .ok (.getfield 65, 3) := by decide +kernel
theorem dX11_count_106 : decode cX11_count 106 = .ok (.getfield 238, 3) := by decide +kernel
theorem dX11_count_109 : decode cX11_count 109 = .ok (.ireturn, 1) := by decide +kernel
theorem dX11_count_110 : decode cX11_count 110 = .ok (.aload_n 0, 1) := by decide +kernel
theorem dX11_count_111 : decode cX11_count 111 = .ok (.getfield 69, 3) := by decide +kernel
theorem dX11_count_114 : decode cX11_count 114 = .ok (.getfield 238, 3) := by decide +kernel
theorem dX11_count_117 : decode cX11_count 117 = .ok (.ireturn, 1) := by decide +kernel
theorem dX11_count_118 : decode cX11_count 118 = .ok (.aload_n 0, 1) := by decide +kernel
theorem dX11_count_119 : decode cX11_count 119 = .ok (.getfield 28, 3) := by decide +kernel
theorem dX11_count_122 : decode cX11_count 122 = .ok (.getfield 175, 3) := by decide +kernel
theorem dX11_count_125 : decode cX11_count 125 = .ok (.ireturn, 1) := by decide +kernel
theorem dX11_count_126 : decode cX11_count 126 = .ok (.aload_n 0, 1) := by decide +kernel
theorem dX11_count_127 : decode cX11_count 127 = .ok (.getfield 12, 3) := by decide +kernel
theorem dX11_count_130 : decode cX11_count 130 = .ok (.getfield 161, 3) := by decide +kernel
theorem dX11_count_133 : decode cX11_count 133 = .ok (.ireturn, 1) := by decide +kernel
theorem dX11_count_134 : decode cX11_count 134 = .ok (.aload_n 0, 1) := by decide +kernel
theorem dX11_count_135 : decode cX11_count 135 = .ok (.getfield 42, 3) := by decide +kernel
theorem dX11_count_138 : decode cX11_count 138 = .ok (.getfield 239, 3) := by decide +kernel
theorem dX11_count_141 : decode cX11_count 141 = .ok (.ireturn, 1) := by decide +kernel
theorem dX11_count_142 : decode cX11_count 142 = .ok (.iconst (-1), 1) := by decide +kernel
theorem dX11_count_143 : decode cX11_count 143 = .ok (.ireturn, 1) := by decide +kernel
theorem dX11_status_0 : decode cX11_status 0 = .ok (.aload_n 0, 1) := by decide +kernel
theorem dX11_status_1 : decode cX11_status 1 = .ok (.getfield 240, 3) := by decide +kernel
theorem dX11_status_4 : decode cX11_status 4 = .ok (.ireturn, 1) := by decide +kernel
theorem dX11_told_0 : decode cX11_told 0 = .ok (.aload_n 0, 1) := by decide +kernel
theorem dX11_told_1 : decode cX11_told 1 = .ok (.iload_n 1, 1) := by decide +kernel
theorem dX11_told_2 : decode cX11_told 2 = .ok (.iconst 0, 1) := by decide +kernel
theorem dX11_told_3 : decode cX11_told 3 = .ok (.invokestatic 243, 3) := by decide +kernel
theorem dX11_told_6 : decode cX11_told 6 = .ok (.putfield 240, 3) := by decide +kernel
theorem dX11_told_9 : decode cX11_told 9 = .ok (.iload_n 1, 1) := by decide +kernel
theorem dX11_told_10 : decode cX11_told 10 = .ok (.ireturn, 1) := by decide +kernel
theorem dX11_isPerson_0 : decode cX11_isPerson 0 = .ok (.iload_n 1, 1) := by decide +kernel
theorem dX11_isPerson_1 : decode cX11_isPerson 1 = .ok (.iconst 0, 1) := by decide +kernel
theorem dX11_isPerson_2 : decode cX11_isPerson 2 = .ok (.aload_n 0, 1) := by decide +kernel
theorem dX11_isPerson_3 : decode cX11_isPerson 3 = .ok (.getfield 114, 3) := by decide +kernel
theorem dX11_isPerson_6 : decode cX11_isPerson 6 = .ok (.iconst 1, 1) := by decide +kernel
theorem dX11_isPerson_7 : decode cX11_isPerson 7 = .ok (.isub, 1) := by decide +kernel
theorem dX11_isPerson_8 : decode cX11_isPerson 8 = .ok (.invokestatic 86, 3) := by decide +kernel
theorem dX11_isPerson_11 : decode cX11_isPerson 11 = .ok (.ireturn, 1) := by decide +kernel
theorem dX11_isSource_0 : decode cX11_isSource 0 = .ok (.iload_n 1, 1) := by decide +kernel
theorem dX11_isSource_1 : decode cX11_isSource 1 = .ok (.bipush 100, 2) := by decide +kernel
theorem dX11_isSource_3 : decode cX11_isSource 3 = .ok (.if_icmp .ge 12, 3) := by decide +kernel
theorem dX11_isSource_6 : decode cX11_isSource 6 = .ok (.aload_n 0, 1) := by decide +kernel
theorem dX11_isSource_7 : decode cX11_isSource 7 = .ok (.getfield 42, 3) := by decide +kernel
theorem dX11_isSource_10 : decode cX11_isSource 10 = .ok (.iload_n 1, 1) := by decide +kernel
theorem dX11_isSource_11 : decode cX11_isSource 11 = .ok (.invokevirtual 101, 3) := by decide +kernel
theorem dX11_isSource_14 : decode cX11_isSource 14 = .ok (.ireturn, 1) := by decide +kernel
theorem dX11_isSource_15 : decode cX11_isSource 15 = .ok (.aload_n 0, 1) := by decide +kernel
theorem dX11_isSource_16 : decode cX11_isSource 16 = .ok (.getfield 49, 3) := by decide +kernel
theorem dX11_isSource_19 : decode cX11_isSource 19 = .ok (.iload_n 1, 1) := by decide +kernel
theorem dX11_isSource_20 : decode cX11_isSource 20 = .ok (.bipush 100, 2) := by decide +kernel
theorem dX11_isSource_22 : decode cX11_isSource 22 = .ok (.isub, 1) := by decide +kernel
theorem dX11_isSource_23 : decode cX11_isSource 23 = .ok (.invokevirtual 127, 3) := by decide +kernel
theorem dX11_isSource_26 : decode cX11_isSource 26 = .ok (.ireturn, 1) := by decide +kernel
theorem dX11_countDryQuarters_0 : decode cX11_countDryQuarters 0 = .ok (.iload_n 2, 1) := by decide +kernel
theorem dX11_countDryQuarters_1 : decode cX11_countDryQuarters 1 = .ok (.istore 4, 2) := by decide +kernel
theorem dX11_countDryQuarters_3 : decode cX11_countDryQuarters 3 = .ok (.iload 4, 2) := by decide +kernel
theorem dX11_countDryQuarters_5 : decode cX11_countDryQuarters 5 = .ok (.iload_n 3, 1) := by decide +kernel
theorem dX11_countDryQuarters_6 : decode cX11_countDryQuarters 6 = .ok (.if_icmp .gt 51, 3) := by decide +kernel
theorem dX11_countDryQuarters_9 : decode cX11_countDryQuarters 9 = .ok (.aload_n 0, 1) := by decide +kernel
theorem dX11_countDryQuarters_10 : decode cX11_countDryQuarters 10 = .ok (.getfield 77, 3) := by decide +kernel
theorem dX11_countDryQuarters_13 : decode cX11_countDryQuarters 13 = .ok (.iload 4, 2) := by decide +kernel
theorem dX11_countDryQuarters_15 : decode cX11_countDryQuarters 15 = .ok (.aload_n 0, 1) := by decide +kernel
theorem dX11_countDryQuarters_16 : decode cX11_countDryQuarters 16 = .ok (.getfield 130, 3) := by decide +kernel
theorem dX11_countDryQuarters_19 : decode cX11_countDryQuarters 19 = .ok (.invokevirtual 185, 3) := by decide +kernel
theorem dX11_countDryQuarters_22 : decode cX11_countDryQuarters 22 = .ok (.aload_n 0, 1) := by decide +kernel
theorem dX11_countDryQuarters_23 : decode cX11_countDryQuarters 23 = .ok (.getfield 77, 3) := by decide +kernel
theorem dX11_countDryQuarters_26 : decode cX11_countDryQuarters 26 = .ok (.iload_n 1, 1) := by decide +kernel
theorem dX11_countDryQuarters_27 : decode cX11_countDryQuarters 27 = .ok (.invokevirtual 249, 3) := by decide +kernel
theorem dX11_countDryQuarters_30 : decode cX11_countDryQuarters 30 = .ok (.aload_n 0, 1) := by decide +kernel
theorem dX11_countDryQuarters_31 : decode cX11_countDryQuarters 31 = .ok (.getfield 77, 3) := by decide +kernel
theorem dX11_countDryQuarters_34 : decode cX11_countDryQuarters 34 = .ok (.invokevirtual 201, 3) := by decide +kernel
theorem dX11_countDryQuarters_37 : decode cX11_countDryQuarters 37 = .ok (.aload_n 0, 1) := by decide +kernel
theorem dX11_countDryQuarters_38 : decode cX11_countDryQuarters 38 = .ok (.getfield 81, 3) := by decide +kernel
theorem dX11_countDryQuarters_41 : decode cX11_countDryQuarters 41 = .ok (.iload 4, 2) := by decide +kernel
theorem dX11_countDryQuarters_43 : decode cX11_countDryQuarters 43 = .ok (.aload_n 0, 1) := by decide +kernel
theorem dX11_countDryQuarters_44 : decode cX11_countDryQuarters 44 = .ok (.getfield 77, 3) := by decide +kernel
theorem dX11_countDryQuarters_47 : decode cX11_countDryQuarters 47 = .ok (.invokevirtual 252, 3) := by decide +kernel
theorem dX11_countDryQuarters_50 : decode cX11_countDryQuarters 50 = .ok (.iastore, 1) := by decide +kernel
theorem dX11_countDryQuarters_51 : decode cX11_countDryQuarters 51 = .ok (.iinc 4 1, 3) := by decide +kernel
theorem dX11_countDryQuarters_54 : decode cX11_countDryQuarters 54 = .ok (.goto (-51), 3) := by decide +kernel
theorem dX11_countDryQuarters_57 : decode cX11_countDryQuarters 57 = .ok (.return_, 1) := by decide +kernel
theorem dX11_leastDryYear_0 : decode cX11_leastDryYear 0 = .ok (.iload_n 2, 1) := by decide +kernel
theorem dX11_leastDryYear_1 : decode cX11_leastDryYear 1 = .ok (.istore 4, 2) := by decide +kernel
theorem dX11_leastDryYear_3 : decode cX11_leastDryYear 3 = .ok (.aload_n 0, 1) := by decide +kernel
theorem dX11_leastDryYear_4 : decode cX11_leastDryYear 4 = .ok (.iload_n 2, 1) := by decide +kernel
theorem dX11_leastDryYear_5 : decode cX11_leastDryYear 5 = .ok (.iload_n 1, 1) := by decide +kernel
theorem dX11_leastDryYear_6 : decode cX11_leastDryYear 6 = .ok (.invokevirtual 256, 3) := by decide +kernel
theorem dX11_leastDryYear_9 : decode cX11_leastDryYear 9 = .ok (.istore 5, 2) := by decide +kernel
theorem dX11_leastDryYear_11 : decode cX11_leastDryYear 11 = .ok (.iload_n 2, 1) := by decide +kernel
theorem dX11_leastDryYear_12 : decode cX11_leastDryYear 12 = .ok (.iconst 1, 1) := by decide +kernel
theorem dX11_leastDryYear_13 : decode cX11_leastDryYear 13 = .ok (.iadd, 1) := by decide +kernel
theorem dX11_leastDryYear_14 : decode cX11_leastDryYear 14 = .ok (.istore 6, 2) := by decide +kernel
theorem dX11_leastDryYear_16 : decode cX11_leastDryYear 16 = .ok (.iload 6, 2) := by decide +kernel
theorem dX11_leastDryYear_18 : decode cX11_leastDryYear 18 = .ok (.iload_n 3, 1) := by decide +kernel
theorem dX11_leastDryYear_19 : decode cX11_leastDryYear 19 = .ok (.if_icmp .gt 33, 3) := by decide +kernel
theorem dX11_leastDryYear_22 : decode cX11_leastDryYear 22 = .ok (.aload_n 0, 1) := by decide +kernel
theorem dX11_leastDryYear_23 : decode cX11_leastDryYear 23 = .ok (.iload 6, 2) := by decide +kernel
theorem dX11_leastDryYear_25 : decode cX11_leastDryYear 25 = .ok (.iload_n 1, 1) := by decide +kernel
theorem dX11_leastDryYear_26 : decode cX11_leastDryYear 26 = .ok (.invokevirtual 256, 3) := by decide +kernel
theorem dX11_leastDryYear_29 : decode cX11_leastDryYear 29 = .ok (.istore 7, 2) := by decide +kernel
theorem dX11_leastDryYear_31 : decode cX11_leastDryYear 31 = .ok (.iload 7, 2) := by decide +kernel
theorem dX11_leastDryYear_33 : decode cX11_leastDryYear 33 = .ok (.iload 5, 2) := by decide +kernel
theorem dX11_leastDryYear_35 : decode cX11_leastDryYear 35 = .ok (.if_icmp .ge 11, 3) := by decide +kernel
theorem dX11_leastDryYear_38 : decode cX11_leastDryYear 38 = .ok (.iload 7, 2) := by decide +kernel
theorem dX11_leastDryYear_40 : decode cX11_leastDryYear 40 = .ok (.istore 5, 2) := by decide +kernel
theorem dX11_leastDryYear_42 : decode cX11_leastDryYear 42 = .ok (.iload 6, 2) := by decide +kernel
theorem dX11_leastDryYear_44 : decode cX11_leastDryYear 44 = .ok (.istore 4, 2) := by decide +kernel
theorem dX11_leastDryYear_46 : decode cX11_leastDryYear 46 = .ok (.iinc 6 1, 3) := by decide +kernel
theorem dX11_leastDryYear_49 : decode cX11_leastDryYear 49 = .ok (.goto (-33), 3) := by decide +kernel
theorem dX11_leastDryYear_52 : decode cX11_leastDryYear 52 = .ok (.iload 4, 2) := by decide +kernel
theorem dX11_leastDryYear_54 : decode cX11_leastDryYear 54 = .ok (.ireturn, 1) := by decide +kernel
theorem dX11_sumDry_0 : decode cX11_sumDry 0 = .ok (.iconst 0, 1) := by decide +kernel
theorem dX11_sumDry_1 : decode cX11_sumDry 1 = .ok (.istore_n 3, 1) := by decide +kernel
theorem dX11_sumDry_2 : decode cX11_sumDry 2 = .ok (.iconst 0, 1) := by decide +kernel
theorem dX11_sumDry_3 : decode cX11_sumDry 3 = .ok (.istore 4, 2) := by decide +kernel
theorem dX11_sumDry_5 : decode cX11_sumDry 5 = .ok (.iload 4, 2) := by decide +kernel
theorem dX11_sumDry_7 : decode cX11_sumDry 7 = .ok (.iload_n 2, 1) := by decide +kernel
theorem dX11_sumDry_8 : decode cX11_sumDry 8 = .ok (.if_icmp .ge 21, 3) := by decide +kernel
theorem dX11_sumDry_11 : decode cX11_sumDry 11 = .ok (.iload_n 3, 1) := by decide +kernel
theorem dX11_sumDry_12 : decode cX11_sumDry 12 = .ok (.aload_n 0, 1) := by decide +kernel
theorem dX11_sumDry_13 : decode cX11_sumDry 13 = .ok (.getfield 81, 3) := by decide +kernel
theorem dX11_sumDry_16 : decode cX11_sumDry 16 = .ok (.iload_n 1, 1) := by decide +kernel
theorem dX11_sumDry_17 : decode cX11_sumDry 17 = .ok (.iload 4, 2) := by decide +kernel
theorem dX11_sumDry_19 : decode cX11_sumDry 19 = .ok (.iadd, 1) := by decide +kernel
theorem dX11_sumDry_20 : decode cX11_sumDry 20 = .ok (.iaload, 1) := by decide +kernel
theorem dX11_sumDry_21 : decode cX11_sumDry 21 = .ok (.iadd, 1) := by decide +kernel
theorem dX11_sumDry_22 : decode cX11_sumDry 22 = .ok (.istore_n 3, 1) := by decide +kernel
theorem dX11_sumDry_23 : decode cX11_sumDry 23 = .ok (.iinc 4 1, 3) := by decide +kernel
theorem dX11_sumDry_26 : decode cX11_sumDry 26 = .ok (.goto (-21), 3) := by decide +kernel
theorem dX11_sumDry_29 : decode cX11_sumDry 29 = .ok (.iload_n 3, 1) := by decide +kernel
theorem dX11_sumDry_30 : decode cX11_sumDry 30 = .ok (.ireturn, 1) := by decide +kernel
theorem dX11_isWithin_0 : decode cX11_isWithin 0 = .ok (.iload_n 0, 1) := by decide +kernel
theorem dX11_isWithin_1 : decode cX11_isWithin 1 = .ok (.iload_n 1, 1) := by decide +kernel
theorem dX11_isWithin_2 : decode cX11_isWithin 2 = .ok (.if_icmp .lt 12, 3) := by decide +kernel
theorem dX11_isWithin_5 : decode cX11_isWithin 5 = .ok (.iload_n 0, 1) := by decide +kernel
theorem dX11_isWithin_6 : decode cX11_isWithin 6 = .ok (.iload_n 2, 1) := by decide +kernel
theorem dX11_isWithin_7 : decode cX11_isWithin 7 = .ok (.if_icmp .gt 7, 3) := by decide +kernel
theorem dX11_isWithin_10 : decode cX11_isWithin 10 = .ok (.iconst 1, 1) := by decide +kernel
theorem dX11_isWithin_11 : decode cX11_isWithin 11 = .ok (.goto 4, 3) := by decide +kernel
theorem dX11_isWithin_14 : decode cX11_isWithin 14 = .ok (.iconst 0, 1) := by decide +kernel
theorem dX11_isWithin_15 : decode cX11_isWithin 15 = .ok (.ireturn, 1) := by decide +kernel
theorem dX11_isYear_0 : decode cX11_isYear 0 = .ok (.iload_n 0, 1) := by decide +kernel
theorem dX11_isYear_1 : decode cX11_isYear 1 = .ok (.iconst 0, 1) := by decide +kernel
theorem dX11_isYear_2 : decode cX11_isYear 2 = .ok (.sipush 200, 3) := by decide +kernel
theorem dX11_isYear_5 : decode cX11_isYear 5 = .ok (.invokestatic 86, 3) := by decide +kernel
theorem dX11_isYear_8 : decode cX11_isYear 8 = .ok (.ireturn, 1) := by decide +kernel
theorem dX11_areYears_0 : decode cX11_areYears 0 = .ok (.iload_n 0, 1) := by decide +kernel
theorem dX11_areYears_1 : decode cX11_areYears 1 = .ok (.invokestatic 97, 3) := by decide +kernel
theorem dX11_areYears_4 : decode cX11_areYears 4 = .ok (.ifCond .eq 19, 3) := by decide +kernel
theorem dX11_areYears_7 : decode cX11_areYears 7 = .ok (.iload_n 1, 1) := by decide +kernel
theorem dX11_areYears_8 : decode cX11_areYears 8 = .ok (.invokestatic 97, 3) := by decide +kernel
theorem dX11_areYears_11 : decode cX11_areYears 11 = .ok (.ifCond .eq 12, 3) := by decide +kernel
theorem dX11_areYears_14 : decode cX11_areYears 14 = .ok (.iload_n 0, 1) := by decide +kernel
theorem dX11_areYears_15 : decode cX11_areYears 15 = .ok (.iload_n 1, 1) := by decide +kernel
theorem dX11_areYears_16 : decode cX11_areYears 16 = .ok (.if_icmp .gt 7, 3) := by decide +kernel
theorem dX11_areYears_19 : decode cX11_areYears 19 = .ok (.iconst 1, 1) := by decide +kernel
theorem dX11_areYears_20 : decode cX11_areYears 20 = .ok (.goto 4, 3) := by decide +kernel
theorem dX11_areYears_23 : decode cX11_areYears 23 = .ok (.iconst 0, 1) := by decide +kernel
theorem dX11_areYears_24 : decode cX11_areYears 24 = .ok (.ireturn, 1) := by decide +kernel
theorem dX11_isQuarter_0 : decode cX11_isQuarter 0 = .ok (.iload_n 0, 1) := by decide +kernel
theorem dX11_isQuarter_1 : decode cX11_isQuarter 1 = .ok (.iconst 0, 1) := by decide +kernel
theorem dX11_isQuarter_2 : decode cX11_isQuarter 2 = .ok (.bipush 7, 2) := by decide +kernel
theorem dX11_isQuarter_4 : decode cX11_isQuarter 4 = .ok (.invokestatic 86, 3) := by decide +kernel
theorem dX11_isQuarter_7 : decode cX11_isQuarter 7 = .ok (.ireturn, 1) := by decide +kernel
theorem dX12_init_0 : decode cX12_init 0 = .ok (.aload_n 0, 1) := by decide +kernel
theorem dX12_init_1 : decode cX12_init 1 = .ok (.invokespecial 1, 3) := by decide +kernel
theorem dX12_init_4 : decode cX12_init 4 = .ok (.aload_n 0, 1) := by decide +kernel
theorem dX12_init_5 : decode cX12_init 5 = .ok (.iconst 4, 1) := by decide +kernel
theorem dX12_init_6 : decode cX12_init 6 = .ok (.newarray .int, 2) := by decide +kernel
theorem dX12_init_8 : decode cX12_init 8 = .ok (.putfield 7, 3) := by decide +kernel
theorem dX12_init_11 : decode cX12_init 11 = .ok (.aload_n 0, 1) := by decide +kernel
theorem dX12_init_12 : decode cX12_init 12 = .ok (.bipush 60, 2) := by decide +kernel
theorem dX12_init_14 : decode cX12_init 14 = .ok (.newarray .int, 2) := by decide +kernel
theorem dX12_init_16 : decode cX12_init 16 = .ok (.putfield 13, 3) := by decide +kernel
theorem dX12_init_19 : decode cX12_init 19 = .ok (.aload_n 0, 1) := by decide +kernel
theorem dX12_init_20 : decode cX12_init 20 = .ok (.bipush 60, 2) := by decide +kernel
theorem dX12_init_22 : decode cX12_init 22 = .ok (.newarray .int, 2) := by decide +kernel
theorem dX12_init_24 : decode cX12_init 24 = .ok (.putfield 16, 3) := by decide +kernel
theorem dX12_init_27 : decode cX12_init 27 = .ok (.aload_n 0, 1) := by decide +kernel
theorem dX12_init_28 : decode cX12_init 28 = .ok (.bipush 60, 2) := by decide +kernel
theorem dX12_init_30 : decode cX12_init 30 = .ok (.newarray .int, 2) := by decide +kernel
theorem dX12_init_32 : decode cX12_init 32 = .ok (.putfield 19, 3) := by decide +kernel
theorem dX12_init_35 : decode cX12_init 35 = .ok (.aload_n 0, 1) := by decide +kernel
theorem dX12_init_36 : decode cX12_init 36 = .ok (.bipush 12, 2) := by decide +kernel
theorem dX12_init_38 : decode cX12_init 38 = .ok (.newarray .int, 2) := by decide +kernel
theorem dX12_init_40 : decode cX12_init 40 = .ok (.putfield 22, 3) := by decide +kernel
theorem dX12_init_43 : decode cX12_init 43 = .ok (.aload_n 0, 1) := by decide +kernel
theorem dX12_init_44 : decode cX12_init 44 = .ok (.bipush 12, 2) := by decide +kernel
theorem dX12_init_46 : decode cX12_init 46 = .ok (.newarray .int, 2) := by decide +kernel
theorem dX12_init_48 : decode cX12_init 48 = .ok (.putfield 25, 3) := by decide +kernel
theorem dX12_init_51 : decode cX12_init 51 = .ok (.aload_n 0, 1) := by decide +kernel
theorem dX12_init_52 : decode cX12_init 52 = .ok (.bipush 12, 2) := by decide +kernel
theorem dX12_init_54 : decode cX12_init 54 = .ok (.newarray .int, 2) := by decide +kernel
theorem dX12_init_56 : decode cX12_init 56 = .ok (.putfield 28, 3) := by decide +kernel
theorem dX12_init_59 : decode cX12_init 59 = .ok (.aload_n 0, 1) := by decide +kernel
theorem dX12_init_60 : decode cX12_init 60 = .ok (.bipush 60, 2) := by decide +kernel
theorem dX12_init_62 : decode cX12_init 62 = .ok (.newarray .int, 2) := by decide +kernel
theorem dX12_init_64 : decode cX12_init 64 = .ok (.putfield 31, 3) := by decide +kernel
theorem dX12_init_67 : decode cX12_init 67 = .ok (.aload_n 0, 1) := by decide +kernel
theorem dX12_init_68 : decode cX12_init 68 = .ok (.bipush 60, 2) := by decide +kernel
theorem dX12_init_70 : decode cX12_init 70 = .ok (.newarray .int, 2) := by decide +kernel
theorem dX12_init_72 : decode cX12_init 72 = .ok (.putfield 34, 3) := by decide +kernel
theorem dX12_init_75 : decode cX12_init 75 = .ok (.aload_n 0, 1) := by decide +kernel
theorem dX12_init_76 : decode cX12_init 76 = .ok (.bipush 60, 2) := by decide +kernel
theorem dX12_init_78 : decode cX12_init 78 = .ok (.newarray .int, 2) := by decide +kernel
theorem dX12_init_80 : decode cX12_init 80 = .ok (.putfield 37, 3) := by decide +kernel
theorem dX12_init_83 : decode cX12_init 83 = .ok (.aload_n 0, 1) := by decide +kernel
theorem dX12_init_84 : decode cX12_init 84 = .ok (.bipush 80, 2) := by decide +kernel
theorem dX12_init_86 : decode cX12_init 86 = .ok (.newarray .int, 2) := by decide +kernel
theorem dX12_init_88 : decode cX12_init 88 = .ok (.putfield 40, 3) := by decide +kernel
theorem dX12_init_91 : decode cX12_init 91 = .ok (.aload_n 0, 1) := by decide +kernel
theorem dX12_init_92 : decode cX12_init 92 = .ok (.bipush 80, 2) := by decide +kernel
theorem dX12_init_94 : decode cX12_init 94 = .ok (.newarray .int, 2) := by decide +kernel
theorem dX12_init_96 : decode cX12_init 96 = .ok (.putfield 43, 3) := by decide +kernel
theorem dX12_init_99 : decode cX12_init 99 = .ok (.aload_n 0, 1) := by decide +kernel
theorem dX12_init_100 : decode cX12_init 100 = .ok (.bipush 80, 2) := by decide +kernel
theorem dX12_init_102 : decode cX12_init 102 = .ok (.newarray .int, 2) := by decide +kernel
theorem dX12_init_104 : decode cX12_init 104 = .ok (.putfield 46, 3) := by decide +kernel
theorem dX12_init_107 : decode cX12_init 107 = .ok (.aload_n 0, 1) := by decide +kernel
theorem dX12_init_108 : decode cX12_init 108 = .ok (.bipush 80, 2) := by decide +kernel
theorem dX12_init_110 : decode cX12_init 110 = .ok (.newarray .int, 2) := by decide +kernel
theorem dX12_init_112 : decode cX12_init 112 = .ok (.putfield 49, 3) := by decide +kernel
theorem dX12_init_115 : decode cX12_init 115 = .ok (.aload_n 0, 1) := by decide +kernel
theorem dX12_init_116 : decode cX12_init 116 = .ok (.bipush 80, 2) := by decide +kernel
theorem dX12_init_118 : decode cX12_init 118 = .ok (.newarray .int, 2) := by decide +kernel
theorem dX12_init_120 : decode cX12_init 120 = .ok (.putfield 52, 3) := by decide +kernel
theorem dX12_init_123 : decode cX12_init 123 = .ok (.aload_n 0, 1) := by decide +kernel
theorem dX12_init_124 : decode cX12_init 124 = .ok (.bipush 80, 2) := by decide +kernel
theorem dX12_init_126 : decode cX12_init 126 = .ok (.newarray .int, 2) := by decide +kernel
theorem dX12_init_128 : decode cX12_init 128 = .ok (.putfield 55, 3) := by decide +kernel
theorem dX12_init_131 : decode cX12_init 131 = .ok (.aload_n 0, 1) := by decide +kernel
theorem dX12_init_132 : decode cX12_init 132 = .ok (.bipush 60, 2) := by decide +kernel
theorem dX12_init_134 : decode cX12_init 134 = .ok (.newarray .int, 2) := by decide +kernel
theorem dX12_init_136 : decode cX12_init 136 = .ok (.putfield 58, 3) := by decide +kernel
theorem dX12_init_139 : decode cX12_init 139 = .ok (.aload_n 0, 1) := by decide +kernel
theorem dX12_init_140 : decode cX12_init 140 = .ok (.bipush 60, 2) := by decide +kernel
theorem dX12_init_142 : decode cX12_init 142 = .ok (.newarray .int, 2) := by decide +kernel
theorem dX12_init_144 : decode cX12_init 144 = .ok (.putfield 61, 3) := by decide +kernel
theorem dX12_init_147 : decode cX12_init 147 = .ok (.aload_n 0, 1) := by decide +kernel
theorem dX12_init_148 : decode cX12_init 148 = .ok (.bipush 60, 2) := by decide +kernel
theorem dX12_init_150 : decode cX12_init 150 = .ok (.newarray .int, 2) := by decide +kernel
theorem dX12_init_152 : decode cX12_init 152 = .ok (.putfield 64, 3) := by decide +kernel
theorem dX12_init_155 : decode cX12_init 155 = .ok (.aload_n 0, 1) := by decide +kernel
theorem dX12_init_156 : decode cX12_init 156 = .ok (.bipush 60, 2) := by decide +kernel
theorem dX12_init_158 : decode cX12_init 158 = .ok (.newarray .int, 2) := by decide +kernel
theorem dX12_init_160 : decode cX12_init 160 = .ok (.putfield 67, 3) := by decide +kernel
theorem dX12_init_163 : decode cX12_init 163 = .ok (.aload_n 0, 1) := by decide +kernel
theorem dX12_init_164 : decode cX12_init 164 = .ok (.bipush 41, 2) := by decide +kernel
theorem dX12_init_166 : decode cX12_init 166 = .ok (.newarray .int, 2) := by decide +kernel
theorem dX12_init_168 : decode cX12_init 168 = .ok (.putfield 70, 3) := by decide +kernel
theorem dX12_init_171 : decode cX12_init 171 = .ok (.aload_n 0, 1) := by decide +kernel
theorem dX12_init_172 : decode cX12_init 172 = .ok (.bipush 41, 2) := by decide +kernel
theorem dX12_init_174 : decode cX12_init 174 = .ok (.newarray .int, 2) := by decide +kernel
theorem dX12_init_176 : decode cX12_init 176 = .ok (.putfield 73, 3) := by decide +kernel
theorem dX12_init_179 : decode cX12_init 179 = .ok (.aload_n 0, 1) := by decide +kernel
theorem dX12_init_180 : decode cX12_init 180 = .ok (.bipush 41, 2) := by decide +kernel
theorem dX12_init_182 : decode cX12_init 182 = .ok (.newarray .int, 2) := by decide +kernel
theorem dX12_init_184 : decode cX12_init 184 = .ok (.putfield 76, 3) := by decide +kernel
theorem dX12_init_187 : decode cX12_init 187 = .ok (.aload_n 0, 1) := by decide +kernel
theorem dX12_init_188 : decode cX12_init 188 = .ok (.bipush 30, 2) := by decide +kernel
theorem dX12_init_190 : decode cX12_init 190 = .ok (.newarray .int, 2) := by decide +kernel
theorem dX12_init_192 : decode cX12_init 192 = .ok (.putfield 79, 3) := by decide +kernel
theorem dX12_init_195 : decode cX12_init 195 = .ok (.aload_n 0, 1) := by decide +kernel
theorem dX12_init_196 : decode cX12_init 196 = .ok (.bipush 30, 2) := by decide +kernel
theorem dX12_init_198 : decode cX12_init 198 = .ok (.newarray .int, 2) := by decide +kernel
theorem dX12_init_200 : decode cX12_init 200 = .ok (.putfield 82, 3) := by decide +kernel
theorem dX12_init_203 : decode cX12_init 203 = .ok (.aload_n 0, 1) := by decide +kernel
theorem dX12_init_204 : decode cX12_init 204 = .ok (.bipush 30, 2) := by decide +kernel
theorem dX12_init_206 : decode cX12_init 206 = .ok (.newarray .int, 2) := by decide +kernel
theorem dX12_init_208 : decode cX12_init 208 = .ok (.putfield 85, 3) := by decide +kernel
theorem dX12_init_211 : decode cX12_init 211 = .ok (.aload_n 0, 1) := by decide +kernel
theorem dX12_init_212 : decode cX12_init 212 = .ok (.bipush 30, 2) := by decide +kernel
theorem dX12_init_214 : decode cX12_init 214 = .ok (.newarray .int, 2) := by decide +kernel
theorem dX12_init_216 : decode cX12_init 216 = .ok (.putfield 88, 3) := by decide +kernel
theorem dX12_init_219 : decode cX12_init 219 = .ok (.aload_n 0, 1) := by decide +kernel
theorem dX12_init_220 : decode cX12_init 220 = .ok (.bipush 120, 2) := by decide +kernel
theorem dX12_init_222 : decode cX12_init 222 = .ok (.newarray .int, 2) := by decide +kernel
theorem dX12_init_224 : decode cX12_init 224 = .ok (.putfield 91, 3) := by decide +kernel
theorem dX12_init_227 : decode cX12_init 227 = .ok (.aload_n 0, 1) := by decide +kernel
theorem dX12_init_228 : decode cX12_init 228 = .ok (.sipush 400, 3) := by decide +kernel
theorem dX12_init_231 : decode cX12_init 231 = .ok (.newarray .int, 2) := by decide +kernel
theorem dX12_init_233 : decode cX12_init 233 = .ok (.putfield 94, 3) := by decide +kernel
theorem dX12_init_236 : decode cX12_init 236 = .ok (.aload_n 0, 1) := by decide +kernel
theorem dX12_init_237 : decode cX12_init 237 = .ok (.iconst (-1), 1) := by decide +kernel
theorem dX12_init_238 : decode cX12_init 238 = .ok (.putfield 97, 3) := by decide +kernel
theorem dX12_init_241 : decode cX12_init 241 = .ok (.aload_n 0, 1) := by decide +kernel
theorem dX12_init_242 : decode cX12_init 242 = .ok (.bipush 12, 2) := by decide +kernel
theorem dX12_init_244 : decode cX12_init 244 = .ok (.newarray .int, 2) := by decide +kernel
theorem dX12_init_246 : decode cX12_init 246 = .ok (.putfield 101, 3) := by decide +kernel
theorem dX12_init_249 : decode cX12_init 249 = .ok (.aload_n 0, 1) := by decide +kernel
theorem dX12_init_250 : decode cX12_init 250 = .ok (.bipush 12, 2) := by decide +kernel
theorem dX12_init_252 : decode cX12_init 252 = .ok (.newarray .int, 2) := by decide +kernel
theorem dX12_init_254 : decode cX12_init 254 = .ok (.putfield 104, 3) := by decide +kernel
theorem dX12_init_257 : decode cX12_init 257 = .ok (.aload_n 0, 1) := by decide +kernel
theorem dX12_init_258 : decode cX12_init 258 = .ok (.bipush 12, 2) := by decide +kernel
theorem dX12_init_260 : decode cX12_init 260 = .ok (.newarray .int, 2) := by decide +kernel
theorem dX12_init_262 : decode cX12_init 262 = .ok (.putfield 107, 3) := by decide +kernel
theorem dX12_init_265 : decode cX12_init 265 = .ok (.aload_n 0, 1) := by decide +kernel
theorem dX12_init_266 : decode cX12_init 266 = .ok (.bipush 12, 2) := by decide +kernel
theorem dX12_init_268 : decode cX12_init 268 = .ok (.newarray .int, 2) := by decide +kernel
theorem dX12_init_270 : decode cX12_init 270 = .ok (.putfield 110, 3) := by decide +kernel
theorem dX12_init_273 : decode cX12_init 273 = .ok (.aload_n 0, 1) := by decide +kernel
theorem dX12_init_274 : decode cX12_init 274 = .ok (.bipush 12, 2) := by decide +kernel
theorem dX12_init_276 : decode cX12_init 276 = .ok (.newarray .int, 2) := by decide +kernel
theorem dX12_init_278 : decode cX12_init 278 = .ok (.putfield 113, 3) := by decide +kernel
theorem dX12_init_281 : decode cX12_init 281 = .ok (.aload_n 0, 1) := by decide +kernel
theorem dX12_init_282 : decode cX12_init 282 = .ok (.bipush 12, 2) := by decide +kernel
theorem dX12_init_284 : decode cX12_init 284 = .ok (.newarray .int, 2) := by decide +kernel
theorem dX12_init_286 : decode cX12_init 286 = .ok (.putfield 116, 3) := by decide +kernel
theorem dX12_init_289 : decode cX12_init 289 = .ok (.aload_n 0, 1) := by decide +kernel
theorem dX12_init_290 : decode cX12_init 290 = .ok (.bipush 80, 2) := by decide +kernel
theorem dX12_init_292 : decode cX12_init 292 = .ok (.newarray .int, 2) := by decide +kernel
theorem dX12_init_294 : decode cX12_init 294 = .ok (.putfield 119, 3) := by decide +kernel
theorem dX12_init_297 : decode cX12_init 297 = .ok (.aload_n 0, 1) := by decide +kernel
theorem dX12_init_298 : decode cX12_init 298 = .ok (.bipush 80, 2) := by decide +kernel
theorem dX12_init_300 : decode cX12_init 300 = .ok (.newarray .int, 2) := by decide +kernel
theorem dX12_init_302 : decode cX12_init 302 = .ok (.putfield 122, 3) := by decide +kernel
theorem dX12_init_305 : decode cX12_init 305 = .ok (.aload_n 0, 1) := by decide +kernel
theorem dX12_init_306 : decode cX12_init 306 = .ok (.bipush 80, 2) := by decide +kernel
theorem dX12_init_308 : decode cX12_init 308 = .ok (.newarray .int, 2) := by decide +kernel
theorem dX12_init_310 : decode cX12_init 310 = .ok (.putfield 125, 3) := by decide +kernel
theorem dX12_init_313 : decode cX12_init 313 = .ok (.aload_n 0, 1) := by decide +kernel
theorem dX12_init_314 : decode cX12_init 314 = .ok (.bipush 80, 2) := by decide +kernel
theorem dX12_init_316 : decode cX12_init 316 = .ok (.newarray .int, 2) := by decide +kernel
theorem dX12_init_318 : decode cX12_init 318 = .ok (.putfield 128, 3) := by decide +kernel
theorem dX12_init_321 : decode cX12_init 321 = .ok (.return_, 1) := by decide +kernel
theorem dX12_in_0 : decode cX12_in 0 = .ok (.lload_n 0, 1) := by decide +kernel
theorem dX12_in_1 : decode cX12_in 1 = .ok (.lload_n 2, 1) := by decide +kernel
theorem dX12_in_2 : decode cX12_in 2 = .ok (.lcmp, 1) := by decide +kernel
theorem dX12_in_3 : decode cX12_in 3 = .ok (.ifCond .lt 14, 3) := by decide +kernel
theorem dX12_in_6 : decode cX12_in 6 = .ok (.lload_n 0, 1) := by decide +kernel
theorem dX12_in_7 : decode cX12_in 7 = .ok (.lload 4, 2) := by decide +kernel
theorem dX12_in_9 : decode cX12_in 9 = .ok (.lcmp, 1) := by decide +kernel
theorem dX12_in_10 : decode cX12_in 10 = .ok (.ifCond .gt 7, 3) := by decide +kernel
theorem dX12_in_13 : decode cX12_in 13 = .ok (.iconst 1, 1) := by decide +kernel
theorem dX12_in_14 : decode cX12_in 14 = .ok (.goto 4, 3) := by decide +kernel
theorem dX12_in_17 : decode cX12_in 17 = .ok (.iconst 0, 1) := by decide +kernel
theorem dX12_in_18 : decode cX12_in 18 = .ok (.ireturn, 1) := by decide +kernel
theorem dX12_told_0 : decode cX12_told 0 = .ok (.aload_n 0, 1) := by decide +kernel
theorem dX12_told_1 : decode cX12_told 1 = .ok (.iload_n 1, 1) := by decide +kernel
theorem dX12_told_2 : decode cX12_told 2 = .ok (.ifCond .ge 7, 3) := by decide +kernel
theorem dX12_told_5 : decode cX12_told 5 = .ok (.iload_n 1, 1) := by decide +kernel
theorem dX12_told_6 : decode cX12_told 6 = .ok (.goto 4, 3) := by decide +kernel
theorem dX12_told_9 : decode cX12_told 9 = .ok (.iconst 0, 1) := by decide +kernel
theorem dX12_told_10 : decode cX12_told 10 = .ok (.putfield 134, 3) := by decide +kernel
theorem dX12_told_13 : decode cX12_told 13 = .ok (.iload_n 1, 1) := by decide +kernel
theorem dX12_told_14 : decode cX12_told 14 = .ok (.ireturn, 1) := by decide +kernel
