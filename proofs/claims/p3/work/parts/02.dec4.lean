theorem dX12_isWord_53 : decode cX12_isWord 53 = .ok (.lload 6, 2) := by decide +kernel
theorem dX12_isWord_55 : decode cX12_isWord 55 = .ok (.ldc2_w 243, 3) := by decide +kernel
theorem dX12_isWord_58 : decode cX12_isWord 58 = .ok (.lmul, 1) := by decide +kernel
theorem dX12_isWord_59 : decode cX12_isWord 59 = .ok (.iload 4, 2) := by decide +kernel
theorem dX12_isWord_61 : decode cX12_isWord 61 = .ok (.i2l, 1) := by decide +kernel
theorem dX12_isWord_62 : decode cX12_isWord 62 = .ok (.ladd, 1) := by decide +kernel
theorem dX12_isWord_63 : decode cX12_isWord 63 = .ok (.ldc2_w 245, 3) := by decide +kernel
theorem dX12_isWord_66 : decode cX12_isWord 66 = .ok (.lsub, 1) := by decide +kernel
theorem dX12_isWord_67 : decode cX12_isWord 67 = .ok (.lstore 6, 2) := by decide +kernel
theorem dX12_isWord_69 : decode cX12_isWord 69 = .ok (.iload 5, 2) := by decide +kernel
theorem dX12_isWord_71 : decode cX12_isWord 71 = .ok (.ifCond .ne 8, 3) := by decide +kernel
theorem dX12_isWord_74 : decode cX12_isWord 74 = .ok (.lload 6, 2) := by decide +kernel
theorem dX12_isWord_76 : decode cX12_isWord 76 = .ok (.goto 17, 3) := by decide +kernel
theorem dX12_isWord_79 : decode cX12_isWord 79 = .ok (.lload 6, 2) := by decide +kernel
theorem dX12_isWord_81 : decode cX12_isWord 81 = .ok (.ldc2_w 243, 3) := by decide +kernel
theorem dX12_isWord_84 : decode cX12_isWord 84 = .ok (.lmul, 1) := by decide +kernel
theorem dX12_isWord_85 : decode cX12_isWord 85 = .ok (.iload 5, 2) := by decide +kernel
theorem dX12_isWord_87 : decode cX12_isWord 87 = .ok (.i2l, 1) := by decide +kernel
theorem dX12_isWord_88 : decode cX12_isWord 88 = .ok (.ladd, 1) := by decide +kernel
theorem dX12_isWord_89 : decode cX12_isWord 89 = .ok (.ldc2_w 245, 3) := by decide +kernel
theorem dX12_isWord_92 : decode cX12_isWord 92 = .ok (.lsub, 1) := by decide +kernel
theorem dX12_isWord_93 : decode cX12_isWord 93 = .ok (.lstore 6, 2) := by decide +kernel
theorem dX12_isWord_95 : decode cX12_isWord 95 = .ok (.aload_n 0, 1) := by decide +kernel
theorem dX12_isWord_96 : decode cX12_isWord 96 = .ok (.getfield 240, 3) := by decide +kernel
theorem dX12_isWord_99 : decode cX12_isWord 99 = .ok (.iconst 1, 1) := by decide +kernel
theorem dX12_isWord_100 : decode cX12_isWord 100 = .ok (.if_icmp .ne 17, 3) := by decide +kernel
theorem dX12_isWord_103 : decode cX12_isWord 103 = .ok (.aload_n 0, 1) := by decide +kernel
theorem dX12_isWord_104 : decode cX12_isWord 104 = .ok (.getfield 230, 3) := by decide +kernel
theorem dX12_isWord_107 : decode cX12_isWord 107 = .ok (.lload 6, 2) := by decide +kernel
theorem dX12_isWord_109 : decode cX12_isWord 109 = .ok (.lcmp, 1) := by decide +kernel
theorem dX12_isWord_110 : decode cX12_isWord 110 = .ok (.ifCond .ne 7, 3) := by decide +kernel
theorem dX12_isWord_113 : decode cX12_isWord 113 = .ok (.iconst 1, 1) := by decide +kernel
theorem dX12_isWord_114 : decode cX12_isWord 114 = .ok (.goto 4, 3) := by decide +kernel
theorem dX12_isWord_117 : decode cX12_isWord 117 = .ok (.iconst 0, 1) := by decide +kernel
theorem dX12_isWord_118 : decode cX12_isWord 118 = .ok (.ireturn, 1) := by decide +kernel
theorem dX12_isLong_0 : decode cX12_isLong 0 = .ok (.iload_n 1, 1) := by decide +kernel
theorem dX12_isLong_1 : decode cX12_isLong 1 = .ok (.i2l, 1) := by decide +kernel
theorem dX12_isLong_2 : decode cX12_isLong 2 = .ok (.ldc2_w 245, 3) := by decide +kernel
theorem dX12_isLong_5 : decode cX12_isLong 5 = .ok (.lsub, 1) := by decide +kernel
theorem dX12_isLong_6 : decode cX12_isLong 6 = .ok (.ldc2_w 243, 3) := by decide +kernel
theorem dX12_isLong_9 : decode cX12_isLong 9 = .ok (.lmul, 1) := by decide +kernel
theorem dX12_isLong_10 : decode cX12_isLong 10 = .ok (.iload_n 2, 1) := by decide +kernel
theorem dX12_isLong_11 : decode cX12_isLong 11 = .ok (.i2l, 1) := by decide +kernel
theorem dX12_isLong_12 : decode cX12_isLong 12 = .ok (.ladd, 1) := by decide +kernel
theorem dX12_isLong_13 : decode cX12_isLong 13 = .ok (.ldc2_w 245, 3) := by decide +kernel
theorem dX12_isLong_16 : decode cX12_isLong 16 = .ok (.lsub, 1) := by decide +kernel
theorem dX12_isLong_17 : decode cX12_isLong 17 = .ok (.ldc2_w 243, 3) := by decide +kernel
theorem dX12_isLong_20 : decode cX12_isLong 20 = .ok (.lmul, 1) := by decide +kernel
theorem dX12_isLong_21 : decode cX12_isLong 21 = .ok (.iload_n 3, 1) := by decide +kernel
theorem dX12_isLong_22 : decode cX12_isLong 22 = .ok (.i2l, 1) := by decide +kernel
theorem dX12_isLong_23 : decode cX12_isLong 23 = .ok (.ladd, 1) := by decide +kernel
theorem dX12_isLong_24 : decode cX12_isLong 24 = .ok (.ldc2_w 245, 3) := by decide +kernel
theorem dX12_isLong_27 : decode cX12_isLong 27 = .ok (.lsub, 1) := by decide +kernel
theorem dX12_isLong_28 : decode cX12_isLong 28 = .ok (.ldc2_w 243, 3) := by decide +kernel
theorem dX12_isLong_31 : decode cX12_isLong 31 = .ok (.lmul, 1) := by decide +kernel
theorem dX12_isLong_32 : decode cX12_isLong 32 = .ok (.iload 4, 2) := by decide +kernel
theorem dX12_isLong_34 : decode cX12_isLong 34 = .ok (.i2l, 1) := by decide +kernel
theorem dX12_isLong_35 : decode cX12_isLong 35 = .ok (.ladd, 1) := by decide +kernel
theorem dX12_isLong_36 : decode cX12_isLong 36 = .ok (.ldc2_w 245, 3) := by decide +kernel
theorem dX12_isLong_39 : decode cX12_isLong 39 = .ok (.lsub, 1) := by decide +kernel
theorem dX12_isLong_40 : decode cX12_isLong 40 = .ok (.ldc2_w 243, 3) := by decide +kernel
theorem dX12_isLong_43 : decode cX12_isLong 43 = .ok (.lmul, 1) := by decide +kernel
theorem dX12_isLong_44 : decode cX12_isLong 44 = .ok (.iload 5, 2) := by decide +kernel
theorem dX12_isLong_46 : decode cX12_isLong 46 = .ok (.i2l, 1) := by decide +kernel
theorem dX12_isLong_47 : decode cX12_isLong 47 = .ok (.ladd, 1) := by decide +kernel
theorem dX12_isLong_48 : decode cX12_isLong 48 = .ok (.ldc2_w 245, 3) := by decide +kernel
theorem dX12_isLong_51 : decode cX12_isLong 51 = .ok (.lsub, 1) := by decide +kernel
theorem dX12_isLong_52 : decode cX12_isLong 52 = .ok (.lstore 10, 2) := by decide +kernel
theorem dX12_isLong_54 : decode cX12_isLong 54 = .ok (.lload 10, 2) := by decide +kernel
theorem dX12_isLong_56 : decode cX12_isLong 56 = .ok (.ldc2_w 243, 3) := by decide +kernel
theorem dX12_isLong_59 : decode cX12_isLong 59 = .ok (.lmul, 1) := by decide +kernel
theorem dX12_isLong_60 : decode cX12_isLong 60 = .ok (.iload 6, 2) := by decide +kernel
theorem dX12_isLong_62 : decode cX12_isLong 62 = .ok (.i2l, 1) := by decide +kernel
theorem dX12_isLong_63 : decode cX12_isLong 63 = .ok (.ladd, 1) := by decide +kernel
theorem dX12_isLong_64 : decode cX12_isLong 64 = .ok (.ldc2_w 245, 3) := by decide +kernel
theorem dX12_isLong_67 : decode cX12_isLong 67 = .ok (.lsub, 1) := by decide +kernel
theorem dX12_isLong_68 : decode cX12_isLong 68 = .ok (.lstore 10, 2) := by decide +kernel
theorem dX12_isLong_70 : decode cX12_isLong 70 = .ok (.iload 7, 2) := by decide +kernel
theorem dX12_isLong_72 : decode cX12_isLong 72 = .ok (.ifCond .ne 8, 3) := by decide +kernel
theorem dX12_isLong_75 : decode cX12_isLong 75 = .ok (.lload 10, 2) := by decide +kernel
theorem dX12_isLong_77 : decode cX12_isLong 77 = .ok (.goto 41, 3) := by decide +kernel
theorem dX12_isLong_80 : decode cX12_isLong 80 = .ok (.lload 10, 2) := by decide +kernel
theorem dX12_isLong_82 : decode cX12_isLong 82 = .ok (.ldc2_w 243, 3) := by decide +kernel
theorem dX12_isLong_85 : decode cX12_isLong 85 = .ok (.lmul, 1) := by decide +kernel
theorem dX12_isLong_86 : decode cX12_isLong 86 = .ok (.iload 7, 2) := by decide +kernel
theorem dX12_isLong_88 : decode cX12_isLong 88 = .ok (.i2l, 1) := by decide +kernel
theorem dX12_isLong_89 : decode cX12_isLong 89 = .ok (.ladd, 1) := by decide +kernel
theorem dX12_isLong_90 : decode cX12_isLong 90 = .ok (.ldc2_w 245, 3) := by decide +kernel
theorem dX12_isLong_93 : decode cX12_isLong 93 = .ok (.lsub, 1) := by decide +kernel
theorem dX12_isLong_94 : decode cX12_isLong 94 = .ok (.ldc2_w 243, 3) := by decide +kernel
theorem dX12_isLong_97 : decode cX12_isLong 97 = .ok (.lmul, 1) := by decide +kernel
theorem dX12_isLong_98 : decode cX12_isLong 98 = .ok (.iload 8, 2) := by decide +kernel
theorem dX12_isLong_100 : decode cX12_isLong 100 = .ok (.i2l, 1) := by decide +kernel
theorem dX12_isLong_101 : decode cX12_isLong 101 = .ok (.ladd, 1) := by decide +kernel
theorem dX12_isLong_102 : decode cX12_isLong 102 = .ok (.ldc2_w 245, 3) := by decide +kernel
theorem dX12_isLong_105 : decode cX12_isLong 105 = .ok (.lsub, 1) := by decide +kernel
theorem dX12_isLong_106 : decode cX12_isLong 106 = .ok (.ldc2_w 243, 3) := by decide +kernel
theorem dX12_isLong_109 : decode cX12_isLong 109 = .ok (.lmul, 1) := by decide +kernel
theorem dX12_isLong_110 : decode cX12_isLong 110 = .ok (.iload 9, 2) := by decide +kernel
theorem dX12_isLong_112 : decode cX12_isLong 112 = .ok (.i2l, 1) := by decide +kernel
theorem dX12_isLong_113 : decode cX12_isLong 113 = .ok (.ladd, 1) := by decide +kernel
theorem dX12_isLong_114 : decode cX12_isLong 114 = .ok (.ldc2_w 245, 3) := by decide +kernel
theorem dX12_isLong_117 : decode cX12_isLong 117 = .ok (.lsub, 1) := by decide +kernel
theorem dX12_isLong_118 : decode cX12_isLong 118 = .ok (.lstore 10, 2) := by decide +kernel
theorem dX12_isLong_120 : decode cX12_isLong 120 = .ok (.aload_n 0, 1) := by decide +kernel
theorem dX12_isLong_121 : decode cX12_isLong 121 = .ok (.getfield 240, 3) := by decide +kernel
theorem dX12_isLong_124 : decode cX12_isLong 124 = .ok (.iconst 1, 1) := by decide +kernel
theorem dX12_isLong_125 : decode cX12_isLong 125 = .ok (.if_icmp .ne 17, 3) := by decide +kernel
theorem dX12_isLong_128 : decode cX12_isLong 128 = .ok (.aload_n 0, 1) := by decide +kernel
theorem dX12_isLong_129 : decode cX12_isLong 129 = .ok (.getfield 230, 3) := by decide +kernel
theorem dX12_isLong_132 : decode cX12_isLong 132 = .ok (.lload 10, 2) := by decide +kernel
theorem dX12_isLong_134 : decode cX12_isLong 134 = .ok (.lcmp, 1) := by decide +kernel
theorem dX12_isLong_135 : decode cX12_isLong 135 = .ok (.ifCond .ne 7, 3) := by decide +kernel
theorem dX12_isLong_138 : decode cX12_isLong 138 = .ok (.iconst 1, 1) := by decide +kernel
theorem dX12_isLong_139 : decode cX12_isLong 139 = .ok (.goto 4, 3) := by decide +kernel
theorem dX12_isLong_142 : decode cX12_isLong 142 = .ok (.iconst 0, 1) := by decide +kernel
theorem dX12_isLong_143 : decode cX12_isLong 143 = .ok (.ireturn, 1) := by decide +kernel
theorem dX12_must_0 : decode cX12_must 0 = .ok (.aload_n 0, 1) := by decide +kernel
theorem dX12_must_1 : decode cX12_must 1 = .ok (.getfield 255, 3) := by decide +kernel
theorem dX12_must_4 : decode cX12_must 4 = .ok (.ifCond .ne 20, 3) := by decide +kernel
theorem dX12_must_7 : decode cX12_must 7 = .ok (.iload_n 1, 1) := by decide +kernel
theorem dX12_must_8 : decode cX12_must 8 = .ok (.ifCond .ne 16, 3) := by decide +kernel
theorem dX12_must_11 : decode cX12_must 11 = .ok (.aload_n 0, 1) := by decide +kernel
theorem dX12_must_12 : decode cX12_must 12 = .ok (.iconst 1, 1) := by decide +kernel
theorem dX12_must_13 : decode cX12_must 13 = .ok (.putfield 255, 3) := by decide +kernel
theorem dX12_must_16 : decode cX12_must 16 = .ok (.aload_n 0, 1) := by decide +kernel
theorem dX12_must_17 : decode cX12_must 17 = .ok (.aload_n 0, 1) := by decide +kernel
theorem dX12_must_18 : decode cX12_must 18 = .ok (.getfield 227, 3) := by decide +kernel
theorem dX12_must_21 : decode cX12_must 21 = .ok (.putfield 97, 3) := by decide +kernel
theorem dX12_must_24 : decode cX12_must 24 = .ok (.aload_n 0, 1) := by decide +kernel
theorem dX12_must_25 : decode cX12_must 25 = .ok (.getfield 255, 3) := by decide +kernel
theorem dX12_must_28 : decode cX12_must 28 = .ok (.ifCond .ne 7, 3) := by decide +kernel
theorem dX12_must_31 : decode cX12_must 31 = .ok (.aload_n 0, 1) := by decide +kernel
theorem dX12_must_32 : decode cX12_must 32 = .ok (.invokevirtual 259, 3) := by decide +kernel
theorem dX12_must_35 : decode cX12_must 35 = .ok (.return_, 1) := by decide +kernel
theorem dX12_number_0 : decode cX12_number 0 = .ok (.aload_n 0, 1) := by decide +kernel
theorem dX12_number_1 : decode cX12_number 1 = .ok (.getfield 230, 3) := by decide +kernel
theorem dX12_number_4 : decode cX12_number 4 = .ok (.l2i, 1) := by decide +kernel
theorem dX12_number_5 : decode cX12_number 5 = .ok (.istore_n 3, 1) := by decide +kernel
theorem dX12_number_6 : decode cX12_number 6 = .ok (.aload_n 0, 1) := by decide +kernel
theorem dX12_number_7 : decode cX12_number 7 = .ok (.aload_n 0, 1) := by decide +kernel
theorem dX12_number_8 : decode cX12_number 8 = .ok (.getfield 240, 3) := by decide +kernel
theorem dX12_number_11 : decode cX12_number 11 = .ok (.iconst 2, 1) := by decide +kernel
theorem dX12_number_12 : decode cX12_number 12 = .ok (.if_icmp .ne 16, 3) := by decide +kernel
theorem dX12_number_15 : decode cX12_number 15 = .ok (.aload_n 0, 1) := by decide +kernel
theorem dX12_number_16 : decode cX12_number 16 = .ok (.getfield 230, 3) := by decide +kernel
theorem dX12_number_19 : decode cX12_number 19 = .ok (.lload_n 1, 1) := by decide +kernel
theorem dX12_number_20 : decode cX12_number 20 = .ok (.lcmp, 1) := by decide +kernel
theorem dX12_number_21 : decode cX12_number 21 = .ok (.ifCond .gt 7, 3) := by decide +kernel
theorem dX12_number_24 : decode cX12_number 24 = .ok (.iconst 1, 1) := by decide +kernel
theorem dX12_number_25 : decode cX12_number 25 = .ok (.goto 4, 3) := by decide +kernel
theorem dX12_number_28 : decode cX12_number 28 = .ok (.iconst 0, 1) := by decide +kernel
theorem dX12_number_29 : decode cX12_number 29 = .ok (.invokevirtual 262, 3) := by decide +kernel
theorem dX12_number_32 : decode cX12_number 32 = .ok (.iload_n 3, 1) := by decide +kernel
theorem dX12_number_33 : decode cX12_number 33 = .ok (.ireturn, 1) := by decide +kernel
theorem dX12_readLaw_0 : decode cX12_readLaw 0 = .ok (.aload_n 0, 1) := by decide +kernel
theorem dX12_readLaw_1 : decode cX12_readLaw 1 = .ok (.aload_n 0, 1) := by decide +kernel
theorem dX12_readLaw_2 : decode cX12_readLaw 2 = .ok (.getfield 266, 3) := by decide +kernel
theorem dX12_readLaw_5 : decode cX12_readLaw 5 = .ok (.bipush 30, 2) := by decide +kernel
theorem dX12_readLaw_7 : decode cX12_readLaw 7 = .ok (.if_icmp .ge 23, 3) := by decide +kernel
theorem dX12_readLaw_10 : decode cX12_readLaw 10 = .ok (.aload_n 0, 1) := by decide +kernel
theorem dX12_readLaw_11 : decode cX12_readLaw 11 = .ok (.bipush 102, 2) := by decide +kernel
theorem dX12_readLaw_13 : decode cX12_readLaw 13 = .ok (.bipush 114, 2) := by decide +kernel
theorem dX12_readLaw_15 : decode cX12_readLaw 15 = .ok (.bipush 111, 2) := by decide +kernel
theorem dX12_readLaw_17 : decode cX12_readLaw 17 = .ok (.bipush 109, 2) := by decide +kernel
theorem dX12_readLaw_19 : decode cX12_readLaw 19 = .ok (.iconst 0, 1) := by decide +kernel
theorem dX12_readLaw_20 : decode cX12_readLaw 20 = .ok (.invokevirtual 269, 3) := by decide +kernel
theorem dX12_readLaw_23 : decode cX12_readLaw 23 = .ok (.ifCond .eq 7, 3) := by decide +kernel
theorem dX12_readLaw_26 : decode cX12_readLaw 26 = .ok (.iconst 1, 1) := by decide +kernel
theorem dX12_readLaw_27 : decode cX12_readLaw 27 = .ok (.goto 4, 3) := by decide +kernel
theorem dX12_readLaw_30 : decode cX12_readLaw 30 = .ok (.iconst 0, 1) := by decide +kernel
theorem dX12_readLaw_31 : decode cX12_readLaw 31 = .ok (.invokevirtual 262, 3) := by decide +kernel
theorem dX12_readLaw_34 : decode cX12_readLaw 34 = .ok (.aload_n 0, 1) := by decide +kernel
theorem dX12_readLaw_35 : decode cX12_readLaw 35 = .ok (.ldc2_w 137, 3) := by decide +kernel
theorem dX12_readLaw_38 : decode cX12_readLaw 38 = .ok (.invokevirtual 273, 3) := by decide +kernel
theorem dX12_readLaw_41 : decode cX12_readLaw 41 = .ok (.istore_n 1, 1) := by decide +kernel
theorem dX12_readLaw_42 : decode cX12_readLaw 42 = .ok (.sipush 200, 3) := by decide +kernel
theorem dX12_readLaw_45 : decode cX12_readLaw 45 = .ok (.istore_n 2, 1) := by decide +kernel
theorem dX12_readLaw_46 : decode cX12_readLaw 46 = .ok (.aload_n 0, 1) := by decide +kernel
theorem dX12_readLaw_47 : decode cX12_readLaw 47 = .ok (.getfield 255, 3) := by decide +kernel
theorem dX12_readLaw_50 : decode cX12_readLaw 50 = .ok (.ifCond .ne 65, 3) := by decide +kernel
theorem dX12_readLaw_53 : decode cX12_readLaw 53 = .ok (.aload_n 0, 1) := by decide +kernel
theorem dX12_readLaw_54 : decode cX12_readLaw 54 = .ok (.bipush 116, 2) := by decide +kernel
theorem dX12_readLaw_56 : decode cX12_readLaw 56 = .ok (.bipush 111, 2) := by decide +kernel
theorem dX12_readLaw_58 : decode cX12_readLaw 58 = .ok (.iconst 0, 1) := by decide +kernel
theorem dX12_readLaw_59 : decode cX12_readLaw 59 = .ok (.iconst 0, 1) := by decide +kernel
theorem dX12_readLaw_60 : decode cX12_readLaw 60 = .ok (.iconst 0, 1) := by decide +kernel
theorem dX12_readLaw_61 : decode cX12_readLaw 61 = .ok (.invokevirtual 269, 3) := by decide +kernel
theorem dX12_readLaw_64 : decode cX12_readLaw 64 = .ok (.ifCond .eq 51, 3) := by decide +kernel
theorem dX12_readLaw_67 : decode cX12_readLaw 67 = .ok (.aload_n 0, 1) := by decide +kernel
theorem dX12_readLaw_68 : decode cX12_readLaw 68 = .ok (.invokevirtual 259, 3) := by decide +kernel
theorem dX12_readLaw_71 : decode cX12_readLaw 71 = .ok (.aload_n 0, 1) := by decide +kernel
theorem dX12_readLaw_72 : decode cX12_readLaw 72 = .ok (.getfield 230, 3) := by decide +kernel
theorem dX12_readLaw_75 : decode cX12_readLaw 75 = .ok (.l2i, 1) := by decide +kernel
theorem dX12_readLaw_76 : decode cX12_readLaw 76 = .ok (.istore_n 2, 1) := by decide +kernel
theorem dX12_readLaw_77 : decode cX12_readLaw 77 = .ok (.aload_n 0, 1) := by decide +kernel
theorem dX12_readLaw_78 : decode cX12_readLaw 78 = .ok (.aload_n 0, 1) := by decide +kernel
theorem dX12_readLaw_79 : decode cX12_readLaw 79 = .ok (.getfield 240, 3) := by decide +kernel
theorem dX12_readLaw_82 : decode cX12_readLaw 82 = .ok (.iconst 2, 1) := by decide +kernel
theorem dX12_readLaw_83 : decode cX12_readLaw 83 = .ok (.if_icmp .ne 28, 3) := by decide +kernel
theorem dX12_readLaw_86 : decode cX12_readLaw 86 = .ok (.aload_n 0, 1) := by decide +kernel
theorem dX12_readLaw_87 : decode cX12_readLaw 87 = .ok (.getfield 230, 3) := by decide +kernel
theorem dX12_readLaw_90 : decode cX12_readLaw 90 = .ok (.ldc2_w 137, 3) := by decide +kernel
theorem dX12_readLaw_93 : decode cX12_readLaw 93 = .ok (.lcmp, 1) := by decide +kernel
theorem dX12_readLaw_94 : decode cX12_readLaw 94 = .ok (.ifCond .gt 17, 3) := by decide +kernel
theorem dX12_readLaw_97 : decode cX12_readLaw 97 = .ok (.aload_n 0, 1) := by decide +kernel
theorem dX12_readLaw_98 : decode cX12_readLaw 98 = .ok (.getfield 230, 3) := by decide +kernel
theorem dX12_readLaw_101 : decode cX12_readLaw 101 = .ok (.iload_n 1, 1) := by decide +kernel
theorem dX12_readLaw_102 : decode cX12_readLaw 102 = .ok (.i2l, 1) := by decide +kernel
theorem dX12_readLaw_103 : decode cX12_readLaw 103 = .ok (.lcmp, 1) := by decide +kernel
theorem dX12_readLaw_104 : decode cX12_readLaw 104 = .ok (.ifCond .lt 7, 3) := by decide +kernel
theorem dX12_readLaw_107 : decode cX12_readLaw 107 = .ok (.iconst 1, 1) := by decide +kernel
theorem dX12_readLaw_108 : decode cX12_readLaw 108 = .ok (.goto 4, 3) := by decide +kernel
theorem dX12_readLaw_111 : decode cX12_readLaw 111 = .ok (.iconst 0, 1) := by decide +kernel
theorem dX12_readLaw_112 : decode cX12_readLaw 112 = .ok (.invokevirtual 262, 3) := by decide +kernel
theorem dX12_readLaw_115 : decode cX12_readLaw 115 = .ok (.aload_n 0, 1) := by decide +kernel
theorem dX12_readLaw_116 : decode cX12_readLaw 116 = .ok (.bipush 102, 2) := by decide +kernel
theorem dX12_readLaw_118 : decode cX12_readLaw 118 = .ok (.bipush 105, 2) := by decide +kernel
theorem dX12_readLaw_120 : decode cX12_readLaw 120 = .ok (.bipush 114, 2) := by decide +kernel
theorem dX12_readLaw_122 : decode cX12_readLaw 122 = .ok (.bipush 115, 2) := by decide +kernel
theorem dX12_readLaw_124 : decode cX12_readLaw 124 = .ok (.bipush 116, 2) := by decide +kernel
theorem dX12_readLaw_126 : decode cX12_readLaw 126 = .ok (.invokevirtual 269, 3) := by decide +kernel
theorem dX12_readLaw_129 : decode cX12_readLaw 129 = .ok (.ifCond .eq 7, 3) := by decide +kernel
theorem dX12_readLaw_132 : decode cX12_readLaw 132 = .ok (.iconst 0, 1) := by decide +kernel
theorem dX12_readLaw_133 : decode cX12_readLaw 133 = .ok (.goto 106, 3) := by decide +kernel
theorem dX12_readLaw_136 : decode cX12_readLaw 136 = .ok (.aload_n 0, 1) := by decide +kernel
theorem dX12_readLaw_137 : decode cX12_readLaw 137 = .ok (.bipush 104, 2) := by decide +kernel
theorem dX12_readLaw_139 : decode cX12_readLaw 139 = .ok (.bipush 101, 2) := by decide +kernel
theorem dX12_readLaw_141 : decode cX12_readLaw 141 = .ok (.bipush 105, 2) := by decide +kernel
theorem dX12_readLaw_143 : decode cX12_readLaw 143 = .ok (.bipush 114, 2) := by decide +kernel
theorem dX12_readLaw_145 : decode cX12_readLaw 145 = .ok (.bipush 115, 2) := by decide +kernel
theorem dX12_readLaw_147 : decode cX12_readLaw 147 = .ok (.invokevirtual 269, 3) := by decide +kernel
theorem dX12_readLaw_150 : decode cX12_readLaw 150 = .ok (.ifCond .eq 7, 3) := by decide +kernel
theorem dX12_readLaw_153 : decode cX12_readLaw 153 = .ok (.iconst 1, 1) := by decide +kernel
theorem dX12_readLaw_154 : decode cX12_readLaw 154 = .ok (.goto 85, 3) := by decide +kernel
theorem dX12_readLaw_157 : decode cX12_readLaw 157 = .ok (.aload_n 0, 1) := by decide +kernel
theorem dX12_readLaw_158 : decode cX12_readLaw 158 = .ok (.bipush 114, 2) := by decide +kernel
theorem dX12_readLaw_160 : decode cX12_readLaw 160 = .ok (.bipush 101, 2) := by decide +kernel
theorem dX12_readLaw_162 : decode cX12_readLaw 162 = .ok (.bipush 110, 2) := by decide +kernel
theorem dX12_readLaw_164 : decode cX12_readLaw 164 = .ok (.bipush 116, 2) := by decide +kernel
theorem dX12_readLaw_166 : decode cX12_readLaw 166 = .ok (.iconst 0, 1) := by decide +kernel
theorem dX12_readLaw_167 : decode cX12_readLaw 167 = .ok (.invokevirtual 269, 3) := by decide +kernel
theorem dX12_readLaw_170 : decode cX12_readLaw 170 = .ok (.ifCond .eq 7, 3) := by decide +kernel
theorem dX12_readLaw_173 : decode cX12_readLaw 173 = .ok (.iconst 2, 1) := by decide +kernel
theorem dX12_readLaw_174 : decode cX12_readLaw 174 = .ok (.goto 65, 3) := by decide +kernel
theorem dX12_readLaw_177 : decode cX12_readLaw 177 = .ok (.aload_n 0, 1) := by decide +kernel
theorem dX12_readLaw_178 : decode cX12_readLaw 178 = .ok (.bipush 102, 2) := by decide +kernel
theorem dX12_readLaw_180 : decode cX12_readLaw 180 = .ok (.bipush 105, 2) := by decide +kernel
theorem dX12_readLaw_182 : decode cX12_readLaw 182 = .ok (.bipush 110, 2) := by decide +kernel
theorem dX12_readLaw_184 : decode cX12_readLaw 184 = .ok (.bipush 101, 2) := by decide +kernel
theorem dX12_readLaw_186 : decode cX12_readLaw 186 = .ok (.iconst 0, 1) := by decide +kernel
theorem dX12_readLaw_187 : decode cX12_readLaw 187 = .ok (.invokevirtual 269, 3) := by decide +kernel
theorem dX12_readLaw_190 : decode cX12_readLaw 190 = .ok (.ifCond .eq 7, 3) := by decide +kernel
theorem dX12_readLaw_193 : decode cX12_readLaw 193 = .ok (.iconst 3, 1) := by decide +kernel
theorem dX12_readLaw_194 : decode cX12_readLaw 194 = .ok (.goto 45, 3) := by decide +kernel
theorem dX12_readLaw_197 : decode cX12_readLaw 197 = .ok (.aload_n 0, 1) := by decide +kernel
theorem dX12_readLaw_198 : decode cX12_readLaw 198 = .ok (.bipush 109, 2) := by decide +kernel
theorem dX12_readLaw_200 : decode cX12_readLaw 200 = .ok (.bipush 111, 2) := by decide +kernel
theorem dX12_readLaw_202 : decode cX12_readLaw 202 = .ok (.bipush 115, 2) := by decide +kernel
theorem dX12_readLaw_204 : decode cX12_readLaw 204 = .ok (.bipush 116, 2) := by decide +kernel
theorem dX12_readLaw_206 : decode cX12_readLaw 206 = .ok (.iconst 0, 1) := by decide +kernel
theorem dX12_readLaw_207 : decode cX12_readLaw 207 = .ok (.invokevirtual 269, 3) := by decide +kernel
theorem dX12_readLaw_210 : decode cX12_readLaw 210 = .ok (.ifCond .eq 7, 3) := by decide +kernel
theorem dX12_readLaw_213 : decode cX12_readLaw 213 = .ok (.iconst 4, 1) := by decide +kernel
theorem dX12_readLaw_214 : decode cX12_readLaw 214 = .ok (.goto 25, 3) := by decide +kernel
theorem dX12_readLaw_217 : decode cX12_readLaw 217 = .ok (.aload_n 0, 1) := by decide +kernel
theorem dX12_readLaw_218 : decode cX12_readLaw 218 = .ok (.bipush 99, 2) := by decide +kernel
theorem dX12_readLaw_220 : decode cX12_readLaw 220 = .ok (.bipush 108, 2) := by decide +kernel
theorem dX12_readLaw_222 : decode cX12_readLaw 222 = .ok (.bipush 111, 2) := by decide +kernel
theorem dX12_readLaw_224 : decode cX12_readLaw 224 = .ok (.bipush 115, 2) := by decide +kernel
theorem dX12_readLaw_226 : decode cX12_readLaw 226 = .ok (.bipush 101, 2) := by decide +kernel
theorem dX12_readLaw_228 : decode cX12_readLaw 228 = .ok (.invokevirtual 269, 3) := by decide +kernel
theorem dX12_readLaw_231 : decode cX12_readLaw 231 = .ok (.ifCond .eq 7, 3) := by decide +kernel
theorem dX12_readLaw_234 : decode cX12_readLaw 234 = .ok (.iconst 5, 1) := by decide +kernel
theorem dX12_readLaw_235 : decode cX12_readLaw 235 = .ok (.goto 4, 3) := by decide +kernel
theorem dX12_readLaw_238 : decode cX12_readLaw 238 = .ok (.iconst (-1), 1) := by decide +kernel
theorem dX12_readLaw_239 : decode cX12_readLaw 239 = .ok (.istore_n 3, 1) := by decide +kernel
theorem dX12_readLaw_240 : decode cX12_readLaw 240 = .ok (.aload_n 0, 1) := by decide +kernel
theorem dX12_readLaw_241 : decode cX12_readLaw 241 = .ok (.iload_n 3, 1) := by decide +kernel
theorem dX12_readLaw_242 : decode cX12_readLaw 242 = .ok (.ifCond .lt 7, 3) := by decide +kernel
theorem dX12_readLaw_245 : decode cX12_readLaw 245 = .ok (.iconst 1, 1) := by decide +kernel
theorem dX12_readLaw_246 : decode cX12_readLaw 246 = .ok (.goto 4, 3) := by decide +kernel
theorem dX12_readLaw_249 : decode cX12_readLaw 249 = .ok (.iconst 0, 1) := by decide +kernel
theorem dX12_readLaw_250 : decode cX12_readLaw 250 = .ok (.invokevirtual 262, 3) := by decide +kernel
theorem dX12_readLaw_253 : decode cX12_readLaw 253 = .ok (.iconst 0, 1) := by decide +kernel
theorem dX12_readLaw_254 : decode cX12_readLaw 254 = .ok (.istore 4, 2) := by decide +kernel
theorem dX12_readLaw_256 : decode cX12_readLaw 256 = .ok (.iload_n 3, 1) := by decide +kernel
theorem dX12_readLaw_257 : decode cX12_readLaw 257 = .ok (.ifCond .ne 96, 3) := by decide +kernel
theorem dX12_readLaw_260 : decode cX12_readLaw 260 = .ok (.aload_n 0, 1) := by decide +kernel
theorem dX12_readLaw_261 : decode cX12_readLaw 261 = .ok (.bipush 102, 2) := by decide +kernel
theorem dX12_readLaw_263 : decode cX12_readLaw 263 = .ok (.bipush 111, 2) := by decide +kernel
theorem dX12_readLaw_265 : decode cX12_readLaw 265 = .ok (.bipush 117, 2) := by decide +kernel
theorem dX12_readLaw_267 : decode cX12_readLaw 267 = .ok (.bipush 110, 2) := by decide +kernel
theorem dX12_readLaw_269 : decode cX12_readLaw 269 = .ok (.bipush 116, 2) := by decide +kernel
theorem dX12_readLaw_271 : decode cX12_readLaw 271 = .ok (.bipush 97, 2) := by decide +kernel
theorem dX12_readLaw_273 : decode cX12_readLaw 273 = .ok (.bipush 105, 2) := by decide +kernel
theorem dX12_readLaw_275 : decode cX12_readLaw 275 = .ok (.bipush 110, 2) := by decide +kernel
theorem dX12_readLaw_277 : decode cX12_readLaw 277 = .ok (.bipush 115, 2) := by decide +kernel
theorem dX12_readLaw_279 : decode cX12_readLaw 279 = .ok (.invokevirtual 277, 3) := by decide +kernel
theorem dX12_readLaw_282 : decode cX12_readLaw 282 = .ok (.ifCond .eq 7, 3) := by decide +kernel
theorem dX12_readLaw_285 : decode cX12_readLaw 285 = .ok (.iconst 0, 1) := by decide +kernel
theorem dX12_readLaw_286 : decode cX12_readLaw 286 = .ok (.goto 25, 3) := by decide +kernel
theorem dX12_readLaw_289 : decode cX12_readLaw 289 = .ok (.aload_n 0, 1) := by decide +kernel
theorem dX12_readLaw_290 : decode cX12_readLaw 290 = .ok (.bipush 98, 2) := by decide +kernel
theorem dX12_readLaw_292 : decode cX12_readLaw 292 = .ok (.bipush 97, 2) := by decide +kernel
theorem dX12_readLaw_294 : decode cX12_readLaw 294 = .ok (.bipush 116, 2) := by decide +kernel
theorem dX12_readLaw_296 : decode cX12_readLaw 296 = .ok (.bipush 104, 2) := by decide +kernel
theorem dX12_readLaw_298 : decode cX12_readLaw 298 = .ok (.bipush 115, 2) := by decide +kernel
theorem dX12_readLaw_300 : decode cX12_readLaw 300 = .ok (.invokevirtual 269, 3) := by decide +kernel
theorem dX12_readLaw_303 : decode cX12_readLaw 303 = .ok (.ifCond .eq 7, 3) := by decide +kernel
theorem dX12_readLaw_306 : decode cX12_readLaw 306 = .ok (.iconst 1, 1) := by decide +kernel
theorem dX12_readLaw_307 : decode cX12_readLaw 307 = .ok (.goto 4, 3) := by decide +kernel
theorem dX12_readLaw_310 : decode cX12_readLaw 310 = .ok (.iconst 2, 1) := by decide +kernel
theorem dX12_readLaw_311 : decode cX12_readLaw 311 = .ok (.istore 4, 2) := by decide +kernel
theorem dX12_readLaw_313 : decode cX12_readLaw 313 = .ok (.aload_n 0, 1) := by decide +kernel
theorem dX12_readLaw_314 : decode cX12_readLaw 314 = .ok (.iload 4, 2) := by decide +kernel
theorem dX12_readLaw_316 : decode cX12_readLaw 316 = .ok (.iconst 2, 1) := by decide +kernel
theorem dX12_readLaw_317 : decode cX12_readLaw 317 = .ok (.if_icmp .lt 25, 3) := by decide +kernel
theorem dX12_readLaw_320 : decode cX12_readLaw 320 = .ok (.aload_n 0, 1) := by decide +kernel
theorem dX12_readLaw_321 : decode cX12_readLaw 321 = .ok (.bipush 103, 2) := by decide +kernel
theorem dX12_readLaw_323 : decode cX12_readLaw 323 = .ok (.bipush 114, 2) := by decide +kernel
theorem dX12_readLaw_325 : decode cX12_readLaw 325 = .ok (.bipush 97, 2) := by decide +kernel
theorem dX12_readLaw_327 : decode cX12_readLaw 327 = .ok (.bipush 110, 2) := by decide +kernel
theorem dX12_readLaw_329 : decode cX12_readLaw 329 = .ok (.bipush 116, 2) := by decide +kernel
theorem dX12_readLaw_331 : decode cX12_readLaw 331 = .ok (.bipush 115, 2) := by decide +kernel
theorem dX12_readLaw_333 : decode cX12_readLaw 333 = .ok (.iconst 0, 1) := by decide +kernel
theorem dX12_readLaw_334 : decode cX12_readLaw 334 = .ok (.iconst 0, 1) := by decide +kernel
theorem dX12_readLaw_335 : decode cX12_readLaw 335 = .ok (.iconst 0, 1) := by decide +kernel
theorem dX12_readLaw_336 : decode cX12_readLaw 336 = .ok (.invokevirtual 277, 3) := by decide +kernel
theorem dX12_readLaw_339 : decode cX12_readLaw 339 = .ok (.ifCond .eq 7, 3) := by decide +kernel
theorem dX12_readLaw_342 : decode cX12_readLaw 342 = .ok (.iconst 1, 1) := by decide +kernel
theorem dX12_readLaw_343 : decode cX12_readLaw 343 = .ok (.goto 4, 3) := by decide +kernel
theorem dX12_readLaw_346 : decode cX12_readLaw 346 = .ok (.iconst 0, 1) := by decide +kernel
theorem dX12_readLaw_347 : decode cX12_readLaw 347 = .ok (.invokevirtual 262, 3) := by decide +kernel
theorem dX12_readLaw_350 : decode cX12_readLaw 350 = .ok (.goto 23, 3) := by decide +kernel
theorem dX12_readLaw_353 : decode cX12_readLaw 353 = .ok (.aload_n 0, 1) := by decide +kernel
theorem dX12_readLaw_354 : decode cX12_readLaw 354 = .ok (.iload_n 3, 1) := by decide +kernel
theorem dX12_readLaw_355 : decode cX12_readLaw 355 = .ok (.iconst 5, 1) := by decide +kernel
theorem dX12_readLaw_356 : decode cX12_readLaw 356 = .ok (.if_icmp .ne 9, 3) := by decide +kernel
theorem dX12_readLaw_359 : decode cX12_readLaw 359 = .ok (.ldc2_w 184, 3) := by decide +kernel
theorem dX12_readLaw_362 : decode cX12_readLaw 362 = .ok (.goto 6, 3) := by decide +kernel
theorem dX12_readLaw_365 : decode cX12_readLaw 365 = .ok (.ldc2_w 152, 3) := by decide +kernel
theorem dX12_readLaw_368 : decode cX12_readLaw 368 = .ok (.invokevirtual 273, 3) := by decide +kernel
theorem dX12_readLaw_371 : decode cX12_readLaw 371 = .ok (.istore 4, 2) := by decide +kernel
theorem dX12_readLaw_373 : decode cX12_readLaw 373 = .ok (.aload_n 0, 1) := by decide +kernel
theorem dX12_readLaw_374 : decode cX12_readLaw 374 = .ok (.getfield 255, 3) := by decide +kernel
theorem dX12_readLaw_377 : decode cX12_readLaw 377 = .ok (.ifCond .eq 4, 3) := by decide +kernel
theorem dX12_readLaw_380 : decode cX12_readLaw 380 = .ok (.return_, 1) := by decide +kernel
theorem dX12_readLaw_381 : decode cX12_readLaw 381 = .ok (.aload_n 0, 1) := by decide +kernel
theorem dX12_readLaw_382 : decode cX12_readLaw 382 = .ok (.getfield 91, 3) := by decide +kernel
theorem dX12_readLaw_385 : decode cX12_readLaw 385 = .ok (.iconst 4, 1) := by decide +kernel
theorem dX12_readLaw_386 : decode cX12_readLaw 386 = .ok (.aload_n 0, 1) := by decide +kernel
theorem dX12_readLaw_387 : decode cX12_readLaw 387 = .ok (.getfield 266, 3) := by decide +kernel
theorem dX12_readLaw_390 : decode cX12_readLaw 390 = .ok (.imul, 1) := by decide +kernel
theorem dX12_readLaw_391 : decode cX12_readLaw 391 = .ok (.iload_n 3, 1) := by decide +kernel
theorem dX12_readLaw_392 : decode cX12_readLaw 392 = .ok (.iastore, 1) := by decide +kernel
theorem dX12_readLaw_393 : decode cX12_readLaw 393 = .ok (.aload_n 0, 1) := by decide +kernel
theorem dX12_readLaw_394 : decode cX12_readLaw 394 = .ok (.getfield 91, 3) := by decide +kernel
theorem dX12_readLaw_397 : decode cX12_readLaw 397 = .ok (.iconst 4, 1) := by decide +kernel
theorem dX12_readLaw_398 : decode cX12_readLaw 398 = .ok (.aload_n 0, 1) := by decide +kernel
theorem dX12_readLaw_399 : decode cX12_readLaw 399 = .ok (.getfield 266, 3) := by decide +kernel
theorem dX12_readLaw_402 : decode cX12_readLaw 402 = .ok (.imul, 1) := by decide +kernel
theorem dX12_readLaw_403 : decode cX12_readLaw 403 = .ok (.iconst 1, 1) := by decide +kernel
theorem dX12_readLaw_404 : decode cX12_readLaw 404 = .ok (.iadd, 1) := by decide +kernel
theorem dX12_readLaw_405 : decode cX12_readLaw 405 = .ok (.iload_n 1, 1) := by decide +kernel
theorem dX12_readLaw_406 : decode cX12_readLaw 406 = .ok (.iastore, 1) := by decide +kernel
theorem dX12_readLaw_407 : decode cX12_readLaw 407 = .ok (.aload_n 0, 1) := by decide +kernel
theorem dX12_readLaw_408 : decode cX12_readLaw 408 = .ok (.getfield 91, 3) := by decide +kernel
theorem dX12_readLaw_411 : decode cX12_readLaw 411 = .ok (.iconst 4, 1) := by decide +kernel
theorem dX12_readLaw_412 : decode cX12_readLaw 412 = .ok (.aload_n 0, 1) := by decide +kernel
theorem dX12_readLaw_413 : decode cX12_readLaw 413 = .ok (.getfield 266, 3) := by decide +kernel
theorem dX12_readLaw_416 : decode cX12_readLaw 416 = .ok (.imul, 1) := by decide +kernel
theorem dX12_readLaw_417 : decode cX12_readLaw 417 = .ok (.iconst 2, 1) := by decide +kernel
theorem dX12_readLaw_418 : decode cX12_readLaw 418 = .ok (.iadd, 1) := by decide +kernel
theorem dX12_readLaw_419 : decode cX12_readLaw 419 = .ok (.iload_n 2, 1) := by decide +kernel
theorem dX12_readLaw_420 : decode cX12_readLaw 420 = .ok (.iastore, 1) := by decide +kernel
theorem dX12_readLaw_421 : decode cX12_readLaw 421 = .ok (.aload_n 0, 1) := by decide +kernel
theorem dX12_readLaw_422 : decode cX12_readLaw 422 = .ok (.getfield 91, 3) := by decide +kernel
theorem dX12_readLaw_425 : decode cX12_readLaw 425 = .ok (.iconst 4, 1) := by decide +kernel
theorem dX12_readLaw_426 : decode cX12_readLaw 426 = .ok (.aload_n 0, 1) := by decide +kernel
theorem dX12_readLaw_427 : decode cX12_readLaw 427 = .ok (.getfield 266, 3) := by decide +kernel
theorem dX12_readLaw_430 : decode cX12_readLaw 430 = .ok (.imul, 1) := by decide +kernel
theorem dX12_readLaw_431 : decode cX12_readLaw 431 = .ok (.iconst 3, 1) := by decide +kernel
theorem dX12_readLaw_432 : decode cX12_readLaw 432 = .ok (.iadd, 1) := by decide +kernel
theorem dX12_readLaw_433 : decode cX12_readLaw 433 = .ok (.iload 4, 2) := by decide +kernel
theorem dX12_readLaw_435 : decode cX12_readLaw 435 = .ok (.iastore, 1) := by decide +kernel
theorem dX12_readLaw_436 : decode cX12_readLaw 436 = .ok (.aload_n 0, 1) := by decide +kernel
theorem dX12_readLaw_437 : decode cX12_readLaw 437 = .ok (.dup, 1) := by decide +kernel
theorem dX12_readLaw_438 : decode cX12_readLaw 438 = .ok (.getfield 266, 3) := by decide +kernel
theorem dX12_readLaw_441 : decode cX12_readLaw 441 = .ok (.iconst 1, 1) := by decide +kernel
theorem dX12_readLaw_442 : decode cX12_readLaw 442 = .ok (.iadd, 1) := by decide +kernel
theorem dX12_readLaw_443 : decode cX12_readLaw 443 = .ok (.putfield 266, 3) := by decide +kernel
theorem dX12_readLaw_446 : decode cX12_readLaw 446 = .ok (.return_, 1) := by decide +kernel
theorem dX12_laws_0 : decode cX12_laws 0 = .ok (.aload_n 0, 1) := by decide +kernel
theorem dX12_laws_1 : decode cX12_laws 1 = .ok (.iconst 0, 1) := by decide +kernel
theorem dX12_laws_2 : decode cX12_laws 2 = .ok (.putfield 131, 3) := by decide +kernel
theorem dX12_laws_5 : decode cX12_laws 5 = .ok (.aload_n 0, 1) := by decide +kernel
theorem dX12_laws_6 : decode cX12_laws 6 = .ok (.iconst 0, 1) := by decide +kernel
theorem dX12_laws_7 : decode cX12_laws 7 = .ok (.putfield 224, 3) := by decide +kernel
theorem dX12_laws_10 : decode cX12_laws 10 = .ok (.aload_n 0, 1) := by decide +kernel
theorem dX12_laws_11 : decode cX12_laws 11 = .ok (.iconst 0, 1) := by decide +kernel
theorem dX12_laws_12 : decode cX12_laws 12 = .ok (.putfield 255, 3) := by decide +kernel
theorem dX12_laws_15 : decode cX12_laws 15 = .ok (.aload_n 0, 1) := by decide +kernel
theorem dX12_laws_16 : decode cX12_laws 16 = .ok (.iconst (-1), 1) := by decide +kernel
theorem dX12_laws_17 : decode cX12_laws 17 = .ok (.putfield 97, 3) := by decide +kernel
theorem dX12_laws_20 : decode cX12_laws 20 = .ok (.aload_n 0, 1) := by decide +kernel
theorem dX12_laws_21 : decode cX12_laws 21 = .ok (.iconst 0, 1) := by decide +kernel
theorem dX12_laws_22 : decode cX12_laws 22 = .ok (.putfield 266, 3) := by decide +kernel
theorem dX12_laws_25 : decode cX12_laws 25 = .ok (.aload_n 0, 1) := by decide +kernel
theorem dX12_laws_26 : decode cX12_laws 26 = .ok (.invokevirtual 259, 3) := by decide +kernel
theorem dX12_laws_29 : decode cX12_laws 29 = .ok (.aload_n 0, 1) := by decide +kernel
theorem dX12_laws_30 : decode cX12_laws 30 = .ok (.getfield 240, 3) := by decide +kernel
theorem dX12_laws_33 : decode cX12_laws 33 = .ok (.ifCond .eq 63, 3) := by decide +kernel
theorem dX12_laws_36 : decode cX12_laws 36 = .ok (.aload_n 0, 1) := by decide +kernel
theorem dX12_laws_37 : decode cX12_laws 37 = .ok (.invokevirtual 281, 3) := by decide +kernel
theorem dX12_laws_40 : decode cX12_laws 40 = .ok (.aload_n 0, 1) := by decide +kernel
theorem dX12_laws_41 : decode cX12_laws 41 = .ok (.getfield 255, 3) := by decide +kernel
theorem dX12_laws_44 : decode cX12_laws 44 = .ok (.ifCond .ne 33, 3) := by decide +kernel
theorem dX12_laws_47 : decode cX12_laws 47 = .ok (.aload_n 0, 1) := by decide +kernel
theorem dX12_laws_48 : decode cX12_laws 48 = .ok (.getfield 240, 3) := by decide +kernel
theorem dX12_laws_51 : decode cX12_laws 51 = .ok (.iconst 3, 1) := by decide +kernel
theorem dX12_laws_52 : decode cX12_laws 52 = .ok (.if_icmp .ne 25, 3) := by decide +kernel
theorem dX12_laws_55 : decode cX12_laws 55 = .ok (.aload_n 0, 1) := by decide +kernel
theorem dX12_laws_56 : decode cX12_laws 56 = .ok (.getfield 230, 3) := by decide +kernel
theorem dX12_laws_59 : decode cX12_laws 59 = .ok (.ldc2_w 284, 3) := by decide +kernel
theorem dX12_laws_62 : decode cX12_laws 62 = .ok (.lcmp, 1) := by decide +kernel
theorem dX12_laws_63 : decode cX12_laws 63 = .ok (.ifCond .ne 14, 3) := by decide +kernel
theorem dX12_laws_66 : decode cX12_laws 66 = .ok (.aload_n 0, 1) := by decide +kernel
theorem dX12_laws_67 : decode cX12_laws 67 = .ok (.invokevirtual 259, 3) := by decide +kernel
theorem dX12_laws_70 : decode cX12_laws 70 = .ok (.aload_n 0, 1) := by decide +kernel
theorem dX12_laws_71 : decode cX12_laws 71 = .ok (.invokevirtual 281, 3) := by decide +kernel
theorem dX12_laws_74 : decode cX12_laws 74 = .ok (.goto (-34), 3) := by decide +kernel
theorem dX12_laws_77 : decode cX12_laws 77 = .ok (.aload_n 0, 1) := by decide +kernel
theorem dX12_laws_78 : decode cX12_laws 78 = .ok (.getfield 255, 3) := by decide +kernel
theorem dX12_laws_81 : decode cX12_laws 81 = .ok (.ifCond .ne 15, 3) := by decide +kernel
theorem dX12_laws_84 : decode cX12_laws 84 = .ok (.aload_n 0, 1) := by decide +kernel
theorem dX12_laws_85 : decode cX12_laws 85 = .ok (.getfield 240, 3) := by decide +kernel
theorem dX12_laws_88 : decode cX12_laws 88 = .ok (.ifCond .eq 8, 3) := by decide +kernel
theorem dX12_laws_91 : decode cX12_laws 91 = .ok (.aload_n 0, 1) := by decide +kernel
theorem dX12_laws_92 : decode cX12_laws 92 = .ok (.iconst 0, 1) := by decide +kernel
theorem dX12_laws_93 : decode cX12_laws 93 = .ok (.invokevirtual 262, 3) := by decide +kernel
theorem dX12_laws_96 : decode cX12_laws 96 = .ok (.aload_n 0, 1) := by decide +kernel
theorem dX12_laws_97 : decode cX12_laws 97 = .ok (.iconst 0, 1) := by decide +kernel
theorem dX12_laws_98 : decode cX12_laws 98 = .ok (.putfield 217, 3) := by decide +kernel
theorem dX12_laws_101 : decode cX12_laws 101 = .ok (.aload_n 0, 1) := by decide +kernel
theorem dX12_laws_102 : decode cX12_laws 102 = .ok (.getfield 255, 3) := by decide +kernel
theorem dX12_laws_105 : decode cX12_laws 105 = .ok (.ifCond .eq 10, 3) := by decide +kernel
theorem dX12_laws_108 : decode cX12_laws 108 = .ok (.aload_n 0, 1) := by decide +kernel
theorem dX12_laws_109 : decode cX12_laws 109 = .ok (.bipush (-6), 2) := by decide +kernel
theorem dX12_laws_111 : decode cX12_laws 111 = .ok (.invokevirtual 154, 3) := by decide +kernel
theorem dX12_laws_114 : decode cX12_laws 114 = .ok (.ireturn, 1) := by decide +kernel
theorem dX12_laws_115 : decode cX12_laws 115 = .ok (.aload_n 0, 1) := by decide +kernel
theorem dX12_laws_116 : decode cX12_laws 116 = .ok (.aload_n 0, 1) := by decide +kernel
theorem dX12_laws_117 : decode cX12_laws 117 = .ok (.getfield 266, 3) := by decide +kernel
theorem dX12_laws_120 : decode cX12_laws 120 = .ok (.putfield 210, 3) := by decide +kernel
theorem dX12_laws_123 : decode cX12_laws 123 = .ok (.iconst 0, 1) := by decide +kernel
theorem dX12_laws_124 : decode cX12_laws 124 = .ok (.istore_n 1, 1) := by decide +kernel
theorem dX12_laws_125 : decode cX12_laws 125 = .ok (.iload_n 1, 1) := by decide +kernel
theorem dX12_laws_126 : decode cX12_laws 126 = .ok (.aload_n 0, 1) := by decide +kernel
theorem dX12_laws_127 : decode cX12_laws 127 = .ok (.getfield 210, 3) := by decide +kernel
theorem dX12_laws_130 : decode cX12_laws 130 = .ok (.if_icmp .ge 71, 3) := by decide +kernel
theorem dX12_laws_133 : decode cX12_laws 133 = .ok (.aload_n 0, 1) := by decide +kernel
theorem dX12_laws_134 : decode cX12_laws 134 = .ok (.getfield 79, 3) := by decide +kernel
theorem dX12_laws_137 : decode cX12_laws 137 = .ok (.iload_n 1, 1) := by decide +kernel
theorem dX12_laws_138 : decode cX12_laws 138 = .ok (.aload_n 0, 1) := by decide +kernel
theorem dX12_laws_139 : decode cX12_laws 139 = .ok (.getfield 91, 3) := by decide +kernel
theorem dX12_laws_142 : decode cX12_laws 142 = .ok (.iconst 4, 1) := by decide +kernel
theorem dX12_laws_143 : decode cX12_laws 143 = .ok (.iload_n 1, 1) := by decide +kernel
theorem dX12_laws_144 : decode cX12_laws 144 = .ok (.imul, 1) := by decide +kernel
theorem dX12_laws_145 : decode cX12_laws 145 = .ok (.iaload, 1) := by decide +kernel
theorem dX12_laws_146 : decode cX12_laws 146 = .ok (.iastore, 1) := by decide +kernel
theorem dX12_laws_147 : decode cX12_laws 147 = .ok (.aload_n 0, 1) := by decide +kernel
theorem dX12_laws_148 : decode cX12_laws 148 = .ok (.getfield 82, 3) := by decide +kernel
theorem dX12_laws_151 : decode cX12_laws 151 = .ok (.iload_n 1, 1) := by decide +kernel
theorem dX12_laws_152 : decode cX12_laws 152 = .ok (.aload_n 0, 1) := by decide +kernel
theorem dX12_laws_153 : decode cX12_laws 153 = .ok (.getfield 91, 3) := by decide +kernel
theorem dX12_laws_156 : decode cX12_laws 156 = .ok (.iconst 4, 1) := by decide +kernel
theorem dX12_laws_157 : decode cX12_laws 157 = .ok (.iload_n 1, 1) := by decide +kernel
theorem dX12_laws_158 : decode cX12_laws 158 = .ok (.imul, 1) := by decide +kernel
theorem dX12_laws_159 : decode cX12_laws 159 = .ok (.iconst 1, 1) := by decide +kernel
theorem dX12_laws_160 : decode cX12_laws 160 = .ok (.iadd, 1) := by decide +kernel
theorem dX12_laws_161 : decode cX12_laws 161 = .ok (.iaload, 1) := by decide +kernel
theorem dX12_laws_162 : decode cX12_laws 162 = .ok (.iastore, 1) := by decide +kernel
theorem dX12_laws_163 : decode cX12_laws 163 = .ok (.aload_n 0, 1) := by decide +kernel
theorem dX12_laws_164 : decode cX12_laws 164 = .ok (.getfield 85, 3) := by decide +kernel
theorem dX12_laws_167 : decode cX12_laws 167 = .ok (.iload_n 1, 1) := by decide +kernel
theorem dX12_laws_168 : decode cX12_laws 168 = .ok (.aload_n 0, 1) := by decide +kernel
theorem dX12_laws_169 : decode cX12_laws 169 = .ok (.getfield 91, 3) := by decide +kernel
theorem dX12_laws_172 : decode cX12_laws 172 = .ok (.iconst 4, 1) := by decide +kernel
theorem dX12_laws_173 : decode cX12_laws 173 = .ok (.iload_n 1, 1) := by decide +kernel
theorem dX12_laws_174 : decode cX12_laws 174 = .ok (.imul, 1) := by decide +kernel
theorem dX12_laws_175 : decode cX12_laws 175 = .ok (.iconst 2, 1) := by decide +kernel
theorem dX12_laws_176 : decode cX12_laws 176 = .ok (.iadd, 1) := by decide +kernel
theorem dX12_laws_177 : decode cX12_laws 177 = .ok (.iaload, 1) := by decide +kernel
theorem dX12_laws_178 : decode cX12_laws 178 = .ok (.iastore, 1) := by decide +kernel
theorem dX12_laws_179 : decode cX12_laws 179 = .ok (.aload_n 0, 1) := by decide +kernel
theorem dX12_laws_180 : decode cX12_laws 180 = .ok (.getfield 88, 3) := by decide +kernel
theorem dX12_laws_183 : decode cX12_laws 183 = .ok (.iload_n 1, 1) := by decide +kernel
theorem dX12_laws_184 : decode cX12_laws 184 = .ok (.aload_n 0, 1) := by decide +kernel
theorem dX12_laws_185 : decode cX12_laws 185 = .ok (.getfield 91, 3) := by decide +kernel
theorem dX12_laws_188 : decode cX12_laws 188 = .ok (.iconst 4, 1) := by decide +kernel
theorem dX12_laws_189 : decode cX12_laws 189 = .ok (.iload_n 1, 1) := by decide +kernel
theorem dX12_laws_190 : decode cX12_laws 190 = .ok (.imul, 1) := by decide +kernel
theorem dX12_laws_191 : decode cX12_laws 191 = .ok (.iconst 3, 1) := by decide +kernel
theorem dX12_laws_192 : decode cX12_laws 192 = .ok (.iadd, 1) := by decide +kernel
theorem dX12_laws_193 : decode cX12_laws 193 = .ok (.iaload, 1) := by decide +kernel
theorem dX12_laws_194 : decode cX12_laws 194 = .ok (.iastore, 1) := by decide +kernel
theorem dX12_laws_195 : decode cX12_laws 195 = .ok (.iinc 1 1, 3) := by decide +kernel
theorem dX12_laws_198 : decode cX12_laws 198 = .ok (.goto (-73), 3) := by decide +kernel
theorem dX12_laws_201 : decode cX12_laws 201 = .ok (.aload_n 0, 1) := by decide +kernel
theorem dX12_laws_202 : decode cX12_laws 202 = .ok (.aload_n 0, 1) := by decide +kernel
theorem dX12_laws_203 : decode cX12_laws 203 = .ok (.getfield 210, 3) := by decide +kernel
theorem dX12_laws_206 : decode cX12_laws 206 = .ok (.invokevirtual 154, 3) := by decide +kernel
theorem dX12_laws_209 : decode cX12_laws 209 = .ok (.ireturn, 1) := by decide +kernel
theorem dX12_fault_0 : decode cX12_fault 0 = .ok (.aload_n 0, 1) := by decide +kernel
theorem dX12_fault_1 : decode cX12_fault 1 = .ok (.iconst 0, 1) := by decide +kernel
theorem dX12_fault_2 : decode cX12_fault 2 = .ok (.putfield 131, 3) := by decide +kernel
theorem dX12_fault_5 : decode cX12_fault 5 = .ok (.aload_n 0, 1) := by decide +kernel
theorem dX12_fault_6 : decode cX12_fault 6 = .ok (.getfield 97, 3) := by decide +kernel
theorem dX12_fault_9 : decode cX12_fault 9 = .ok (.ireturn, 1) := by decide +kernel
theorem dX12_isOpen_0 : decode cX12_isOpen 0 = .ok (.iload_n 2, 1) := by decide +kernel
theorem dX12_isOpen_1 : decode cX12_isOpen 1 = .ok (.aload_n 0, 1) := by decide +kernel
theorem dX12_isOpen_2 : decode cX12_isOpen 2 = .ok (.getfield 52, 3) := by decide +kernel
theorem dX12_isOpen_5 : decode cX12_isOpen 5 = .ok (.iload_n 1, 1) := by decide +kernel
theorem dX12_isOpen_6 : decode cX12_isOpen 6 = .ok (.iaload, 1) := by decide +kernel
theorem dX12_isOpen_7 : decode cX12_isOpen 7 = .ok (.if_icmp .lt 17, 3) := by decide +kernel
theorem dX12_isOpen_10 : decode cX12_isOpen 10 = .ok (.iload_n 2, 1) := by decide +kernel
theorem dX12_isOpen_11 : decode cX12_isOpen 11 = .ok (.aload_n 0, 1) := by decide +kernel
theorem dX12_isOpen_12 : decode cX12_isOpen 12 = .ok (.getfield 55, 3) := by decide +kernel
theorem dX12_isOpen_15 : decode cX12_isOpen 15 = .ok (.iload_n 1, 1) := by decide +kernel
theorem dX12_isOpen_16 : decode cX12_isOpen 16 = .ok (.iaload, 1) := by decide +kernel
theorem dX12_isOpen_17 : decode cX12_isOpen 17 = .ok (.if_icmp .ge 7, 3) := by decide +kernel
theorem dX12_isOpen_20 : decode cX12_isOpen 20 = .ok (.iconst 1, 1) := by decide +kernel
theorem dX12_isOpen_21 : decode cX12_isOpen 21 = .ok (.goto 4, 3) := by decide +kernel
theorem dX12_isOpen_24 : decode cX12_isOpen 24 = .ok (.iconst 0, 1) := by decide +kernel
theorem dX12_isOpen_25 : decode cX12_isOpen 25 = .ok (.ireturn, 1) := by decide +kernel
theorem dX12_livesIn_0 : decode cX12_livesIn 0 = .ok (.aload_n 0, 1) := by decide +kernel
theorem dX12_livesIn_1 : decode cX12_livesIn 1 = .ok (.iload_n 2, 1) := by decide +kernel
theorem dX12_livesIn_2 : decode cX12_livesIn 2 = .ok (.iconst 4, 1) := by decide +kernel
theorem dX12_livesIn_3 : decode cX12_livesIn 3 = .ok (.invokevirtual 194, 3) := by decide +kernel
theorem dX12_livesIn_6 : decode cX12_livesIn 6 = .ok (.istore 4, 2) := by decide +kernel
theorem dX12_livesIn_8 : decode cX12_livesIn 8 = .ok (.aload_n 0, 1) := by decide +kernel
theorem dX12_livesIn_9 : decode cX12_livesIn 9 = .ok (.aload_n 0, 1) := by decide +kernel
theorem dX12_livesIn_10 : decode cX12_livesIn 10 = .ok (.getfield 49, 3) := by decide +kernel
theorem dX12_livesIn_13 : decode cX12_livesIn 13 = .ok (.iload_n 1, 1) := by decide +kernel
theorem dX12_livesIn_14 : decode cX12_livesIn 14 = .ok (.iaload, 1) := by decide +kernel
theorem dX12_livesIn_15 : decode cX12_livesIn 15 = .ok (.iload_n 3, 1) := by decide +kernel
theorem dX12_livesIn_16 : decode cX12_livesIn 16 = .ok (.invokevirtual 180, 3) := by decide +kernel
theorem dX12_livesIn_19 : decode cX12_livesIn 19 = .ok (.istore 5, 2) := by decide +kernel
theorem dX12_livesIn_21 : decode cX12_livesIn 21 = .ok (.aload_n 0, 1) := by decide +kernel
theorem dX12_livesIn_22 : decode cX12_livesIn 22 = .ok (.iload_n 1, 1) := by decide +kernel
theorem dX12_livesIn_23 : decode cX12_livesIn 23 = .ok (.iload_n 2, 1) := by decide +kernel
theorem dX12_livesIn_24 : decode cX12_livesIn 24 = .ok (.invokevirtual 286, 3) := by decide +kernel
theorem dX12_livesIn_27 : decode cX12_livesIn 27 = .ok (.ifCond .eq 43, 3) := by decide +kernel
theorem dX12_livesIn_30 : decode cX12_livesIn 30 = .ok (.iload 4, 2) := by decide +kernel
theorem dX12_livesIn_32 : decode cX12_livesIn 32 = .ok (.iconst (-1), 1) := by decide +kernel
theorem dX12_livesIn_33 : decode cX12_livesIn 33 = .ok (.if_icmp .eq 14, 3) := by decide +kernel
theorem dX12_livesIn_36 : decode cX12_livesIn 36 = .ok (.aload_n 0, 1) := by decide +kernel
theorem dX12_livesIn_37 : decode cX12_livesIn 37 = .ok (.getfield 43, 3) := by decide +kernel
theorem dX12_livesIn_40 : decode cX12_livesIn 40 = .ok (.iload_n 1, 1) := by decide +kernel
theorem dX12_livesIn_41 : decode cX12_livesIn 41 = .ok (.iaload, 1) := by decide +kernel
theorem dX12_livesIn_42 : decode cX12_livesIn 42 = .ok (.iload 4, 2) := by decide +kernel
theorem dX12_livesIn_44 : decode cX12_livesIn 44 = .ok (.if_icmp .gt 26, 3) := by decide +kernel
theorem dX12_livesIn_47 : decode cX12_livesIn 47 = .ok (.iload 5, 2) := by decide +kernel
theorem dX12_livesIn_49 : decode cX12_livesIn 49 = .ok (.iconst (-1), 1) := by decide +kernel
theorem dX12_livesIn_50 : decode cX12_livesIn 50 = .ok (.if_icmp .eq 16, 3) := by decide +kernel
theorem dX12_livesIn_53 : decode cX12_livesIn 53 = .ok (.iload_n 2, 1) := by decide +kernel
theorem dX12_livesIn_54 : decode cX12_livesIn 54 = .ok (.iload 5, 2) := by decide +kernel
theorem dX12_livesIn_56 : decode cX12_livesIn 56 = .ok (.aload_n 0, 1) := by decide +kernel
theorem dX12_livesIn_57 : decode cX12_livesIn 57 = .ok (.iload_n 2, 1) := by decide +kernel
theorem dX12_livesIn_58 : decode cX12_livesIn 58 = .ok (.iconst 1, 1) := by decide +kernel
theorem dX12_livesIn_59 : decode cX12_livesIn 59 = .ok (.invokevirtual 194, 3) := by decide +kernel
theorem dX12_livesIn_62 : decode cX12_livesIn 62 = .ok (.iadd, 1) := by decide +kernel
theorem dX12_livesIn_63 : decode cX12_livesIn 63 = .ok (.if_icmp .gt 7, 3) := by decide +kernel
theorem dX12_livesIn_66 : decode cX12_livesIn 66 = .ok (.iconst 1, 1) := by decide +kernel
theorem dX12_livesIn_67 : decode cX12_livesIn 67 = .ok (.goto 4, 3) := by decide +kernel
theorem dX12_livesIn_70 : decode cX12_livesIn 70 = .ok (.iconst 0, 1) := by decide +kernel
theorem dX12_livesIn_71 : decode cX12_livesIn 71 = .ok (.ireturn, 1) := by decide +kernel
theorem dX12_isDown_0 : decode cX12_isDown 0 = .ok (.iconst 0, 1) := by decide +kernel
theorem dX12_isDown_1 : decode cX12_isDown 1 = .ok (.istore_n 3, 1) := by decide +kernel
theorem dX12_isDown_2 : decode cX12_isDown 2 = .ok (.iconst 0, 1) := by decide +kernel
theorem dX12_isDown_3 : decode cX12_isDown 3 = .ok (.istore 4, 2) := by decide +kernel
theorem dX12_isDown_5 : decode cX12_isDown 5 = .ok (.iload 4, 2) := by decide +kernel
theorem dX12_isDown_7 : decode cX12_isDown 7 = .ok (.aload_n 0, 1) := by decide +kernel
theorem dX12_isDown_8 : decode cX12_isDown 8 = .ok (.getfield 205, 3) := by decide +kernel
theorem dX12_isDown_11 : decode cX12_isDown 11 = .ok (.if_icmp .ge 54, 3) := by decide +kernel
theorem dX12_isDown_14 : decode cX12_isDown 14 = .ok (.iload_n 3, 1) := by decide +kernel
theorem dX12_isDown_15 : decode cX12_isDown 15 = .ok (.ifCond .ne 38, 3) := by decide +kernel
theorem dX12_isDown_18 : decode cX12_isDown 18 = .ok (.aload_n 0, 1) := by decide +kernel
theorem dX12_isDown_19 : decode cX12_isDown 19 = .ok (.getfield 70, 3) := by decide +kernel
theorem dX12_isDown_22 : decode cX12_isDown 22 = .ok (.iload 4, 2) := by decide +kernel
theorem dX12_isDown_24 : decode cX12_isDown 24 = .ok (.iaload, 1) := by decide +kernel
theorem dX12_isDown_25 : decode cX12_isDown 25 = .ok (.iload_n 1, 1) := by decide +kernel
theorem dX12_isDown_26 : decode cX12_isDown 26 = .ok (.if_icmp .ne 31, 3) := by decide +kernel
theorem dX12_isDown_29 : decode cX12_isDown 29 = .ok (.iload_n 2, 1) := by decide +kernel
theorem dX12_isDown_30 : decode cX12_isDown 30 = .ok (.i2l, 1) := by decide +kernel
theorem dX12_isDown_31 : decode cX12_isDown 31 = .ok (.aload_n 0, 1) := by decide +kernel
theorem dX12_isDown_32 : decode cX12_isDown 32 = .ok (.getfield 73, 3) := by decide +kernel
theorem dX12_isDown_35 : decode cX12_isDown 35 = .ok (.iload 4, 2) := by decide +kernel
theorem dX12_isDown_37 : decode cX12_isDown 37 = .ok (.iaload, 1) := by decide +kernel
theorem dX12_isDown_38 : decode cX12_isDown 38 = .ok (.i2l, 1) := by decide +kernel
theorem dX12_isDown_39 : decode cX12_isDown 39 = .ok (.aload_n 0, 1) := by decide +kernel
theorem dX12_isDown_40 : decode cX12_isDown 40 = .ok (.getfield 76, 3) := by decide +kernel
theorem dX12_isDown_43 : decode cX12_isDown 43 = .ok (.iload 4, 2) := by decide +kernel
theorem dX12_isDown_45 : decode cX12_isDown 45 = .ok (.iaload, 1) := by decide +kernel
theorem dX12_isDown_46 : decode cX12_isDown 46 = .ok (.i2l, 1) := by decide +kernel
theorem dX12_isDown_47 : decode cX12_isDown 47 = .ok (.invokestatic 139, 3) := by decide +kernel
theorem dX12_isDown_50 : decode cX12_isDown 50 = .ok (.ifCond .eq 7, 3) := by decide +kernel
theorem dX12_isDown_53 : decode cX12_isDown 53 = .ok (.iconst 1, 1) := by decide +kernel
theorem dX12_isDown_54 : decode cX12_isDown 54 = .ok (.goto 4, 3) := by decide +kernel
theorem dX12_isDown_57 : decode cX12_isDown 57 = .ok (.iconst 0, 1) := by decide +kernel
theorem dX12_isDown_58 : decode cX12_isDown 58 = .ok (.istore_n 3, 1) := by decide +kernel
theorem dX12_isDown_59 : decode cX12_isDown 59 = .ok (.iinc 4 1, 3) := by decide +kernel
theorem dX12_isDown_62 : decode cX12_isDown 62 = .ok (.goto (-57), 3) := by decide +kernel
theorem dX12_isDown_65 : decode cX12_isDown 65 = .ok (.iload_n 3, 1) := by decide +kernel
theorem dX12_isDown_66 : decode cX12_isDown 66 = .ok (.ireturn, 1) := by decide +kernel
theorem dX12_yieldOf_0 : decode cX12_yieldOf 0 = .ok (.aload_n 0, 1) := by decide +kernel
theorem dX12_yieldOf_1 : decode cX12_yieldOf 1 = .ok (.getfield 7, 3) := by decide +kernel
theorem dX12_yieldOf_4 : decode cX12_yieldOf 4 = .ok (.iload_n 1, 1) := by decide +kernel
theorem dX12_yieldOf_5 : decode cX12_yieldOf 5 = .ok (.iaload, 1) := by decide +kernel
theorem dX12_yieldOf_6 : decode cX12_yieldOf 6 = .ok (.istore_n 3, 1) := by decide +kernel
theorem dX12_yieldOf_7 : decode cX12_yieldOf 7 = .ok (.iconst 0, 1) := by decide +kernel
theorem dX12_yieldOf_8 : decode cX12_yieldOf 8 = .ok (.istore 4, 2) := by decide +kernel
theorem dX12_yieldOf_10 : decode cX12_yieldOf 10 = .ok (.iload 4, 2) := by decide +kernel
theorem dX12_yieldOf_12 : decode cX12_yieldOf 12 = .ok (.aload_n 0, 1) := by decide +kernel
theorem dX12_yieldOf_13 : decode cX12_yieldOf 13 = .ok (.getfield 165, 3) := by decide +kernel
theorem dX12_yieldOf_16 : decode cX12_yieldOf 16 = .ok (.if_icmp .ge 43, 3) := by decide +kernel
theorem dX12_yieldOf_19 : decode cX12_yieldOf 19 = .ok (.aload_n 0, 1) := by decide +kernel
theorem dX12_yieldOf_20 : decode cX12_yieldOf 20 = .ok (.getfield 13, 3) := by decide +kernel
theorem dX12_yieldOf_23 : decode cX12_yieldOf 23 = .ok (.iload 4, 2) := by decide +kernel
theorem dX12_yieldOf_25 : decode cX12_yieldOf 25 = .ok (.iaload, 1) := by decide +kernel
theorem dX12_yieldOf_26 : decode cX12_yieldOf 26 = .ok (.iload_n 1, 1) := by decide +kernel
theorem dX12_yieldOf_27 : decode cX12_yieldOf 27 = .ok (.if_icmp .ne 24, 3) := by decide +kernel
theorem dX12_yieldOf_30 : decode cX12_yieldOf 30 = .ok (.aload_n 0, 1) := by decide +kernel
theorem dX12_yieldOf_31 : decode cX12_yieldOf 31 = .ok (.getfield 16, 3) := by decide +kernel
theorem dX12_yieldOf_34 : decode cX12_yieldOf 34 = .ok (.iload 4, 2) := by decide +kernel
theorem dX12_yieldOf_36 : decode cX12_yieldOf 36 = .ok (.iaload, 1) := by decide +kernel
theorem dX12_yieldOf_37 : decode cX12_yieldOf 37 = .ok (.iload_n 2, 1) := by decide +kernel
theorem dX12_yieldOf_38 : decode cX12_yieldOf 38 = .ok (.if_icmp .ne 13, 3) := by decide +kernel
theorem dX12_yieldOf_41 : decode cX12_yieldOf 41 = .ok (.aload_n 0, 1) := by decide +kernel
theorem dX12_yieldOf_42 : decode cX12_yieldOf 42 = .ok (.getfield 19, 3) := by decide +kernel
theorem dX12_yieldOf_45 : decode cX12_yieldOf 45 = .ok (.iload 4, 2) := by decide +kernel
theorem dX12_yieldOf_47 : decode cX12_yieldOf 47 = .ok (.iaload, 1) := by decide +kernel
theorem dX12_yieldOf_48 : decode cX12_yieldOf 48 = .ok (.goto 4, 3) := by decide +kernel
theorem dX12_yieldOf_51 : decode cX12_yieldOf 51 = .ok (.iload_n 3, 1) := by decide +kernel
theorem dX12_yieldOf_52 : decode cX12_yieldOf 52 = .ok (.istore_n 3, 1) := by decide +kernel
theorem dX12_yieldOf_53 : decode cX12_yieldOf 53 = .ok (.iinc 4 1, 3) := by decide +kernel
theorem dX12_yieldOf_56 : decode cX12_yieldOf 56 = .ok (.goto (-46), 3) := by decide +kernel
theorem dX12_yieldOf_59 : decode cX12_yieldOf 59 = .ok (.iload_n 3, 1) := by decide +kernel
theorem dX12_yieldOf_60 : decode cX12_yieldOf 60 = .ok (.ireturn, 1) := by decide +kernel
theorem dX12_deal_0 : decode cX12_deal 0 = .ok (.lconst 0, 1) := by decide +kernel
theorem dX12_deal_1 : decode cX12_deal 1 = .ok (.lstore_n 2, 1) := by decide +kernel
theorem dX12_deal_2 : decode cX12_deal 2 = .ok (.iconst 0, 1) := by decide +kernel
theorem dX12_deal_3 : decode cX12_deal 3 = .ok (.istore 4, 2) := by decide +kernel
theorem dX12_deal_5 : decode cX12_deal 5 = .ok (.iload 4, 2) := by decide +kernel
theorem dX12_deal_7 : decode cX12_deal 7 = .ok (.aload_n 0, 1) := by decide +kernel
theorem dX12_deal_8 : decode cX12_deal 8 = .ok (.getfield 289, 3) := by decide +kernel
theorem dX12_deal_11 : decode cX12_deal 11 = .ok (.if_icmp .ge 20, 3) := by decide +kernel
theorem dX12_deal_14 : decode cX12_deal 14 = .ok (.lload_n 2, 1) := by decide +kernel
theorem dX12_deal_15 : decode cX12_deal 15 = .ok (.aload_n 0, 1) := by decide +kernel
theorem dX12_deal_16 : decode cX12_deal 16 = .ok (.getfield 125, 3) := by decide +kernel
theorem dX12_deal_19 : decode cX12_deal 19 = .ok (.iload 4, 2) := by decide +kernel
theorem dX12_deal_21 : decode cX12_deal 21 = .ok (.iaload, 1) := by decide +kernel
theorem dX12_deal_22 : decode cX12_deal 22 = .ok (.i2l, 1) := by decide +kernel
theorem dX12_deal_23 : decode cX12_deal 23 = .ok (.ladd, 1) := by decide +kernel
theorem dX12_deal_24 : decode cX12_deal 24 = .ok (.lstore_n 2, 1) := by decide +kernel
theorem dX12_deal_25 : decode cX12_deal 25 = .ok (.iinc 4 1, 3) := by decide +kernel
theorem dX12_deal_28 : decode cX12_deal 28 = .ok (.goto (-23), 3) := by decide +kernel
theorem dX12_deal_31 : decode cX12_deal 31 = .ok (.iconst 0, 1) := by decide +kernel
theorem dX12_deal_32 : decode cX12_deal 32 = .ok (.istore 4, 2) := by decide +kernel
theorem dX12_deal_34 : decode cX12_deal 34 = .ok (.iconst 0, 1) := by decide +kernel
theorem dX12_deal_35 : decode cX12_deal 35 = .ok (.istore 5, 2) := by decide +kernel
theorem dX12_deal_37 : decode cX12_deal 37 = .ok (.iload 5, 2) := by decide +kernel
theorem dX12_deal_39 : decode cX12_deal 39 = .ok (.aload_n 0, 1) := by decide +kernel
theorem dX12_deal_40 : decode cX12_deal 40 = .ok (.getfield 289, 3) := by decide +kernel
theorem dX12_deal_43 : decode cX12_deal 43 = .ok (.if_icmp .ge 59, 3) := by decide +kernel
theorem dX12_deal_46 : decode cX12_deal 46 = .ok (.aload_n 0, 1) := by decide +kernel
theorem dX12_deal_47 : decode cX12_deal 47 = .ok (.getfield 128, 3) := by decide +kernel
theorem dX12_deal_50 : decode cX12_deal 50 = .ok (.iload 5, 2) := by decide +kernel
theorem dX12_deal_52 : decode cX12_deal 52 = .ok (.lload_n 2, 1) := by decide +kernel
theorem dX12_deal_53 : decode cX12_deal 53 = .ok (.iload_n 1, 1) := by decide +kernel
theorem dX12_deal_54 : decode cX12_deal 54 = .ok (.i2l, 1) := by decide +kernel
theorem dX12_deal_55 : decode cX12_deal 55 = .ok (.lcmp, 1) := by decide +kernel
theorem dX12_deal_56 : decode cX12_deal 56 = .ok (.ifCond .gt 13, 3) := by decide +kernel
theorem dX12_deal_59 : decode cX12_deal 59 = .ok (.aload_n 0, 1) := by decide +kernel
theorem dX12_deal_60 : decode cX12_deal 60 = .ok (.getfield 125, 3) := by decide +kernel
theorem dX12_deal_63 : decode cX12_deal 63 = .ok (.iload 5, 2) := by decide +kernel
theorem dX12_deal_65 : decode cX12_deal 65 = .ok (.iaload, 1) := by decide +kernel
theorem dX12_deal_66 : decode cX12_deal 66 = .ok (.goto 17, 3) := by decide +kernel
theorem dX12_deal_69 : decode cX12_deal 69 = .ok (.iload_n 1, 1) := by decide +kernel
theorem dX12_deal_70 : decode cX12_deal 70 = .ok (.i2l, 1) := by decide +kernel
theorem dX12_deal_71 : decode cX12_deal 71 = .ok (.aload_n 0, 1) := by decide +kernel
theorem dX12_deal_72 : decode cX12_deal 72 = .ok (.getfield 125, 3) := by decide +kernel
theorem dX12_deal_75 : decode cX12_deal 75 = .ok (.iload 5, 2) := by decide +kernel
theorem dX12_deal_77 : decode cX12_deal 77 = .ok (.iaload, 1) := by decide +kernel
theorem dX12_deal_78 : decode cX12_deal 78 = .ok (.i2l, 1) := by decide +kernel
theorem dX12_deal_79 : decode cX12_deal 79 = .ok (.lmul, 1) := by decide +kernel
theorem dX12_deal_80 : decode cX12_deal 80 = .ok (.lload_n 2, 1) := by decide +kernel
theorem dX12_deal_81 : decode cX12_deal 81 = .ok (.ldiv, 1) := by decide +kernel
theorem dX12_deal_82 : decode cX12_deal 82 = .ok (.l2i, 1) := by decide +kernel
theorem dX12_deal_83 : decode cX12_deal 83 = .ok (.iastore, 1) := by decide +kernel
theorem dX12_deal_84 : decode cX12_deal 84 = .ok (.iload 4, 2) := by decide +kernel
theorem dX12_deal_86 : decode cX12_deal 86 = .ok (.aload_n 0, 1) := by decide +kernel
theorem dX12_deal_87 : decode cX12_deal 87 = .ok (.getfield 128, 3) := by decide +kernel
theorem dX12_deal_90 : decode cX12_deal 90 = .ok (.iload 5, 2) := by decide +kernel
theorem dX12_deal_92 : decode cX12_deal 92 = .ok (.iaload, 1) := by decide +kernel
theorem dX12_deal_93 : decode cX12_deal 93 = .ok (.iadd, 1) := by decide +kernel
theorem dX12_deal_94 : decode cX12_deal 94 = .ok (.istore 4, 2) := by decide +kernel
theorem dX12_deal_96 : decode cX12_deal 96 = .ok (.iinc 5 1, 3) := by decide +kernel
theorem dX12_deal_99 : decode cX12_deal 99 = .ok (.goto (-62), 3) := by decide +kernel
theorem dX12_deal_102 : decode cX12_deal 102 = .ok (.iconst 0, 1) := by decide +kernel
theorem dX12_deal_103 : decode cX12_deal 103 = .ok (.istore 5, 2) := by decide +kernel
theorem dX12_deal_105 : decode cX12_deal 105 = .ok (.iload 5, 2) := by decide +kernel
theorem dX12_deal_107 : decode cX12_deal 107 = .ok (.aload_n 0, 1) := by decide +kernel
theorem dX12_deal_108 : decode cX12_deal 108 = .ok (.getfield 289, 3) := by decide +kernel
theorem dX12_deal_111 : decode cX12_deal 111 = .ok (.if_icmp .ge 36, 3) := by decide +kernel
theorem dX12_deal_114 : decode cX12_deal 114 = .ok (.lload_n 2, 1) := by decide +kernel
theorem dX12_deal_115 : decode cX12_deal 115 = .ok (.iload_n 1, 1) := by decide +kernel
theorem dX12_deal_116 : decode cX12_deal 116 = .ok (.i2l, 1) := by decide +kernel
theorem dX12_deal_117 : decode cX12_deal 117 = .ok (.lcmp, 1) := by decide +kernel
theorem dX12_deal_118 : decode cX12_deal 118 = .ok (.ifCond .le 29, 3) := by decide +kernel
theorem dX12_deal_121 : decode cX12_deal 121 = .ok (.iload 4, 2) := by decide +kernel
theorem dX12_deal_123 : decode cX12_deal 123 = .ok (.iload_n 1, 1) := by decide +kernel
theorem dX12_deal_124 : decode cX12_deal 124 = .ok (.if_icmp .ge 23, 3) := by decide +kernel
theorem dX12_deal_127 : decode cX12_deal 127 = .ok (.aload_n 0, 1) := by decide +kernel
theorem dX12_deal_128 : decode cX12_deal 128 = .ok (.getfield 128, 3) := by decide +kernel
theorem dX12_deal_131 : decode cX12_deal 131 = .ok (.iload 5, 2) := by decide +kernel
theorem dX12_deal_133 : decode cX12_deal 133 = .ok (.dup2, 1) := by decide +kernel
theorem dX12_deal_134 : decode cX12_deal 134 = .ok (.iaload, 1) := by decide +kernel
theorem dX12_deal_135 : decode cX12_deal 135 = .ok (.iconst 1, 1) := by decide +kernel
theorem dX12_deal_136 : decode cX12_deal 136 = .ok (.iadd, 1) := by decide +kernel
theorem dX12_deal_137 : decode cX12_deal 137 = .ok (.iastore, 1) := by decide +kernel
theorem dX12_deal_138 : decode cX12_deal 138 = .ok (.iinc 4 1, 3) := by decide +kernel
theorem dX12_deal_141 : decode cX12_deal 141 = .ok (.iinc 5 1, 3) := by decide +kernel
theorem dX12_deal_144 : decode cX12_deal 144 = .ok (.goto (-39), 3) := by decide +kernel
theorem dX12_deal_147 : decode cX12_deal 147 = .ok (.iload 4, 2) := by decide +kernel
theorem dX12_deal_149 : decode cX12_deal 149 = .ok (.ireturn, 1) := by decide +kernel
theorem dX12_flow_0 : decode cX12_flow 0 = .ok (.iconst 0, 1) := by decide +kernel
theorem dX12_flow_1 : decode cX12_flow 1 = .ok (.istore_n 3, 1) := by decide +kernel
theorem dX12_flow_2 : decode cX12_flow 2 = .ok (.iload_n 3, 1) := by decide +kernel
theorem dX12_flow_3 : decode cX12_flow 3 = .ok (.aload_n 0, 1) := by decide +kernel
theorem dX12_flow_4 : decode cX12_flow 4 = .ok (.getfield 143, 3) := by decide +kernel
theorem dX12_flow_7 : decode cX12_flow 7 = .ok (.if_icmp .ge 16, 3) := by decide +kernel
theorem dX12_flow_10 : decode cX12_flow 10 = .ok (.aload_n 0, 1) := by decide +kernel
theorem dX12_flow_11 : decode cX12_flow 11 = .ok (.getfield 104, 3) := by decide +kernel
theorem dX12_flow_14 : decode cX12_flow 14 = .ok (.iload_n 3, 1) := by decide +kernel
theorem dX12_flow_15 : decode cX12_flow 15 = .ok (.iconst 0, 1) := by decide +kernel
theorem dX12_flow_16 : decode cX12_flow 16 = .ok (.iastore, 1) := by decide +kernel
theorem dX12_flow_17 : decode cX12_flow 17 = .ok (.iinc 3 1, 3) := by decide +kernel
theorem dX12_flow_20 : decode cX12_flow 20 = .ok (.goto (-18), 3) := by decide +kernel
theorem dX12_flow_23 : decode cX12_flow 23 = .ok (.iconst 0, 1) := by decide +kernel
theorem dX12_flow_24 : decode cX12_flow 24 = .ok (.istore_n 3, 1) := by decide +kernel
theorem dX12_flow_25 : decode cX12_flow 25 = .ok (.iload_n 3, 1) := by decide +kernel
theorem dX12_flow_26 : decode cX12_flow 26 = .ok (.aload_n 0, 1) := by decide +kernel
theorem dX12_flow_27 : decode cX12_flow 27 = .ok (.getfield 158, 3) := by decide +kernel
theorem dX12_flow_30 : decode cX12_flow 30 = .ok (.if_icmp .ge 99, 3) := by decide +kernel
theorem dX12_flow_33 : decode cX12_flow 33 = .ok (.aload_n 0, 1) := by decide +kernel
theorem dX12_flow_34 : decode cX12_flow 34 = .ok (.iload_n 3, 1) := by decide +kernel
theorem dX12_flow_35 : decode cX12_flow 35 = .ok (.iload_n 1, 1) := by decide +kernel
theorem dX12_flow_36 : decode cX12_flow 36 = .ok (.invokevirtual 292, 3) := by decide +kernel
theorem dX12_flow_39 : decode cX12_flow 39 = .ok (.istore 4, 2) := by decide +kernel
theorem dX12_flow_41 : decode cX12_flow 41 = .ok (.iconst 0, 1) := by decide +kernel
theorem dX12_flow_42 : decode cX12_flow 42 = .ok (.istore 5, 2) := by decide +kernel
theorem dX12_flow_44 : decode cX12_flow 44 = .ok (.iload 5, 2) := by decide +kernel
theorem dX12_flow_46 : decode cX12_flow 46 = .ok (.aload_n 0, 1) := by decide +kernel
theorem dX12_flow_47 : decode cX12_flow 47 = .ok (.getfield 143, 3) := by decide +kernel
theorem dX12_flow_50 : decode cX12_flow 50 = .ok (.if_icmp .ge 73, 3) := by decide +kernel
theorem dX12_flow_53 : decode cX12_flow 53 = .ok (.aload_n 0, 1) := by decide +kernel
theorem dX12_flow_54 : decode cX12_flow 54 = .ok (.getfield 22, 3) := by decide +kernel
theorem dX12_flow_57 : decode cX12_flow 57 = .ok (.iload 5, 2) := by decide +kernel
theorem dX12_flow_59 : decode cX12_flow 59 = .ok (.iaload, 1) := by decide +kernel
theorem dX12_flow_60 : decode cX12_flow 60 = .ok (.iload_n 3, 1) := by decide +kernel
theorem dX12_flow_61 : decode cX12_flow 61 = .ok (.if_icmp .ne 56, 3) := by decide +kernel
theorem dX12_flow_64 : decode cX12_flow 64 = .ok (.aload_n 0, 1) := by decide +kernel
theorem dX12_flow_65 : decode cX12_flow 65 = .ok (.iload 5, 2) := by decide +kernel
theorem dX12_flow_67 : decode cX12_flow 67 = .ok (.iload_n 1, 1) := by decide +kernel
theorem dX12_flow_68 : decode cX12_flow 68 = .ok (.invokevirtual 295, 3) := by decide +kernel
theorem dX12_flow_71 : decode cX12_flow 71 = .ok (.ifCond .ne 46, 3) := by decide +kernel
theorem dX12_flow_74 : decode cX12_flow 74 = .ok (.aload_n 0, 1) := by decide +kernel
theorem dX12_flow_75 : decode cX12_flow 75 = .ok (.getfield 104, 3) := by decide +kernel
theorem dX12_flow_78 : decode cX12_flow 78 = .ok (.iload 5, 2) := by decide +kernel
theorem dX12_flow_80 : decode cX12_flow 80 = .ok (.aload_n 0, 1) := by decide +kernel
theorem dX12_flow_81 : decode cX12_flow 81 = .ok (.getfield 25, 3) := by decide +kernel
theorem dX12_flow_84 : decode cX12_flow 84 = .ok (.iload 5, 2) := by decide +kernel
theorem dX12_flow_86 : decode cX12_flow 86 = .ok (.iaload, 1) := by decide +kernel
theorem dX12_flow_87 : decode cX12_flow 87 = .ok (.iload 4, 2) := by decide +kernel
theorem dX12_flow_89 : decode cX12_flow 89 = .ok (.if_icmp .ge 13, 3) := by decide +kernel
theorem dX12_flow_92 : decode cX12_flow 92 = .ok (.aload_n 0, 1) := by decide +kernel
theorem dX12_flow_93 : decode cX12_flow 93 = .ok (.getfield 25, 3) := by decide +kernel
theorem dX12_flow_96 : decode cX12_flow 96 = .ok (.iload 5, 2) := by decide +kernel
theorem dX12_flow_98 : decode cX12_flow 98 = .ok (.iaload, 1) := by decide +kernel
theorem dX12_flow_99 : decode cX12_flow 99 = .ok (.goto 5, 3) := by decide +kernel
theorem dX12_flow_102 : decode cX12_flow 102 = .ok (.iload 4, 2) := by decide +kernel
theorem dX12_flow_104 : decode cX12_flow 104 = .ok (.iastore, 1) := by decide +kernel
theorem dX12_flow_105 : decode cX12_flow 105 = .ok (.iload 4, 2) := by decide +kernel
theorem dX12_flow_107 : decode cX12_flow 107 = .ok (.aload_n 0, 1) := by decide +kernel
theorem dX12_flow_108 : decode cX12_flow 108 = .ok (.getfield 104, 3) := by decide +kernel
theorem dX12_flow_111 : decode cX12_flow 111 = .ok (.iload 5, 2) := by decide +kernel
theorem dX12_flow_113 : decode cX12_flow 113 = .ok (.iaload, 1) := by decide +kernel
theorem dX12_flow_114 : decode cX12_flow 114 = .ok (.isub, 1) := by decide +kernel
theorem dX12_flow_115 : decode cX12_flow 115 = .ok (.istore 4, 2) := by decide +kernel
theorem dX12_flow_117 : decode cX12_flow 117 = .ok (.iinc 5 1, 3) := by decide +kernel
theorem dX12_flow_120 : decode cX12_flow 120 = .ok (.goto (-76), 3) := by decide +kernel
theorem dX12_flow_123 : decode cX12_flow 123 = .ok (.iinc 3 1, 3) := by decide +kernel
theorem dX12_flow_126 : decode cX12_flow 126 = .ok (.goto (-101), 3) := by decide +kernel
theorem dX12_flow_129 : decode cX12_flow 129 = .ok (.iconst 0, 1) := by decide +kernel
theorem dX12_flow_130 : decode cX12_flow 130 = .ok (.istore_n 3, 1) := by decide +kernel
theorem dX12_flow_131 : decode cX12_flow 131 = .ok (.iload_n 3, 1) := by decide +kernel
theorem dX12_flow_132 : decode cX12_flow 132 = .ok (.aload_n 0, 1) := by decide +kernel
theorem dX12_flow_133 : decode cX12_flow 133 = .ok (.getfield 149, 3) := by decide +kernel
theorem dX12_flow_136 : decode cX12_flow 136 = .ok (.if_icmp .ge 16, 3) := by decide +kernel
theorem dX12_flow_139 : decode cX12_flow 139 = .ok (.aload_n 0, 1) := by decide +kernel
theorem dX12_flow_140 : decode cX12_flow 140 = .ok (.getfield 119, 3) := by decide +kernel
theorem dX12_flow_143 : decode cX12_flow 143 = .ok (.iload_n 3, 1) := by decide +kernel
theorem dX12_flow_144 : decode cX12_flow 144 = .ok (.iconst 0, 1) := by decide +kernel
theorem dX12_flow_145 : decode cX12_flow 145 = .ok (.iastore, 1) := by decide +kernel
theorem dX12_flow_146 : decode cX12_flow 146 = .ok (.iinc 3 1, 3) := by decide +kernel
theorem dX12_flow_149 : decode cX12_flow 149 = .ok (.goto (-18), 3) := by decide +kernel
theorem dX12_flow_152 : decode cX12_flow 152 = .ok (.iconst 0, 1) := by decide +kernel
theorem dX12_flow_153 : decode cX12_flow 153 = .ok (.istore_n 3, 1) := by decide +kernel
theorem dX12_flow_154 : decode cX12_flow 154 = .ok (.iload_n 3, 1) := by decide +kernel
theorem dX12_flow_155 : decode cX12_flow 155 = .ok (.aload_n 0, 1) := by decide +kernel
theorem dX12_flow_156 : decode cX12_flow 156 = .ok (.getfield 143, 3) := by decide +kernel
theorem dX12_flow_159 : decode cX12_flow 159 = .ok (.if_icmp .ge 16, 3) := by decide +kernel
theorem dX12_flow_162 : decode cX12_flow 162 = .ok (.aload_n 0, 1) := by decide +kernel
theorem dX12_flow_163 : decode cX12_flow 163 = .ok (.iload_n 3, 1) := by decide +kernel
theorem dX12_flow_164 : decode cX12_flow 164 = .ok (.iload_n 1, 1) := by decide +kernel
theorem dX12_flow_165 : decode cX12_flow 165 = .ok (.iload_n 2, 1) := by decide +kernel
theorem dX12_flow_166 : decode cX12_flow 166 = .ok (.invokevirtual 298, 3) := by decide +kernel
theorem dX12_flow_169 : decode cX12_flow 169 = .ok (.iinc 3 1, 3) := by decide +kernel
theorem dX12_flow_172 : decode cX12_flow 172 = .ok (.goto (-18), 3) := by decide +kernel
theorem dX12_flow_175 : decode cX12_flow 175 = .ok (.return_, 1) := by decide +kernel
theorem dX12_flowAt_0 : decode cX12_flowAt 0 = .ok (.aload_n 0, 1) := by decide +kernel
theorem dX12_flowAt_1 : decode cX12_flowAt 1 = .ok (.getfield 104, 3) := by decide +kernel
theorem dX12_flowAt_4 : decode cX12_flowAt 4 = .ok (.iload_n 1, 1) := by decide +kernel
theorem dX12_flowAt_5 : decode cX12_flowAt 5 = .ok (.iaload, 1) := by decide +kernel
theorem dX12_flowAt_6 : decode cX12_flowAt 6 = .ok (.istore 4, 2) := by decide +kernel
theorem dX12_flowAt_8 : decode cX12_flowAt 8 = .ok (.aload_n 0, 1) := by decide +kernel
theorem dX12_flowAt_9 : decode cX12_flowAt 9 = .ok (.getfield 107, 3) := by decide +kernel
theorem dX12_flowAt_12 : decode cX12_flowAt 12 = .ok (.iload_n 1, 1) := by decide +kernel
theorem dX12_flowAt_13 : decode cX12_flowAt 13 = .ok (.iconst 0, 1) := by decide +kernel
theorem dX12_flowAt_14 : decode cX12_flowAt 14 = .ok (.iastore, 1) := by decide +kernel
theorem dX12_flowAt_15 : decode cX12_flowAt 15 = .ok (.iconst 0, 1) := by decide +kernel
theorem dX12_flowAt_16 : decode cX12_flowAt 16 = .ok (.istore 5, 2) := by decide +kernel
theorem dX12_flowAt_18 : decode cX12_flowAt 18 = .ok (.iload 5, 2) := by decide +kernel
theorem dX12_flowAt_20 : decode cX12_flowAt 20 = .ok (.aload_n 0, 1) := by decide +kernel
theorem dX12_flowAt_21 : decode cX12_flowAt 21 = .ok (.getfield 202, 3) := by decide +kernel
theorem dX12_flowAt_24 : decode cX12_flowAt 24 = .ok (.if_icmp .ge 88, 3) := by decide +kernel
theorem dX12_flowAt_27 : decode cX12_flowAt 27 = .ok (.aload_n 0, 1) := by decide +kernel
theorem dX12_flowAt_28 : decode cX12_flowAt 28 = .ok (.getfield 58, 3) := by decide +kernel
theorem dX12_flowAt_31 : decode cX12_flowAt 31 = .ok (.iload 5, 2) := by decide +kernel
theorem dX12_flowAt_33 : decode cX12_flowAt 33 = .ok (.iaload, 1) := by decide +kernel
theorem dX12_flowAt_34 : decode cX12_flowAt 34 = .ok (.iload_n 1, 1) := by decide +kernel
theorem dX12_flowAt_35 : decode cX12_flowAt 35 = .ok (.if_icmp .ne 71, 3) := by decide +kernel
theorem dX12_flowAt_38 : decode cX12_flowAt 38 = .ok (.iload_n 2, 1) := by decide +kernel
theorem dX12_flowAt_39 : decode cX12_flowAt 39 = .ok (.i2l, 1) := by decide +kernel
theorem dX12_flowAt_40 : decode cX12_flowAt 40 = .ok (.aload_n 0, 1) := by decide +kernel
theorem dX12_flowAt_41 : decode cX12_flowAt 41 = .ok (.getfield 64, 3) := by decide +kernel
theorem dX12_flowAt_44 : decode cX12_flowAt 44 = .ok (.iload 5, 2) := by decide +kernel
theorem dX12_flowAt_46 : decode cX12_flowAt 46 = .ok (.iaload, 1) := by decide +kernel
theorem dX12_flowAt_47 : decode cX12_flowAt 47 = .ok (.i2l, 1) := by decide +kernel
theorem dX12_flowAt_48 : decode cX12_flowAt 48 = .ok (.aload_n 0, 1) := by decide +kernel
theorem dX12_flowAt_49 : decode cX12_flowAt 49 = .ok (.getfield 67, 3) := by decide +kernel
theorem dX12_flowAt_52 : decode cX12_flowAt 52 = .ok (.iload 5, 2) := by decide +kernel
theorem dX12_flowAt_54 : decode cX12_flowAt 54 = .ok (.iaload, 1) := by decide +kernel
theorem dX12_flowAt_55 : decode cX12_flowAt 55 = .ok (.i2l, 1) := by decide +kernel
theorem dX12_flowAt_56 : decode cX12_flowAt 56 = .ok (.invokestatic 139, 3) := by decide +kernel
theorem dX12_flowAt_59 : decode cX12_flowAt 59 = .ok (.ifCond .eq 47, 3) := by decide +kernel
theorem dX12_flowAt_62 : decode cX12_flowAt 62 = .ok (.aload_n 0, 1) := by decide +kernel
theorem dX12_flowAt_63 : decode cX12_flowAt 63 = .ok (.getfield 61, 3) := by decide +kernel
theorem dX12_flowAt_66 : decode cX12_flowAt 66 = .ok (.iload 5, 2) := by decide +kernel
theorem dX12_flowAt_68 : decode cX12_flowAt 68 = .ok (.iaload, 1) := by decide +kernel
theorem dX12_flowAt_69 : decode cX12_flowAt 69 = .ok (.iload 4, 2) := by decide +kernel
theorem dX12_flowAt_71 : decode cX12_flowAt 71 = .ok (.if_icmp .ge 13, 3) := by decide +kernel
theorem dX12_flowAt_74 : decode cX12_flowAt 74 = .ok (.aload_n 0, 1) := by decide +kernel
theorem dX12_flowAt_75 : decode cX12_flowAt 75 = .ok (.getfield 61, 3) := by decide +kernel
theorem dX12_flowAt_78 : decode cX12_flowAt 78 = .ok (.iload 5, 2) := by decide +kernel
theorem dX12_flowAt_80 : decode cX12_flowAt 80 = .ok (.iaload, 1) := by decide +kernel
theorem dX12_flowAt_81 : decode cX12_flowAt 81 = .ok (.goto 5, 3) := by decide +kernel
theorem dX12_flowAt_84 : decode cX12_flowAt 84 = .ok (.iload 4, 2) := by decide +kernel
theorem dX12_flowAt_86 : decode cX12_flowAt 86 = .ok (.istore 6, 2) := by decide +kernel
theorem dX12_flowAt_88 : decode cX12_flowAt 88 = .ok (.aload_n 0, 1) := by decide +kernel
theorem dX12_flowAt_89 : decode cX12_flowAt 89 = .ok (.getfield 107, 3) := by decide +kernel
theorem dX12_flowAt_92 : decode cX12_flowAt 92 = .ok (.iload_n 1, 1) := by decide +kernel
theorem dX12_flowAt_93 : decode cX12_flowAt 93 = .ok (.dup2, 1) := by decide +kernel
theorem dX12_flowAt_94 : decode cX12_flowAt 94 = .ok (.iaload, 1) := by decide +kernel
theorem dX12_flowAt_95 : decode cX12_flowAt 95 = .ok (.iload 6, 2) := by decide +kernel
theorem dX12_flowAt_97 : decode cX12_flowAt 97 = .ok (.iadd, 1) := by decide +kernel
theorem dX12_flowAt_98 : decode cX12_flowAt 98 = .ok (.iastore, 1) := by decide +kernel
theorem dX12_flowAt_99 : decode cX12_flowAt 99 = .ok (.iload 4, 2) := by decide +kernel
theorem dX12_flowAt_101 : decode cX12_flowAt 101 = .ok (.iload 6, 2) := by decide +kernel
theorem dX12_flowAt_103 : decode cX12_flowAt 103 = .ok (.isub, 1) := by decide +kernel
theorem dX12_flowAt_104 : decode cX12_flowAt 104 = .ok (.istore 4, 2) := by decide +kernel
theorem dX12_flowAt_106 : decode cX12_flowAt 106 = .ok (.iinc 5 1, 3) := by decide +kernel
theorem dX12_flowAt_109 : decode cX12_flowAt 109 = .ok (.goto (-91), 3) := by decide +kernel
theorem dX12_flowAt_112 : decode cX12_flowAt 112 = .ok (.aload_n 0, 1) := by decide +kernel
theorem dX12_flowAt_113 : decode cX12_flowAt 113 = .ok (.getfield 110, 3) := by decide +kernel
theorem dX12_flowAt_116 : decode cX12_flowAt 116 = .ok (.iload_n 1, 1) := by decide +kernel
theorem dX12_flowAt_117 : decode cX12_flowAt 117 = .ok (.iload 4, 2) := by decide +kernel
theorem dX12_flowAt_119 : decode cX12_flowAt 119 = .ok (.i2l, 1) := by decide +kernel
theorem dX12_flowAt_120 : decode cX12_flowAt 120 = .ok (.aload_n 0, 1) := by decide +kernel
theorem dX12_flowAt_121 : decode cX12_flowAt 121 = .ok (.getfield 28, 3) := by decide +kernel
theorem dX12_flowAt_124 : decode cX12_flowAt 124 = .ok (.iload_n 1, 1) := by decide +kernel
theorem dX12_flowAt_125 : decode cX12_flowAt 125 = .ok (.iaload, 1) := by decide +kernel
theorem dX12_flowAt_126 : decode cX12_flowAt 126 = .ok (.i2l, 1) := by decide +kernel
theorem dX12_flowAt_127 : decode cX12_flowAt 127 = .ok (.lmul, 1) := by decide +kernel
theorem dX12_flowAt_128 : decode cX12_flowAt 128 = .ok (.ldc2_w 168, 3) := by decide +kernel
theorem dX12_flowAt_131 : decode cX12_flowAt 131 = .ok (.ldiv, 1) := by decide +kernel
theorem dX12_flowAt_132 : decode cX12_flowAt 132 = .ok (.l2i, 1) := by decide +kernel
theorem dX12_flowAt_133 : decode cX12_flowAt 133 = .ok (.iastore, 1) := by decide +kernel
theorem dX12_flowAt_134 : decode cX12_flowAt 134 = .ok (.iload 4, 2) := by decide +kernel
theorem dX12_flowAt_136 : decode cX12_flowAt 136 = .ok (.aload_n 0, 1) := by decide +kernel
theorem dX12_flowAt_137 : decode cX12_flowAt 137 = .ok (.getfield 110, 3) := by decide +kernel
theorem dX12_flowAt_140 : decode cX12_flowAt 140 = .ok (.iload_n 1, 1) := by decide +kernel
theorem dX12_flowAt_141 : decode cX12_flowAt 141 = .ok (.iaload, 1) := by decide +kernel
theorem dX12_flowAt_142 : decode cX12_flowAt 142 = .ok (.isub, 1) := by decide +kernel
theorem dX12_flowAt_143 : decode cX12_flowAt 143 = .ok (.istore 4, 2) := by decide +kernel
theorem dX12_flowAt_145 : decode cX12_flowAt 145 = .ok (.aload_n 0, 1) := by decide +kernel
theorem dX12_flowAt_146 : decode cX12_flowAt 146 = .ok (.getfield 101, 3) := by decide +kernel
theorem dX12_flowAt_149 : decode cX12_flowAt 149 = .ok (.iload_n 1, 1) := by decide +kernel
theorem dX12_flowAt_150 : decode cX12_flowAt 150 = .ok (.iload 4, 2) := by decide +kernel
theorem dX12_flowAt_152 : decode cX12_flowAt 152 = .ok (.iastore, 1) := by decide +kernel
theorem dX12_flowAt_153 : decode cX12_flowAt 153 = .ok (.aload_n 0, 1) := by decide +kernel
theorem dX12_flowAt_154 : decode cX12_flowAt 154 = .ok (.getfield 113, 3) := by decide +kernel
theorem dX12_flowAt_157 : decode cX12_flowAt 157 = .ok (.iload_n 1, 1) := by decide +kernel
theorem dX12_flowAt_158 : decode cX12_flowAt 158 = .ok (.iconst 0, 1) := by decide +kernel
theorem dX12_flowAt_159 : decode cX12_flowAt 159 = .ok (.iastore, 1) := by decide +kernel
theorem dX12_flowAt_160 : decode cX12_flowAt 160 = .ok (.aload_n 0, 1) := by decide +kernel
theorem dX12_flowAt_161 : decode cX12_flowAt 161 = .ok (.iload_n 2, 1) := by decide +kernel
theorem dX12_flowAt_162 : decode cX12_flowAt 162 = .ok (.iconst 0, 1) := by decide +kernel
theorem dX12_flowAt_163 : decode cX12_flowAt 163 = .ok (.invokevirtual 194, 3) := by decide +kernel
theorem dX12_flowAt_166 : decode cX12_flowAt 166 = .ok (.istore 5, 2) := by decide +kernel
theorem dX12_flowAt_168 : decode cX12_flowAt 168 = .ok (.iconst 0, 1) := by decide +kernel
theorem dX12_flowAt_169 : decode cX12_flowAt 169 = .ok (.istore 6, 2) := by decide +kernel
theorem dX12_flowAt_171 : decode cX12_flowAt 171 = .ok (.iload 6, 2) := by decide +kernel
theorem dX12_flowAt_173 : decode cX12_flowAt 173 = .ok (.iconst 3, 1) := by decide +kernel
theorem dX12_flowAt_174 : decode cX12_flowAt 174 = .ok (.if_icmp .ge 240, 3) := by decide +kernel
theorem dX12_flowAt_177 : decode cX12_flowAt 177 = .ok (.iload 6, 2) := by decide +kernel
theorem dX12_flowAt_179 : decode cX12_flowAt 179 = .ok (.ifCond .ne 8, 3) := by decide +kernel
theorem dX12_flowAt_182 : decode cX12_flowAt 182 = .ok (.iload 5, 2) := by decide +kernel
theorem dX12_flowAt_184 : decode cX12_flowAt 184 = .ok (.goto 21, 3) := by decide +kernel
theorem dX12_flowAt_187 : decode cX12_flowAt 187 = .ok (.iload 6, 2) := by decide +kernel
theorem dX12_flowAt_189 : decode cX12_flowAt 189 = .ok (.iconst 1, 1) := by decide +kernel
theorem dX12_flowAt_190 : decode cX12_flowAt 190 = .ok (.isub, 1) := by decide +kernel
theorem dX12_flowAt_191 : decode cX12_flowAt 191 = .ok (.iload 5, 2) := by decide +kernel
theorem dX12_flowAt_193 : decode cX12_flowAt 193 = .ok (.if_icmp .ge 10, 3) := by decide +kernel
theorem dX12_flowAt_196 : decode cX12_flowAt 196 = .ok (.iload 6, 2) := by decide +kernel
theorem dX12_flowAt_198 : decode cX12_flowAt 198 = .ok (.iconst 1, 1) := by decide +kernel
theorem dX12_flowAt_199 : decode cX12_flowAt 199 = .ok (.isub, 1) := by decide +kernel
theorem dX12_flowAt_200 : decode cX12_flowAt 200 = .ok (.goto 5, 3) := by decide +kernel
theorem dX12_flowAt_203 : decode cX12_flowAt 203 = .ok (.iload 6, 2) := by decide +kernel
theorem dX12_flowAt_205 : decode cX12_flowAt 205 = .ok (.istore 7, 2) := by decide +kernel
theorem dX12_flowAt_207 : decode cX12_flowAt 207 = .ok (.aload_n 0, 1) := by decide +kernel
theorem dX12_flowAt_208 : decode cX12_flowAt 208 = .ok (.iload_n 2, 1) := by decide +kernel
theorem dX12_flowAt_209 : decode cX12_flowAt 209 = .ok (.iload 7, 2) := by decide +kernel
theorem dX12_flowAt_211 : decode cX12_flowAt 211 = .ok (.invokevirtual 213, 3) := by decide +kernel
theorem dX12_flowAt_214 : decode cX12_flowAt 214 = .ok (.ifCond .eq 6, 3) := by decide +kernel
theorem dX12_flowAt_217 : decode cX12_flowAt 217 = .ok (.goto 191, 3) := by decide +kernel
theorem dX12_flowAt_220 : decode cX12_flowAt 220 = .ok (.aload_n 0, 1) := by decide +kernel
theorem dX12_flowAt_221 : decode cX12_flowAt 221 = .ok (.iconst 0, 1) := by decide +kernel
theorem dX12_flowAt_222 : decode cX12_flowAt 222 = .ok (.putfield 289, 3) := by decide +kernel
theorem dX12_flowAt_225 : decode cX12_flowAt 225 = .ok (.iconst 0, 1) := by decide +kernel
theorem dX12_flowAt_226 : decode cX12_flowAt 226 = .ok (.istore 8, 2) := by decide +kernel
theorem dX12_flowAt_228 : decode cX12_flowAt 228 = .ok (.iload 8, 2) := by decide +kernel
theorem dX12_flowAt_230 : decode cX12_flowAt 230 = .ok (.aload_n 0, 1) := by decide +kernel
theorem dX12_flowAt_231 : decode cX12_flowAt 231 = .ok (.getfield 149, 3) := by decide +kernel
theorem dX12_flowAt_234 : decode cX12_flowAt 234 = .ok (.if_icmp .ge 111, 3) := by decide +kernel
theorem dX12_flowAt_237 : decode cX12_flowAt 237 = .ok (.aload_n 0, 1) := by decide +kernel
theorem dX12_flowAt_238 : decode cX12_flowAt 238 = .ok (.getfield 40, 3) := by decide +kernel
theorem dX12_flowAt_241 : decode cX12_flowAt 241 = .ok (.iload 8, 2) := by decide +kernel
theorem dX12_flowAt_243 : decode cX12_flowAt 243 = .ok (.iaload, 1) := by decide +kernel
theorem dX12_flowAt_244 : decode cX12_flowAt 244 = .ok (.iload_n 1, 1) := by decide +kernel
theorem dX12_flowAt_245 : decode cX12_flowAt 245 = .ok (.if_icmp .ne 49, 3) := by decide +kernel
theorem dX12_flowAt_248 : decode cX12_flowAt 248 = .ok (.aload_n 0, 1) := by decide +kernel
theorem dX12_flowAt_249 : decode cX12_flowAt 249 = .ok (.getfield 46, 3) := by decide +kernel
theorem dX12_flowAt_252 : decode cX12_flowAt 252 = .ok (.iload 8, 2) := by decide +kernel
theorem dX12_flowAt_254 : decode cX12_flowAt 254 = .ok (.iaload, 1) := by decide +kernel
theorem dX12_flowAt_255 : decode cX12_flowAt 255 = .ok (.iload 7, 2) := by decide +kernel
theorem dX12_flowAt_257 : decode cX12_flowAt 257 = .ok (.if_icmp .ne 37, 3) := by decide +kernel
theorem dX12_flowAt_260 : decode cX12_flowAt 260 = .ok (.iload 7, 2) := by decide +kernel
theorem dX12_flowAt_262 : decode cX12_flowAt 262 = .ok (.iconst 2, 1) := by decide +kernel
theorem dX12_flowAt_263 : decode cX12_flowAt 263 = .ok (.if_icmp .ne 17, 3) := by decide +kernel
theorem dX12_flowAt_266 : decode cX12_flowAt 266 = .ok (.aload_n 0, 1) := by decide +kernel
theorem dX12_flowAt_267 : decode cX12_flowAt 267 = .ok (.iload 8, 2) := by decide +kernel
theorem dX12_flowAt_269 : decode cX12_flowAt 269 = .ok (.iload_n 2, 1) := by decide +kernel
theorem dX12_flowAt_270 : decode cX12_flowAt 270 = .ok (.iload_n 3, 1) := by decide +kernel
theorem dX12_flowAt_271 : decode cX12_flowAt 271 = .ok (.invokevirtual 302, 3) := by decide +kernel
theorem dX12_flowAt_274 : decode cX12_flowAt 274 = .ok (.ifCond .eq 20, 3) := by decide +kernel
theorem dX12_flowAt_277 : decode cX12_flowAt 277 = .ok (.goto 13, 3) := by decide +kernel
theorem dX12_flowAt_280 : decode cX12_flowAt 280 = .ok (.aload_n 0, 1) := by decide +kernel
theorem dX12_flowAt_281 : decode cX12_flowAt 281 = .ok (.iload 8, 2) := by decide +kernel
theorem dX12_flowAt_283 : decode cX12_flowAt 283 = .ok (.iload_n 2, 1) := by decide +kernel
theorem dX12_flowAt_284 : decode cX12_flowAt 284 = .ok (.invokevirtual 286, 3) := by decide +kernel
theorem dX12_flowAt_287 : decode cX12_flowAt 287 = .ok (.ifCond .eq 7, 3) := by decide +kernel
theorem dX12_flowAt_290 : decode cX12_flowAt 290 = .ok (.iconst 1, 1) := by decide +kernel
theorem dX12_flowAt_291 : decode cX12_flowAt 291 = .ok (.goto 4, 3) := by decide +kernel
theorem dX12_flowAt_294 : decode cX12_flowAt 294 = .ok (.iconst 0, 1) := by decide +kernel
theorem dX12_flowAt_295 : decode cX12_flowAt 295 = .ok (.istore 9, 2) := by decide +kernel
theorem dX12_flowAt_297 : decode cX12_flowAt 297 = .ok (.iload 9, 2) := by decide +kernel
theorem dX12_flowAt_299 : decode cX12_flowAt 299 = .ok (.ifCond .eq 40, 3) := by decide +kernel
theorem dX12_flowAt_302 : decode cX12_flowAt 302 = .ok (.aload_n 0, 1) := by decide +kernel
theorem dX12_flowAt_303 : decode cX12_flowAt 303 = .ok (.getfield 122, 3) := by decide +kernel
theorem dX12_flowAt_306 : decode cX12_flowAt 306 = .ok (.aload_n 0, 1) := by decide +kernel
theorem dX12_flowAt_307 : decode cX12_flowAt 307 = .ok (.getfield 289, 3) := by decide +kernel
theorem dX12_flowAt_310 : decode cX12_flowAt 310 = .ok (.iload 8, 2) := by decide +kernel
theorem dX12_flowAt_312 : decode cX12_flowAt 312 = .ok (.iastore, 1) := by decide +kernel
theorem dX12_flowAt_313 : decode cX12_flowAt 313 = .ok (.aload_n 0, 1) := by decide +kernel
theorem dX12_flowAt_314 : decode cX12_flowAt 314 = .ok (.getfield 125, 3) := by decide +kernel
theorem dX12_flowAt_317 : decode cX12_flowAt 317 = .ok (.aload_n 0, 1) := by decide +kernel
theorem dX12_flowAt_318 : decode cX12_flowAt 318 = .ok (.getfield 289, 3) := by decide +kernel
theorem dX12_flowAt_321 : decode cX12_flowAt 321 = .ok (.aload_n 0, 1) := by decide +kernel
theorem dX12_flowAt_322 : decode cX12_flowAt 322 = .ok (.getfield 43, 3) := by decide +kernel
theorem dX12_flowAt_325 : decode cX12_flowAt 325 = .ok (.iload 8, 2) := by decide +kernel
theorem dX12_flowAt_327 : decode cX12_flowAt 327 = .ok (.iaload, 1) := by decide +kernel
theorem dX12_flowAt_328 : decode cX12_flowAt 328 = .ok (.iastore, 1) := by decide +kernel
theorem dX12_flowAt_329 : decode cX12_flowAt 329 = .ok (.aload_n 0, 1) := by decide +kernel
theorem dX12_flowAt_330 : decode cX12_flowAt 330 = .ok (.dup, 1) := by decide +kernel
theorem dX12_flowAt_331 : decode cX12_flowAt 331 = .ok (.getfield 289, 3) := by decide +kernel
theorem dX12_flowAt_334 : decode cX12_flowAt 334 = .ok (.iconst 1, 1) := by decide +kernel
theorem dX12_flowAt_335 : decode cX12_flowAt 335 = .ok (.iadd, 1) := by decide +kernel
theorem dX12_flowAt_336 : decode cX12_flowAt 336 = .ok (.putfield 289, 3) := by decide +kernel
theorem dX12_flowAt_339 : decode cX12_flowAt 339 = .ok (.iinc 8 1, 3) := by decide +kernel
theorem dX12_flowAt_342 : decode cX12_flowAt 342 = .ok (.goto (-114), 3) := by decide +kernel
theorem dX12_flowAt_345 : decode cX12_flowAt 345 = .ok (.aload_n 0, 1) := by decide +kernel
theorem dX12_flowAt_346 : decode cX12_flowAt 346 = .ok (.iload 4, 2) := by decide +kernel
theorem dX12_flowAt_348 : decode cX12_flowAt 348 = .ok (.invokevirtual 306, 3) := by decide +kernel
theorem dX12_flowAt_351 : decode cX12_flowAt 351 = .ok (.istore 8, 2) := by decide +kernel
theorem dX12_flowAt_353 : decode cX12_flowAt 353 = .ok (.iconst 0, 1) := by decide +kernel
theorem dX12_flowAt_354 : decode cX12_flowAt 354 = .ok (.istore 9, 2) := by decide +kernel
theorem dX12_flowAt_356 : decode cX12_flowAt 356 = .ok (.iload 9, 2) := by decide +kernel
theorem dX12_flowAt_358 : decode cX12_flowAt 358 = .ok (.aload_n 0, 1) := by decide +kernel
theorem dX12_flowAt_359 : decode cX12_flowAt 359 = .ok (.getfield 289, 3) := by decide +kernel
theorem dX12_flowAt_362 : decode cX12_flowAt 362 = .ok (.if_icmp .ge 28, 3) := by decide +kernel
theorem dX12_flowAt_365 : decode cX12_flowAt 365 = .ok (.aload_n 0, 1) := by decide +kernel
theorem dX12_flowAt_366 : decode cX12_flowAt 366 = .ok (.getfield 119, 3) := by decide +kernel
theorem dX12_flowAt_369 : decode cX12_flowAt 369 = .ok (.aload_n 0, 1) := by decide +kernel
theorem dX12_flowAt_370 : decode cX12_flowAt 370 = .ok (.getfield 122, 3) := by decide +kernel
theorem dX12_flowAt_373 : decode cX12_flowAt 373 = .ok (.iload 9, 2) := by decide +kernel
theorem dX12_flowAt_375 : decode cX12_flowAt 375 = .ok (.iaload, 1) := by decide +kernel
theorem dX12_flowAt_376 : decode cX12_flowAt 376 = .ok (.aload_n 0, 1) := by decide +kernel
theorem dX12_flowAt_377 : decode cX12_flowAt 377 = .ok (.getfield 128, 3) := by decide +kernel
theorem dX12_flowAt_380 : decode cX12_flowAt 380 = .ok (.iload 9, 2) := by decide +kernel
theorem dX12_flowAt_382 : decode cX12_flowAt 382 = .ok (.iaload, 1) := by decide +kernel
theorem dX12_flowAt_383 : decode cX12_flowAt 383 = .ok (.iastore, 1) := by decide +kernel
theorem dX12_flowAt_384 : decode cX12_flowAt 384 = .ok (.iinc 9 1, 3) := by decide +kernel
theorem dX12_flowAt_387 : decode cX12_flowAt 387 = .ok (.goto (-31), 3) := by decide +kernel
theorem dX12_flowAt_390 : decode cX12_flowAt 390 = .ok (.aload_n 0, 1) := by decide +kernel
theorem dX12_flowAt_391 : decode cX12_flowAt 391 = .ok (.getfield 113, 3) := by decide +kernel
theorem dX12_flowAt_394 : decode cX12_flowAt 394 = .ok (.iload_n 1, 1) := by decide +kernel
theorem dX12_flowAt_395 : decode cX12_flowAt 395 = .ok (.dup2, 1) := by decide +kernel
theorem dX12_flowAt_396 : decode cX12_flowAt 396 = .ok (.iaload, 1) := by decide +kernel
theorem dX12_flowAt_397 : decode cX12_flowAt 397 = .ok (.iload 8, 2) := by decide +kernel
theorem dX12_flowAt_399 : decode cX12_flowAt 399 = .ok (.iadd, 1) := by decide +kernel
theorem dX12_flowAt_400 : decode cX12_flowAt 400 = .ok (.iastore, 1) := by decide +kernel
theorem dX12_flowAt_401 : decode cX12_flowAt 401 = .ok (.iload 4, 2) := by decide +kernel
theorem dX12_flowAt_403 : decode cX12_flowAt 403 = .ok (.iload 8, 2) := by decide +kernel
theorem dX12_flowAt_405 : decode cX12_flowAt 405 = .ok (.isub, 1) := by decide +kernel
theorem dX12_flowAt_406 : decode cX12_flowAt 406 = .ok (.istore 4, 2) := by decide +kernel
theorem dX12_flowAt_408 : decode cX12_flowAt 408 = .ok (.iinc 6 1, 3) := by decide +kernel
theorem dX12_flowAt_411 : decode cX12_flowAt 411 = .ok (.goto (-240), 3) := by decide +kernel
theorem dX12_flowAt_414 : decode cX12_flowAt 414 = .ok (.aload_n 0, 1) := by decide +kernel
theorem dX12_flowAt_415 : decode cX12_flowAt 415 = .ok (.iconst 0, 1) := by decide +kernel
theorem dX12_flowAt_416 : decode cX12_flowAt 416 = .ok (.putfield 289, 3) := by decide +kernel
theorem dX12_flowAt_419 : decode cX12_flowAt 419 = .ok (.iload_n 1, 1) := by decide +kernel
theorem dX12_flowAt_420 : decode cX12_flowAt 420 = .ok (.iconst 1, 1) := by decide +kernel
theorem dX12_flowAt_421 : decode cX12_flowAt 421 = .ok (.iadd, 1) := by decide +kernel
theorem dX12_flowAt_422 : decode cX12_flowAt 422 = .ok (.istore 6, 2) := by decide +kernel
theorem dX12_flowAt_424 : decode cX12_flowAt 424 = .ok (.iload 6, 2) := by decide +kernel
theorem dX12_flowAt_426 : decode cX12_flowAt 426 = .ok (.aload_n 0, 1) := by decide +kernel
theorem dX12_flowAt_427 : decode cX12_flowAt 427 = .ok (.getfield 143, 3) := by decide +kernel
theorem dX12_flowAt_430 : decode cX12_flowAt 430 = .ok (.if_icmp .ge 70, 3) := by decide +kernel
theorem dX12_flowAt_433 : decode cX12_flowAt 433 = .ok (.aload_n 0, 1) := by decide +kernel
theorem dX12_flowAt_434 : decode cX12_flowAt 434 = .ok (.getfield 22, 3) := by decide +kernel
theorem dX12_flowAt_437 : decode cX12_flowAt 437 = .ok (.iload 6, 2) := by decide +kernel
theorem dX12_flowAt_439 : decode cX12_flowAt 439 = .ok (.iaload, 1) := by decide +kernel
theorem dX12_flowAt_440 : decode cX12_flowAt 440 = .ok (.bipush 100, 2) := by decide +kernel
theorem dX12_flowAt_442 : decode cX12_flowAt 442 = .ok (.iload_n 1, 1) := by decide +kernel
theorem dX12_flowAt_443 : decode cX12_flowAt 443 = .ok (.iadd, 1) := by decide +kernel
theorem dX12_flowAt_444 : decode cX12_flowAt 444 = .ok (.if_icmp .ne 50, 3) := by decide +kernel
theorem dX12_flowAt_447 : decode cX12_flowAt 447 = .ok (.aload_n 0, 1) := by decide +kernel
theorem dX12_flowAt_448 : decode cX12_flowAt 448 = .ok (.iload 6, 2) := by decide +kernel
theorem dX12_flowAt_450 : decode cX12_flowAt 450 = .ok (.iload_n 2, 1) := by decide +kernel
theorem dX12_flowAt_451 : decode cX12_flowAt 451 = .ok (.invokevirtual 295, 3) := by decide +kernel
theorem dX12_flowAt_454 : decode cX12_flowAt 454 = .ok (.ifCond .ne 40, 3) := by decide +kernel
theorem dX12_flowAt_457 : decode cX12_flowAt 457 = .ok (.aload_n 0, 1) := by decide +kernel
theorem dX12_flowAt_458 : decode cX12_flowAt 458 = .ok (.getfield 122, 3) := by decide +kernel
theorem dX12_flowAt_461 : decode cX12_flowAt 461 = .ok (.aload_n 0, 1) := by decide +kernel
theorem dX12_flowAt_462 : decode cX12_flowAt 462 = .ok (.getfield 289, 3) := by decide +kernel
theorem dX12_flowAt_465 : decode cX12_flowAt 465 = .ok (.iload 6, 2) := by decide +kernel
theorem dX12_flowAt_467 : decode cX12_flowAt 467 = .ok (.iastore, 1) := by decide +kernel
theorem dX12_flowAt_468 : decode cX12_flowAt 468 = .ok (.aload_n 0, 1) := by decide +kernel
theorem dX12_flowAt_469 : decode cX12_flowAt 469 = .ok (.getfield 125, 3) := by decide +kernel
theorem dX12_flowAt_472 : decode cX12_flowAt 472 = .ok (.aload_n 0, 1) := by decide +kernel
theorem dX12_flowAt_473 : decode cX12_flowAt 473 = .ok (.getfield 289, 3) := by decide +kernel
theorem dX12_flowAt_476 : decode cX12_flowAt 476 = .ok (.aload_n 0, 1) := by decide +kernel
theorem dX12_flowAt_477 : decode cX12_flowAt 477 = .ok (.getfield 25, 3) := by decide +kernel
theorem dX12_flowAt_480 : decode cX12_flowAt 480 = .ok (.iload 6, 2) := by decide +kernel
theorem dX12_flowAt_482 : decode cX12_flowAt 482 = .ok (.iaload, 1) := by decide +kernel
theorem dX12_flowAt_483 : decode cX12_flowAt 483 = .ok (.iastore, 1) := by decide +kernel
theorem dX12_flowAt_484 : decode cX12_flowAt 484 = .ok (.aload_n 0, 1) := by decide +kernel
