theorem dX4_readTerm_2 : decode cX4_readTerm 2 = .ok (.invokevirtual 150, 3) := by decide +kernel
theorem dX4_readTerm_5 : decode cX4_readTerm 5 = .ok (.ifCond .ne 5, 3) := by decide +kernel
theorem dX4_readTerm_8 : decode cX4_readTerm 8 = .ok (.iconst 0, 1) := by decide +kernel
theorem dX4_readTerm_9 : decode cX4_readTerm 9 = .ok (.ireturn, 1) := by decide +kernel
theorem dX4_readTerm_10 : decode cX4_readTerm 10 = .ok (.iconst 0, 1) := by decide +kernel
theorem dX4_readTerm_11 : decode cX4_readTerm 11 = .ok (.istore_n 2, 1) := by decide +kernel
theorem dX4_readTerm_12 : decode cX4_readTerm 12 = .ok (.iload_n 2, 1) := by decide +kernel
theorem dX4_readTerm_13 : decode cX4_readTerm 13 = .ok (.aload_n 0, 1) := by decide +kernel
theorem dX4_readTerm_14 : decode cX4_readTerm 14 = .ok (.getfield 37, 3) := by decide +kernel
theorem dX4_readTerm_17 : decode cX4_readTerm 17 = .ok (.if_icmp .ge 63, 3) := by decide +kernel
theorem dX4_readTerm_20 : decode cX4_readTerm 20 = .ok (.aload_n 0, 1) := by decide +kernel
theorem dX4_readTerm_21 : decode cX4_readTerm 21 = .ok (.bipush 42, 2) := by decide +kernel
theorem dX4_readTerm_23 : decode cX4_readTerm 23 = .ok (.invokevirtual 143, 3) := by decide +kernel
theorem dX4_readTerm_26 : decode cX4_readTerm 26 = .ok (.ifCond .ne 12, 3) := by decide +kernel
theorem dX4_readTerm_29 : decode cX4_readTerm 29 = .ok (.aload_n 0, 1) := by decide +kernel
theorem dX4_readTerm_30 : decode cX4_readTerm 30 = .ok (.bipush 47, 2) := by decide +kernel
theorem dX4_readTerm_32 : decode cX4_readTerm 32 = .ok (.invokevirtual 143, 3) := by decide +kernel
theorem dX4_readTerm_35 : decode cX4_readTerm 35 = .ok (.ifCond .eq 45, 3) := by decide +kernel
theorem dX4_readTerm_38 : decode cX4_readTerm 38 = .ok (.aload_n 0, 1) := by decide +kernel
theorem dX4_readTerm_39 : decode cX4_readTerm 39 = .ok (.bipush 42, 2) := by decide +kernel
theorem dX4_readTerm_41 : decode cX4_readTerm 41 = .ok (.invokevirtual 143, 3) := by decide +kernel
theorem dX4_readTerm_44 : decode cX4_readTerm 44 = .ok (.ifCond .eq 8, 3) := by decide +kernel
theorem dX4_readTerm_47 : decode cX4_readTerm 47 = .ok (.bipush (-3), 2) := by decide +kernel
theorem dX4_readTerm_49 : decode cX4_readTerm 49 = .ok (.goto 5, 3) := by decide +kernel
theorem dX4_readTerm_52 : decode cX4_readTerm 52 = .ok (.bipush (-4), 2) := by decide +kernel
theorem dX4_readTerm_54 : decode cX4_readTerm 54 = .ok (.istore_n 3, 1) := by decide +kernel
theorem dX4_readTerm_55 : decode cX4_readTerm 55 = .ok (.aload_n 0, 1) := by decide +kernel
theorem dX4_readTerm_56 : decode cX4_readTerm 56 = .ok (.invokevirtual 47, 3) := by decide +kernel
theorem dX4_readTerm_59 : decode cX4_readTerm 59 = .ok (.aload_n 0, 1) := by decide +kernel
theorem dX4_readTerm_60 : decode cX4_readTerm 60 = .ok (.iload_n 1, 1) := by decide +kernel
theorem dX4_readTerm_61 : decode cX4_readTerm 61 = .ok (.invokevirtual 150, 3) := by decide +kernel
theorem dX4_readTerm_64 : decode cX4_readTerm 64 = .ok (.ifCond .ne 5, 3) := by decide +kernel
theorem dX4_readTerm_67 : decode cX4_readTerm 67 = .ok (.iconst 0, 1) := by decide +kernel
theorem dX4_readTerm_68 : decode cX4_readTerm 68 = .ok (.ireturn, 1) := by decide +kernel
theorem dX4_readTerm_69 : decode cX4_readTerm 69 = .ok (.aload_n 0, 1) := by decide +kernel
theorem dX4_readTerm_70 : decode cX4_readTerm 70 = .ok (.iload_n 3, 1) := by decide +kernel
theorem dX4_readTerm_71 : decode cX4_readTerm 71 = .ok (.invokevirtual 146, 3) := by decide +kernel
theorem dX4_readTerm_74 : decode cX4_readTerm 74 = .ok (.iinc 2 1, 3) := by decide +kernel
theorem dX4_readTerm_77 : decode cX4_readTerm 77 = .ok (.goto (-65), 3) := by decide +kernel
theorem dX4_readTerm_80 : decode cX4_readTerm 80 = .ok (.iconst 1, 1) := by decide +kernel
theorem dX4_readTerm_81 : decode cX4_readTerm 81 = .ok (.ireturn, 1) := by decide +kernel
theorem dX4_readFactor_0 : decode cX4_readFactor 0 = .ok (.aload_n 0, 1) := by decide +kernel
theorem dX4_readFactor_1 : decode cX4_readFactor 1 = .ok (.bipush 40, 2) := by decide +kernel
theorem dX4_readFactor_3 : decode cX4_readFactor 3 = .ok (.invokevirtual 143, 3) := by decide +kernel
theorem dX4_readFactor_6 : decode cX4_readFactor 6 = .ok (.ifCond .eq 44, 3) := by decide +kernel
theorem dX4_readFactor_9 : decode cX4_readFactor 9 = .ok (.iload_n 1, 1) := by decide +kernel
theorem dX4_readFactor_10 : decode cX4_readFactor 10 = .ok (.iconst 4, 1) := by decide +kernel
theorem dX4_readFactor_11 : decode cX4_readFactor 11 = .ok (.if_icmp .lt 10, 3) := by decide +kernel
theorem dX4_readFactor_14 : decode cX4_readFactor 14 = .ok (.aload_n 0, 1) := by decide +kernel
theorem dX4_readFactor_15 : decode cX4_readFactor 15 = .ok (.bipush (-5), 2) := by decide +kernel
theorem dX4_readFactor_17 : decode cX4_readFactor 17 = .ok (.invokevirtual 62, 3) := by decide +kernel
theorem dX4_readFactor_20 : decode cX4_readFactor 20 = .ok (.ireturn, 1) := by decide +kernel
theorem dX4_readFactor_21 : decode cX4_readFactor 21 = .ok (.aload_n 0, 1) := by decide +kernel
theorem dX4_readFactor_22 : decode cX4_readFactor 22 = .ok (.invokevirtual 47, 3) := by decide +kernel
theorem dX4_readFactor_25 : decode cX4_readFactor 25 = .ok (.aload_n 0, 1) := by decide +kernel
theorem dX4_readFactor_26 : decode cX4_readFactor 26 = .ok (.iload_n 1, 1) := by decide +kernel
theorem dX4_readFactor_27 : decode cX4_readFactor 27 = .ok (.iconst 1, 1) := by decide +kernel
theorem dX4_readFactor_28 : decode cX4_readFactor 28 = .ok (.iadd, 1) := by decide +kernel
theorem dX4_readFactor_29 : decode cX4_readFactor 29 = .ok (.invokevirtual 129, 3) := by decide +kernel
theorem dX4_readFactor_32 : decode cX4_readFactor 32 = .ok (.ifCond .eq 16, 3) := by decide +kernel
theorem dX4_readFactor_35 : decode cX4_readFactor 35 = .ok (.aload_n 0, 1) := by decide +kernel
theorem dX4_readFactor_36 : decode cX4_readFactor 36 = .ok (.bipush 41, 2) := by decide +kernel
theorem dX4_readFactor_38 : decode cX4_readFactor 38 = .ok (.invokevirtual 79, 3) := by decide +kernel
theorem dX4_readFactor_41 : decode cX4_readFactor 41 = .ok (.ifCond .eq 7, 3) := by decide +kernel
theorem dX4_readFactor_44 : decode cX4_readFactor 44 = .ok (.iconst 1, 1) := by decide +kernel
theorem dX4_readFactor_45 : decode cX4_readFactor 45 = .ok (.goto 4, 3) := by decide +kernel
theorem dX4_readFactor_48 : decode cX4_readFactor 48 = .ok (.iconst 0, 1) := by decide +kernel
theorem dX4_readFactor_49 : decode cX4_readFactor 49 = .ok (.ireturn, 1) := by decide +kernel
theorem dX4_readFactor_50 : decode cX4_readFactor 50 = .ok (.aload_n 0, 1) := by decide +kernel
theorem dX4_readFactor_51 : decode cX4_readFactor 51 = .ok (.getfield 83, 3) := by decide +kernel
theorem dX4_readFactor_54 : decode cX4_readFactor 54 = .ok (.iconst 1, 1) := by decide +kernel
theorem dX4_readFactor_55 : decode cX4_readFactor 55 = .ok (.if_icmp .ne 26, 3) := by decide +kernel
theorem dX4_readFactor_58 : decode cX4_readFactor 58 = .ok (.aload_n 0, 1) := by decide +kernel
theorem dX4_readFactor_59 : decode cX4_readFactor 59 = .ok (.iconst 0, 1) := by decide +kernel
theorem dX4_readFactor_60 : decode cX4_readFactor 60 = .ok (.sipush 9999, 3) := by decide +kernel
theorem dX4_readFactor_63 : decode cX4_readFactor 63 = .ok (.invokevirtual 66, 3) := by decide +kernel
theorem dX4_readFactor_66 : decode cX4_readFactor 66 = .ok (.ifCond .ne 5, 3) := by decide +kernel
theorem dX4_readFactor_69 : decode cX4_readFactor 69 = .ok (.iconst 0, 1) := by decide +kernel
theorem dX4_readFactor_70 : decode cX4_readFactor 70 = .ok (.ireturn, 1) := by decide +kernel
theorem dX4_readFactor_71 : decode cX4_readFactor 71 = .ok (.aload_n 0, 1) := by decide +kernel
theorem dX4_readFactor_72 : decode cX4_readFactor 72 = .ok (.aload_n 0, 1) := by decide +kernel
theorem dX4_readFactor_73 : decode cX4_readFactor 73 = .ok (.getfield 70, 3) := by decide +kernel
theorem dX4_readFactor_76 : decode cX4_readFactor 76 = .ok (.invokevirtual 146, 3) := by decide +kernel
theorem dX4_readFactor_79 : decode cX4_readFactor 79 = .ok (.iconst 1, 1) := by decide +kernel
theorem dX4_readFactor_80 : decode cX4_readFactor 80 = .ok (.ireturn, 1) := by decide +kernel
theorem dX4_readFactor_81 : decode cX4_readFactor 81 = .ok (.aload_n 0, 1) := by decide +kernel
theorem dX4_readFactor_82 : decode cX4_readFactor 82 = .ok (.ldc 153, 2) := by decide +kernel
theorem dX4_readFactor_84 : decode cX4_readFactor 84 = .ok (.invokevirtual 58, 3) := by decide +kernel
theorem dX4_readFactor_87 : decode cX4_readFactor 87 = .ok (.ifCond .eq 12, 3) := by decide +kernel
theorem dX4_readFactor_90 : decode cX4_readFactor 90 = .ok (.aload_n 0, 1) := by decide +kernel
theorem dX4_readFactor_91 : decode cX4_readFactor 91 = .ok (.bipush (-5), 2) := by decide +kernel
theorem dX4_readFactor_93 : decode cX4_readFactor 93 = .ok (.invokevirtual 146, 3) := by decide +kernel
theorem dX4_readFactor_96 : decode cX4_readFactor 96 = .ok (.goto 46, 3) := by decide +kernel
theorem dX4_readFactor_99 : decode cX4_readFactor 99 = .ok (.aload_n 0, 1) := by decide +kernel
theorem dX4_readFactor_100 : decode cX4_readFactor 100 = .ok (.ldc 86, 2) := by decide +kernel
theorem dX4_readFactor_102 : decode cX4_readFactor 102 = .ok (.invokevirtual 58, 3) := by decide +kernel
theorem dX4_readFactor_105 : decode cX4_readFactor 105 = .ok (.ifCond .eq 12, 3) := by decide +kernel
theorem dX4_readFactor_108 : decode cX4_readFactor 108 = .ok (.aload_n 0, 1) := by decide +kernel
theorem dX4_readFactor_109 : decode cX4_readFactor 109 = .ok (.bipush (-6), 2) := by decide +kernel
theorem dX4_readFactor_111 : decode cX4_readFactor 111 = .ok (.invokevirtual 146, 3) := by decide +kernel
theorem dX4_readFactor_114 : decode cX4_readFactor 114 = .ok (.goto 28, 3) := by decide +kernel
theorem dX4_readFactor_117 : decode cX4_readFactor 117 = .ok (.aload_n 0, 1) := by decide +kernel
theorem dX4_readFactor_118 : decode cX4_readFactor 118 = .ok (.ldc 155, 2) := by decide +kernel
theorem dX4_readFactor_120 : decode cX4_readFactor 120 = .ok (.invokevirtual 58, 3) := by decide +kernel
theorem dX4_readFactor_123 : decode cX4_readFactor 123 = .ok (.ifCond .eq 12, 3) := by decide +kernel
theorem dX4_readFactor_126 : decode cX4_readFactor 126 = .ok (.aload_n 0, 1) := by decide +kernel
theorem dX4_readFactor_127 : decode cX4_readFactor 127 = .ok (.bipush (-7), 2) := by decide +kernel
theorem dX4_readFactor_129 : decode cX4_readFactor 129 = .ok (.invokevirtual 146, 3) := by decide +kernel
theorem dX4_readFactor_132 : decode cX4_readFactor 132 = .ok (.goto 10, 3) := by decide +kernel
theorem dX4_readFactor_135 : decode cX4_readFactor 135 = .ok (.aload_n 0, 1) := by decide +kernel
theorem dX4_readFactor_136 : decode cX4_readFactor 136 = .ok (.bipush (-2), 2) := by decide +kernel
theorem dX4_readFactor_138 : decode cX4_readFactor 138 = .ok (.invokevirtual 62, 3) := by decide +kernel
theorem dX4_readFactor_141 : decode cX4_readFactor 141 = .ok (.ireturn, 1) := by decide +kernel
theorem dX4_readFactor_142 : decode cX4_readFactor 142 = .ok (.aload_n 0, 1) := by decide +kernel
theorem dX4_readFactor_143 : decode cX4_readFactor 143 = .ok (.invokevirtual 47, 3) := by decide +kernel
theorem dX4_readFactor_146 : decode cX4_readFactor 146 = .ok (.iconst 1, 1) := by decide +kernel
theorem dX4_readFactor_147 : decode cX4_readFactor 147 = .ok (.ireturn, 1) := by decide +kernel
theorem dX4_putStep_0 : decode cX4_putStep 0 = .ok (.aload_n 0, 1) := by decide +kernel
theorem dX4_putStep_1 : decode cX4_putStep 1 = .ok (.getfield 126, 3) := by decide +kernel
theorem dX4_putStep_4 : decode cX4_putStep 4 = .ok (.sipush 700, 3) := by decide +kernel
theorem dX4_putStep_7 : decode cX4_putStep 7 = .ok (.if_icmp .ge 23, 3) := by decide +kernel
theorem dX4_putStep_10 : decode cX4_putStep 10 = .ok (.aload_n 0, 1) := by decide +kernel
theorem dX4_putStep_11 : decode cX4_putStep 11 = .ok (.getfield 15, 3) := by decide +kernel
theorem dX4_putStep_14 : decode cX4_putStep 14 = .ok (.aload_n 0, 1) := by decide +kernel
theorem dX4_putStep_15 : decode cX4_putStep 15 = .ok (.getfield 126, 3) := by decide +kernel
theorem dX4_putStep_18 : decode cX4_putStep 18 = .ok (.iload_n 1, 1) := by decide +kernel
theorem dX4_putStep_19 : decode cX4_putStep 19 = .ok (.iastore, 1) := by decide +kernel
theorem dX4_putStep_20 : decode cX4_putStep 20 = .ok (.aload_n 0, 1) := by decide +kernel
theorem dX4_putStep_21 : decode cX4_putStep 21 = .ok (.dup, 1) := by decide +kernel
theorem dX4_putStep_22 : decode cX4_putStep 22 = .ok (.getfield 126, 3) := by decide +kernel
theorem dX4_putStep_25 : decode cX4_putStep 25 = .ok (.iconst 1, 1) := by decide +kernel
theorem dX4_putStep_26 : decode cX4_putStep 26 = .ok (.iadd, 1) := by decide +kernel
theorem dX4_putStep_27 : decode cX4_putStep 27 = .ok (.putfield 126, 3) := by decide +kernel
theorem dX4_putStep_30 : decode cX4_putStep 30 = .ok (.return_, 1) := by decide +kernel
theorem dX4_takeNumber_0 : decode cX4_takeNumber 0 = .ok (.aload_n 0, 1) := by decide +kernel
theorem dX4_takeNumber_1 : decode cX4_takeNumber 1 = .ok (.getfield 83, 3) := by decide +kernel
theorem dX4_takeNumber_4 : decode cX4_takeNumber 4 = .ok (.iconst 1, 1) := by decide +kernel
theorem dX4_takeNumber_5 : decode cX4_takeNumber 5 = .ok (.if_icmp .eq 10, 3) := by decide +kernel
theorem dX4_takeNumber_8 : decode cX4_takeNumber 8 = .ok (.aload_n 0, 1) := by decide +kernel
theorem dX4_takeNumber_9 : decode cX4_takeNumber 9 = .ok (.bipush (-2), 2) := by decide +kernel
theorem dX4_takeNumber_11 : decode cX4_takeNumber 11 = .ok (.invokevirtual 62, 3) := by decide +kernel
theorem dX4_takeNumber_14 : decode cX4_takeNumber 14 = .ok (.ireturn, 1) := by decide +kernel
theorem dX4_takeNumber_15 : decode cX4_takeNumber 15 = .ok (.iconst 0, 1) := by decide +kernel
theorem dX4_takeNumber_16 : decode cX4_takeNumber 16 = .ok (.istore_n 3, 1) := by decide +kernel
theorem dX4_takeNumber_17 : decode cX4_takeNumber 17 = .ok (.aload_n 0, 1) := by decide +kernel
theorem dX4_takeNumber_18 : decode cX4_takeNumber 18 = .ok (.getfield 53, 3) := by decide +kernel
theorem dX4_takeNumber_21 : decode cX4_takeNumber 21 = .ok (.istore 4, 2) := by decide +kernel
theorem dX4_takeNumber_23 : decode cX4_takeNumber 23 = .ok (.iload 4, 2) := by decide +kernel
theorem dX4_takeNumber_25 : decode cX4_takeNumber 25 = .ok (.aload_n 0, 1) := by decide +kernel
theorem dX4_takeNumber_26 : decode cX4_takeNumber 26 = .ok (.getfield 40, 3) := by decide +kernel
theorem dX4_takeNumber_29 : decode cX4_takeNumber 29 = .ok (.if_icmp .ge 30, 3) := by decide +kernel
theorem dX4_takeNumber_32 : decode cX4_takeNumber 32 = .ok (.ldc 157, 2) := by decide +kernel
theorem dX4_takeNumber_34 : decode cX4_takeNumber 34 = .ok (.bipush 10, 2) := by decide +kernel
theorem dX4_takeNumber_36 : decode cX4_takeNumber 36 = .ok (.iload_n 3, 1) := by decide +kernel
theorem dX4_takeNumber_37 : decode cX4_takeNumber 37 = .ok (.imul, 1) := by decide +kernel
theorem dX4_takeNumber_38 : decode cX4_takeNumber 38 = .ok (.aload_n 0, 1) := by decide +kernel
theorem dX4_takeNumber_39 : decode cX4_takeNumber 39 = .ok (.getfield 9, 3) := by decide +kernel
theorem dX4_takeNumber_42 : decode cX4_takeNumber 42 = .ok (.iload 4, 2) := by decide +kernel
theorem dX4_takeNumber_44 : decode cX4_takeNumber 44 = .ok (.baload, 1) := by decide +kernel
theorem dX4_takeNumber_45 : decode cX4_takeNumber 45 = .ok (.bipush 48, 2) := by decide +kernel
theorem dX4_takeNumber_47 : decode cX4_takeNumber 47 = .ok (.isub, 1) := by decide +kernel
theorem dX4_takeNumber_48 : decode cX4_takeNumber 48 = .ok (.iadd, 1) := by decide +kernel
theorem dX4_takeNumber_49 : decode cX4_takeNumber 49 = .ok (.invokestatic 158, 3) := by decide +kernel
theorem dX4_takeNumber_52 : decode cX4_takeNumber 52 = .ok (.istore_n 3, 1) := by decide +kernel
theorem dX4_takeNumber_53 : decode cX4_takeNumber 53 = .ok (.iinc 4 1, 3) := by decide +kernel
theorem dX4_takeNumber_56 : decode cX4_takeNumber 56 = .ok (.goto (-33), 3) := by decide +kernel
theorem dX4_takeNumber_59 : decode cX4_takeNumber 59 = .ok (.iload_n 3, 1) := by decide +kernel
theorem dX4_takeNumber_60 : decode cX4_takeNumber 60 = .ok (.iload_n 1, 1) := by decide +kernel
theorem dX4_takeNumber_61 : decode cX4_takeNumber 61 = .ok (.iload_n 2, 1) := by decide +kernel
theorem dX4_takeNumber_62 : decode cX4_takeNumber 62 = .ok (.invokestatic 164, 3) := by decide +kernel
theorem dX4_takeNumber_65 : decode cX4_takeNumber 65 = .ok (.ifCond .ne 10, 3) := by decide +kernel
theorem dX4_takeNumber_68 : decode cX4_takeNumber 68 = .ok (.aload_n 0, 1) := by decide +kernel
theorem dX4_takeNumber_69 : decode cX4_takeNumber 69 = .ok (.bipush (-3), 2) := by decide +kernel
theorem dX4_takeNumber_71 : decode cX4_takeNumber 71 = .ok (.invokevirtual 62, 3) := by decide +kernel
theorem dX4_takeNumber_74 : decode cX4_takeNumber 74 = .ok (.ireturn, 1) := by decide +kernel
theorem dX4_takeNumber_75 : decode cX4_takeNumber 75 = .ok (.aload_n 0, 1) := by decide +kernel
theorem dX4_takeNumber_76 : decode cX4_takeNumber 76 = .ok (.iload_n 3, 1) := by decide +kernel
theorem dX4_takeNumber_77 : decode cX4_takeNumber 77 = .ok (.putfield 70, 3) := by decide +kernel
theorem dX4_takeNumber_80 : decode cX4_takeNumber 80 = .ok (.aload_n 0, 1) := by decide +kernel
theorem dX4_takeNumber_81 : decode cX4_takeNumber 81 = .ok (.invokevirtual 47, 3) := by decide +kernel
theorem dX4_takeNumber_84 : decode cX4_takeNumber 84 = .ok (.iconst 1, 1) := by decide +kernel
theorem dX4_takeNumber_85 : decode cX4_takeNumber 85 = .ok (.ireturn, 1) := by decide +kernel
theorem dX4_takeSign_0 : decode cX4_takeSign 0 = .ok (.aload_n 0, 1) := by decide +kernel
theorem dX4_takeSign_1 : decode cX4_takeSign 1 = .ok (.iload_n 1, 1) := by decide +kernel
theorem dX4_takeSign_2 : decode cX4_takeSign 2 = .ok (.invokevirtual 143, 3) := by decide +kernel
theorem dX4_takeSign_5 : decode cX4_takeSign 5 = .ok (.ifCond .ne 10, 3) := by decide +kernel
theorem dX4_takeSign_8 : decode cX4_takeSign 8 = .ok (.aload_n 0, 1) := by decide +kernel
theorem dX4_takeSign_9 : decode cX4_takeSign 9 = .ok (.bipush (-2), 2) := by decide +kernel
theorem dX4_takeSign_11 : decode cX4_takeSign 11 = .ok (.invokevirtual 62, 3) := by decide +kernel
theorem dX4_takeSign_14 : decode cX4_takeSign 14 = .ok (.ireturn, 1) := by decide +kernel
theorem dX4_takeSign_15 : decode cX4_takeSign 15 = .ok (.aload_n 0, 1) := by decide +kernel
theorem dX4_takeSign_16 : decode cX4_takeSign 16 = .ok (.invokevirtual 47, 3) := by decide +kernel
theorem dX4_takeSign_19 : decode cX4_takeSign 19 = .ok (.iconst 1, 1) := by decide +kernel
theorem dX4_takeSign_20 : decode cX4_takeSign 20 = .ok (.ireturn, 1) := by decide +kernel
theorem dX4_signIs_0 : decode cX4_signIs 0 = .ok (.aload_n 0, 1) := by decide +kernel
theorem dX4_signIs_1 : decode cX4_signIs 1 = .ok (.getfield 83, 3) := by decide +kernel
theorem dX4_signIs_4 : decode cX4_signIs 4 = .ok (.iconst 3, 1) := by decide +kernel
theorem dX4_signIs_5 : decode cX4_signIs 5 = .ok (.if_icmp .ne 20, 3) := by decide +kernel
theorem dX4_signIs_8 : decode cX4_signIs 8 = .ok (.aload_n 0, 1) := by decide +kernel
theorem dX4_signIs_9 : decode cX4_signIs 9 = .ok (.getfield 9, 3) := by decide +kernel
theorem dX4_signIs_12 : decode cX4_signIs 12 = .ok (.aload_n 0, 1) := by decide +kernel
theorem dX4_signIs_13 : decode cX4_signIs 13 = .ok (.getfield 53, 3) := by decide +kernel
theorem dX4_signIs_16 : decode cX4_signIs 16 = .ok (.baload, 1) := by decide +kernel
theorem dX4_signIs_17 : decode cX4_signIs 17 = .ok (.iload_n 1, 1) := by decide +kernel
theorem dX4_signIs_18 : decode cX4_signIs 18 = .ok (.if_icmp .ne 7, 3) := by decide +kernel
theorem dX4_signIs_21 : decode cX4_signIs 21 = .ok (.iconst 1, 1) := by decide +kernel
theorem dX4_signIs_22 : decode cX4_signIs 22 = .ok (.goto 4, 3) := by decide +kernel
theorem dX4_signIs_25 : decode cX4_signIs 25 = .ok (.iconst 0, 1) := by decide +kernel
theorem dX4_signIs_26 : decode cX4_signIs 26 = .ok (.ireturn, 1) := by decide +kernel
theorem dX4_wordIs_0 : decode cX4_wordIs 0 = .ok (.aload_n 0, 1) := by decide +kernel
theorem dX4_wordIs_1 : decode cX4_wordIs 1 = .ok (.getfield 83, 3) := by decide +kernel
theorem dX4_wordIs_4 : decode cX4_wordIs 4 = .ok (.iconst 2, 1) := by decide +kernel
theorem dX4_wordIs_5 : decode cX4_wordIs 5 = .ok (.if_icmp .ne 19, 3) := by decide +kernel
theorem dX4_wordIs_8 : decode cX4_wordIs 8 = .ok (.aload_n 0, 1) := by decide +kernel
theorem dX4_wordIs_9 : decode cX4_wordIs 9 = .ok (.getfield 40, 3) := by decide +kernel
theorem dX4_wordIs_12 : decode cX4_wordIs 12 = .ok (.aload_n 0, 1) := by decide +kernel
theorem dX4_wordIs_13 : decode cX4_wordIs 13 = .ok (.getfield 53, 3) := by decide +kernel
theorem dX4_wordIs_16 : decode cX4_wordIs 16 = .ok (.isub, 1) := by decide +kernel
theorem dX4_wordIs_17 : decode cX4_wordIs 17 = .ok (.aload_n 1, 1) := by decide +kernel
theorem dX4_wordIs_18 : decode cX4_wordIs 18 = .ok (.invokevirtual 168, 3) := by decide +kernel
theorem dX4_wordIs_21 : decode cX4_wordIs 21 = .ok (.if_icmp .eq 5, 3) := by decide +kernel
theorem dX4_wordIs_24 : decode cX4_wordIs 24 = .ok (.iconst 0, 1) := by decide +kernel
theorem dX4_wordIs_25 : decode cX4_wordIs 25 = .ok (.ireturn, 1) := by decide +kernel
theorem dX4_wordIs_26 : decode cX4_wordIs 26 = .ok (.iconst 0, 1) := by decide +kernel
theorem dX4_wordIs_27 : decode cX4_wordIs 27 = .ok (.istore_n 2, 1) := by decide +kernel
theorem dX4_wordIs_28 : decode cX4_wordIs 28 = .ok (.iload_n 2, 1) := by decide +kernel
theorem dX4_wordIs_29 : decode cX4_wordIs 29 = .ok (.aload_n 1, 1) := by decide +kernel
theorem dX4_wordIs_30 : decode cX4_wordIs 30 = .ok (.invokevirtual 168, 3) := by decide +kernel
theorem dX4_wordIs_33 : decode cX4_wordIs 33 = .ok (.if_icmp .ge 30, 3) := by decide +kernel
theorem dX4_wordIs_36 : decode cX4_wordIs 36 = .ok (.aload_n 0, 1) := by decide +kernel
theorem dX4_wordIs_37 : decode cX4_wordIs 37 = .ok (.getfield 9, 3) := by decide +kernel
theorem dX4_wordIs_40 : decode cX4_wordIs 40 = .ok (.aload_n 0, 1) := by decide +kernel
theorem dX4_wordIs_41 : decode cX4_wordIs 41 = .ok (.getfield 53, 3) := by decide +kernel
theorem dX4_wordIs_44 : decode cX4_wordIs 44 = .ok (.iload_n 2, 1) := by decide +kernel
theorem dX4_wordIs_45 : decode cX4_wordIs 45 = .ok (.iadd, 1) := by decide +kernel
theorem dX4_wordIs_46 : decode cX4_wordIs 46 = .ok (.baload, 1) := by decide +kernel
theorem dX4_wordIs_47 : decode cX4_wordIs 47 = .ok (.aload_n 1, 1) := by decide +kernel
theorem dX4_wordIs_48 : decode cX4_wordIs 48 = .ok (.iload_n 2, 1) := by decide +kernel
theorem dX4_wordIs_49 : decode cX4_wordIs 49 = .ok (.invokevirtual 173, 3) := by decide +kernel
theorem dX4_wordIs_52 : decode cX4_wordIs 52 = .ok (.if_icmp .eq 5, 3) := by decide +kernel
theorem dX4_wordIs_55 : decode cX4_wordIs 55 = .ok (.iconst 0, 1) := by decide +kernel
theorem dX4_wordIs_56 : decode cX4_wordIs 56 = .ok (.ireturn, 1) := by decide +kernel
theorem dX4_wordIs_57 : decode cX4_wordIs 57 = .ok (.iinc 2 1, 3) := by decide +kernel
theorem dX4_wordIs_60 : decode cX4_wordIs 60 = .ok (.goto (-32), 3) := by decide +kernel
theorem dX4_wordIs_63 : decode cX4_wordIs 63 = .ok (.iconst 1, 1) := by decide +kernel
theorem dX4_wordIs_64 : decode cX4_wordIs 64 = .ok (.ireturn, 1) := by decide +kernel
theorem dX4_readToken_0 : decode cX4_readToken 0 = .ok (.aload_n 0, 1) := by decide +kernel
theorem dX4_readToken_1 : decode cX4_readToken 1 = .ok (.aload_n 0, 1) := by decide +kernel
theorem dX4_readToken_2 : decode cX4_readToken 2 = .ok (.getfield 40, 3) := by decide +kernel
theorem dX4_readToken_5 : decode cX4_readToken 5 = .ok (.putfield 53, 3) := by decide +kernel
theorem dX4_readToken_8 : decode cX4_readToken 8 = .ok (.aload_n 0, 1) := by decide +kernel
theorem dX4_readToken_9 : decode cX4_readToken 9 = .ok (.getfield 53, 3) := by decide +kernel
theorem dX4_readToken_12 : decode cX4_readToken 12 = .ok (.aload_n 0, 1) := by decide +kernel
theorem dX4_readToken_13 : decode cX4_readToken 13 = .ok (.getfield 37, 3) := by decide +kernel
theorem dX4_readToken_16 : decode cX4_readToken 16 = .ok (.if_icmp .ge 30, 3) := by decide +kernel
theorem dX4_readToken_19 : decode cX4_readToken 19 = .ok (.aload_n 0, 1) := by decide +kernel
theorem dX4_readToken_20 : decode cX4_readToken 20 = .ok (.getfield 9, 3) := by decide +kernel
theorem dX4_readToken_23 : decode cX4_readToken 23 = .ok (.aload_n 0, 1) := by decide +kernel
theorem dX4_readToken_24 : decode cX4_readToken 24 = .ok (.getfield 53, 3) := by decide +kernel
theorem dX4_readToken_27 : decode cX4_readToken 27 = .ok (.baload, 1) := by decide +kernel
theorem dX4_readToken_28 : decode cX4_readToken 28 = .ok (.bipush 32, 2) := by decide +kernel
theorem dX4_readToken_30 : decode cX4_readToken 30 = .ok (.if_icmp .ne 16, 3) := by decide +kernel
theorem dX4_readToken_33 : decode cX4_readToken 33 = .ok (.aload_n 0, 1) := by decide +kernel
theorem dX4_readToken_34 : decode cX4_readToken 34 = .ok (.dup, 1) := by decide +kernel
theorem dX4_readToken_35 : decode cX4_readToken 35 = .ok (.getfield 53, 3) := by decide +kernel
theorem dX4_readToken_38 : decode cX4_readToken 38 = .ok (.iconst 1, 1) := by decide +kernel
theorem dX4_readToken_39 : decode cX4_readToken 39 = .ok (.iadd, 1) := by decide +kernel
theorem dX4_readToken_40 : decode cX4_readToken 40 = .ok (.putfield 53, 3) := by decide +kernel
theorem dX4_readToken_43 : decode cX4_readToken 43 = .ok (.goto (-35), 3) := by decide +kernel
theorem dX4_readToken_46 : decode cX4_readToken 46 = .ok (.aload_n 0, 1) := by decide +kernel
theorem dX4_readToken_47 : decode cX4_readToken 47 = .ok (.aload_n 0, 1) := by decide +kernel
theorem dX4_readToken_48 : decode cX4_readToken 48 = .ok (.getfield 53, 3) := by decide +kernel
theorem dX4_readToken_51 : decode cX4_readToken 51 = .ok (.putfield 40, 3) := by decide +kernel
theorem dX4_readToken_54 : decode cX4_readToken 54 = .ok (.aload_n 0, 1) := by decide +kernel
theorem dX4_readToken_55 : decode cX4_readToken 55 = .ok (.getfield 53, 3) := by decide +kernel
theorem dX4_readToken_58 : decode cX4_readToken 58 = .ok (.aload_n 0, 1) := by decide +kernel
theorem dX4_readToken_59 : decode cX4_readToken 59 = .ok (.getfield 37, 3) := by decide +kernel
theorem dX4_readToken_62 : decode cX4_readToken 62 = .ok (.if_icmp .lt 11, 3) := by decide +kernel
theorem dX4_readToken_65 : decode cX4_readToken 65 = .ok (.aload_n 0, 1) := by decide +kernel
theorem dX4_readToken_66 : decode cX4_readToken 66 = .ok (.iconst 0, 1) := by decide +kernel
theorem dX4_readToken_67 : decode cX4_readToken 67 = .ok (.putfield 83, 3) := by decide +kernel
theorem dX4_readToken_70 : decode cX4_readToken 70 = .ok (.goto 136, 3) := by decide +kernel
theorem dX4_readToken_73 : decode cX4_readToken 73 = .ok (.aload_n 0, 1) := by decide +kernel
theorem dX4_readToken_74 : decode cX4_readToken 74 = .ok (.getfield 9, 3) := by decide +kernel
theorem dX4_readToken_77 : decode cX4_readToken 77 = .ok (.aload_n 0, 1) := by decide +kernel
theorem dX4_readToken_78 : decode cX4_readToken 78 = .ok (.getfield 53, 3) := by decide +kernel
theorem dX4_readToken_81 : decode cX4_readToken 81 = .ok (.baload, 1) := by decide +kernel
theorem dX4_readToken_82 : decode cX4_readToken 82 = .ok (.invokestatic 177, 3) := by decide +kernel
theorem dX4_readToken_85 : decode cX4_readToken 85 = .ok (.ifCond .eq 47, 3) := by decide +kernel
theorem dX4_readToken_88 : decode cX4_readToken 88 = .ok (.aload_n 0, 1) := by decide +kernel
theorem dX4_readToken_89 : decode cX4_readToken 89 = .ok (.iconst 1, 1) := by decide +kernel
theorem dX4_readToken_90 : decode cX4_readToken 90 = .ok (.putfield 83, 3) := by decide +kernel
theorem dX4_readToken_93 : decode cX4_readToken 93 = .ok (.aload_n 0, 1) := by decide +kernel
theorem dX4_readToken_94 : decode cX4_readToken 94 = .ok (.getfield 40, 3) := by decide +kernel
theorem dX4_readToken_97 : decode cX4_readToken 97 = .ok (.aload_n 0, 1) := by decide +kernel
theorem dX4_readToken_98 : decode cX4_readToken 98 = .ok (.getfield 37, 3) := by decide +kernel
theorem dX4_readToken_101 : decode cX4_readToken 101 = .ok (.if_icmp .ge 105, 3) := by decide +kernel
theorem dX4_readToken_104 : decode cX4_readToken 104 = .ok (.aload_n 0, 1) := by decide +kernel
theorem dX4_readToken_105 : decode cX4_readToken 105 = .ok (.getfield 9, 3) := by decide +kernel
theorem dX4_readToken_108 : decode cX4_readToken 108 = .ok (.aload_n 0, 1) := by decide +kernel
theorem dX4_readToken_109 : decode cX4_readToken 109 = .ok (.getfield 40, 3) := by decide +kernel
theorem dX4_readToken_112 : decode cX4_readToken 112 = .ok (.baload, 1) := by decide +kernel
theorem dX4_readToken_113 : decode cX4_readToken 113 = .ok (.invokestatic 177, 3) := by decide +kernel
theorem dX4_readToken_116 : decode cX4_readToken 116 = .ok (.ifCond .eq 90, 3) := by decide +kernel
theorem dX4_readToken_119 : decode cX4_readToken 119 = .ok (.aload_n 0, 1) := by decide +kernel
theorem dX4_readToken_120 : decode cX4_readToken 120 = .ok (.dup, 1) := by decide +kernel
theorem dX4_readToken_121 : decode cX4_readToken 121 = .ok (.getfield 40, 3) := by decide +kernel
theorem dX4_readToken_124 : decode cX4_readToken 124 = .ok (.iconst 1, 1) := by decide +kernel
theorem dX4_readToken_125 : decode cX4_readToken 125 = .ok (.iadd, 1) := by decide +kernel
theorem dX4_readToken_126 : decode cX4_readToken 126 = .ok (.putfield 40, 3) := by decide +kernel
theorem dX4_readToken_129 : decode cX4_readToken 129 = .ok (.goto (-36), 3) := by decide +kernel
theorem dX4_readToken_132 : decode cX4_readToken 132 = .ok (.aload_n 0, 1) := by decide +kernel
theorem dX4_readToken_133 : decode cX4_readToken 133 = .ok (.getfield 9, 3) := by decide +kernel
theorem dX4_readToken_136 : decode cX4_readToken 136 = .ok (.aload_n 0, 1) := by decide +kernel
theorem dX4_readToken_137 : decode cX4_readToken 137 = .ok (.getfield 53, 3) := by decide +kernel
theorem dX4_readToken_140 : decode cX4_readToken 140 = .ok (.baload, 1) := by decide +kernel
theorem dX4_readToken_141 : decode cX4_readToken 141 = .ok (.invokestatic 180, 3) := by decide +kernel
theorem dX4_readToken_144 : decode cX4_readToken 144 = .ok (.ifCond .eq 47, 3) := by decide +kernel
theorem dX4_readToken_147 : decode cX4_readToken 147 = .ok (.aload_n 0, 1) := by decide +kernel
theorem dX4_readToken_148 : decode cX4_readToken 148 = .ok (.iconst 2, 1) := by decide +kernel
theorem dX4_readToken_149 : decode cX4_readToken 149 = .ok (.putfield 83, 3) := by decide +kernel
theorem dX4_readToken_152 : decode cX4_readToken 152 = .ok (.aload_n 0, 1) := by decide +kernel
theorem dX4_readToken_153 : decode cX4_readToken 153 = .ok (.getfield 40, 3) := by decide +kernel
theorem dX4_readToken_156 : decode cX4_readToken 156 = .ok (.aload_n 0, 1) := by decide +kernel
theorem dX4_readToken_157 : decode cX4_readToken 157 = .ok (.getfield 37, 3) := by decide +kernel
theorem dX4_readToken_160 : decode cX4_readToken 160 = .ok (.if_icmp .ge 46, 3) := by decide +kernel
theorem dX4_readToken_163 : decode cX4_readToken 163 = .ok (.aload_n 0, 1) := by decide +kernel
theorem dX4_readToken_164 : decode cX4_readToken 164 = .ok (.getfield 9, 3) := by decide +kernel
theorem dX4_readToken_167 : decode cX4_readToken 167 = .ok (.aload_n 0, 1) := by decide +kernel
theorem dX4_readToken_168 : decode cX4_readToken 168 = .ok (.getfield 40, 3) := by decide +kernel
theorem dX4_readToken_171 : decode cX4_readToken 171 = .ok (.baload, 1) := by decide +kernel
theorem dX4_readToken_172 : decode cX4_readToken 172 = .ok (.invokestatic 180, 3) := by decide +kernel
theorem dX4_readToken_175 : decode cX4_readToken 175 = .ok (.ifCond .eq 31, 3) := by decide +kernel
theorem dX4_readToken_178 : decode cX4_readToken 178 = .ok (.aload_n 0, 1) := by decide +kernel
theorem dX4_readToken_179 : decode cX4_readToken 179 = .ok (.dup, 1) := by decide +kernel
theorem dX4_readToken_180 : decode cX4_readToken 180 = .ok (.getfield 40, 3) := by decide +kernel
theorem dX4_readToken_183 : decode cX4_readToken 183 = .ok (.iconst 1, 1) := by decide +kernel
theorem dX4_readToken_184 : decode cX4_readToken 184 = .ok (.iadd, 1) := by decide +kernel
theorem dX4_readToken_185 : decode cX4_readToken 185 = .ok (.putfield 40, 3) := by decide +kernel
theorem dX4_readToken_188 : decode cX4_readToken 188 = .ok (.goto (-36), 3) := by decide +kernel
theorem dX4_readToken_191 : decode cX4_readToken 191 = .ok (.aload_n 0, 1) := by decide +kernel
theorem dX4_readToken_192 : decode cX4_readToken 192 = .ok (.iconst 3, 1) := by decide +kernel
theorem dX4_readToken_193 : decode cX4_readToken 193 = .ok (.putfield 83, 3) := by decide +kernel
theorem dX4_readToken_196 : decode cX4_readToken 196 = .ok (.aload_n 0, 1) := by decide +kernel
theorem dX4_readToken_197 : decode cX4_readToken 197 = .ok (.dup, 1) := by decide +kernel
theorem dX4_readToken_198 : decode cX4_readToken 198 = .ok (.getfield 40, 3) := by decide +kernel
theorem dX4_readToken_201 : decode cX4_readToken 201 = .ok (.iconst 1, 1) := by decide +kernel
theorem dX4_readToken_202 : decode cX4_readToken 202 = .ok (.iadd, 1) := by decide +kernel
theorem dX4_readToken_203 : decode cX4_readToken 203 = .ok (.putfield 40, 3) := by decide +kernel
theorem dX4_readToken_206 : decode cX4_readToken 206 = .ok (.return_, 1) := by decide +kernel
theorem dX4_isDigit_0 : decode cX4_isDigit 0 = .ok (.iload_n 0, 1) := by decide +kernel
theorem dX4_isDigit_1 : decode cX4_isDigit 1 = .ok (.bipush 48, 2) := by decide +kernel
theorem dX4_isDigit_3 : decode cX4_isDigit 3 = .ok (.if_icmp .lt 13, 3) := by decide +kernel
theorem dX4_isDigit_6 : decode cX4_isDigit 6 = .ok (.iload_n 0, 1) := by decide +kernel
theorem dX4_isDigit_7 : decode cX4_isDigit 7 = .ok (.bipush 57, 2) := by decide +kernel
theorem dX4_isDigit_9 : decode cX4_isDigit 9 = .ok (.if_icmp .gt 7, 3) := by decide +kernel
theorem dX4_isDigit_12 : decode cX4_isDigit 12 = .ok (.iconst 1, 1) := by decide +kernel
theorem dX4_isDigit_13 : decode cX4_isDigit 13 = .ok (.goto 4, 3) := by decide +kernel
theorem dX4_isDigit_16 : decode cX4_isDigit 16 = .ok (.iconst 0, 1) := by decide +kernel
theorem dX4_isDigit_17 : decode cX4_isDigit 17 = .ok (.ireturn, 1) := by decide +kernel
theorem dX4_isLetter_0 : decode cX4_isLetter 0 = .ok (.iload_n 0, 1) := by decide +kernel
theorem dX4_isLetter_1 : decode cX4_isLetter 1 = .ok (.bipush 97, 2) := by decide +kernel
theorem dX4_isLetter_3 : decode cX4_isLetter 3 = .ok (.if_icmp .lt 13, 3) := by decide +kernel
theorem dX4_isLetter_6 : decode cX4_isLetter 6 = .ok (.iload_n 0, 1) := by decide +kernel
theorem dX4_isLetter_7 : decode cX4_isLetter 7 = .ok (.bipush 122, 2) := by decide +kernel
theorem dX4_isLetter_9 : decode cX4_isLetter 9 = .ok (.if_icmp .gt 7, 3) := by decide +kernel
theorem dX4_isLetter_12 : decode cX4_isLetter 12 = .ok (.iconst 1, 1) := by decide +kernel
theorem dX4_isLetter_13 : decode cX4_isLetter 13 = .ok (.goto 4, 3) := by decide +kernel
theorem dX4_isLetter_16 : decode cX4_isLetter 16 = .ok (.iconst 0, 1) := by decide +kernel
theorem dX4_isLetter_17 : decode cX4_isLetter 17 = .ok (.ireturn, 1) := by decide +kernel
theorem dX5_init_0 : decode cX5_init 0 = .ok (.aload_n 0, 1) := by decide +kernel
theorem dX5_init_1 : decode cX5_init 1 = .ok (.invokespecial 3, 3) := by decide +kernel
theorem dX5_init_4 : decode cX5_init 4 = .ok (.new 9, 3) := by decide +kernel
theorem dX5_init_7 : decode cX5_init 7 = .ok (.dup, 1) := by decide +kernel
theorem dX5_init_8 : decode cX5_init 8 = .ok (.invokespecial 11, 3) := by decide +kernel
theorem dX5_init_11 : decode cX5_init 11 = .ok (.astore_n 1, 1) := by decide +kernel
theorem dX5_init_12 : decode cX5_init 12 = .ok (.aload_n 0, 1) := by decide +kernel
theorem dX5_init_13 : decode cX5_init 13 = .ok (.new 12, 3) := by decide +kernel
theorem dX5_init_16 : decode cX5_init 16 = .ok (.dup, 1) := by decide +kernel
theorem dX5_init_17 : decode cX5_init 17 = .ok (.invokespecial 14, 3) := by decide +kernel
theorem dX5_init_20 : decode cX5_init 20 = .ok (.putfield 15, 3) := by decide +kernel
theorem dX5_init_23 : decode cX5_init 23 = .ok (.aload_n 0, 1) := by decide +kernel
theorem dX5_init_24 : decode cX5_init 24 = .ok (.new 19, 3) := by decide +kernel
theorem dX5_init_27 : decode cX5_init 27 = .ok (.dup, 1) := by decide +kernel
theorem dX5_init_28 : decode cX5_init 28 = .ok (.aload_n 1, 1) := by decide +kernel
theorem dX5_init_29 : decode cX5_init 29 = .ok (.invokespecial 21, 3) := by decide +kernel
theorem dX5_init_32 : decode cX5_init 32 = .ok (.putfield 24, 3) := by decide +kernel
theorem dX5_init_35 : decode cX5_init 35 = .ok (.aload_n 0, 1) := by decide +kernel
theorem dX5_init_36 : decode cX5_init 36 = .ok (.new 19, 3) := by decide +kernel
theorem dX5_init_39 : decode cX5_init 39 = .ok (.dup, 1) := by decide +kernel
theorem dX5_init_40 : decode cX5_init 40 = .ok (.aload_n 1, 1) := by decide +kernel
theorem dX5_init_41 : decode cX5_init 41 = .ok (.invokespecial 21, 3) := by decide +kernel
theorem dX5_init_44 : decode cX5_init 44 = .ok (.putfield 28, 3) := by decide +kernel
theorem dX5_init_47 : decode cX5_init 47 = .ok (.aload_n 0, 1) := by decide +kernel
theorem dX5_init_48 : decode cX5_init 48 = .ok (.new 31, 3) := by decide +kernel
theorem dX5_init_51 : decode cX5_init 51 = .ok (.dup, 1) := by decide +kernel
theorem dX5_init_52 : decode cX5_init 52 = .ok (.aload_n 1, 1) := by decide +kernel
theorem dX5_init_53 : decode cX5_init 53 = .ok (.invokespecial 33, 3) := by decide +kernel
theorem dX5_init_56 : decode cX5_init 56 = .ok (.putfield 34, 3) := by decide +kernel
theorem dX5_init_59 : decode cX5_init 59 = .ok (.return_, 1) := by decide +kernel
theorem dX5_append_0 : decode cX5_append 0 = .ok (.aload_n 0, 1) := by decide +kernel
theorem dX5_append_1 : decode cX5_append 1 = .ok (.getfield 15, 3) := by decide +kernel
theorem dX5_append_4 : decode cX5_append 4 = .ok (.getfield 38, 3) := by decide +kernel
theorem dX5_append_7 : decode cX5_append 7 = .ok (.bipush 20, 2) := by decide +kernel
theorem dX5_append_9 : decode cX5_append 9 = .ok (.iadd, 1) := by decide +kernel
theorem dX5_append_10 : decode cX5_append 10 = .ok (.sipush 700, 3) := by decide +kernel
theorem dX5_append_13 : decode cX5_append 13 = .ok (.if_icmp .le 5, 3) := by decide +kernel
theorem dX5_append_16 : decode cX5_append 16 = .ok (.iconst (-1), 1) := by decide +kernel
theorem dX5_append_17 : decode cX5_append 17 = .ok (.ireturn, 1) := by decide +kernel
theorem dX5_append_18 : decode cX5_append 18 = .ok (.aload_n 0, 1) := by decide +kernel
theorem dX5_append_19 : decode cX5_append 19 = .ok (.getfield 15, 3) := by decide +kernel
theorem dX5_append_22 : decode cX5_append 22 = .ok (.iload_n 1, 1) := by decide +kernel
theorem dX5_append_23 : decode cX5_append 23 = .ok (.invokevirtual 42, 3) := by decide +kernel
theorem dX5_append_26 : decode cX5_append 26 = .ok (.aload_n 0, 1) := by decide +kernel
theorem dX5_append_27 : decode cX5_append 27 = .ok (.getfield 15, 3) := by decide +kernel
theorem dX5_append_30 : decode cX5_append 30 = .ok (.iload_n 2, 1) := by decide +kernel
theorem dX5_append_31 : decode cX5_append 31 = .ok (.invokevirtual 42, 3) := by decide +kernel
theorem dX5_append_34 : decode cX5_append 34 = .ok (.aload_n 0, 1) := by decide +kernel
theorem dX5_append_35 : decode cX5_append 35 = .ok (.getfield 15, 3) := by decide +kernel
theorem dX5_append_38 : decode cX5_append 38 = .ok (.iload_n 3, 1) := by decide +kernel
theorem dX5_append_39 : decode cX5_append 39 = .ok (.invokevirtual 42, 3) := by decide +kernel
theorem dX5_append_42 : decode cX5_append 42 = .ok (.aload_n 0, 1) := by decide +kernel
theorem dX5_append_43 : decode cX5_append 43 = .ok (.getfield 15, 3) := by decide +kernel
theorem dX5_append_46 : decode cX5_append 46 = .ok (.iload 4, 2) := by decide +kernel
theorem dX5_append_48 : decode cX5_append 48 = .ok (.invokevirtual 42, 3) := by decide +kernel
theorem dX5_append_51 : decode cX5_append 51 = .ok (.aload_n 0, 1) := by decide +kernel
theorem dX5_append_52 : decode cX5_append 52 = .ok (.getfield 15, 3) := by decide +kernel
theorem dX5_append_55 : decode cX5_append 55 = .ok (.iload 5, 2) := by decide +kernel
theorem dX5_append_57 : decode cX5_append 57 = .ok (.invokevirtual 42, 3) := by decide +kernel
theorem dX5_append_60 : decode cX5_append 60 = .ok (.aload_n 0, 1) := by decide +kernel
theorem dX5_append_61 : decode cX5_append 61 = .ok (.getfield 15, 3) := by decide +kernel
theorem dX5_append_64 : decode cX5_append 64 = .ok (.getfield 38, 3) := by decide +kernel
theorem dX5_append_67 : decode cX5_append 67 = .ok (.ireturn, 1) := by decide +kernel
theorem dX5_load_0 : decode cX5_load 0 = .ok (.iload_n 1, 1) := by decide +kernel
theorem dX5_load_1 : decode cX5_load 1 = .ok (.iconst 0, 1) := by decide +kernel
theorem dX5_load_2 : decode cX5_load 2 = .ok (.aload_n 0, 1) := by decide +kernel
theorem dX5_load_3 : decode cX5_load 3 = .ok (.getfield 15, 3) := by decide +kernel
theorem dX5_load_6 : decode cX5_load 6 = .ok (.getfield 38, 3) := by decide +kernel
theorem dX5_load_9 : decode cX5_load 9 = .ok (.invokestatic 46, 3) := by decide +kernel
theorem dX5_load_12 : decode cX5_load 12 = .ok (.aload_n 0, 1) := by decide +kernel
theorem dX5_load_13 : decode cX5_load 13 = .ok (.getfield 15, 3) := by decide +kernel
theorem dX5_load_16 : decode cX5_load 16 = .ok (.iload_n 1, 1) := by decide +kernel
theorem dX5_load_17 : decode cX5_load 17 = .ok (.invokevirtual 50, 3) := by decide +kernel
theorem dX5_load_20 : decode cX5_load 20 = .ok (.aload_n 0, 1) := by decide +kernel
theorem dX5_load_21 : decode cX5_load 21 = .ok (.getfield 15, 3) := by decide +kernel
theorem dX5_load_24 : decode cX5_load 24 = .ok (.invokevirtual 53, 3) := by decide +kernel
theorem dX5_load_27 : decode cX5_load 27 = .ok (.ifCond .eq 13, 3) := by decide +kernel
theorem dX5_load_30 : decode cX5_load 30 = .ok (.aload_n 0, 1) := by decide +kernel
theorem dX5_load_31 : decode cX5_load 31 = .ok (.getfield 15, 3) := by decide +kernel
theorem dX5_load_34 : decode cX5_load 34 = .ok (.invokevirtual 57, 3) := by decide +kernel
theorem dX5_load_37 : decode cX5_load 37 = .ok (.ifCond .ne 11, 3) := by decide +kernel
theorem dX5_load_40 : decode cX5_load 40 = .ok (.aload_n 0, 1) := by decide +kernel
theorem dX5_load_41 : decode cX5_load 41 = .ok (.getfield 15, 3) := by decide +kernel
theorem dX5_load_44 : decode cX5_load 44 = .ok (.getfield 60, 3) := by decide +kernel
theorem dX5_load_47 : decode cX5_load 47 = .ok (.ireturn, 1) := by decide +kernel
theorem dX5_load_48 : decode cX5_load 48 = .ok (.aload_n 0, 1) := by decide +kernel
theorem dX5_load_49 : decode cX5_load 49 = .ok (.getfield 34, 3) := by decide +kernel
theorem dX5_load_52 : decode cX5_load 52 = .ok (.aload_n 0, 1) := by decide +kernel
theorem dX5_load_53 : decode cX5_load 53 = .ok (.getfield 24, 3) := by decide +kernel
theorem dX5_load_56 : decode cX5_load 56 = .ok (.invokevirtual 63, 3) := by decide +kernel
theorem dX5_load_59 : decode cX5_load 59 = .ok (.aload_n 0, 1) := by decide +kernel
theorem dX5_load_60 : decode cX5_load 60 = .ok (.getfield 24, 3) := by decide +kernel
theorem dX5_load_63 : decode cX5_load 63 = .ok (.aload_n 0, 1) := by decide +kernel
theorem dX5_load_64 : decode cX5_load 64 = .ok (.getfield 15, 3) := by decide +kernel
theorem dX5_load_67 : decode cX5_load 67 = .ok (.getfield 67, 3) := by decide +kernel
theorem dX5_load_70 : decode cX5_load 70 = .ok (.invokevirtual 71, 3) := by decide +kernel
theorem dX5_load_73 : decode cX5_load 73 = .ok (.aload_n 0, 1) := by decide +kernel
theorem dX5_load_74 : decode cX5_load 74 = .ok (.getfield 24, 3) := by decide +kernel
theorem dX5_load_77 : decode cX5_load 77 = .ok (.getfield 74, 3) := by decide +kernel
theorem dX5_load_80 : decode cX5_load 80 = .ok (.getfield 75, 3) := by decide +kernel
theorem dX5_load_83 : decode cX5_load 83 = .ok (.ireturn, 1) := by decide +kernel
theorem dX5_errorOffset_0 : decode cX5_errorOffset 0 = .ok (.aload_n 0, 1) := by decide +kernel
theorem dX5_errorOffset_1 : decode cX5_errorOffset 1 = .ok (.getfield 15, 3) := by decide +kernel
theorem dX5_errorOffset_4 : decode cX5_errorOffset 4 = .ok (.getfield 78, 3) := by decide +kernel
theorem dX5_errorOffset_7 : decode cX5_errorOffset 7 = .ok (.ireturn, 1) := by decide +kernel
theorem dX5_zoneCount_0 : decode cX5_zoneCount 0 = .ok (.aload_n 0, 1) := by decide +kernel
theorem dX5_zoneCount_1 : decode cX5_zoneCount 1 = .ok (.getfield 24, 3) := by decide +kernel
theorem dX5_zoneCount_4 : decode cX5_zoneCount 4 = .ok (.getfield 74, 3) := by decide +kernel
theorem dX5_zoneCount_7 : decode cX5_zoneCount 7 = .ok (.getfield 75, 3) := by decide +kernel
theorem dX5_zoneCount_10 : decode cX5_zoneCount 10 = .ok (.ireturn, 1) := by decide +kernel
theorem dX5_sheetCount_0 : decode cX5_sheetCount 0 = .ok (.aload_n 0, 1) := by decide +kernel
theorem dX5_sheetCount_1 : decode cX5_sheetCount 1 = .ok (.getfield 24, 3) := by decide +kernel
theorem dX5_sheetCount_4 : decode cX5_sheetCount 4 = .ok (.getfield 81, 3) := by decide +kernel
theorem dX5_sheetCount_7 : decode cX5_sheetCount 7 = .ok (.ireturn, 1) := by decide +kernel
theorem dX5_clock_0 : decode cX5_clock 0 = .ok (.aload_n 0, 1) := by decide +kernel
theorem dX5_clock_1 : decode cX5_clock 1 = .ok (.getfield 24, 3) := by decide +kernel
theorem dX5_clock_4 : decode cX5_clock 4 = .ok (.getfield 84, 3) := by decide +kernel
theorem dX5_clock_7 : decode cX5_clock 7 = .ok (.ireturn, 1) := by decide +kernel
theorem dX5_zone_0 : decode cX5_zone 0 = .ok (.iload_n 1, 1) := by decide +kernel
theorem dX5_zone_1 : decode cX5_zone 1 = .ok (.aload_n 0, 1) := by decide +kernel
theorem dX5_zone_2 : decode cX5_zone 2 = .ok (.getfield 24, 3) := by decide +kernel
theorem dX5_zone_5 : decode cX5_zone 5 = .ok (.getfield 74, 3) := by decide +kernel
theorem dX5_zone_8 : decode cX5_zone 8 = .ok (.getfield 75, 3) := by decide +kernel
theorem dX5_zone_11 : decode cX5_zone 11 = .ok (.invokestatic 87, 3) := by decide +kernel
theorem dX5_zone_14 : decode cX5_zone 14 = .ok (.iload_n 2, 1) := by decide +kernel
theorem dX5_zone_15 : decode cX5_zone 15 = .ok (.tableswitch 123 0 6 #[41, 51, 64, 77, 90, 103, 113], 41) := by decide +kernel
theorem dX5_zone_56 : decode cX5_zone 56 = .ok (.aload_n 0, 1) := by decide +kernel
theorem dX5_zone_57 : decode cX5_zone 57 = .ok (.getfield 24, 3) := by decide +kernel
theorem dX5_zone_60 : decode cX5_zone 60 = .ok (.getfield 91, 3) := by decide +kernel
theorem dX5_zone_63 : decode cX5_zone 63 = .ok (.iload_n 1, 1) := by decide +kernel
theorem dX5_zone_64 : decode cX5_zone 64 = .ok (.iaload, 1) := by decide +kernel
theorem dX5_zone_65 : decode cX5_zone 65 = .ok (.ireturn, 1) := by decide +kernel
theorem dX5_zone_66 : decode cX5_zone 66 = .ok (.aload_n 0, 1) := by decide +kernel
theorem dX5_zone_67 : decode cX5_zone 67 = .ok (.getfield 24, 3) := by decide +kernel
theorem dX5_zone_70 : decode cX5_zone 70 = .ok (.getfield 74, 3) := by decide +kernel
theorem dX5_zone_73 : decode cX5_zone 73 = .ok (.getfield 95, 3) := by decide +kernel
theorem dX5_zone_76 : decode cX5_zone 76 = .ok (.iload_n 1, 1) := by decide +kernel
theorem dX5_zone_77 : decode cX5_zone 77 = .ok (.iaload, 1) := by decide +kernel
theorem dX5_zone_78 : decode cX5_zone 78 = .ok (.ireturn, 1) := by decide +kernel
theorem dX5_zone_79 : decode cX5_zone 79 = .ok (.aload_n 0, 1) := by decide +kernel
theorem dX5_zone_80 : decode cX5_zone 80 = .ok (.getfield 24, 3) := by decide +kernel
theorem dX5_zone_83 : decode cX5_zone 83 = .ok (.getfield 74, 3) := by decide +kernel
theorem dX5_zone_86 : decode cX5_zone 86 = .ok (.getfield 98, 3) := by decide +kernel
theorem dX5_zone_89 : decode cX5_zone 89 = .ok (.iload_n 1, 1) := by decide +kernel
theorem dX5_zone_90 : decode cX5_zone 90 = .ok (.iaload, 1) := by decide +kernel
theorem dX5_zone_91 : decode cX5_zone 91 = .ok (.ireturn, 1) := by decide +kernel
theorem dX5_zone_92 : decode cX5_zone 92 = .ok (.aload_n 0, 1) := by decide +kernel
theorem dX5_zone_93 : decode cX5_zone 93 = .ok (.getfield 24, 3) := by decide +kernel
theorem dX5_zone_96 : decode cX5_zone 96 = .ok (.getfield 74, 3) := by decide +kernel
theorem dX5_zone_99 : decode cX5_zone 99 = .ok (.getfield 101, 3) := by decide +kernel
theorem dX5_zone_102 : decode cX5_zone 102 = .ok (.iload_n 1, 1) := by decide +kernel
theorem dX5_zone_103 : decode cX5_zone 103 = .ok (.iaload, 1) := by decide +kernel
theorem dX5_zone_104 : decode cX5_zone 104 = .ok (.ireturn, 1) := by decide +kernel
theorem dX5_zone_105 : decode cX5_zone 105 = .ok (.aload_n 0, 1) := by decide +kernel
theorem dX5_zone_106 : decode cX5_zone 106 = .ok (.getfield 24, 3) := by decide +kernel
theorem dX5_zone_109 : decode cX5_zone 109 = .ok (.getfield 74, 3) := by decide +kernel
theorem dX5_zone_112 : decode cX5_zone 112 = .ok (.getfield 104, 3) := by decide +kernel
theorem dX5_zone_115 : decode cX5_zone 115 = .ok (.iload_n 1, 1) := by decide +kernel
theorem dX5_zone_116 : decode cX5_zone 116 = .ok (.iaload, 1) := by decide +kernel
theorem dX5_zone_117 : decode cX5_zone 117 = .ok (.ireturn, 1) := by decide +kernel
theorem dX5_zone_118 : decode cX5_zone 118 = .ok (.aload_n 0, 1) := by decide +kernel
theorem dX5_zone_119 : decode cX5_zone 119 = .ok (.getfield 24, 3) := by decide +kernel
theorem dX5_zone_122 : decode cX5_zone 122 = .ok (.getfield 107, 3) := by decide +kernel
theorem dX5_zone_125 : decode cX5_zone 125 = .ok (.iload_n 1, 1) := by decide +kernel
theorem dX5_zone_126 : decode cX5_zone 126 = .ok (.iaload, 1) := by decide +kernel
theorem dX5_zone_127 : decode cX5_zone 127 = .ok (.ireturn, 1) := by decide +kernel
theorem dX5_zone_128 : decode cX5_zone 128 = .ok (.aload_n 0, 1) := by decide +kernel
theorem dX5_zone_129 : decode cX5_zone 129 = .ok (.getfield 24, 3) := by decide +kernel
theorem dX5_zone_132 : decode cX5_zone 132 = .ok (.getfield 110, 3) := by decide +kernel
theorem dX5_zone_135 : decode cX5_zone 135 = .ok (.iload_n 1, 1) := by decide +kernel
theorem dX5_zone_136 : decode cX5_zone 136 = .ok (.iaload, 1) := by decide +kernel
theorem dX5_zone_137 : decode cX5_zone 137 = .ok (.ireturn, 1) := by decide +kernel
theorem dX5_zone_138 : decode cX5_zone 138 = .ok (.new 113, 3) := by decide +kernel
theorem dX5_zone_141 : decode cX5_zone 141 = .ok (.dup, 1) := by decide +kernel
theorem dX5_zone_142 : decode cX5_zone 142 = .ok (.ldc 115, 2) := by decide +kernel
theorem dX5_zone_144 : decode cX5_zone 144 = .ok (.invokespecial 117, 3) := by decide +kernel
theorem dX5_zone_147 : decode cX5_zone 147 = .ok (.athrow, 1) := by decide +kernel
theorem dX5_thickness_0 : decode cX5_thickness 0 = .ok (.iload_n 1, 1) := by decide +kernel
theorem dX5_thickness_1 : decode cX5_thickness 1 = .ok (.aload_n 0, 1) := by decide +kernel
theorem dX5_thickness_2 : decode cX5_thickness 2 = .ok (.getfield 24, 3) := by decide +kernel
theorem dX5_thickness_5 : decode cX5_thickness 5 = .ok (.getfield 81, 3) := by decide +kernel
theorem dX5_thickness_8 : decode cX5_thickness 8 = .ok (.invokestatic 87, 3) := by decide +kernel
theorem dX5_thickness_11 : decode cX5_thickness 11 = .ok (.aload_n 0, 1) := by decide +kernel
theorem dX5_thickness_12 : decode cX5_thickness 12 = .ok (.getfield 24, 3) := by decide +kernel
theorem dX5_thickness_15 : decode cX5_thickness 15 = .ok (.getfield 120, 3) := by decide +kernel
theorem dX5_thickness_18 : decode cX5_thickness 18 = .ok (.iload_n 1, 1) := by decide +kernel
theorem dX5_thickness_19 : decode cX5_thickness 19 = .ok (.iaload, 1) := by decide +kernel
theorem dX5_thickness_20 : decode cX5_thickness 20 = .ok (.ireturn, 1) := by decide +kernel
theorem dX5_temperature_0 : decode cX5_temperature 0 = .ok (.iload_n 1, 1) := by decide +kernel
theorem dX5_temperature_1 : decode cX5_temperature 1 = .ok (.aload_n 0, 1) := by decide +kernel
theorem dX5_temperature_2 : decode cX5_temperature 2 = .ok (.getfield 24, 3) := by decide +kernel
theorem dX5_temperature_5 : decode cX5_temperature 5 = .ok (.getfield 81, 3) := by decide +kernel
theorem dX5_temperature_8 : decode cX5_temperature 8 = .ok (.invokestatic 87, 3) := by decide +kernel
theorem dX5_temperature_11 : decode cX5_temperature 11 = .ok (.aload_n 0, 1) := by decide +kernel
theorem dX5_temperature_12 : decode cX5_temperature 12 = .ok (.getfield 24, 3) := by decide +kernel
theorem dX5_temperature_15 : decode cX5_temperature 15 = .ok (.getfield 123, 3) := by decide +kernel
theorem dX5_temperature_18 : decode cX5_temperature 18 = .ok (.iload_n 1, 1) := by decide +kernel
theorem dX5_temperature_19 : decode cX5_temperature 19 = .ok (.iaload, 1) := by decide +kernel
theorem dX5_temperature_20 : decode cX5_temperature 20 = .ok (.ireturn, 1) := by decide +kernel
theorem dX5_state_0 : decode cX5_state 0 = .ok (.iload_n 1, 1) := by decide +kernel
theorem dX5_state_1 : decode cX5_state 1 = .ok (.aload_n 0, 1) := by decide +kernel
theorem dX5_state_2 : decode cX5_state 2 = .ok (.getfield 24, 3) := by decide +kernel
theorem dX5_state_5 : decode cX5_state 5 = .ok (.getfield 81, 3) := by decide +kernel
theorem dX5_state_8 : decode cX5_state 8 = .ok (.invokestatic 87, 3) := by decide +kernel
theorem dX5_state_11 : decode cX5_state 11 = .ok (.aload_n 0, 1) := by decide +kernel
theorem dX5_state_12 : decode cX5_state 12 = .ok (.getfield 24, 3) := by decide +kernel
theorem dX5_state_15 : decode cX5_state 15 = .ok (.getfield 126, 3) := by decide +kernel
theorem dX5_state_18 : decode cX5_state 18 = .ok (.iload_n 1, 1) := by decide +kernel
theorem dX5_state_19 : decode cX5_state 19 = .ok (.iaload, 1) := by decide +kernel
theorem dX5_state_20 : decode cX5_state 20 = .ok (.ireturn, 1) := by decide +kernel
theorem dX5_quenched_0 : decode cX5_quenched 0 = .ok (.aload_n 0, 1) := by decide +kernel
theorem dX5_quenched_1 : decode cX5_quenched 1 = .ok (.getfield 24, 3) := by decide +kernel
theorem dX5_quenched_4 : decode cX5_quenched 4 = .ok (.getfield 129, 3) := by decide +kernel
theorem dX5_quenched_7 : decode cX5_quenched 7 = .ok (.ireturn, 1) := by decide +kernel
theorem dX5_quenchLeft_0 : decode cX5_quenchLeft 0 = .ok (.aload_n 0, 1) := by decide +kernel
theorem dX5_quenchLeft_1 : decode cX5_quenchLeft 1 = .ok (.getfield 24, 3) := by decide +kernel
theorem dX5_quenchLeft_4 : decode cX5_quenchLeft 4 = .ok (.getfield 132, 3) := by decide +kernel
theorem dX5_quenchLeft_7 : decode cX5_quenchLeft 7 = .ok (.ireturn, 1) := by decide +kernel
theorem dX5_count_0 : decode cX5_count 0 = .ok (.iload_n 1, 1) := by decide +kernel
theorem dX5_count_1 : decode cX5_count 1 = .ok (.iconst 0, 1) := by decide +kernel
theorem dX5_count_2 : decode cX5_count 2 = .ok (.iconst 5, 1) := by decide +kernel
theorem dX5_count_3 : decode cX5_count 3 = .ok (.invokestatic 46, 3) := by decide +kernel
theorem dX5_count_6 : decode cX5_count 6 = .ok (.aload_n 0, 1) := by decide +kernel
theorem dX5_count_7 : decode cX5_count 7 = .ok (.getfield 24, 3) := by decide +kernel
theorem dX5_count_10 : decode cX5_count 10 = .ok (.iload_n 1, 1) := by decide +kernel
theorem dX5_count_11 : decode cX5_count 11 = .ok (.invokevirtual 135, 3) := by decide +kernel
theorem dX5_count_14 : decode cX5_count 14 = .ok (.ireturn, 1) := by decide +kernel
theorem dX5_learned_0 : decode cX5_learned 0 = .ok (.iload_n 1, 1) := by decide +kernel
theorem dX5_learned_1 : decode cX5_learned 1 = .ok (.iconst 2, 1) := by decide +kernel
theorem dX5_learned_2 : decode cX5_learned 2 = .ok (.bipush 19, 2) := by decide +kernel
theorem dX5_learned_4 : decode cX5_learned 4 = .ok (.invokestatic 46, 3) := by decide +kernel
theorem dX5_learned_7 : decode cX5_learned 7 = .ok (.iload_n 2, 1) := by decide +kernel
theorem dX5_learned_8 : decode cX5_learned 8 = .ok (.tableswitch 106 0 5 #[40, 50, 60, 70, 80, 93], 40) := by decide +kernel
theorem dX5_learned_48 : decode cX5_learned 48 = .ok (.aload_n 0, 1) := by decide +kernel
theorem dX5_learned_49 : decode cX5_learned 49 = .ok (.getfield 24, 3) := by decide +kernel
theorem dX5_learned_52 : decode cX5_learned 52 = .ok (.getfield 139, 3) := by decide +kernel
theorem dX5_learned_55 : decode cX5_learned 55 = .ok (.iload_n 1, 1) := by decide +kernel
theorem dX5_learned_56 : decode cX5_learned 56 = .ok (.iaload, 1) := by decide +kernel
theorem dX5_learned_57 : decode cX5_learned 57 = .ok (.ireturn, 1) := by decide +kernel
theorem dX5_learned_58 : decode cX5_learned 58 = .ok (.aload_n 0, 1) := by decide +kernel
theorem dX5_learned_59 : decode cX5_learned 59 = .ok (.getfield 24, 3) := by decide +kernel
theorem dX5_learned_62 : decode cX5_learned 62 = .ok (.getfield 142, 3) := by decide +kernel
theorem dX5_learned_65 : decode cX5_learned 65 = .ok (.iload_n 1, 1) := by decide +kernel
theorem dX5_learned_66 : decode cX5_learned 66 = .ok (.iaload, 1) := by decide +kernel
theorem dX5_learned_67 : decode cX5_learned 67 = .ok (.ireturn, 1) := by decide +kernel
theorem dX5_learned_68 : decode cX5_learned 68 = .ok (.aload_n 0, 1) := by decide +kernel
theorem dX5_learned_69 : decode cX5_learned 69 = .ok (.getfield 24, 3) := by decide +kernel
theorem dX5_learned_72 : decode cX5_learned 72 = .ok (.getfield 145, 3) := by decide +kernel
theorem dX5_learned_75 : decode cX5_learned 75 = .ok (.iload_n 1, 1) := by decide +kernel
theorem dX5_learned_76 : decode cX5_learned 76 = .ok (.iaload, 1) := by decide +kernel
theorem dX5_learned_77 : decode cX5_learned 77 = .ok (.ireturn, 1) := by decide +kernel
theorem dX5_learned_78 : decode cX5_learned 78 = .ok (.aload_n 0, 1) := by decide +kernel
theorem dX5_learned_79 : decode cX5_learned 79 = .ok (.getfield 24, 3) := by decide +kernel
theorem dX5_learned_82 : decode cX5_learned 82 = .ok (.getfield 148, 3) := by decide +kernel
theorem dX5_learned_85 : decode cX5_learned 85 = .ok (.iload_n 1, 1) := by decide +kernel
theorem dX5_learned_86 : decode cX5_learned 86 = .ok (.iaload, 1) := by decide +kernel
theorem dX5_learned_87 : decode cX5_learned 87 = .ok (.ireturn, 1) := by decide +kernel
theorem dX5_learned_88 : decode cX5_learned 88 = .ok (.aload_n 0, 1) := by decide +kernel
theorem dX5_learned_89 : decode cX5_learned 89 = .ok (.getfield 24, 3) := by decide +kernel
theorem dX5_learned_92 : decode cX5_learned 92 = .ok (.getfield 74, 3) := by decide +kernel
theorem dX5_learned_95 : decode cX5_learned 95 = .ok (.getfield 151, 3) := by decide +kernel
theorem dX5_learned_98 : decode cX5_learned 98 = .ok (.iload_n 1, 1) := by decide +kernel
theorem dX5_learned_99 : decode cX5_learned 99 = .ok (.iaload, 1) := by decide +kernel
theorem dX5_learned_100 : decode cX5_learned 100 = .ok (.ireturn, 1) := by decide +kernel
theorem dX5_learned_101 : decode cX5_learned 101 = .ok (.aload_n 0, 1) := by decide +kernel
theorem dX5_learned_102 : decode cX5_learned 102 = .ok (.getfield 24, 3) := by decide +kernel
theorem dX5_learned_105 : decode cX5_learned 105 = .ok (.getfield 74, 3) := by decide +kernel
theorem dX5_learned_108 : decode cX5_learned 108 = .ok (.getfield 154, 3) := by decide +kernel
theorem dX5_learned_111 : decode cX5_learned 111 = .ok (.iload_n 1, 1) := by decide +kernel
theorem dX5_learned_112 : decode cX5_learned 112 = .ok (.iaload, 1) := by decide +kernel
theorem dX5_learned_113 : decode cX5_learned 113 = .ok (.ireturn, 1) := by decide +kernel
theorem dX5_learned_114 : decode cX5_learned 114 = .ok (.new 113, 3) := by decide +kernel
theorem dX5_learned_117 : decode cX5_learned 117 = .ok (.dup, 1) := by decide +kernel
theorem dX5_learned_118 : decode cX5_learned 118 = .ok (.ldc 157, 2) := by decide +kernel
theorem dX5_learned_120 : decode cX5_learned 120 = .ok (.invokespecial 117, 3) := by decide +kernel
theorem dX5_learned_123 : decode cX5_learned 123 = .ok (.athrow, 1) := by decide +kernel
theorem dX5_guard_0 : decode cX5_guard 0 = .ok (.iload_n 1, 1) := by decide +kernel
theorem dX5_guard_1 : decode cX5_guard 1 = .ok (.iconst 2, 1) := by decide +kernel
theorem dX5_guard_2 : decode cX5_guard 2 = .ok (.bipush 19, 2) := by decide +kernel
theorem dX5_guard_4 : decode cX5_guard 4 = .ok (.invokestatic 46, 3) := by decide +kernel
theorem dX5_guard_7 : decode cX5_guard 7 = .ok (.aload_n 0, 1) := by decide +kernel
theorem dX5_guard_8 : decode cX5_guard 8 = .ok (.getfield 24, 3) := by decide +kernel
theorem dX5_guard_11 : decode cX5_guard 11 = .ok (.invokevirtual 167, 3) := by decide +kernel
theorem dX5_guard_14 : decode cX5_guard 14 = .ok (.ifCond .ne 5, 3) := by decide +kernel
theorem dX5_guard_17 : decode cX5_guard 17 = .ok (.iconst (-1), 1) := by decide +kernel
theorem dX5_guard_18 : decode cX5_guard 18 = .ok (.ireturn, 1) := by decide +kernel
theorem dX5_guard_19 : decode cX5_guard 19 = .ok (.aload_n 0, 1) := by decide +kernel
theorem dX5_guard_20 : decode cX5_guard 20 = .ok (.getfield 28, 3) := by decide +kernel
theorem dX5_guard_23 : decode cX5_guard 23 = .ok (.aload_n 0, 1) := by decide +kernel
theorem dX5_guard_24 : decode cX5_guard 24 = .ok (.getfield 24, 3) := by decide +kernel
theorem dX5_guard_27 : decode cX5_guard 27 = .ok (.invokevirtual 170, 3) := by decide +kernel
theorem dX5_guard_30 : decode cX5_guard 30 = .ok (.aload_n 0, 1) := by decide +kernel
theorem dX5_guard_31 : decode cX5_guard 31 = .ok (.getfield 28, 3) := by decide +kernel
theorem dX5_guard_34 : decode cX5_guard 34 = .ok (.iload_n 1, 1) := by decide +kernel
theorem dX5_guard_35 : decode cX5_guard 35 = .ok (.invokevirtual 173, 3) := by decide +kernel
theorem dX5_guard_38 : decode cX5_guard 38 = .ok (.aload_n 0, 1) := by decide +kernel
theorem dX5_guard_39 : decode cX5_guard 39 = .ok (.getfield 28, 3) := by decide +kernel
theorem dX5_guard_42 : decode cX5_guard 42 = .ok (.sipush 300, 3) := by decide +kernel
theorem dX5_guard_45 : decode cX5_guard 45 = .ok (.invokevirtual 176, 3) := by decide +kernel
theorem dX5_guard_48 : decode cX5_guard 48 = .ok (.istore_n 2, 1) := by decide +kernel
theorem dX5_guard_49 : decode cX5_guard 49 = .ok (.aload_n 0, 1) := by decide +kernel
theorem dX5_guard_50 : decode cX5_guard 50 = .ok (.getfield 28, 3) := by decide +kernel
theorem dX5_guard_53 : decode cX5_guard 53 = .ok (.iconst 3, 1) := by decide +kernel
theorem dX5_guard_54 : decode cX5_guard 54 = .ok (.invokevirtual 135, 3) := by decide +kernel
theorem dX5_guard_57 : decode cX5_guard 57 = .ok (.iconst 1, 1) := by decide +kernel
theorem dX5_guard_58 : decode cX5_guard 58 = .ok (.if_icmp .ne 7, 3) := by decide +kernel
theorem dX5_guard_61 : decode cX5_guard 61 = .ok (.iload_n 2, 1) := by decide +kernel
theorem dX5_guard_62 : decode cX5_guard 62 = .ok (.goto 4, 3) := by decide +kernel
theorem dX5_guard_65 : decode cX5_guard 65 = .ok (.iconst (-1), 1) := by decide +kernel
theorem dX5_guard_66 : decode cX5_guard 66 = .ok (.ireturn, 1) := by decide +kernel
theorem dX5_finishTime_0 : decode cX5_finishTime 0 = .ok (.iload_n 1, 1) := by decide +kernel
theorem dX5_finishTime_1 : decode cX5_finishTime 1 = .ok (.iconst 0, 1) := by decide +kernel
theorem dX5_finishTime_2 : decode cX5_finishTime 2 = .ok (.sipush 300, 3) := by decide +kernel
theorem dX5_finishTime_5 : decode cX5_finishTime 5 = .ok (.invokestatic 46, 3) := by decide +kernel
theorem dX5_finishTime_8 : decode cX5_finishTime 8 = .ok (.aload_n 0, 1) := by decide +kernel
theorem dX5_finishTime_9 : decode cX5_finishTime 9 = .ok (.getfield 28, 3) := by decide +kernel
theorem dX5_finishTime_12 : decode cX5_finishTime 12 = .ok (.aload_n 0, 1) := by decide +kernel
theorem dX5_finishTime_13 : decode cX5_finishTime 13 = .ok (.getfield 24, 3) := by decide +kernel
theorem dX5_finishTime_16 : decode cX5_finishTime 16 = .ok (.invokevirtual 170, 3) := by decide +kernel
theorem dX5_finishTime_19 : decode cX5_finishTime 19 = .ok (.aload_n 0, 1) := by decide +kernel
theorem dX5_finishTime_20 : decode cX5_finishTime 20 = .ok (.getfield 28, 3) := by decide +kernel
theorem dX5_finishTime_23 : decode cX5_finishTime 23 = .ok (.iload_n 1, 1) := by decide +kernel
theorem dX5_finishTime_24 : decode cX5_finishTime 24 = .ok (.invokevirtual 176, 3) := by decide +kernel
theorem dX5_finishTime_27 : decode cX5_finishTime 27 = .ok (.ireturn, 1) := by decide +kernel
theorem dX5_stateAfter_0 : decode cX5_stateAfter 0 = .ok (.iload_n 1, 1) := by decide +kernel
theorem dX5_stateAfter_1 : decode cX5_stateAfter 1 = .ok (.aload_n 0, 1) := by decide +kernel
theorem dX5_stateAfter_2 : decode cX5_stateAfter 2 = .ok (.getfield 24, 3) := by decide +kernel
theorem dX5_stateAfter_5 : decode cX5_stateAfter 5 = .ok (.getfield 81, 3) := by decide +kernel
theorem dX5_stateAfter_8 : decode cX5_stateAfter 8 = .ok (.invokestatic 87, 3) := by decide +kernel
theorem dX5_stateAfter_11 : decode cX5_stateAfter 11 = .ok (.iload_n 2, 1) := by decide +kernel
theorem dX5_stateAfter_12 : decode cX5_stateAfter 12 = .ok (.iconst 0, 1) := by decide +kernel
theorem dX5_stateAfter_13 : decode cX5_stateAfter 13 = .ok (.sipush 300, 3) := by decide +kernel
theorem dX5_stateAfter_16 : decode cX5_stateAfter 16 = .ok (.invokestatic 46, 3) := by decide +kernel
theorem dX5_stateAfter_19 : decode cX5_stateAfter 19 = .ok (.aload_n 0, 1) := by decide +kernel
theorem dX5_stateAfter_20 : decode cX5_stateAfter 20 = .ok (.getfield 28, 3) := by decide +kernel
theorem dX5_stateAfter_23 : decode cX5_stateAfter 23 = .ok (.aload_n 0, 1) := by decide +kernel
theorem dX5_stateAfter_24 : decode cX5_stateAfter 24 = .ok (.getfield 24, 3) := by decide +kernel
theorem dX5_stateAfter_27 : decode cX5_stateAfter 27 = .ok (.invokevirtual 170, 3) := by decide +kernel
theorem dX5_stateAfter_30 : decode cX5_stateAfter 30 = .ok (.aload_n 0, 1) := by decide +kernel
theorem dX5_stateAfter_31 : decode cX5_stateAfter 31 = .ok (.getfield 28, 3) := by decide +kernel
theorem dX5_stateAfter_34 : decode cX5_stateAfter 34 = .ok (.iload_n 2, 1) := by decide +kernel
theorem dX5_stateAfter_35 : decode cX5_stateAfter 35 = .ok (.invokevirtual 176, 3) := by decide +kernel
theorem dX5_stateAfter_38 : decode cX5_stateAfter 38 = .ok (.pop, 1) := by decide +kernel
theorem dX5_stateAfter_39 : decode cX5_stateAfter 39 = .ok (.aload_n 0, 1) := by decide +kernel
theorem dX5_stateAfter_40 : decode cX5_stateAfter 40 = .ok (.getfield 28, 3) := by decide +kernel
theorem dX5_stateAfter_43 : decode cX5_stateAfter 43 = .ok (.getfield 126, 3) := by decide +kernel
theorem dX5_stateAfter_46 : decode cX5_stateAfter 46 = .ok (.iload_n 1, 1) := by decide +kernel
theorem dX5_stateAfter_47 : decode cX5_stateAfter 47 = .ok (.iaload, 1) := by decide +kernel
theorem dX5_stateAfter_48 : decode cX5_stateAfter 48 = .ok (.ireturn, 1) := by decide +kernel
theorem dX5_bestSetpoint_0 : decode cX5_bestSetpoint 0 = .ok (.aload_n 0, 1) := by decide +kernel
theorem dX5_bestSetpoint_1 : decode cX5_bestSetpoint 1 = .ok (.getfield 24, 3) := by decide +kernel
theorem dX5_bestSetpoint_4 : decode cX5_bestSetpoint 4 = .ok (.invokevirtual 167, 3) := by decide +kernel
theorem dX5_bestSetpoint_7 : decode cX5_bestSetpoint 7 = .ok (.ifCond .ne 5, 3) := by decide +kernel
theorem dX5_bestSetpoint_10 : decode cX5_bestSetpoint 10 = .ok (.iconst (-1), 1) := by decide +kernel
theorem dX5_bestSetpoint_11 : decode cX5_bestSetpoint 11 = .ok (.ireturn, 1) := by decide +kernel
theorem dX5_bestSetpoint_12 : decode cX5_bestSetpoint 12 = .ok (.aload_n 0, 1) := by decide +kernel
theorem dX5_bestSetpoint_13 : decode cX5_bestSetpoint 13 = .ok (.getfield 24, 3) := by decide +kernel
theorem dX5_bestSetpoint_16 : decode cX5_bestSetpoint 16 = .ok (.getfield 91, 3) := by decide +kernel
theorem dX5_bestSetpoint_19 : decode cX5_bestSetpoint 19 = .ok (.aload_n 0, 1) := by decide +kernel
theorem dX5_bestSetpoint_20 : decode cX5_bestSetpoint 20 = .ok (.getfield 24, 3) := by decide +kernel
theorem dX5_bestSetpoint_23 : decode cX5_bestSetpoint 23 = .ok (.getfield 74, 3) := by decide +kernel
theorem dX5_bestSetpoint_26 : decode cX5_bestSetpoint 26 = .ok (.getfield 75, 3) := by decide +kernel
theorem dX5_bestSetpoint_29 : decode cX5_bestSetpoint 29 = .ok (.iconst 1, 1) := by decide +kernel
theorem dX5_bestSetpoint_30 : decode cX5_bestSetpoint 30 = .ok (.isub, 1) := by decide +kernel
theorem dX5_bestSetpoint_31 : decode cX5_bestSetpoint 31 = .ok (.iaload, 1) := by decide +kernel
theorem dX5_bestSetpoint_32 : decode cX5_bestSetpoint 32 = .ok (.istore_n 1, 1) := by decide +kernel
theorem dX5_bestSetpoint_33 : decode cX5_bestSetpoint 33 = .ok (.iload_n 1, 1) := by decide +kernel
theorem dX5_bestSetpoint_34 : decode cX5_bestSetpoint 34 = .ok (.istore_n 2, 1) := by decide +kernel
theorem dX5_bestSetpoint_35 : decode cX5_bestSetpoint 35 = .ok (.aload_n 0, 1) := by decide +kernel
theorem dX5_bestSetpoint_36 : decode cX5_bestSetpoint 36 = .ok (.iload_n 1, 1) := by decide +kernel
theorem dX5_bestSetpoint_37 : decode cX5_bestSetpoint 37 = .ok (.invokevirtual 179, 3) := by decide +kernel
theorem dX5_bestSetpoint_40 : decode cX5_bestSetpoint 40 = .ok (.istore_n 3, 1) := by decide +kernel
theorem dX5_bestSetpoint_41 : decode cX5_bestSetpoint 41 = .ok (.bipush 10, 2) := by decide +kernel
theorem dX5_bestSetpoint_43 : decode cX5_bestSetpoint 43 = .ok (.istore 4, 2) := by decide +kernel
theorem dX5_bestSetpoint_45 : decode cX5_bestSetpoint 45 = .ok (.iload 4, 2) := by decide +kernel
theorem dX5_bestSetpoint_47 : decode cX5_bestSetpoint 47 = .ok (.bipush 30, 2) := by decide +kernel
theorem dX5_bestSetpoint_49 : decode cX5_bestSetpoint 49 = .ok (.if_icmp .gt 66, 3) := by decide +kernel
theorem dX5_bestSetpoint_52 : decode cX5_bestSetpoint 52 = .ok (.iconst (-1), 1) := by decide +kernel
theorem dX5_bestSetpoint_53 : decode cX5_bestSetpoint 53 = .ok (.istore 5, 2) := by decide +kernel
theorem dX5_bestSetpoint_55 : decode cX5_bestSetpoint 55 = .ok (.iload 5, 2) := by decide +kernel
theorem dX5_bestSetpoint_57 : decode cX5_bestSetpoint 57 = .ok (.iconst 1, 1) := by decide +kernel
theorem dX5_bestSetpoint_58 : decode cX5_bestSetpoint 58 = .ok (.if_icmp .gt 51, 3) := by decide +kernel
theorem dX5_bestSetpoint_61 : decode cX5_bestSetpoint 61 = .ok (.iload_n 1, 1) := by decide +kernel
theorem dX5_bestSetpoint_62 : decode cX5_bestSetpoint 62 = .ok (.iload 5, 2) := by decide +kernel
theorem dX5_bestSetpoint_64 : decode cX5_bestSetpoint 64 = .ok (.iload 4, 2) := by decide +kernel
theorem dX5_bestSetpoint_66 : decode cX5_bestSetpoint 66 = .ok (.imul, 1) := by decide +kernel
theorem dX5_bestSetpoint_67 : decode cX5_bestSetpoint 67 = .ok (.iadd, 1) := by decide +kernel
theorem dX5_bestSetpoint_68 : decode cX5_bestSetpoint 68 = .ok (.istore 6, 2) := by decide +kernel
theorem dX5_bestSetpoint_70 : decode cX5_bestSetpoint 70 = .ok (.iload 6, 2) := by decide +kernel
theorem dX5_bestSetpoint_72 : decode cX5_bestSetpoint 72 = .ok (.bipush 100, 2) := by decide +kernel
theorem dX5_bestSetpoint_74 : decode cX5_bestSetpoint 74 = .ok (.sipush 900, 3) := by decide +kernel
theorem dX5_bestSetpoint_77 : decode cX5_bestSetpoint 77 = .ok (.invokestatic 182, 3) := by decide +kernel
theorem dX5_bestSetpoint_80 : decode cX5_bestSetpoint 80 = .ok (.ifCond .eq 23, 3) := by decide +kernel
theorem dX5_bestSetpoint_83 : decode cX5_bestSetpoint 83 = .ok (.aload_n 0, 1) := by decide +kernel
theorem dX5_bestSetpoint_84 : decode cX5_bestSetpoint 84 = .ok (.iload 6, 2) := by decide +kernel
theorem dX5_bestSetpoint_86 : decode cX5_bestSetpoint 86 = .ok (.invokevirtual 179, 3) := by decide +kernel
theorem dX5_bestSetpoint_89 : decode cX5_bestSetpoint 89 = .ok (.istore 7, 2) := by decide +kernel
theorem dX5_bestSetpoint_91 : decode cX5_bestSetpoint 91 = .ok (.iload 7, 2) := by decide +kernel
theorem dX5_bestSetpoint_93 : decode cX5_bestSetpoint 93 = .ok (.iload_n 3, 1) := by decide +kernel
theorem dX5_bestSetpoint_94 : decode cX5_bestSetpoint 94 = .ok (.if_icmp .le 9, 3) := by decide +kernel
theorem dX5_bestSetpoint_97 : decode cX5_bestSetpoint 97 = .ok (.iload 7, 2) := by decide +kernel
theorem dX5_bestSetpoint_99 : decode cX5_bestSetpoint 99 = .ok (.istore_n 3, 1) := by decide +kernel
theorem dX5_bestSetpoint_100 : decode cX5_bestSetpoint 100 = .ok (.iload 6, 2) := by decide +kernel
theorem dX5_bestSetpoint_102 : decode cX5_bestSetpoint 102 = .ok (.istore_n 2, 1) := by decide +kernel
theorem dX5_bestSetpoint_103 : decode cX5_bestSetpoint 103 = .ok (.iinc 5 2, 3) := by decide +kernel
theorem dX5_bestSetpoint_106 : decode cX5_bestSetpoint 106 = .ok (.goto (-51), 3) := by decide +kernel
theorem dX5_bestSetpoint_109 : decode cX5_bestSetpoint 109 = .ok (.iinc 4 10, 3) := by decide +kernel
theorem dX5_bestSetpoint_112 : decode cX5_bestSetpoint 112 = .ok (.goto (-67), 3) := by decide +kernel
theorem dX5_bestSetpoint_115 : decode cX5_bestSetpoint 115 = .ok (.iload_n 2, 1) := by decide +kernel
theorem dX5_bestSetpoint_116 : decode cX5_bestSetpoint 116 = .ok (.ireturn, 1) := by decide +kernel
theorem dX5_add_0 : decode cX5_add 0 = .ok (.iload_n 1, 1) := by decide +kernel
theorem dX5_add_1 : decode cX5_add 1 = .ok (.iconst 1, 1) := by decide +kernel
theorem dX5_add_2 : decode cX5_add 2 = .ok (.sipush 9999, 3) := by decide +kernel
theorem dX5_add_5 : decode cX5_add 5 = .ok (.invokestatic 46, 3) := by decide +kernel
theorem dX5_add_8 : decode cX5_add 8 = .ok (.iload_n 2, 1) := by decide +kernel
theorem dX5_add_9 : decode cX5_add 9 = .ok (.iconst 1, 1) := by decide +kernel
theorem dX5_add_10 : decode cX5_add 10 = .ok (.sipush 9999, 3) := by decide +kernel
theorem dX5_add_13 : decode cX5_add 13 = .ok (.invokestatic 46, 3) := by decide +kernel
theorem dX5_add_16 : decode cX5_add 16 = .ok (.iload_n 1, 1) := by decide +kernel
theorem dX5_add_17 : decode cX5_add 17 = .ok (.iload_n 2, 1) := by decide +kernel
theorem dX5_add_18 : decode cX5_add 18 = .ok (.invokestatic 159, 3) := by decide +kernel
theorem dX5_add_21 : decode cX5_add 21 = .ok (.istore_n 3, 1) := by decide +kernel
theorem dX5_add_22 : decode cX5_add 22 = .ok (.iload_n 3, 1) := by decide +kernel
theorem dX5_add_23 : decode cX5_add 23 = .ok (.iconst 2, 1) := by decide +kernel
theorem dX5_add_24 : decode cX5_add 24 = .ok (.bipush 19, 2) := by decide +kernel
theorem dX5_add_26 : decode cX5_add 26 = .ok (.invokestatic 46, 3) := by decide +kernel
theorem dX5_add_29 : decode cX5_add 29 = .ok (.aload_n 0, 1) := by decide +kernel
theorem dX5_add_30 : decode cX5_add 30 = .ok (.invokevirtual 186, 3) := by decide +kernel
theorem dX5_add_33 : decode cX5_add 33 = .ok (.aload_n 0, 1) := by decide +kernel
theorem dX5_add_34 : decode cX5_add 34 = .ok (.getfield 24, 3) := by decide +kernel
theorem dX5_add_37 : decode cX5_add 37 = .ok (.getfield 81, 3) := by decide +kernel
theorem dX5_add_40 : decode cX5_add 40 = .ok (.bipush 20, 2) := by decide +kernel
theorem dX5_add_42 : decode cX5_add 42 = .ok (.if_icmp .lt 13, 3) := by decide +kernel
theorem dX5_add_45 : decode cX5_add 45 = .ok (.new 189, 3) := by decide +kernel
theorem dX5_add_48 : decode cX5_add 48 = .ok (.dup, 1) := by decide +kernel
theorem dX5_add_49 : decode cX5_add 49 = .ok (.ldc 191, 2) := by decide +kernel
theorem dX5_add_51 : decode cX5_add 51 = .ok (.invokespecial 193, 3) := by decide +kernel
theorem dX5_add_54 : decode cX5_add 54 = .ok (.athrow, 1) := by decide +kernel
theorem dX5_add_55 : decode cX5_add 55 = .ok (.aload_n 0, 1) := by decide +kernel
theorem dX5_add_56 : decode cX5_add 56 = .ok (.getfield 34, 3) := by decide +kernel
theorem dX5_add_59 : decode cX5_add 59 = .ok (.aload_n 0, 1) := by decide +kernel
theorem dX5_add_60 : decode cX5_add 60 = .ok (.getfield 24, 3) := by decide +kernel
theorem dX5_add_63 : decode cX5_add 63 = .ok (.invokevirtual 63, 3) := by decide +kernel
theorem dX5_add_66 : decode cX5_add 66 = .ok (.aload_n 0, 1) := by decide +kernel
theorem dX5_add_67 : decode cX5_add 67 = .ok (.getfield 24, 3) := by decide +kernel
theorem dX5_add_70 : decode cX5_add 70 = .ok (.iload_n 3, 1) := by decide +kernel
theorem dX5_add_71 : decode cX5_add 71 = .ok (.invokevirtual 194, 3) := by decide +kernel
theorem dX5_add_74 : decode cX5_add 74 = .ok (.ireturn, 1) := by decide +kernel
theorem dX5_run_0 : decode cX5_run 0 = .ok (.iload_n 1, 1) := by decide +kernel
theorem dX5_run_1 : decode cX5_run 1 = .ok (.iconst 1, 1) := by decide +kernel
theorem dX5_run_2 : decode cX5_run 2 = .ok (.bipush 60, 2) := by decide +kernel
theorem dX5_run_4 : decode cX5_run 4 = .ok (.invokestatic 46, 3) := by decide +kernel
theorem dX5_run_7 : decode cX5_run 7 = .ok (.aload_n 0, 1) := by decide +kernel
theorem dX5_run_8 : decode cX5_run 8 = .ok (.invokevirtual 186, 3) := by decide +kernel
theorem dX5_run_11 : decode cX5_run 11 = .ok (.aload_n 0, 1) := by decide +kernel
theorem dX5_run_12 : decode cX5_run 12 = .ok (.getfield 24, 3) := by decide +kernel
theorem dX5_run_15 : decode cX5_run 15 = .ok (.getfield 84, 3) := by decide +kernel
theorem dX5_run_18 : decode cX5_run 18 = .ok (.iload_n 1, 1) := by decide +kernel
theorem dX5_run_19 : decode cX5_run 19 = .ok (.iadd, 1) := by decide +kernel
theorem dX5_run_20 : decode cX5_run 20 = .ok (.ldc 197, 2) := by decide +kernel
theorem dX5_run_22 : decode cX5_run 22 = .ok (.if_icmp .le 13, 3) := by decide +kernel
theorem dX5_run_25 : decode cX5_run 25 = .ok (.new 189, 3) := by decide +kernel
theorem dX5_run_28 : decode cX5_run 28 = .ok (.dup, 1) := by decide +kernel
theorem dX5_run_29 : decode cX5_run 29 = .ok (.ldc 198, 2) := by decide +kernel
theorem dX5_run_31 : decode cX5_run 31 = .ok (.invokespecial 193, 3) := by decide +kernel
theorem dX5_run_34 : decode cX5_run 34 = .ok (.athrow, 1) := by decide +kernel
theorem dX5_run_35 : decode cX5_run 35 = .ok (.aload_n 0, 1) := by decide +kernel
theorem dX5_run_36 : decode cX5_run 36 = .ok (.getfield 34, 3) := by decide +kernel
theorem dX5_run_39 : decode cX5_run 39 = .ok (.aload_n 0, 1) := by decide +kernel
theorem dX5_run_40 : decode cX5_run 40 = .ok (.getfield 24, 3) := by decide +kernel
theorem dX5_run_43 : decode cX5_run 43 = .ok (.invokevirtual 63, 3) := by decide +kernel
theorem dX5_run_46 : decode cX5_run 46 = .ok (.aload_n 0, 1) := by decide +kernel
theorem dX5_run_47 : decode cX5_run 47 = .ok (.getfield 24, 3) := by decide +kernel
theorem dX5_run_50 : decode cX5_run 50 = .ok (.iconst 3, 1) := by decide +kernel
theorem dX5_run_51 : decode cX5_run 51 = .ok (.invokevirtual 135, 3) := by decide +kernel
theorem dX5_run_54 : decode cX5_run 54 = .ok (.istore_n 2, 1) := by decide +kernel
theorem dX5_run_55 : decode cX5_run 55 = .ok (.iconst 0, 1) := by decide +kernel
theorem dX5_run_56 : decode cX5_run 56 = .ok (.istore_n 3, 1) := by decide +kernel
theorem dX5_run_57 : decode cX5_run 57 = .ok (.iload_n 3, 1) := by decide +kernel
theorem dX5_run_58 : decode cX5_run 58 = .ok (.iload_n 1, 1) := by decide +kernel
theorem dX5_run_59 : decode cX5_run 59 = .ok (.if_icmp .ge 16, 3) := by decide +kernel
theorem dX5_run_62 : decode cX5_run 62 = .ok (.aload_n 0, 1) := by decide +kernel
theorem dX5_run_63 : decode cX5_run 63 = .ok (.getfield 24, 3) := by decide +kernel
theorem dX5_run_66 : decode cX5_run 66 = .ok (.invokevirtual 200, 3) := by decide +kernel
theorem dX5_run_69 : decode cX5_run 69 = .ok (.iinc 3 1, 3) := by decide +kernel
theorem dX5_run_72 : decode cX5_run 72 = .ok (.goto (-15), 3) := by decide +kernel
theorem dX5_run_75 : decode cX5_run 75 = .ok (.aload_n 0, 1) := by decide +kernel
theorem dX5_run_76 : decode cX5_run 76 = .ok (.getfield 24, 3) := by decide +kernel
theorem dX5_run_79 : decode cX5_run 79 = .ok (.iconst 3, 1) := by decide +kernel
theorem dX5_run_80 : decode cX5_run 80 = .ok (.invokevirtual 135, 3) := by decide +kernel
theorem dX5_run_83 : decode cX5_run 83 = .ok (.iload_n 2, 1) := by decide +kernel
theorem dX5_run_84 : decode cX5_run 84 = .ok (.isub, 1) := by decide +kernel
theorem dX5_run_85 : decode cX5_run 85 = .ok (.ireturn, 1) := by decide +kernel
theorem dX5_setPoint_0 : decode cX5_setPoint 0 = .ok (.iload_n 1, 1) := by decide +kernel
theorem dX5_setPoint_1 : decode cX5_setPoint 1 = .ok (.aload_n 0, 1) := by decide +kernel
theorem dX5_setPoint_2 : decode cX5_setPoint 2 = .ok (.getfield 24, 3) := by decide +kernel
theorem dX5_setPoint_5 : decode cX5_setPoint 5 = .ok (.getfield 74, 3) := by decide +kernel
theorem dX5_setPoint_8 : decode cX5_setPoint 8 = .ok (.getfield 75, 3) := by decide +kernel
theorem dX5_setPoint_11 : decode cX5_setPoint 11 = .ok (.invokestatic 87, 3) := by decide +kernel
theorem dX5_setPoint_14 : decode cX5_setPoint 14 = .ok (.iload_n 2, 1) := by decide +kernel
theorem dX5_setPoint_15 : decode cX5_setPoint 15 = .ok (.bipush 100, 2) := by decide +kernel
theorem dX5_setPoint_17 : decode cX5_setPoint 17 = .ok (.sipush 900, 3) := by decide +kernel
theorem dX5_setPoint_20 : decode cX5_setPoint 20 = .ok (.invokestatic 46, 3) := by decide +kernel
theorem dX5_setPoint_23 : decode cX5_setPoint 23 = .ok (.aload_n 0, 1) := by decide +kernel
theorem dX5_setPoint_24 : decode cX5_setPoint 24 = .ok (.getfield 34, 3) := by decide +kernel
theorem dX5_setPoint_27 : decode cX5_setPoint 27 = .ok (.aload_n 0, 1) := by decide +kernel
theorem dX5_setPoint_28 : decode cX5_setPoint 28 = .ok (.getfield 24, 3) := by decide +kernel
theorem dX5_setPoint_31 : decode cX5_setPoint 31 = .ok (.invokevirtual 63, 3) := by decide +kernel
theorem dX5_setPoint_34 : decode cX5_setPoint 34 = .ok (.aload_n 0, 1) := by decide +kernel
theorem dX5_setPoint_35 : decode cX5_setPoint 35 = .ok (.getfield 24, 3) := by decide +kernel
theorem dX5_setPoint_38 : decode cX5_setPoint 38 = .ok (.getfield 91, 3) := by decide +kernel
theorem dX5_setPoint_41 : decode cX5_setPoint 41 = .ok (.iload_n 1, 1) := by decide +kernel
theorem dX5_setPoint_42 : decode cX5_setPoint 42 = .ok (.iaload, 1) := by decide +kernel
theorem dX5_setPoint_43 : decode cX5_setPoint 43 = .ok (.istore_n 3, 1) := by decide +kernel
theorem dX5_setPoint_44 : decode cX5_setPoint 44 = .ok (.aload_n 0, 1) := by decide +kernel
theorem dX5_setPoint_45 : decode cX5_setPoint 45 = .ok (.getfield 24, 3) := by decide +kernel
theorem dX5_setPoint_48 : decode cX5_setPoint 48 = .ok (.getfield 91, 3) := by decide +kernel
theorem dX5_setPoint_51 : decode cX5_setPoint 51 = .ok (.iload_n 1, 1) := by decide +kernel
theorem dX5_setPoint_52 : decode cX5_setPoint 52 = .ok (.iload_n 2, 1) := by decide +kernel
theorem dX5_setPoint_53 : decode cX5_setPoint 53 = .ok (.iastore, 1) := by decide +kernel
theorem dX5_setPoint_54 : decode cX5_setPoint 54 = .ok (.iload_n 3, 1) := by decide +kernel
theorem dX5_setPoint_55 : decode cX5_setPoint 55 = .ok (.ireturn, 1) := by decide +kernel
theorem dX5_setCorrection_0 : decode cX5_setCorrection 0 = .ok (.iload_n 1, 1) := by decide +kernel
theorem dX5_setCorrection_1 : decode cX5_setCorrection 1 = .ok (.iconst 2, 1) := by decide +kernel
theorem dX5_setCorrection_2 : decode cX5_setCorrection 2 = .ok (.bipush 19, 2) := by decide +kernel
theorem dX5_setCorrection_4 : decode cX5_setCorrection 4 = .ok (.invokestatic 46, 3) := by decide +kernel
theorem dX5_setCorrection_7 : decode cX5_setCorrection 7 = .ok (.iload_n 2, 1) := by decide +kernel
theorem dX5_setCorrection_8 : decode cX5_setCorrection 8 = .ok (.bipush (-50), 2) := by decide +kernel
theorem dX5_setCorrection_10 : decode cX5_setCorrection 10 = .ok (.bipush 50, 2) := by decide +kernel
theorem dX5_setCorrection_12 : decode cX5_setCorrection 12 = .ok (.invokestatic 46, 3) := by decide +kernel
theorem dX5_setCorrection_15 : decode cX5_setCorrection 15 = .ok (.aload_n 0, 1) := by decide +kernel
theorem dX5_setCorrection_16 : decode cX5_setCorrection 16 = .ok (.invokevirtual 186, 3) := by decide +kernel
theorem dX5_setCorrection_19 : decode cX5_setCorrection 19 = .ok (.aload_n 0, 1) := by decide +kernel
theorem dX5_setCorrection_20 : decode cX5_setCorrection 20 = .ok (.getfield 34, 3) := by decide +kernel
theorem dX5_setCorrection_23 : decode cX5_setCorrection 23 = .ok (.aload_n 0, 1) := by decide +kernel
theorem dX5_setCorrection_24 : decode cX5_setCorrection 24 = .ok (.getfield 24, 3) := by decide +kernel
theorem dX5_setCorrection_27 : decode cX5_setCorrection 27 = .ok (.invokevirtual 63, 3) := by decide +kernel
theorem dX5_setCorrection_30 : decode cX5_setCorrection 30 = .ok (.aload_n 0, 1) := by decide +kernel
theorem dX5_setCorrection_31 : decode cX5_setCorrection 31 = .ok (.getfield 24, 3) := by decide +kernel
theorem dX5_setCorrection_34 : decode cX5_setCorrection 34 = .ok (.getfield 148, 3) := by decide +kernel
theorem dX5_setCorrection_37 : decode cX5_setCorrection 37 = .ok (.iload_n 1, 1) := by decide +kernel
theorem dX5_setCorrection_38 : decode cX5_setCorrection 38 = .ok (.iaload, 1) := by decide +kernel
theorem dX5_setCorrection_39 : decode cX5_setCorrection 39 = .ok (.istore_n 3, 1) := by decide +kernel
theorem dX5_setCorrection_40 : decode cX5_setCorrection 40 = .ok (.aload_n 0, 1) := by decide +kernel
theorem dX5_setCorrection_41 : decode cX5_setCorrection 41 = .ok (.getfield 24, 3) := by decide +kernel
theorem dX5_setCorrection_44 : decode cX5_setCorrection 44 = .ok (.getfield 148, 3) := by decide +kernel
theorem dX5_setCorrection_47 : decode cX5_setCorrection 47 = .ok (.iload_n 1, 1) := by decide +kernel
theorem dX5_setCorrection_48 : decode cX5_setCorrection 48 = .ok (.iload_n 2, 1) := by decide +kernel
theorem dX5_setCorrection_49 : decode cX5_setCorrection 49 = .ok (.iastore, 1) := by decide +kernel
theorem dX5_setCorrection_50 : decode cX5_setCorrection 50 = .ok (.iload_n 3, 1) := by decide +kernel
theorem dX5_setCorrection_51 : decode cX5_setCorrection 51 = .ok (.ireturn, 1) := by decide +kernel
theorem dX5_scrap_0 : decode cX5_scrap 0 = .ok (.iload_n 1, 1) := by decide +kernel
theorem dX5_scrap_1 : decode cX5_scrap 1 = .ok (.aload_n 0, 1) := by decide +kernel
theorem dX5_scrap_2 : decode cX5_scrap 2 = .ok (.getfield 24, 3) := by decide +kernel
theorem dX5_scrap_5 : decode cX5_scrap 5 = .ok (.getfield 81, 3) := by decide +kernel
theorem dX5_scrap_8 : decode cX5_scrap 8 = .ok (.invokestatic 87, 3) := by decide +kernel
theorem dX5_scrap_11 : decode cX5_scrap 11 = .ok (.aload_n 0, 1) := by decide +kernel
theorem dX5_scrap_12 : decode cX5_scrap 12 = .ok (.getfield 24, 3) := by decide +kernel
theorem dX5_scrap_15 : decode cX5_scrap 15 = .ok (.getfield 126, 3) := by decide +kernel
theorem dX5_scrap_18 : decode cX5_scrap 18 = .ok (.iload_n 1, 1) := by decide +kernel
theorem dX5_scrap_19 : decode cX5_scrap 19 = .ok (.iaload, 1) := by decide +kernel
theorem dX5_scrap_20 : decode cX5_scrap 20 = .ok (.istore_n 2, 1) := by decide +kernel
theorem dX5_scrap_21 : decode cX5_scrap 21 = .ok (.iload_n 2, 1) := by decide +kernel
theorem dX5_scrap_22 : decode cX5_scrap 22 = .ok (.ifCond .eq 18, 3) := by decide +kernel
theorem dX5_scrap_25 : decode cX5_scrap 25 = .ok (.iload_n 2, 1) := by decide +kernel
theorem dX5_scrap_26 : decode cX5_scrap 26 = .ok (.iconst 1, 1) := by decide +kernel
theorem dX5_scrap_27 : decode cX5_scrap 27 = .ok (.if_icmp .eq 13, 3) := by decide +kernel
theorem dX5_scrap_30 : decode cX5_scrap 30 = .ok (.new 189, 3) := by decide +kernel
theorem dX5_scrap_33 : decode cX5_scrap 33 = .ok (.dup, 1) := by decide +kernel
theorem dX5_scrap_34 : decode cX5_scrap 34 = .ok (.ldc 203, 2) := by decide +kernel
theorem dX5_scrap_36 : decode cX5_scrap 36 = .ok (.invokespecial 193, 3) := by decide +kernel
theorem dX5_scrap_39 : decode cX5_scrap 39 = .ok (.athrow, 1) := by decide +kernel
theorem dX5_scrap_40 : decode cX5_scrap 40 = .ok (.aload_n 0, 1) := by decide +kernel
theorem dX5_scrap_41 : decode cX5_scrap 41 = .ok (.getfield 34, 3) := by decide +kernel
theorem dX5_scrap_44 : decode cX5_scrap 44 = .ok (.aload_n 0, 1) := by decide +kernel
theorem dX5_scrap_45 : decode cX5_scrap 45 = .ok (.getfield 24, 3) := by decide +kernel
theorem dX5_scrap_48 : decode cX5_scrap 48 = .ok (.invokevirtual 63, 3) := by decide +kernel
theorem dX5_scrap_51 : decode cX5_scrap 51 = .ok (.aload_n 0, 1) := by decide +kernel
theorem dX5_scrap_52 : decode cX5_scrap 52 = .ok (.getfield 24, 3) := by decide +kernel
theorem dX5_scrap_55 : decode cX5_scrap 55 = .ok (.iload_n 1, 1) := by decide +kernel
theorem dX5_scrap_56 : decode cX5_scrap 56 = .ok (.invokevirtual 205, 3) := by decide +kernel
theorem dX5_scrap_59 : decode cX5_scrap 59 = .ok (.iload_n 2, 1) := by decide +kernel
theorem dX5_scrap_60 : decode cX5_scrap 60 = .ok (.ireturn, 1) := by decide +kernel
theorem dX5_undo_0 : decode cX5_undo 0 = .ok (.aload_n 0, 1) := by decide +kernel
theorem dX5_undo_1 : decode cX5_undo 1 = .ok (.getfield 34, 3) := by decide +kernel
theorem dX5_undo_4 : decode cX5_undo 4 = .ok (.aload_n 0, 1) := by decide +kernel
theorem dX5_undo_5 : decode cX5_undo 5 = .ok (.getfield 24, 3) := by decide +kernel
theorem dX5_undo_8 : decode cX5_undo 8 = .ok (.invokevirtual 208, 3) := by decide +kernel
theorem dX5_undo_11 : decode cX5_undo 11 = .ok (.ireturn, 1) := by decide +kernel
theorem dX5_checksum_0 : decode cX5_checksum 0 = .ok (.aload_n 0, 1) := by decide +kernel
theorem dX5_checksum_1 : decode cX5_checksum 1 = .ok (.getfield 24, 3) := by decide +kernel
theorem dX5_checksum_4 : decode cX5_checksum 4 = .ok (.invokevirtual 212, 3) := by decide +kernel
theorem dX5_checksum_7 : decode cX5_checksum 7 = .ok (.lreturn, 1) := by decide +kernel
theorem dX5_doneWith_0 : decode cX5_doneWith 0 = .ok (.aload_n 0, 1) := by decide +kernel
theorem dX5_doneWith_1 : decode cX5_doneWith 1 = .ok (.getfield 28, 3) := by decide +kernel
theorem dX5_doneWith_4 : decode cX5_doneWith 4 = .ok (.aload_n 0, 1) := by decide +kernel
theorem dX5_doneWith_5 : decode cX5_doneWith 5 = .ok (.getfield 24, 3) := by decide +kernel
theorem dX5_doneWith_8 : decode cX5_doneWith 8 = .ok (.invokevirtual 170, 3) := by decide +kernel
theorem dX5_doneWith_11 : decode cX5_doneWith 11 = .ok (.aload_n 0, 1) := by decide +kernel
theorem dX5_doneWith_12 : decode cX5_doneWith 12 = .ok (.getfield 28, 3) := by decide +kernel
theorem dX5_doneWith_15 : decode cX5_doneWith 15 = .ok (.invokevirtual 167, 3) := by decide +kernel
theorem dX5_doneWith_18 : decode cX5_doneWith 18 = .ok (.ifCond .eq 24, 3) := by decide +kernel
theorem dX5_doneWith_21 : decode cX5_doneWith 21 = .ok (.aload_n 0, 1) := by decide +kernel
theorem dX5_doneWith_22 : decode cX5_doneWith 22 = .ok (.getfield 28, 3) := by decide +kernel
theorem dX5_doneWith_25 : decode cX5_doneWith 25 = .ok (.getfield 91, 3) := by decide +kernel
theorem dX5_doneWith_28 : decode cX5_doneWith 28 = .ok (.aload_n 0, 1) := by decide +kernel
theorem dX5_doneWith_29 : decode cX5_doneWith 29 = .ok (.getfield 28, 3) := by decide +kernel
theorem dX5_doneWith_32 : decode cX5_doneWith 32 = .ok (.getfield 74, 3) := by decide +kernel
theorem dX5_doneWith_35 : decode cX5_doneWith 35 = .ok (.getfield 75, 3) := by decide +kernel
theorem dX5_doneWith_38 : decode cX5_doneWith 38 = .ok (.iconst 1, 1) := by decide +kernel
theorem dX5_doneWith_39 : decode cX5_doneWith 39 = .ok (.isub, 1) := by decide +kernel
theorem dX5_doneWith_40 : decode cX5_doneWith 40 = .ok (.iload_n 1, 1) := by decide +kernel
theorem dX5_doneWith_41 : decode cX5_doneWith 41 = .ok (.iastore, 1) := by decide +kernel
theorem dX5_doneWith_42 : decode cX5_doneWith 42 = .ok (.aload_n 0, 1) := by decide +kernel
theorem dX5_doneWith_43 : decode cX5_doneWith 43 = .ok (.getfield 28, 3) := by decide +kernel
theorem dX5_doneWith_46 : decode cX5_doneWith 46 = .ok (.sipush 200, 3) := by decide +kernel
theorem dX5_doneWith_49 : decode cX5_doneWith 49 = .ok (.invokevirtual 176, 3) := by decide +kernel
theorem dX5_doneWith_52 : decode cX5_doneWith 52 = .ok (.pop, 1) := by decide +kernel
theorem dX5_doneWith_53 : decode cX5_doneWith 53 = .ok (.aload_n 0, 1) := by decide +kernel
theorem dX5_doneWith_54 : decode cX5_doneWith 54 = .ok (.getfield 28, 3) := by decide +kernel
theorem dX5_doneWith_57 : decode cX5_doneWith 57 = .ok (.iconst 3, 1) := by decide +kernel
theorem dX5_doneWith_58 : decode cX5_doneWith 58 = .ok (.invokevirtual 135, 3) := by decide +kernel
theorem dX5_doneWith_61 : decode cX5_doneWith 61 = .ok (.ireturn, 1) := by decide +kernel
theorem dX5_requireLine_0 : decode cX5_requireLine 0 = .ok (.aload_n 0, 1) := by decide +kernel
theorem dX5_requireLine_1 : decode cX5_requireLine 1 = .ok (.getfield 24, 3) := by decide +kernel
theorem dX5_requireLine_4 : decode cX5_requireLine 4 = .ok (.invokevirtual 167, 3) := by decide +kernel
theorem dX5_requireLine_7 : decode cX5_requireLine 7 = .ok (.ifCond .ne 13, 3) := by decide +kernel
theorem dX5_requireLine_10 : decode cX5_requireLine 10 = .ok (.new 189, 3) := by decide +kernel
theorem dX5_requireLine_13 : decode cX5_requireLine 13 = .ok (.dup, 1) := by decide +kernel
theorem dX5_requireLine_14 : decode cX5_requireLine 14 = .ok (.ldc 216, 2) := by decide +kernel
theorem dX5_requireLine_16 : decode cX5_requireLine 16 = .ok (.invokespecial 193, 3) := by decide +kernel
theorem dX5_requireLine_19 : decode cX5_requireLine 19 = .ok (.athrow, 1) := by decide +kernel
theorem dX5_requireLine_20 : decode cX5_requireLine 20 = .ok (.return_, 1) := by decide +kernel
theorem dX5_requireArgument_0 : decode cX5_requireArgument 0 = .ok (.iload_n 0, 1) := by decide +kernel
theorem dX5_requireArgument_1 : decode cX5_requireArgument 1 = .ok (.iload_n 1, 1) := by decide +kernel
theorem dX5_requireArgument_2 : decode cX5_requireArgument 2 = .ok (.iload_n 2, 1) := by decide +kernel
theorem dX5_requireArgument_3 : decode cX5_requireArgument 3 = .ok (.invokestatic 182, 3) := by decide +kernel
theorem dX5_requireArgument_6 : decode cX5_requireArgument 6 = .ok (.ifCond .ne 13, 3) := by decide +kernel
theorem dX5_requireArgument_9 : decode cX5_requireArgument 9 = .ok (.new 113, 3) := by decide +kernel
theorem dX5_requireArgument_12 : decode cX5_requireArgument 12 = .ok (.dup, 1) := by decide +kernel
theorem dX5_requireArgument_13 : decode cX5_requireArgument 13 = .ok (.ldc 218, 2) := by decide +kernel
theorem dX5_requireArgument_15 : decode cX5_requireArgument 15 = .ok (.invokespecial 117, 3) := by decide +kernel
theorem dX5_requireArgument_18 : decode cX5_requireArgument 18 = .ok (.athrow, 1) := by decide +kernel
theorem dX5_requireArgument_19 : decode cX5_requireArgument 19 = .ok (.return_, 1) := by decide +kernel
theorem dX5_requireIndex_0 : decode cX5_requireIndex 0 = .ok (.iload_n 0, 1) := by decide +kernel
theorem dX5_requireIndex_1 : decode cX5_requireIndex 1 = .ok (.ifCond .lt 8, 3) := by decide +kernel
theorem dX5_requireIndex_4 : decode cX5_requireIndex 4 = .ok (.iload_n 0, 1) := by decide +kernel
theorem dX5_requireIndex_5 : decode cX5_requireIndex 5 = .ok (.iload_n 1, 1) := by decide +kernel
theorem dX5_requireIndex_6 : decode cX5_requireIndex 6 = .ok (.if_icmp .lt 13, 3) := by decide +kernel
theorem dX5_requireIndex_9 : decode cX5_requireIndex 9 = .ok (.new 220, 3) := by decide +kernel
theorem dX5_requireIndex_12 : decode cX5_requireIndex 12 = .ok (.dup, 1) := by decide +kernel
theorem dX5_requireIndex_13 : decode cX5_requireIndex 13 = .ok (.ldc 222, 2) := by decide +kernel
theorem dX5_requireIndex_15 : decode cX5_requireIndex 15 = .ok (.invokespecial 224, 3) := by decide +kernel
theorem dX5_requireIndex_18 : decode cX5_requireIndex 18 = .ok (.athrow, 1) := by decide +kernel
theorem dX5_requireIndex_19 : decode cX5_requireIndex 19 = .ok (.return_, 1) := by decide +kernel
theorem dX5_isWithin_0 : decode cX5_isWithin 0 = .ok (.iload_n 0, 1) := by decide +kernel
theorem dX5_isWithin_1 : decode cX5_isWithin 1 = .ok (.iload_n 1, 1) := by decide +kernel
theorem dX5_isWithin_2 : decode cX5_isWithin 2 = .ok (.if_icmp .lt 12, 3) := by decide +kernel
theorem dX5_isWithin_5 : decode cX5_isWithin 5 = .ok (.iload_n 0, 1) := by decide +kernel
theorem dX5_isWithin_6 : decode cX5_isWithin 6 = .ok (.iload_n 2, 1) := by decide +kernel
theorem dX5_isWithin_7 : decode cX5_isWithin 7 = .ok (.if_icmp .gt 7, 3) := by decide +kernel
theorem dX5_isWithin_10 : decode cX5_isWithin 10 = .ok (.iconst 1, 1) := by decide +kernel
theorem dX5_isWithin_11 : decode cX5_isWithin 11 = .ok (.goto 4, 3) := by decide +kernel
theorem dX5_isWithin_14 : decode cX5_isWithin 14 = .ok (.iconst 0, 1) := by decide +kernel
theorem dX5_isWithin_15 : decode cX5_isWithin 15 = .ok (.ireturn, 1) := by decide +kernel
theorem dX5_isThickness_0 : decode cX5_isThickness 0 = .ok (.iload_n 0, 1) := by decide +kernel
theorem dX5_isThickness_1 : decode cX5_isThickness 1 = .ok (.iconst 2, 1) := by decide +kernel
theorem dX5_isThickness_2 : decode cX5_isThickness 2 = .ok (.bipush 19, 2) := by decide +kernel
theorem dX5_isThickness_4 : decode cX5_isThickness 4 = .ok (.invokestatic 182, 3) := by decide +kernel
theorem dX5_isThickness_7 : decode cX5_isThickness 7 = .ok (.ireturn, 1) := by decide +kernel
theorem dX5_limit_0 : decode cX5_limit 0 = .ok (.iload_n 0, 1) := by decide +kernel
theorem dX5_limit_1 : decode cX5_limit 1 = .ok (.iload_n 1, 1) := by decide +kernel
theorem dX5_limit_2 : decode cX5_limit 2 = .ok (.if_icmp .ge 7, 3) := by decide +kernel
theorem dX5_limit_5 : decode cX5_limit 5 = .ok (.iload_n 1, 1) := by decide +kernel
theorem dX5_limit_6 : decode cX5_limit 6 = .ok (.goto 13, 3) := by decide +kernel
theorem dX5_limit_9 : decode cX5_limit 9 = .ok (.iload_n 0, 1) := by decide +kernel
theorem dX5_limit_10 : decode cX5_limit 10 = .ok (.iload_n 2, 1) := by decide +kernel
theorem dX5_limit_11 : decode cX5_limit 11 = .ok (.if_icmp .le 7, 3) := by decide +kernel
theorem dX5_limit_14 : decode cX5_limit 14 = .ok (.iload_n 2, 1) := by decide +kernel
theorem dX5_limit_15 : decode cX5_limit 15 = .ok (.goto 4, 3) := by decide +kernel
theorem dX5_limit_18 : decode cX5_limit 18 = .ok (.iload_n 0, 1) := by decide +kernel
theorem dX5_limit_19 : decode cX5_limit 19 = .ok (.ireturn, 1) := by decide +kernel
theorem dX5_thicknessOf_0 : decode cX5_thicknessOf 0 = .ok (.iload_n 1, 1) := by decide +kernel
theorem dX5_thicknessOf_1 : decode cX5_thicknessOf 1 = .ok (.ifCond .le 16, 3) := by decide +kernel
theorem dX5_thicknessOf_4 : decode cX5_thicknessOf 4 = .ok (.bipush 40, 2) := by decide +kernel
theorem dX5_thicknessOf_6 : decode cX5_thicknessOf 6 = .ok (.iload_n 0, 1) := by decide +kernel
theorem dX5_thicknessOf_7 : decode cX5_thicknessOf 7 = .ok (.imul, 1) := by decide +kernel
theorem dX5_thicknessOf_8 : decode cX5_thicknessOf 8 = .ok (.iload_n 1, 1) := by decide +kernel
theorem dX5_thicknessOf_9 : decode cX5_thicknessOf 9 = .ok (.iconst 2, 1) := by decide +kernel
theorem dX5_thicknessOf_10 : decode cX5_thicknessOf 10 = .ok (.idiv, 1) := by decide +kernel
theorem dX5_thicknessOf_11 : decode cX5_thicknessOf 11 = .ok (.iadd, 1) := by decide +kernel
theorem dX5_thicknessOf_12 : decode cX5_thicknessOf 12 = .ok (.iload_n 1, 1) := by decide +kernel
theorem dX5_thicknessOf_13 : decode cX5_thicknessOf 13 = .ok (.idiv, 1) := by decide +kernel
theorem dX5_thicknessOf_14 : decode cX5_thicknessOf 14 = .ok (.goto 4, 3) := by decide +kernel
theorem dX5_thicknessOf_17 : decode cX5_thicknessOf 17 = .ok (.iconst 0, 1) := by decide +kernel
theorem dX5_thicknessOf_18 : decode cX5_thicknessOf 18 = .ok (.ireturn, 1) := by decide +kernel
theorem dX6_init_0 : decode cX6_init 0 = .ok (.aload_n 0, 1) := by decide +kernel
theorem dX6_init_1 : decode cX6_init 1 = .ok (.invokespecial 1, 3) := by decide +kernel
theorem dX6_init_4 : decode cX6_init 4 = .ok (.aload_n 0, 1) := by decide +kernel
theorem dX6_init_5 : decode cX6_init 5 = .ok (.iconst 0, 1) := by decide +kernel
theorem dX6_init_6 : decode cX6_init 6 = .ok (.anewarray 7, 3) := by decide +kernel
theorem dX6_init_9 : decode cX6_init 9 = .ok (.putfield 9, 3) := by decide +kernel
theorem dX6_init_12 : decode cX6_init 12 = .ok (.aload_n 0, 1) := by decide +kernel
theorem dX6_init_13 : decode cX6_init 13 = .ok (.iconst 0, 1) := by decide +kernel
theorem dX6_init_14 : decode cX6_init 14 = .ok (.newarray .int, 2) := by decide +kernel
theorem dX6_init_16 : decode cX6_init 16 = .ok (.putfield 15, 3) := by decide +kernel
theorem dX6_init_19 : decode cX6_init 19 = .ok (.aload_n 0, 1) := by decide +kernel
theorem dX6_init_20 : decode cX6_init 20 = .ok (.iconst 0, 1) := by decide +kernel
theorem dX6_init_21 : decode cX6_init 21 = .ok (.anewarray 18, 3) := by decide +kernel
theorem dX6_init_24 : decode cX6_init 24 = .ok (.putfield 20, 3) := by decide +kernel
theorem dX6_init_27 : decode cX6_init 27 = .ok (.aload_n 0, 1) := by decide +kernel
theorem dX6_init_28 : decode cX6_init 28 = .ok (.bipush 20, 2) := by decide +kernel
theorem dX6_init_30 : decode cX6_init 30 = .ok (.anewarray 7, 3) := by decide +kernel
theorem dX6_init_33 : decode cX6_init 33 = .ok (.putfield 24, 3) := by decide +kernel
theorem dX6_init_36 : decode cX6_init 36 = .ok (.aload_n 0, 1) := by decide +kernel
theorem dX6_init_37 : decode cX6_init 37 = .ok (.bipush 20, 2) := by decide +kernel
theorem dX6_init_39 : decode cX6_init 39 = .ok (.iconst 4, 1) := by decide +kernel
theorem dX6_init_40 : decode cX6_init 40 = .ok (.multianewarray 27 2, 4) := by decide +kernel
theorem dX6_init_44 : decode cX6_init 44 = .ok (.putfield 28, 3) := by decide +kernel
theorem dX6_init_47 : decode cX6_init 47 = .ok (.return_, 1) := by decide +kernel
theorem dX6_copy_0 : decode cX6_copy 0 = .ok (.new 10, 3) := by decide +kernel
theorem dX6_copy_3 : decode cX6_copy 3 = .ok (.dup, 1) := by decide +kernel
theorem dX6_copy_4 : decode cX6_copy 4 = .ok (.invokespecial 31, 3) := by decide +kernel
theorem dX6_copy_7 : decode cX6_copy 7 = .ok (.astore_n 1, 1) := by decide +kernel
theorem dX6_copy_8 : decode cX6_copy 8 = .ok (.aload_n 1, 1) := by decide +kernel
theorem dX6_copy_9 : decode cX6_copy 9 = .ok (.aload_n 0, 1) := by decide +kernel
theorem dX6_copy_10 : decode cX6_copy 10 = .ok (.getfield 32, 3) := by decide +kernel
theorem dX6_copy_13 : decode cX6_copy 13 = .ok (.putfield 32, 3) := by decide +kernel
theorem dX6_copy_16 : decode cX6_copy 16 = .ok (.aload_n 1, 1) := by decide +kernel
theorem dX6_copy_17 : decode cX6_copy 17 = .ok (.aload_n 0, 1) := by decide +kernel
theorem dX6_copy_18 : decode cX6_copy 18 = .ok (.getfield 36, 3) := by decide +kernel
theorem dX6_copy_21 : decode cX6_copy 21 = .ok (.putfield 36, 3) := by decide +kernel
theorem dX6_copy_24 : decode cX6_copy 24 = .ok (.aload_n 1, 1) := by decide +kernel
theorem dX6_copy_25 : decode cX6_copy 25 = .ok (.aload_n 0, 1) := by decide +kernel
theorem dX6_copy_26 : decode cX6_copy 26 = .ok (.getfield 39, 3) := by decide +kernel
theorem dX6_copy_29 : decode cX6_copy 29 = .ok (.putfield 39, 3) := by decide +kernel
theorem dX6_copy_32 : decode cX6_copy 32 = .ok (.aload_n 1, 1) := by decide +kernel
theorem dX6_copy_33 : decode cX6_copy 33 = .ok (.aload_n 0, 1) := by decide +kernel
theorem dX6_copy_34 : decode cX6_copy 34 = .ok (.getfield 42, 3) := by decide +kernel
theorem dX6_copy_37 : decode cX6_copy 37 = .ok (.putfield 42, 3) := by decide +kernel
theorem dX6_copy_40 : decode cX6_copy 40 = .ok (.aload_n 1, 1) := by decide +kernel
theorem dX6_copy_41 : decode cX6_copy 41 = .ok (.aload_n 0, 1) := by decide +kernel
theorem dX6_copy_42 : decode cX6_copy 42 = .ok (.getfield 45, 3) := by decide +kernel
theorem dX6_copy_45 : decode cX6_copy 45 = .ok (.putfield 45, 3) := by decide +kernel
theorem dX6_copy_48 : decode cX6_copy 48 = .ok (.aload_n 1, 1) := by decide +kernel
theorem dX6_copy_49 : decode cX6_copy 49 = .ok (.aload_n 0, 1) := by decide +kernel
theorem dX6_copy_50 : decode cX6_copy 50 = .ok (.getfield 9, 3) := by decide +kernel
theorem dX6_copy_53 : decode cX6_copy 53 = .ok (.arraylength, 1) := by decide +kernel
theorem dX6_copy_54 : decode cX6_copy 54 = .ok (.anewarray 7, 3) := by decide +kernel
theorem dX6_copy_57 : decode cX6_copy 57 = .ok (.putfield 9, 3) := by decide +kernel
theorem dX6_copy_60 : decode cX6_copy 60 = .ok (.iconst 0, 1) := by decide +kernel
theorem dX6_copy_61 : decode cX6_copy 61 = .ok (.istore_n 2, 1) := by decide +kernel
theorem dX6_copy_62 : decode cX6_copy 62 = .ok (.iload_n 2, 1) := by decide +kernel
theorem dX6_copy_63 : decode cX6_copy 63 = .ok (.aload_n 0, 1) := by decide +kernel
theorem dX6_copy_64 : decode cX6_copy 64 = .ok (.getfield 9, 3) := by decide +kernel
theorem dX6_copy_67 : decode cX6_copy 67 = .ok (.arraylength, 1) := by decide +kernel
theorem dX6_copy_68 : decode cX6_copy 68 = .ok (.if_icmp .ge 27, 3) := by decide +kernel
theorem dX6_copy_71 : decode cX6_copy 71 = .ok (.aload_n 1, 1) := by decide +kernel
theorem dX6_copy_72 : decode cX6_copy 72 = .ok (.getfield 9, 3) := by decide +kernel
theorem dX6_copy_75 : decode cX6_copy 75 = .ok (.iload_n 2, 1) := by decide +kernel
theorem dX6_copy_76 : decode cX6_copy 76 = .ok (.aload_n 0, 1) := by decide +kernel
theorem dX6_copy_77 : decode cX6_copy 77 = .ok (.getfield 9, 3) := by decide +kernel
theorem dX6_copy_80 : decode cX6_copy 80 = .ok (.iload_n 2, 1) := by decide +kernel
theorem dX6_copy_81 : decode cX6_copy 81 = .ok (.aaload, 1) := by decide +kernel
theorem dX6_copy_82 : decode cX6_copy 82 = .ok (.invokevirtual 49, 3) := by decide +kernel
theorem dX6_copy_85 : decode cX6_copy 85 = .ok (.checkcast 7, 3) := by decide +kernel
theorem dX6_copy_88 : decode cX6_copy 88 = .ok (.aastore, 1) := by decide +kernel
theorem dX6_copy_89 : decode cX6_copy 89 = .ok (.iinc 2 1, 3) := by decide +kernel
theorem dX6_copy_92 : decode cX6_copy 92 = .ok (.goto (-30), 3) := by decide +kernel
theorem dX6_copy_95 : decode cX6_copy 95 = .ok (.aload_n 1, 1) := by decide +kernel
theorem dX6_copy_96 : decode cX6_copy 96 = .ok (.aload_n 0, 1) := by decide +kernel
theorem dX6_copy_97 : decode cX6_copy 97 = .ok (.getfield 15, 3) := by decide +kernel
theorem dX6_copy_100 : decode cX6_copy 100 = .ok (.invokevirtual 49, 3) := by decide +kernel
theorem dX6_copy_103 : decode cX6_copy 103 = .ok (.checkcast 7, 3) := by decide +kernel
theorem dX6_copy_106 : decode cX6_copy 106 = .ok (.putfield 15, 3) := by decide +kernel
theorem dX6_copy_109 : decode cX6_copy 109 = .ok (.aload_n 1, 1) := by decide +kernel
theorem dX6_copy_110 : decode cX6_copy 110 = .ok (.aload_n 0, 1) := by decide +kernel
theorem dX6_copy_111 : decode cX6_copy 111 = .ok (.getfield 20, 3) := by decide +kernel
theorem dX6_copy_114 : decode cX6_copy 114 = .ok (.arraylength, 1) := by decide +kernel
theorem dX6_copy_115 : decode cX6_copy 115 = .ok (.anewarray 18, 3) := by decide +kernel
theorem dX6_copy_118 : decode cX6_copy 118 = .ok (.putfield 20, 3) := by decide +kernel
theorem dX6_copy_121 : decode cX6_copy 121 = .ok (.iconst 0, 1) := by decide +kernel
theorem dX6_copy_122 : decode cX6_copy 122 = .ok (.istore_n 2, 1) := by decide +kernel
theorem dX6_copy_123 : decode cX6_copy 123 = .ok (.iload_n 2, 1) := by decide +kernel
theorem dX6_copy_124 : decode cX6_copy 124 = .ok (.aload_n 0, 1) := by decide +kernel
theorem dX6_copy_125 : decode cX6_copy 125 = .ok (.getfield 20, 3) := by decide +kernel
theorem dX6_copy_128 : decode cX6_copy 128 = .ok (.arraylength, 1) := by decide +kernel
theorem dX6_copy_129 : decode cX6_copy 129 = .ok (.if_icmp .ge 24, 3) := by decide +kernel
theorem dX6_copy_132 : decode cX6_copy 132 = .ok (.aload_n 1, 1) := by decide +kernel
theorem dX6_copy_133 : decode cX6_copy 133 = .ok (.getfield 20, 3) := by decide +kernel
theorem dX6_copy_136 : decode cX6_copy 136 = .ok (.iload_n 2, 1) := by decide +kernel
theorem dX6_copy_137 : decode cX6_copy 137 = .ok (.aload_n 0, 1) := by decide +kernel
theorem dX6_copy_138 : decode cX6_copy 138 = .ok (.getfield 20, 3) := by decide +kernel
theorem dX6_copy_141 : decode cX6_copy 141 = .ok (.iload_n 2, 1) := by decide +kernel
theorem dX6_copy_142 : decode cX6_copy 142 = .ok (.aaload, 1) := by decide +kernel
theorem dX6_copy_143 : decode cX6_copy 143 = .ok (.invokevirtual 53, 3) := by decide +kernel
theorem dX6_copy_146 : decode cX6_copy 146 = .ok (.aastore, 1) := by decide +kernel
theorem dX6_copy_147 : decode cX6_copy 147 = .ok (.iinc 2 1, 3) := by decide +kernel
theorem dX6_copy_150 : decode cX6_copy 150 = .ok (.goto (-27), 3) := by decide +kernel
theorem dX6_copy_153 : decode cX6_copy 153 = .ok (.aload_n 1, 1) := by decide +kernel
theorem dX6_copy_154 : decode cX6_copy 154 = .ok (.aload_n 0, 1) := by decide +kernel
theorem dX6_copy_155 : decode cX6_copy 155 = .ok (.getfield 24, 3) := by decide +kernel
theorem dX6_copy_158 : decode cX6_copy 158 = .ok (.putfield 24, 3) := by decide +kernel
theorem dX6_copy_161 : decode cX6_copy 161 = .ok (.iconst 0, 1) := by decide +kernel
theorem dX6_copy_162 : decode cX6_copy 162 = .ok (.istore_n 2, 1) := by decide +kernel
theorem dX6_copy_163 : decode cX6_copy 163 = .ok (.iload_n 2, 1) := by decide +kernel
theorem dX6_copy_164 : decode cX6_copy 164 = .ok (.bipush 20, 2) := by decide +kernel
theorem dX6_copy_166 : decode cX6_copy 166 = .ok (.if_icmp .ge 27, 3) := by decide +kernel
theorem dX6_copy_169 : decode cX6_copy 169 = .ok (.aload_n 1, 1) := by decide +kernel
theorem dX6_copy_170 : decode cX6_copy 170 = .ok (.getfield 28, 3) := by decide +kernel
theorem dX6_copy_173 : decode cX6_copy 173 = .ok (.iload_n 2, 1) := by decide +kernel
theorem dX6_copy_174 : decode cX6_copy 174 = .ok (.aload_n 0, 1) := by decide +kernel
theorem dX6_copy_175 : decode cX6_copy 175 = .ok (.getfield 28, 3) := by decide +kernel
theorem dX6_copy_178 : decode cX6_copy 178 = .ok (.iload_n 2, 1) := by decide +kernel
theorem dX6_copy_179 : decode cX6_copy 179 = .ok (.aaload, 1) := by decide +kernel
theorem dX6_copy_180 : decode cX6_copy 180 = .ok (.invokevirtual 49, 3) := by decide +kernel
theorem dX6_copy_183 : decode cX6_copy 183 = .ok (.checkcast 7, 3) := by decide +kernel
theorem dX6_copy_186 : decode cX6_copy 186 = .ok (.aastore, 1) := by decide +kernel
theorem dX6_copy_187 : decode cX6_copy 187 = .ok (.iinc 2 1, 3) := by decide +kernel
theorem dX6_copy_190 : decode cX6_copy 190 = .ok (.goto (-27), 3) := by decide +kernel
theorem dX6_copy_193 : decode cX6_copy 193 = .ok (.aload_n 1, 1) := by decide +kernel
theorem dX6_copy_194 : decode cX6_copy 194 = .ok (.areturn, 1) := by decide +kernel
theorem dX6_at_0 : decode cX6_at 0 = .ok (.iconst 0, 1) := by decide +kernel
theorem dX6_at_1 : decode cX6_at 1 = .ok (.istore_n 2, 1) := by decide +kernel
theorem dX6_at_2 : decode cX6_at 2 = .ok (.iload_n 2, 1) := by decide +kernel
theorem dX6_at_3 : decode cX6_at 3 = .ok (.aload_n 0, 1) := by decide +kernel
theorem dX6_at_4 : decode cX6_at 4 = .ok (.getfield 20, 3) := by decide +kernel
theorem dX6_at_7 : decode cX6_at 7 = .ok (.arraylength, 1) := by decide +kernel
theorem dX6_at_8 : decode cX6_at 8 = .ok (.if_icmp .ge 24, 3) := by decide +kernel
theorem dX6_at_11 : decode cX6_at 11 = .ok (.aload_n 0, 1) := by decide +kernel
theorem dX6_at_12 : decode cX6_at 12 = .ok (.getfield 20, 3) := by decide +kernel
theorem dX6_at_15 : decode cX6_at 15 = .ok (.iload_n 2, 1) := by decide +kernel
theorem dX6_at_16 : decode cX6_at 16 = .ok (.aaload, 1) := by decide +kernel
theorem dX6_at_17 : decode cX6_at 17 = .ok (.getfield 57, 3) := by decide +kernel
theorem dX6_at_20 : decode cX6_at 20 = .ok (.iload_n 1, 1) := by decide +kernel
theorem dX6_at_21 : decode cX6_at 21 = .ok (.if_icmp .ne 5, 3) := by decide +kernel
theorem dX6_at_24 : decode cX6_at 24 = .ok (.iload_n 2, 1) := by decide +kernel
theorem dX6_at_25 : decode cX6_at 25 = .ok (.ireturn, 1) := by decide +kernel
theorem dX6_at_26 : decode cX6_at 26 = .ok (.iinc 2 1, 3) := by decide +kernel
theorem dX6_at_29 : decode cX6_at 29 = .ok (.goto (-27), 3) := by decide +kernel
theorem dX6_at_32 : decode cX6_at 32 = .ok (.iconst (-1), 1) := by decide +kernel
theorem dX6_at_33 : decode cX6_at 33 = .ok (.ireturn, 1) := by decide +kernel
theorem dX6_share_0 : decode cX6_share 0 = .ok (.aload_n 0, 1) := by decide +kernel
theorem dX6_share_1 : decode cX6_share 1 = .ok (.getfield 45, 3) := by decide +kernel
theorem dX6_share_4 : decode cX6_share 4 = .ok (.ifnonnull 11, 3) := by decide +kernel
theorem dX6_share_7 : decode cX6_share 7 = .ok (.sipush 400, 3) := by decide +kernel
theorem dX6_share_10 : decode cX6_share 10 = .ok (.iload_n 1, 1) := by decide +kernel
theorem dX6_share_11 : decode cX6_share 11 = .ok (.idiv, 1) := by decide +kernel
theorem dX6_share_12 : decode cX6_share 12 = .ok (.goto 39, 3) := by decide +kernel
theorem dX6_share_15 : decode cX6_share 15 = .ok (.lconst 0, 1) := by decide +kernel
theorem dX6_share_16 : decode cX6_share 16 = .ok (.ldc2_w 60, 3) := by decide +kernel
theorem dX6_share_19 : decode cX6_share 19 = .ok (.aload_n 0, 1) := by decide +kernel
theorem dX6_share_20 : decode cX6_share 20 = .ok (.getfield 45, 3) := by decide +kernel
theorem dX6_share_23 : decode cX6_share 23 = .ok (.iconst 3, 1) := by decide +kernel
theorem dX6_share_24 : decode cX6_share 24 = .ok (.newarray .long, 2) := by decide +kernel
theorem dX6_share_26 : decode cX6_share 26 = .ok (.dup, 1) := by decide +kernel
theorem dX6_share_27 : decode cX6_share 27 = .ok (.iconst 0, 1) := by decide +kernel
theorem dX6_share_28 : decode cX6_share 28 = .ok (.iload_n 1, 1) := by decide +kernel
theorem dX6_share_29 : decode cX6_share 29 = .ok (.i2l, 1) := by decide +kernel
theorem dX6_share_30 : decode cX6_share 30 = .ok (.lastore, 1) := by decide +kernel
theorem dX6_share_31 : decode cX6_share 31 = .ok (.dup, 1) := by decide +kernel
theorem dX6_share_32 : decode cX6_share 32 = .ok (.iconst 1, 1) := by decide +kernel
theorem dX6_share_33 : decode cX6_share 33 = .ok (.iload_n 2, 1) := by decide +kernel
theorem dX6_share_34 : decode cX6_share 34 = .ok (.i2l, 1) := by decide +kernel
theorem dX6_share_35 : decode cX6_share 35 = .ok (.lastore, 1) := by decide +kernel
theorem dX6_share_36 : decode cX6_share 36 = .ok (.dup, 1) := by decide +kernel
theorem dX6_share_37 : decode cX6_share 37 = .ok (.iconst 2, 1) := by decide +kernel
theorem dX6_share_38 : decode cX6_share 38 = .ok (.iload_n 3, 1) := by decide +kernel
theorem dX6_share_39 : decode cX6_share 39 = .ok (.i2l, 1) := by decide +kernel
theorem dX6_share_40 : decode cX6_share 40 = .ok (.lastore, 1) := by decide +kernel
theorem dX6_share_41 : decode cX6_share 41 = .ok (.invokevirtual 62, 3) := by decide +kernel
theorem dX6_share_44 : decode cX6_share 44 = .ok (.invokestatic 68, 3) := by decide +kernel
theorem dX6_share_47 : decode cX6_share 47 = .ok (.invokestatic 74, 3) := by decide +kernel
theorem dX6_share_50 : decode cX6_share 50 = .ok (.l2i, 1) := by decide +kernel
theorem dX6_share_51 : decode cX6_share 51 = .ok (.ireturn, 1) := by decide +kernel
theorem dX6_out_0 : decode cX6_out 0 = .ok (.aload_n 1, 1) := by decide +kernel
theorem dX6_out_1 : decode cX6_out 1 = .ok (.bipush (-2), 2) := by decide +kernel
theorem dX6_out_3 : decode cX6_out 3 = .ok (.putfield 57, 3) := by decide +kernel
theorem dX6_out_6 : decode cX6_out 6 = .ok (.aload_n 1, 1) := by decide +kernel
theorem dX6_out_7 : decode cX6_out 7 = .ok (.iload_n 2, 1) := by decide +kernel
theorem dX6_out_8 : decode cX6_out 8 = .ok (.putfield 77, 3) := by decide +kernel
theorem dX6_out_11 : decode cX6_out 11 = .ok (.return_, 1) := by decide +kernel
theorem dX6_cool_0 : decode cX6_cool 0 = .ok (.aload_n 0, 1) := by decide +kernel
theorem dX6_cool_1 : decode cX6_cool 1 = .ok (.iconst (-1), 1) := by decide +kernel
theorem dX6_cool_2 : decode cX6_cool 2 = .ok (.invokevirtual 80, 3) := by decide +kernel
theorem dX6_cool_5 : decode cX6_cool 5 = .ok (.ifCond .ge 4, 3) := by decide +kernel
theorem dX6_cool_8 : decode cX6_cool 8 = .ok (.return_, 1) := by decide +kernel
theorem dX6_cool_9 : decode cX6_cool 9 = .ok (.aload_n 0, 1) := by decide +kernel
theorem dX6_cool_10 : decode cX6_cool 10 = .ok (.dup, 1) := by decide +kernel
theorem dX6_cool_11 : decode cX6_cool 11 = .ok (.getfield 42, 3) := by decide +kernel
theorem dX6_cool_14 : decode cX6_cool 14 = .ok (.iconst 1, 1) := by decide +kernel
theorem dX6_cool_15 : decode cX6_cool 15 = .ok (.isub, 1) := by decide +kernel
theorem dX6_cool_16 : decode cX6_cool 16 = .ok (.putfield 42, 3) := by decide +kernel
theorem dX6_cool_19 : decode cX6_cool 19 = .ok (.aload_n 0, 1) := by decide +kernel
theorem dX6_cool_20 : decode cX6_cool 20 = .ok (.getfield 42, 3) := by decide +kernel
theorem dX6_cool_23 : decode cX6_cool 23 = .ok (.ifCond .le 4, 3) := by decide +kernel
theorem dX6_cool_26 : decode cX6_cool 26 = .ok (.return_, 1) := by decide +kernel
theorem dX6_cool_27 : decode cX6_cool 27 = .ok (.aload_n 0, 1) := by decide +kernel
theorem dX6_cool_28 : decode cX6_cool 28 = .ok (.getfield 20, 3) := by decide +kernel
theorem dX6_cool_31 : decode cX6_cool 31 = .ok (.aload_n 0, 1) := by decide +kernel
theorem dX6_cool_32 : decode cX6_cool 32 = .ok (.iconst (-1), 1) := by decide +kernel
theorem dX6_cool_33 : decode cX6_cool 33 = .ok (.invokevirtual 80, 3) := by decide +kernel
theorem dX6_cool_36 : decode cX6_cool 36 = .ok (.aaload, 1) := by decide +kernel
theorem dX6_cool_37 : decode cX6_cool 37 = .ok (.astore_n 1, 1) := by decide +kernel
theorem dX6_cool_38 : decode cX6_cool 38 = .ok (.aload_n 0, 1) := by decide +kernel
theorem dX6_cool_39 : decode cX6_cool 39 = .ok (.getfield 24, 3) := by decide +kernel
theorem dX6_cool_42 : decode cX6_cool 42 = .ok (.aload_n 1, 1) := by decide +kernel
theorem dX6_cool_43 : decode cX6_cool 43 = .ok (.getfield 84, 3) := by decide +kernel
theorem dX6_cool_46 : decode cX6_cool 46 = .ok (.aaload, 1) := by decide +kernel
theorem dX6_cool_47 : decode cX6_cool 47 = .ok (.astore_n 2, 1) := by decide +kernel
theorem dX6_cool_48 : decode cX6_cool 48 = .ok (.aload_n 0, 1) := by decide +kernel
theorem dX6_cool_49 : decode cX6_cool 49 = .ok (.getfield 28, 3) := by decide +kernel
theorem dX6_cool_52 : decode cX6_cool 52 = .ok (.aload_n 1, 1) := by decide +kernel
theorem dX6_cool_53 : decode cX6_cool 53 = .ok (.getfield 84, 3) := by decide +kernel
theorem dX6_cool_56 : decode cX6_cool 56 = .ok (.aaload, 1) := by decide +kernel
theorem dX6_cool_57 : decode cX6_cool 57 = .ok (.astore_n 3, 1) := by decide +kernel
theorem dX6_cool_58 : decode cX6_cool 58 = .ok (.aload_n 2, 1) := by decide +kernel
theorem dX6_cool_59 : decode cX6_cool 59 = .ok (.ifnonnull 7, 3) := by decide +kernel
theorem dX6_cool_62 : decode cX6_cool 62 = .ok (.iconst 0, 1) := by decide +kernel
theorem dX6_cool_63 : decode cX6_cool 63 = .ok (.goto 32, 3) := by decide +kernel
theorem dX6_cool_66 : decode cX6_cool 66 = .ok (.aload_n 1, 1) := by decide +kernel
theorem dX6_cool_67 : decode cX6_cool 67 = .ok (.getfield 87, 3) := by decide +kernel
theorem dX6_cool_70 : decode cX6_cool 70 = .ok (.aload_n 2, 1) := by decide +kernel
theorem dX6_cool_71 : decode cX6_cool 71 = .ok (.iconst 0, 1) := by decide +kernel
theorem dX6_cool_72 : decode cX6_cool 72 = .ok (.iaload, 1) := by decide +kernel
theorem dX6_cool_73 : decode cX6_cool 73 = .ok (.if_icmp .ge 7, 3) := by decide +kernel
theorem dX6_cool_76 : decode cX6_cool 76 = .ok (.iconst 1, 1) := by decide +kernel
theorem dX6_cool_77 : decode cX6_cool 77 = .ok (.goto 18, 3) := by decide +kernel
theorem dX6_cool_80 : decode cX6_cool 80 = .ok (.aload_n 1, 1) := by decide +kernel
theorem dX6_cool_81 : decode cX6_cool 81 = .ok (.getfield 87, 3) := by decide +kernel
theorem dX6_cool_84 : decode cX6_cool 84 = .ok (.aload_n 2, 1) := by decide +kernel
theorem dX6_cool_85 : decode cX6_cool 85 = .ok (.iconst 1, 1) := by decide +kernel
theorem dX6_cool_86 : decode cX6_cool 86 = .ok (.iaload, 1) := by decide +kernel
theorem dX6_cool_87 : decode cX6_cool 87 = .ok (.if_icmp .le 7, 3) := by decide +kernel
theorem dX6_cool_90 : decode cX6_cool 90 = .ok (.iconst 2, 1) := by decide +kernel
theorem dX6_cool_91 : decode cX6_cool 91 = .ok (.goto 4, 3) := by decide +kernel
theorem dX6_cool_94 : decode cX6_cool 94 = .ok (.iconst 0, 1) := by decide +kernel
theorem dX6_cool_95 : decode cX6_cool 95 = .ok (.istore 4, 2) := by decide +kernel
theorem dX6_cool_97 : decode cX6_cool 97 = .ok (.aload_n 0, 1) := by decide +kernel
theorem dX6_cool_98 : decode cX6_cool 98 = .ok (.aload_n 1, 1) := by decide +kernel
theorem dX6_cool_99 : decode cX6_cool 99 = .ok (.iload 4, 2) := by decide +kernel
theorem dX6_cool_101 : decode cX6_cool 101 = .ok (.ifCond .ne 7, 3) := by decide +kernel
theorem dX6_cool_104 : decode cX6_cool 104 = .ok (.iconst 3, 1) := by decide +kernel
theorem dX6_cool_105 : decode cX6_cool 105 = .ok (.goto 4, 3) := by decide +kernel
theorem dX6_cool_108 : decode cX6_cool 108 = .ok (.iconst 4, 1) := by decide +kernel
theorem dX6_cool_109 : decode cX6_cool 109 = .ok (.invokevirtual 90, 3) := by decide +kernel
theorem dX6_cool_112 : decode cX6_cool 112 = .ok (.aload_n 3, 1) := by decide +kernel
theorem dX6_cool_113 : decode cX6_cool 113 = .ok (.iload 4, 2) := by decide +kernel
theorem dX6_cool_115 : decode cX6_cool 115 = .ok (.dup2, 1) := by decide +kernel
theorem dX6_cool_116 : decode cX6_cool 116 = .ok (.iaload, 1) := by decide +kernel
theorem dX6_cool_117 : decode cX6_cool 117 = .ok (.iconst 1, 1) := by decide +kernel
theorem dX6_cool_118 : decode cX6_cool 118 = .ok (.iadd, 1) := by decide +kernel
theorem dX6_cool_119 : decode cX6_cool 119 = .ok (.iastore, 1) := by decide +kernel
theorem dX6_cool_120 : decode cX6_cool 120 = .ok (.iload 4, 2) := by decide +kernel
theorem dX6_cool_122 : decode cX6_cool 122 = .ok (.iconst 1, 1) := by decide +kernel
theorem dX6_cool_123 : decode cX6_cool 123 = .ok (.if_icmp .ne 19, 3) := by decide +kernel
theorem dX6_cool_126 : decode cX6_cool 126 = .ok (.aload_n 3, 1) := by decide +kernel
theorem dX6_cool_127 : decode cX6_cool 127 = .ok (.iconst 3, 1) := by decide +kernel
theorem dX6_cool_128 : decode cX6_cool 128 = .ok (.bipush 50, 2) := by decide +kernel
theorem dX6_cool_130 : decode cX6_cool 130 = .ok (.aload_n 3, 1) := by decide +kernel
theorem dX6_cool_131 : decode cX6_cool 131 = .ok (.iconst 3, 1) := by decide +kernel
theorem dX6_cool_132 : decode cX6_cool 132 = .ok (.iaload, 1) := by decide +kernel
theorem dX6_cool_133 : decode cX6_cool 133 = .ok (.aload_n 0, 1) := by decide +kernel
theorem dX6_cool_134 : decode cX6_cool 134 = .ok (.getfield 39, 3) := by decide +kernel
theorem dX6_cool_137 : decode cX6_cool 137 = .ok (.iadd, 1) := by decide +kernel
theorem dX6_cool_138 : decode cX6_cool 138 = .ok (.invokestatic 94, 3) := by decide +kernel
theorem dX6_cool_141 : decode cX6_cool 141 = .ok (.iastore, 1) := by decide +kernel
theorem dX6_cool_142 : decode cX6_cool 142 = .ok (.iload 4, 2) := by decide +kernel
theorem dX6_cool_144 : decode cX6_cool 144 = .ok (.iconst 2, 1) := by decide +kernel
theorem dX6_cool_145 : decode cX6_cool 145 = .ok (.if_icmp .ne 19, 3) := by decide +kernel
theorem dX6_cool_148 : decode cX6_cool 148 = .ok (.aload_n 3, 1) := by decide +kernel
theorem dX6_cool_149 : decode cX6_cool 149 = .ok (.iconst 3, 1) := by decide +kernel
theorem dX6_cool_150 : decode cX6_cool 150 = .ok (.bipush (-50), 2) := by decide +kernel
theorem dX6_cool_152 : decode cX6_cool 152 = .ok (.aload_n 3, 1) := by decide +kernel
theorem dX6_cool_153 : decode cX6_cool 153 = .ok (.iconst 3, 1) := by decide +kernel
theorem dX6_cool_154 : decode cX6_cool 154 = .ok (.iaload, 1) := by decide +kernel
theorem dX6_cool_155 : decode cX6_cool 155 = .ok (.aload_n 0, 1) := by decide +kernel
theorem dX6_cool_156 : decode cX6_cool 156 = .ok (.getfield 39, 3) := by decide +kernel
theorem dX6_cool_159 : decode cX6_cool 159 = .ok (.isub, 1) := by decide +kernel
theorem dX6_cool_160 : decode cX6_cool 160 = .ok (.invokestatic 97, 3) := by decide +kernel
theorem dX6_cool_163 : decode cX6_cool 163 = .ok (.iastore, 1) := by decide +kernel
theorem dX6_cool_164 : decode cX6_cool 164 = .ok (.return_, 1) := by decide +kernel
theorem dX6_step_0 : decode cX6_step 0 = .ok (.aload_n 0, 1) := by decide +kernel
theorem dX6_step_1 : decode cX6_step 1 = .ok (.iload_n 1, 1) := by decide +kernel
theorem dX6_step_2 : decode cX6_step 2 = .ok (.invokevirtual 80, 3) := by decide +kernel
theorem dX6_step_5 : decode cX6_step 5 = .ok (.ifCond .ge 4, 3) := by decide +kernel
theorem dX6_step_8 : decode cX6_step 8 = .ok (.return_, 1) := by decide +kernel
theorem dX6_step_9 : decode cX6_step 9 = .ok (.aload_n 0, 1) := by decide +kernel
theorem dX6_step_10 : decode cX6_step 10 = .ok (.getfield 20, 3) := by decide +kernel
theorem dX6_step_13 : decode cX6_step 13 = .ok (.aload_n 0, 1) := by decide +kernel
theorem dX6_step_14 : decode cX6_step 14 = .ok (.iload_n 1, 1) := by decide +kernel
theorem dX6_step_15 : decode cX6_step 15 = .ok (.invokevirtual 80, 3) := by decide +kernel
theorem dX6_step_18 : decode cX6_step 18 = .ok (.aaload, 1) := by decide +kernel
theorem dX6_step_19 : decode cX6_step 19 = .ok (.astore_n 2, 1) := by decide +kernel
theorem dX6_step_20 : decode cX6_step 20 = .ok (.iload_n 1, 1) := by decide +kernel
theorem dX6_step_21 : decode cX6_step 21 = .ok (.aload_n 0, 1) := by decide +kernel
theorem dX6_step_22 : decode cX6_step 22 = .ok (.getfield 9, 3) := by decide +kernel
theorem dX6_step_25 : decode cX6_step 25 = .ok (.arraylength, 1) := by decide +kernel
theorem dX6_step_26 : decode cX6_step 26 = .ok (.iconst 1, 1) := by decide +kernel
theorem dX6_step_27 : decode cX6_step 27 = .ok (.isub, 1) := by decide +kernel
theorem dX6_step_28 : decode cX6_step 28 = .ok (.if_icmp .ne 17, 3) := by decide +kernel
theorem dX6_step_31 : decode cX6_step 31 = .ok (.aload_n 0, 1) := by decide +kernel
theorem dX6_step_32 : decode cX6_step 32 = .ok (.getfield 28, 3) := by decide +kernel
theorem dX6_step_35 : decode cX6_step 35 = .ok (.aload_n 2, 1) := by decide +kernel
theorem dX6_step_36 : decode cX6_step 36 = .ok (.getfield 84, 3) := by decide +kernel
theorem dX6_step_39 : decode cX6_step 39 = .ok (.aaload, 1) := by decide +kernel
theorem dX6_step_40 : decode cX6_step 40 = .ok (.iconst 3, 1) := by decide +kernel
theorem dX6_step_41 : decode cX6_step 41 = .ok (.iaload, 1) := by decide +kernel
theorem dX6_step_42 : decode cX6_step 42 = .ok (.goto 4, 3) := by decide +kernel
theorem dX6_step_45 : decode cX6_step 45 = .ok (.iconst 0, 1) := by decide +kernel
theorem dX6_step_46 : decode cX6_step 46 = .ok (.istore_n 3, 1) := by decide +kernel
theorem dX6_step_47 : decode cX6_step 47 = .ok (.iload_n 1, 1) := by decide +kernel
theorem dX6_step_48 : decode cX6_step 48 = .ok (.aload_n 0, 1) := by decide +kernel
theorem dX6_step_49 : decode cX6_step 49 = .ok (.getfield 9, 3) := by decide +kernel
theorem dX6_step_52 : decode cX6_step 52 = .ok (.arraylength, 1) := by decide +kernel
theorem dX6_step_53 : decode cX6_step 53 = .ok (.iconst 1, 1) := by decide +kernel
theorem dX6_step_54 : decode cX6_step 54 = .ok (.isub, 1) := by decide +kernel
theorem dX6_step_55 : decode cX6_step 55 = .ok (.if_icmp .ne 7, 3) := by decide +kernel
theorem dX6_step_58 : decode cX6_step 58 = .ok (.iconst (-1), 1) := by decide +kernel
theorem dX6_step_59 : decode cX6_step 59 = .ok (.goto 6, 3) := by decide +kernel
theorem dX6_step_62 : decode cX6_step 62 = .ok (.iload_n 1, 1) := by decide +kernel
theorem dX6_step_63 : decode cX6_step 63 = .ok (.iconst 1, 1) := by decide +kernel
theorem dX6_step_64 : decode cX6_step 64 = .ok (.iadd, 1) := by decide +kernel
theorem dX6_step_65 : decode cX6_step 65 = .ok (.istore 4, 2) := by decide +kernel
theorem dX6_step_67 : decode cX6_step 67 = .ok (.aload_n 2, 1) := by decide +kernel
theorem dX6_step_68 : decode cX6_step 68 = .ok (.getfield 87, 3) := by decide +kernel
theorem dX6_step_71 : decode cX6_step 71 = .ok (.aload_n 0, 1) := by decide +kernel
theorem dX6_step_72 : decode cX6_step 72 = .ok (.getfield 9, 3) := by decide +kernel
theorem dX6_step_75 : decode cX6_step 75 = .ok (.iload_n 1, 1) := by decide +kernel
theorem dX6_step_76 : decode cX6_step 76 = .ok (.aaload, 1) := by decide +kernel
theorem dX6_step_77 : decode cX6_step 77 = .ok (.iconst 4, 1) := by decide +kernel
theorem dX6_step_78 : decode cX6_step 78 = .ok (.iaload, 1) := by decide +kernel
theorem dX6_step_79 : decode cX6_step 79 = .ok (.iload_n 3, 1) := by decide +kernel
theorem dX6_step_80 : decode cX6_step 80 = .ok (.iadd, 1) := by decide +kernel
theorem dX6_step_81 : decode cX6_step 81 = .ok (.if_icmp .le 12, 3) := by decide +kernel
theorem dX6_step_84 : decode cX6_step 84 = .ok (.aload_n 0, 1) := by decide +kernel
theorem dX6_step_85 : decode cX6_step 85 = .ok (.aload_n 2, 1) := by decide +kernel
theorem dX6_step_86 : decode cX6_step 86 = .ok (.iconst 5, 1) := by decide +kernel
theorem dX6_step_87 : decode cX6_step 87 = .ok (.invokevirtual 90, 3) := by decide +kernel
theorem dX6_step_90 : decode cX6_step 90 = .ok (.goto 59, 3) := by decide +kernel
theorem dX6_step_93 : decode cX6_step 93 = .ok (.aload_n 2, 1) := by decide +kernel
theorem dX6_step_94 : decode cX6_step 94 = .ok (.getfield 87, 3) := by decide +kernel
theorem dX6_step_97 : decode cX6_step 97 = .ok (.aload_n 0, 1) := by decide +kernel
theorem dX6_step_98 : decode cX6_step 98 = .ok (.getfield 9, 3) := by decide +kernel
theorem dX6_step_101 : decode cX6_step 101 = .ok (.iload_n 1, 1) := by decide +kernel
theorem dX6_step_102 : decode cX6_step 102 = .ok (.aaload, 1) := by decide +kernel
theorem dX6_step_103 : decode cX6_step 103 = .ok (.iconst 3, 1) := by decide +kernel
theorem dX6_step_104 : decode cX6_step 104 = .ok (.iaload, 1) := by decide +kernel
theorem dX6_step_105 : decode cX6_step 105 = .ok (.iload_n 3, 1) := by decide +kernel
theorem dX6_step_106 : decode cX6_step 106 = .ok (.iadd, 1) := by decide +kernel
theorem dX6_step_107 : decode cX6_step 107 = .ok (.if_icmp .lt 42, 3) := by decide +kernel
theorem dX6_step_110 : decode cX6_step 110 = .ok (.aload_n 0, 1) := by decide +kernel
theorem dX6_step_111 : decode cX6_step 111 = .ok (.iload 4, 2) := by decide +kernel
theorem dX6_step_113 : decode cX6_step 113 = .ok (.invokevirtual 80, 3) := by decide +kernel
theorem dX6_step_116 : decode cX6_step 116 = .ok (.ifCond .ge 33, 3) := by decide +kernel
theorem dX6_step_119 : decode cX6_step 119 = .ok (.aload_n 2, 1) := by decide +kernel
theorem dX6_step_120 : decode cX6_step 120 = .ok (.iload 4, 2) := by decide +kernel
theorem dX6_step_122 : decode cX6_step 122 = .ok (.putfield 57, 3) := by decide +kernel
theorem dX6_step_125 : decode cX6_step 125 = .ok (.iload 4, 2) := by decide +kernel
theorem dX6_step_127 : decode cX6_step 127 = .ok (.ifCond .lt 4, 3) := by decide +kernel
theorem dX6_step_130 : decode cX6_step 130 = .ok (.return_, 1) := by decide +kernel
theorem dX6_step_131 : decode cX6_step 131 = .ok (.aload_n 2, 1) := by decide +kernel
theorem dX6_step_132 : decode cX6_step 132 = .ok (.iconst 2, 1) := by decide +kernel
theorem dX6_step_133 : decode cX6_step 133 = .ok (.putfield 77, 3) := by decide +kernel
theorem dX6_step_136 : decode cX6_step 136 = .ok (.aload_n 0, 1) := by decide +kernel
theorem dX6_step_137 : decode cX6_step 137 = .ok (.aload_n 2, 1) := by decide +kernel
theorem dX6_step_138 : decode cX6_step 138 = .ok (.getfield 84, 3) := by decide +kernel
theorem dX6_step_141 : decode cX6_step 141 = .ok (.aload_n 0, 1) := by decide +kernel
theorem dX6_step_142 : decode cX6_step 142 = .ok (.getfield 36, 3) := by decide +kernel
theorem dX6_step_145 : decode cX6_step 145 = .ok (.imul, 1) := by decide +kernel
theorem dX6_step_146 : decode cX6_step 146 = .ok (.putfield 42, 3) := by decide +kernel
theorem dX6_step_149 : decode cX6_step 149 = .ok (.return_, 1) := by decide +kernel
theorem dX6_tick_0 : decode cX6_tick 0 = .ok (.iconst 0, 1) := by decide +kernel
theorem dX6_tick_1 : decode cX6_tick 1 = .ok (.istore_n 1, 1) := by decide +kernel
theorem dX6_tick_2 : decode cX6_tick 2 = .ok (.iload_n 1, 1) := by decide +kernel
theorem dX6_tick_3 : decode cX6_tick 3 = .ok (.aload_n 0, 1) := by decide +kernel
theorem dX6_tick_4 : decode cX6_tick 4 = .ok (.getfield 9, 3) := by decide +kernel
theorem dX6_tick_7 : decode cX6_tick 7 = .ok (.arraylength, 1) := by decide +kernel
theorem dX6_tick_8 : decode cX6_tick 8 = .ok (.if_icmp .ge 58, 3) := by decide +kernel
theorem dX6_tick_11 : decode cX6_tick 11 = .ok (.aload_n 0, 1) := by decide +kernel
theorem dX6_tick_12 : decode cX6_tick 12 = .ok (.getfield 15, 3) := by decide +kernel
theorem dX6_tick_15 : decode cX6_tick 15 = .ok (.iload_n 1, 1) := by decide +kernel
theorem dX6_tick_16 : decode cX6_tick 16 = .ok (.iaload, 1) := by decide +kernel
theorem dX6_tick_17 : decode cX6_tick 17 = .ok (.aload_n 0, 1) := by decide +kernel
theorem dX6_tick_18 : decode cX6_tick 18 = .ok (.getfield 9, 3) := by decide +kernel
theorem dX6_tick_21 : decode cX6_tick 21 = .ok (.iload_n 1, 1) := by decide +kernel
theorem dX6_tick_22 : decode cX6_tick 22 = .ok (.aaload, 1) := by decide +kernel
theorem dX6_tick_23 : decode cX6_tick 23 = .ok (.iconst 0, 1) := by decide +kernel
theorem dX6_tick_24 : decode cX6_tick 24 = .ok (.iaload, 1) := by decide +kernel
theorem dX6_tick_25 : decode cX6_tick 25 = .ok (.if_icmp .ge 35, 3) := by decide +kernel
theorem dX6_tick_28 : decode cX6_tick 28 = .ok (.aload_n 0, 1) := by decide +kernel
theorem dX6_tick_29 : decode cX6_tick 29 = .ok (.getfield 15, 3) := by decide +kernel
theorem dX6_tick_32 : decode cX6_tick 32 = .ok (.iload_n 1, 1) := by decide +kernel
theorem dX6_tick_33 : decode cX6_tick 33 = .ok (.aload_n 0, 1) := by decide +kernel
theorem dX6_tick_34 : decode cX6_tick 34 = .ok (.getfield 9, 3) := by decide +kernel
theorem dX6_tick_37 : decode cX6_tick 37 = .ok (.iload_n 1, 1) := by decide +kernel
theorem dX6_tick_38 : decode cX6_tick 38 = .ok (.aaload, 1) := by decide +kernel
theorem dX6_tick_39 : decode cX6_tick 39 = .ok (.iconst 0, 1) := by decide +kernel
theorem dX6_tick_40 : decode cX6_tick 40 = .ok (.iaload, 1) := by decide +kernel
theorem dX6_tick_41 : decode cX6_tick 41 = .ok (.aload_n 0, 1) := by decide +kernel
theorem dX6_tick_42 : decode cX6_tick 42 = .ok (.getfield 15, 3) := by decide +kernel
theorem dX6_tick_45 : decode cX6_tick 45 = .ok (.iload_n 1, 1) := by decide +kernel
theorem dX6_tick_46 : decode cX6_tick 46 = .ok (.iaload, 1) := by decide +kernel
theorem dX6_tick_47 : decode cX6_tick 47 = .ok (.aload_n 0, 1) := by decide +kernel
theorem dX6_tick_48 : decode cX6_tick 48 = .ok (.getfield 9, 3) := by decide +kernel
theorem dX6_tick_51 : decode cX6_tick 51 = .ok (.iload_n 1, 1) := by decide +kernel
theorem dX6_tick_52 : decode cX6_tick 52 = .ok (.aaload, 1) := by decide +kernel
theorem dX6_tick_53 : decode cX6_tick 53 = .ok (.iconst 1, 1) := by decide +kernel
theorem dX6_tick_54 : decode cX6_tick 54 = .ok (.iaload, 1) := by decide +kernel
theorem dX6_tick_55 : decode cX6_tick 55 = .ok (.iadd, 1) := by decide +kernel
theorem dX6_tick_56 : decode cX6_tick 56 = .ok (.invokestatic 94, 3) := by decide +kernel
theorem dX6_tick_59 : decode cX6_tick 59 = .ok (.iastore, 1) := by decide +kernel
theorem dX6_tick_60 : decode cX6_tick 60 = .ok (.iinc 1 1, 3) := by decide +kernel
theorem dX6_tick_63 : decode cX6_tick 63 = .ok (.goto (-61), 3) := by decide +kernel
theorem dX6_tick_66 : decode cX6_tick 66 = .ok (.iconst 0, 1) := by decide +kernel
theorem dX6_tick_67 : decode cX6_tick 67 = .ok (.istore_n 1, 1) := by decide +kernel
theorem dX6_tick_68 : decode cX6_tick 68 = .ok (.iload_n 1, 1) := by decide +kernel
theorem dX6_tick_69 : decode cX6_tick 69 = .ok (.aload_n 0, 1) := by decide +kernel
theorem dX6_tick_70 : decode cX6_tick 70 = .ok (.getfield 9, 3) := by decide +kernel
theorem dX6_tick_73 : decode cX6_tick 73 = .ok (.arraylength, 1) := by decide +kernel
theorem dX6_tick_74 : decode cX6_tick 74 = .ok (.if_icmp .ge 128, 3) := by decide +kernel
theorem dX6_tick_77 : decode cX6_tick 77 = .ok (.aload_n 0, 1) := by decide +kernel
theorem dX6_tick_78 : decode cX6_tick 78 = .ok (.iload_n 1, 1) := by decide +kernel
theorem dX6_tick_79 : decode cX6_tick 79 = .ok (.invokevirtual 80, 3) := by decide +kernel
theorem dX6_tick_82 : decode cX6_tick 82 = .ok (.ifCond .lt 114, 3) := by decide +kernel
theorem dX6_tick_85 : decode cX6_tick 85 = .ok (.aload_n 0, 1) := by decide +kernel
theorem dX6_tick_86 : decode cX6_tick 86 = .ok (.getfield 15, 3) := by decide +kernel
theorem dX6_tick_89 : decode cX6_tick 89 = .ok (.iload_n 1, 1) := by decide +kernel
theorem dX6_tick_90 : decode cX6_tick 90 = .ok (.iaload, 1) := by decide +kernel
theorem dX6_tick_91 : decode cX6_tick 91 = .ok (.aload_n 0, 1) := by decide +kernel
theorem dX6_tick_92 : decode cX6_tick 92 = .ok (.getfield 20, 3) := by decide +kernel
theorem dX6_tick_95 : decode cX6_tick 95 = .ok (.aload_n 0, 1) := by decide +kernel
theorem dX6_tick_96 : decode cX6_tick 96 = .ok (.iload_n 1, 1) := by decide +kernel
theorem dX6_tick_97 : decode cX6_tick 97 = .ok (.invokevirtual 80, 3) := by decide +kernel
theorem dX6_tick_100 : decode cX6_tick 100 = .ok (.aaload, 1) := by decide +kernel
theorem dX6_tick_101 : decode cX6_tick 101 = .ok (.getfield 87, 3) := by decide +kernel
theorem dX6_tick_104 : decode cX6_tick 104 = .ok (.if_icmp .gt 6, 3) := by decide +kernel
theorem dX6_tick_107 : decode cX6_tick 107 = .ok (.goto 89, 3) := by decide +kernel
theorem dX6_tick_110 : decode cX6_tick 110 = .ok (.aload_n 0, 1) := by decide +kernel
theorem dX6_tick_111 : decode cX6_tick 111 = .ok (.getfield 20, 3) := by decide +kernel
theorem dX6_tick_114 : decode cX6_tick 114 = .ok (.aload_n 0, 1) := by decide +kernel
theorem dX6_tick_115 : decode cX6_tick 115 = .ok (.iload_n 1, 1) := by decide +kernel
theorem dX6_tick_116 : decode cX6_tick 116 = .ok (.invokevirtual 80, 3) := by decide +kernel
theorem dX6_tick_119 : decode cX6_tick 119 = .ok (.aaload, 1) := by decide +kernel
theorem dX6_tick_120 : decode cX6_tick 120 = .ok (.astore_n 2, 1) := by decide +kernel
theorem dX6_tick_121 : decode cX6_tick 121 = .ok (.aload_n 0, 1) := by decide +kernel
theorem dX6_tick_122 : decode cX6_tick 122 = .ok (.getfield 15, 3) := by decide +kernel
theorem dX6_tick_125 : decode cX6_tick 125 = .ok (.iload_n 1, 1) := by decide +kernel
theorem dX6_tick_126 : decode cX6_tick 126 = .ok (.iaload, 1) := by decide +kernel
theorem dX6_tick_127 : decode cX6_tick 127 = .ok (.aload_n 2, 1) := by decide +kernel
theorem dX6_tick_128 : decode cX6_tick 128 = .ok (.getfield 87, 3) := by decide +kernel
theorem dX6_tick_131 : decode cX6_tick 131 = .ok (.isub, 1) := by decide +kernel
theorem dX6_tick_132 : decode cX6_tick 132 = .ok (.istore_n 3, 1) := by decide +kernel
theorem dX6_tick_133 : decode cX6_tick 133 = .ok (.iload_n 3, 1) := by decide +kernel
theorem dX6_tick_134 : decode cX6_tick 134 = .ok (.aload_n 0, 1) := by decide +kernel
theorem dX6_tick_135 : decode cX6_tick 135 = .ok (.aload_n 2, 1) := by decide +kernel
theorem dX6_tick_136 : decode cX6_tick 136 = .ok (.getfield 84, 3) := by decide +kernel
theorem dX6_tick_139 : decode cX6_tick 139 = .ok (.iload_n 1, 1) := by decide +kernel
theorem dX6_tick_140 : decode cX6_tick 140 = .ok (.iload_n 3, 1) := by decide +kernel
theorem dX6_tick_141 : decode cX6_tick 141 = .ok (.invokevirtual 99, 3) := by decide +kernel
theorem dX6_tick_144 : decode cX6_tick 144 = .ok (.imul, 1) := by decide +kernel
theorem dX6_tick_145 : decode cX6_tick 145 = .ok (.sipush 1000, 3) := by decide +kernel
theorem dX6_tick_148 : decode cX6_tick 148 = .ok (.idiv, 1) := by decide +kernel
theorem dX6_tick_149 : decode cX6_tick 149 = .ok (.istore 4, 2) := by decide +kernel
theorem dX6_tick_151 : decode cX6_tick 151 = .ok (.aload_n 2, 1) := by decide +kernel
theorem dX6_tick_152 : decode cX6_tick 152 = .ok (.dup, 1) := by decide +kernel
theorem dX6_tick_153 : decode cX6_tick 153 = .ok (.getfield 87, 3) := by decide +kernel
theorem dX6_tick_156 : decode cX6_tick 156 = .ok (.iload 4, 2) := by decide +kernel
theorem dX6_tick_158 : decode cX6_tick 158 = .ok (.iadd, 1) := by decide +kernel
theorem dX6_tick_159 : decode cX6_tick 159 = .ok (.putfield 87, 3) := by decide +kernel
theorem dX6_tick_162 : decode cX6_tick 162 = .ok (.aload_n 0, 1) := by decide +kernel
theorem dX6_tick_163 : decode cX6_tick 163 = .ok (.getfield 15, 3) := by decide +kernel
theorem dX6_tick_166 : decode cX6_tick 166 = .ok (.iload_n 1, 1) := by decide +kernel
theorem dX6_tick_167 : decode cX6_tick 167 = .ok (.bipush 20, 2) := by decide +kernel
theorem dX6_tick_169 : decode cX6_tick 169 = .ok (.aload_n 0, 1) := by decide +kernel
theorem dX6_tick_170 : decode cX6_tick 170 = .ok (.getfield 15, 3) := by decide +kernel
theorem dX6_tick_173 : decode cX6_tick 173 = .ok (.iload_n 1, 1) := by decide +kernel
theorem dX6_tick_174 : decode cX6_tick 174 = .ok (.iaload, 1) := by decide +kernel
theorem dX6_tick_175 : decode cX6_tick 175 = .ok (.iload 4, 2) := by decide +kernel
theorem dX6_tick_177 : decode cX6_tick 177 = .ok (.aload_n 2, 1) := by decide +kernel
theorem dX6_tick_178 : decode cX6_tick 178 = .ok (.getfield 84, 3) := by decide +kernel
theorem dX6_tick_181 : decode cX6_tick 181 = .ok (.imul, 1) := by decide +kernel
theorem dX6_tick_182 : decode cX6_tick 182 = .ok (.aload_n 0, 1) := by decide +kernel
theorem dX6_tick_183 : decode cX6_tick 183 = .ok (.getfield 9, 3) := by decide +kernel
theorem dX6_tick_186 : decode cX6_tick 186 = .ok (.iload_n 1, 1) := by decide +kernel
theorem dX6_tick_187 : decode cX6_tick 187 = .ok (.aaload, 1) := by decide +kernel
theorem dX6_tick_188 : decode cX6_tick 188 = .ok (.iconst 2, 1) := by decide +kernel
theorem dX6_tick_189 : decode cX6_tick 189 = .ok (.iaload, 1) := by decide +kernel
theorem dX6_tick_190 : decode cX6_tick 190 = .ok (.idiv, 1) := by decide +kernel
theorem dX6_tick_191 : decode cX6_tick 191 = .ok (.isub, 1) := by decide +kernel
theorem dX6_tick_192 : decode cX6_tick 192 = .ok (.invokestatic 97, 3) := by decide +kernel
theorem dX6_tick_195 : decode cX6_tick 195 = .ok (.iastore, 1) := by decide +kernel
theorem dX6_tick_196 : decode cX6_tick 196 = .ok (.iinc 1 1, 3) := by decide +kernel
theorem dX6_tick_199 : decode cX6_tick 199 = .ok (.goto (-131), 3) := by decide +kernel
theorem dX6_tick_202 : decode cX6_tick 202 = .ok (.aload_n 0, 1) := by decide +kernel
theorem dX6_tick_203 : decode cX6_tick 203 = .ok (.invokevirtual 103, 3) := by decide +kernel
theorem dX6_tick_206 : decode cX6_tick 206 = .ok (.aload_n 0, 1) := by decide +kernel
theorem dX6_tick_207 : decode cX6_tick 207 = .ok (.getfield 9, 3) := by decide +kernel
theorem dX6_tick_210 : decode cX6_tick 210 = .ok (.arraylength, 1) := by decide +kernel
theorem dX6_tick_211 : decode cX6_tick 211 = .ok (.iconst 1, 1) := by decide +kernel
theorem dX6_tick_212 : decode cX6_tick 212 = .ok (.isub, 1) := by decide +kernel
theorem dX6_tick_213 : decode cX6_tick 213 = .ok (.istore_n 1, 1) := by decide +kernel
theorem dX6_tick_214 : decode cX6_tick 214 = .ok (.iload_n 1, 1) := by decide +kernel
theorem dX6_tick_215 : decode cX6_tick 215 = .ok (.ifCond .lt 14, 3) := by decide +kernel
theorem dX6_tick_218 : decode cX6_tick 218 = .ok (.aload_n 0, 1) := by decide +kernel
theorem dX6_tick_219 : decode cX6_tick 219 = .ok (.iload_n 1, 1) := by decide +kernel
theorem dX6_tick_220 : decode cX6_tick 220 = .ok (.invokevirtual 106, 3) := by decide +kernel
theorem dX6_tick_223 : decode cX6_tick 223 = .ok (.iinc 1 (-1), 3) := by decide +kernel
theorem dX6_tick_226 : decode cX6_tick 226 = .ok (.goto (-12), 3) := by decide +kernel
theorem dX6_tick_229 : decode cX6_tick 229 = .ok (.aload_n 0, 1) := by decide +kernel
theorem dX6_tick_230 : decode cX6_tick 230 = .ok (.getfield 20, 3) := by decide +kernel
theorem dX6_tick_233 : decode cX6_tick 233 = .ok (.astore_n 1, 1) := by decide +kernel
theorem dX6_tick_234 : decode cX6_tick 234 = .ok (.aload_n 1, 1) := by decide +kernel
theorem dX6_tick_235 : decode cX6_tick 235 = .ok (.arraylength, 1) := by decide +kernel
theorem dX6_tick_236 : decode cX6_tick 236 = .ok (.istore_n 2, 1) := by decide +kernel
theorem dX6_tick_237 : decode cX6_tick 237 = .ok (.iconst 0, 1) := by decide +kernel
theorem dX6_tick_238 : decode cX6_tick 238 = .ok (.istore_n 3, 1) := by decide +kernel
theorem dX6_tick_239 : decode cX6_tick 239 = .ok (.iload_n 3, 1) := by decide +kernel
theorem dX6_tick_240 : decode cX6_tick 240 = .ok (.iload_n 2, 1) := by decide +kernel
theorem dX6_tick_241 : decode cX6_tick 241 = .ok (.if_icmp .ge 45, 3) := by decide +kernel
theorem dX6_tick_244 : decode cX6_tick 244 = .ok (.aload_n 1, 1) := by decide +kernel
theorem dX6_tick_245 : decode cX6_tick 245 = .ok (.iload_n 3, 1) := by decide +kernel
theorem dX6_tick_246 : decode cX6_tick 246 = .ok (.aaload, 1) := by decide +kernel
theorem dX6_tick_247 : decode cX6_tick 247 = .ok (.astore 4, 2) := by decide +kernel
theorem dX6_tick_249 : decode cX6_tick 249 = .ok (.aload 4, 2) := by decide +kernel
theorem dX6_tick_251 : decode cX6_tick 251 = .ok (.getfield 77, 3) := by decide +kernel
theorem dX6_tick_254 : decode cX6_tick 254 = .ok (.ifCond .ne 26, 3) := by decide +kernel
theorem dX6_tick_257 : decode cX6_tick 257 = .ok (.aload_n 0, 1) := by decide +kernel
theorem dX6_tick_258 : decode cX6_tick 258 = .ok (.iconst 0, 1) := by decide +kernel
theorem dX6_tick_259 : decode cX6_tick 259 = .ok (.invokevirtual 80, 3) := by decide +kernel
theorem dX6_tick_262 : decode cX6_tick 262 = .ok (.ifCond .lt 6, 3) := by decide +kernel
theorem dX6_tick_265 : decode cX6_tick 265 = .ok (.goto 15, 3) := by decide +kernel
theorem dX6_tick_268 : decode cX6_tick 268 = .ok (.aload 4, 2) := by decide +kernel
theorem dX6_tick_270 : decode cX6_tick 270 = .ok (.iconst 1, 1) := by decide +kernel
theorem dX6_tick_271 : decode cX6_tick 271 = .ok (.putfield 77, 3) := by decide +kernel
theorem dX6_tick_274 : decode cX6_tick 274 = .ok (.aload 4, 2) := by decide +kernel
theorem dX6_tick_276 : decode cX6_tick 276 = .ok (.iconst 0, 1) := by decide +kernel
theorem dX6_tick_277 : decode cX6_tick 277 = .ok (.putfield 57, 3) := by decide +kernel
theorem dX6_tick_280 : decode cX6_tick 280 = .ok (.iinc 3 1, 3) := by decide +kernel
theorem dX6_tick_283 : decode cX6_tick 283 = .ok (.goto (-44), 3) := by decide +kernel
theorem dX6_tick_286 : decode cX6_tick 286 = .ok (.aload_n 0, 1) := by decide +kernel
theorem dX6_tick_287 : decode cX6_tick 287 = .ok (.dup, 1) := by decide +kernel
theorem dX6_tick_288 : decode cX6_tick 288 = .ok (.getfield 32, 3) := by decide +kernel
theorem dX6_tick_291 : decode cX6_tick 291 = .ok (.iconst 1, 1) := by decide +kernel
theorem dX6_tick_292 : decode cX6_tick 292 = .ok (.iadd, 1) := by decide +kernel
theorem dX6_tick_293 : decode cX6_tick 293 = .ok (.putfield 32, 3) := by decide +kernel
theorem dX6_tick_296 : decode cX6_tick 296 = .ok (.return_, 1) := by decide +kernel
theorem dX6_count_0 : decode cX6_count 0 = .ok (.iconst 0, 1) := by decide +kernel
theorem dX6_count_1 : decode cX6_count 1 = .ok (.istore_n 2, 1) := by decide +kernel
theorem dX6_count_2 : decode cX6_count 2 = .ok (.aload_n 0, 1) := by decide +kernel
theorem dX6_count_3 : decode cX6_count 3 = .ok (.getfield 20, 3) := by decide +kernel
theorem dX6_count_6 : decode cX6_count 6 = .ok (.astore_n 3, 1) := by decide +kernel
theorem dX6_count_7 : decode cX6_count 7 = .ok (.aload_n 3, 1) := by decide +kernel
theorem dX6_count_8 : decode cX6_count 8 = .ok (.arraylength, 1) := by decide +kernel
theorem dX6_count_9 : decode cX6_count 9 = .ok (.istore 4, 2) := by decide +kernel
theorem dX6_count_11 : decode cX6_count 11 = .ok (.iconst 0, 1) := by decide +kernel
theorem dX6_count_12 : decode cX6_count 12 = .ok (.istore 5, 2) := by decide +kernel
theorem dX6_count_14 : decode cX6_count 14 = .ok (.iload 5, 2) := by decide +kernel
theorem dX6_count_16 : decode cX6_count 16 = .ok (.iload 4, 2) := by decide +kernel
theorem dX6_count_18 : decode cX6_count 18 = .ok (.if_icmp .ge 27, 3) := by decide +kernel
theorem dX6_count_21 : decode cX6_count 21 = .ok (.aload_n 3, 1) := by decide +kernel
theorem dX6_count_22 : decode cX6_count 22 = .ok (.iload 5, 2) := by decide +kernel
theorem dX6_count_24 : decode cX6_count 24 = .ok (.aaload, 1) := by decide +kernel
theorem dX6_count_25 : decode cX6_count 25 = .ok (.astore 6, 2) := by decide +kernel
theorem dX6_count_27 : decode cX6_count 27 = .ok (.aload 6, 2) := by decide +kernel
theorem dX6_count_29 : decode cX6_count 29 = .ok (.getfield 77, 3) := by decide +kernel
theorem dX6_count_32 : decode cX6_count 32 = .ok (.iload_n 1, 1) := by decide +kernel
theorem dX6_count_33 : decode cX6_count 33 = .ok (.if_icmp .ne 6, 3) := by decide +kernel
theorem dX6_count_36 : decode cX6_count 36 = .ok (.iinc 2 1, 3) := by decide +kernel
theorem dX6_count_39 : decode cX6_count 39 = .ok (.iinc 5 1, 3) := by decide +kernel
theorem dX6_count_42 : decode cX6_count 42 = .ok (.goto (-28), 3) := by decide +kernel
theorem dX6_count_45 : decode cX6_count 45 = .ok (.iload_n 2, 1) := by decide +kernel
theorem dX6_count_46 : decode cX6_count 46 = .ok (.ireturn, 1) := by decide +kernel
theorem dX6_recognised_0 : decode cX6_recognised 0 = .ok (.iload_n 0, 1) := by decide +kernel
theorem dX6_recognised_1 : decode cX6_recognised 1 = .ok (.bipush 40, 2) := by decide +kernel
theorem dX6_recognised_3 : decode cX6_recognised 3 = .ok (.imul, 1) := by decide +kernel
theorem dX6_recognised_4 : decode cX6_recognised 4 = .ok (.iload_n 1, 1) := by decide +kernel
theorem dX6_recognised_5 : decode cX6_recognised 5 = .ok (.iconst 2, 1) := by decide +kernel
theorem dX6_recognised_6 : decode cX6_recognised 6 = .ok (.idiv, 1) := by decide +kernel
theorem dX6_recognised_7 : decode cX6_recognised 7 = .ok (.iadd, 1) := by decide +kernel
theorem dX6_recognised_8 : decode cX6_recognised 8 = .ok (.iload_n 1, 1) := by decide +kernel
theorem dX6_recognised_9 : decode cX6_recognised 9 = .ok (.idiv, 1) := by decide +kernel
theorem dX6_recognised_10 : decode cX6_recognised 10 = .ok (.istore_n 2, 1) := by decide +kernel
theorem dX6_recognised_11 : decode cX6_recognised 11 = .ok (.iload_n 2, 1) := by decide +kernel
theorem dX6_recognised_12 : decode cX6_recognised 12 = .ok (.iconst 2, 1) := by decide +kernel
theorem dX6_recognised_13 : decode cX6_recognised 13 = .ok (.if_icmp .lt 9, 3) := by decide +kernel
theorem dX6_recognised_16 : decode cX6_recognised 16 = .ok (.iload_n 2, 1) := by decide +kernel
theorem dX6_recognised_17 : decode cX6_recognised 17 = .ok (.bipush 19, 2) := by decide +kernel
theorem dX6_recognised_19 : decode cX6_recognised 19 = .ok (.if_icmp .le 7, 3) := by decide +kernel
theorem dX6_recognised_22 : decode cX6_recognised 22 = .ok (.iconst (-1), 1) := by decide +kernel
theorem dX6_recognised_23 : decode cX6_recognised 23 = .ok (.goto 4, 3) := by decide +kernel
theorem dX6_recognised_26 : decode cX6_recognised 26 = .ok (.iload_n 2, 1) := by decide +kernel
theorem dX6_recognised_27 : decode cX6_recognised 27 = .ok (.ireturn, 1) := by decide +kernel
theorem dX6_add_0 : decode cX6_add 0 = .ok (.aload_n 0, 1) := by decide +kernel
theorem dX6_add_1 : decode cX6_add 1 = .ok (.getfield 20, 3) := by decide +kernel
theorem dX6_add_4 : decode cX6_add 4 = .ok (.arraylength, 1) := by decide +kernel
theorem dX6_add_5 : decode cX6_add 5 = .ok (.iconst 1, 1) := by decide +kernel
theorem dX6_add_6 : decode cX6_add 6 = .ok (.iadd, 1) := by decide +kernel
theorem dX6_add_7 : decode cX6_add 7 = .ok (.anewarray 18, 3) := by decide +kernel
theorem dX6_add_10 : decode cX6_add 10 = .ok (.astore_n 2, 1) := by decide +kernel
theorem dX6_add_11 : decode cX6_add 11 = .ok (.iconst 0, 1) := by decide +kernel
theorem dX6_add_12 : decode cX6_add 12 = .ok (.istore_n 3, 1) := by decide +kernel
theorem dX6_add_13 : decode cX6_add 13 = .ok (.iload_n 3, 1) := by decide +kernel
theorem dX6_add_14 : decode cX6_add 14 = .ok (.aload_n 0, 1) := by decide +kernel
theorem dX6_add_15 : decode cX6_add 15 = .ok (.getfield 20, 3) := by decide +kernel
theorem dX6_add_18 : decode cX6_add 18 = .ok (.arraylength, 1) := by decide +kernel
theorem dX6_add_19 : decode cX6_add 19 = .ok (.if_icmp .ge 18, 3) := by decide +kernel
theorem dX6_add_22 : decode cX6_add 22 = .ok (.aload_n 2, 1) := by decide +kernel
theorem dX6_add_23 : decode cX6_add 23 = .ok (.iload_n 3, 1) := by decide +kernel
theorem dX6_add_24 : decode cX6_add 24 = .ok (.aload_n 0, 1) := by decide +kernel
theorem dX6_add_25 : decode cX6_add 25 = .ok (.getfield 20, 3) := by decide +kernel
theorem dX6_add_28 : decode cX6_add 28 = .ok (.iload_n 3, 1) := by decide +kernel
theorem dX6_add_29 : decode cX6_add 29 = .ok (.aaload, 1) := by decide +kernel
theorem dX6_add_30 : decode cX6_add 30 = .ok (.aastore, 1) := by decide +kernel
theorem dX6_add_31 : decode cX6_add 31 = .ok (.iinc 3 1, 3) := by decide +kernel
theorem dX6_add_34 : decode cX6_add 34 = .ok (.goto (-21), 3) := by decide +kernel
theorem dX6_add_37 : decode cX6_add 37 = .ok (.aload_n 2, 1) := by decide +kernel
theorem dX6_add_38 : decode cX6_add 38 = .ok (.aload_n 0, 1) := by decide +kernel
theorem dX6_add_39 : decode cX6_add 39 = .ok (.getfield 20, 3) := by decide +kernel
theorem dX6_add_42 : decode cX6_add 42 = .ok (.arraylength, 1) := by decide +kernel
theorem dX6_add_43 : decode cX6_add 43 = .ok (.new 18, 3) := by decide +kernel
theorem dX6_add_46 : decode cX6_add 46 = .ok (.dup, 1) := by decide +kernel
theorem dX6_add_47 : decode cX6_add 47 = .ok (.iload_n 1, 1) := by decide +kernel
theorem dX6_add_48 : decode cX6_add 48 = .ok (.invokespecial 123, 3) := by decide +kernel
theorem dX6_add_51 : decode cX6_add 51 = .ok (.aastore, 1) := by decide +kernel
theorem dX6_add_52 : decode cX6_add 52 = .ok (.aload_n 0, 1) := by decide +kernel
theorem dX6_add_53 : decode cX6_add 53 = .ok (.aload_n 2, 1) := by decide +kernel
theorem dX6_add_54 : decode cX6_add 54 = .ok (.putfield 20, 3) := by decide +kernel
theorem dX6_add_57 : decode cX6_add 57 = .ok (.return_, 1) := by decide +kernel
theorem dX6_sum_0 : decode cX6_sum 0 = .ok (.aload_n 0, 1) := by decide +kernel
