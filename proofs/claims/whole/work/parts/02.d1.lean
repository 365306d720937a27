theorem dX4_readTerm_2 : decode cX4_readTerm 2 = .ok (.invokevirtual 150, 3) := by decide +kernel
theorem dX4_readTerm_5 : decode cX4_readTerm 5 = .ok (.ifCond .ne 5, 3) := by decide +kernel
theorem dX4_readTerm_8 : decode cX4_readTerm 8 = .ok (.iconst 0, 1) := by decide +kernel
theorem dX4_readTerm_9 : decode cX4_readTerm 9 = .ok (.ireturn, 1) := by decide +kernel
theorem dX4_readTerm_10 : decode cX4_readTerm 10 = .ok (.iconst 0, 1) := by decide +kernel
theorem dX4_readTerm_11 : decode cX4_readTerm 11 = .ok (.istore_n 2, 1) := by decide +kernel
theorem dX4_readTerm_12 : decode cX4_readTerm 12 = .ok (.iload_n 2, 1) := by decide +kernel
theorem dX4_readTerm_13 : decode cX4_readTerm 13 = .ok (.aload_n 0, 1) := by decide +kernel
theorem dX4_readTerm_14 : decode cX4_readTerm 14 = .ok (.getfield 37, 3) := by decide +kernel
theorem dX4_readTerm_17 : decode cX4_readTerm 17 = .ok (.if_icmp .ge 63, 3) := by decide +kernel
theorem dX4_readTerm_20 : decode cX4_readTerm 20 = .ok (.aload_n 0, 1) := by decide +kernel
theorem dX4_readTerm_21 : decode cX4_readTerm 21 = .ok (.bipush 42, 2) := by decide +kernel
theorem dX4_readTerm_23 : decode cX4_readTerm 23 = .ok (.invokevirtual 143, 3) := by decide +kernel
theorem dX4_readTerm_26 : decode cX4_readTerm 26 = .ok (.ifCond .ne 12, 3) := by decide +kernel
theorem dX4_readTerm_29 : decode cX4_readTerm 29 = .ok (.aload_n 0, 1) := by decide +kernel
theorem dX4_readTerm_30 : decode cX4_readTerm 30 = .ok (.bipush 47, 2) := by decide +kernel
theorem dX4_readTerm_32 : decode cX4_readTerm 32 = .ok (.invokevirtual 143, 3) := by decide +kernel
theorem dX4_readTerm_35 : decode cX4_readTerm 35 = .ok (.ifCond .eq 45, 3) := by decide +kernel
theorem dX4_readTerm_38 : decode cX4_readTerm 38 = .ok (.aload_n 0, 1) := by decide +kernel
theorem dX4_readTerm_39 : decode cX4_readTerm 39 = .ok (.bipush 42, 2) := by decide +kernel
theorem dX4_readTerm_41 : decode cX4_readTerm 41 = .ok (.invokevirtual 143, 3) := by decide +kernel
theorem dX4_readTerm_44 : decode cX4_readTerm 44 = .ok (.ifCond .eq 8, 3) := by decide +kernel
theorem dX4_readTerm_47 : decode cX4_readTerm 47 = .ok (.bipush (-3), 2) := by decide +kernel
theorem dX4_readTerm_49 : decode cX4_readTerm 49 = .ok (.goto 5, 3) := by decide +kernel
theorem dX4_readTerm_52 : decode cX4_readTerm 52 = .ok (.bipush (-4), 2) := by decide +kernel
theorem dX4_readTerm_54 : decode cX4_readTerm 54 = .ok (.istore_n 3, 1) := by decide +kernel
theorem dX4_readTerm_55 : decode cX4_readTerm 55 = .ok (.aload_n 0, 1) := by decide +kernel
theorem dX4_readTerm_56 : decode cX4_readTerm 56 = .ok (.invokevirtual 47, 3) := by decide +kernel
theorem dX4_readTerm_59 : decode cX4_readTerm 59 = .ok (.aload_n 0, 1) := by decide +kernel
theorem dX4_readTerm_60 : decode cX4_readTerm 60 = .ok (.iload_n 1, 1) := by decide +kernel
theorem dX4_readTerm_61 : decode cX4_readTerm 61 = .ok (.invokevirtual 150, 3) := by decide +kernel
theorem dX4_readTerm_64 : decode cX4_readTerm 64 = .ok (.ifCond .ne 5, 3) := by decide +kernel
theorem dX4_readTerm_67 : decode cX4_readTerm 67 = .ok (.iconst 0, 1) := by decide +kernel
theorem dX4_readTerm_68 : decode cX4_readTerm 68 = .ok (.ireturn, 1) := by decide +kernel
theorem dX4_readTerm_69 : decode cX4_readTerm 69 = .ok (.aload_n 0, 1) := by decide +kernel
theorem dX4_readTerm_70 : decode cX4_readTerm 70 = .ok (.iload_n 3, 1) := by decide +kernel
theorem dX4_readTerm_71 : decode cX4_readTerm 71 = .ok (.invokevirtual 146, 3) := by decide +kernel
theorem dX4_readTerm_74 : decode cX4_readTerm 74 = .ok (.iinc 2 1, 3) := by decide +kernel
theorem dX4_readTerm_77 : decode cX4_readTerm 77 = .ok (.goto (-65), 3) := by decide +kernel
theorem dX4_readTerm_80 : decode cX4_readTerm 80 = .ok (.iconst 1, 1) := by decide +kernel
theorem dX4_readTerm_81 : decode cX4_readTerm 81 = .ok (.ireturn, 1) := by decide +kernel
theorem dX4_readFactor_0 : decode cX4_readFactor 0 = .ok (.aload_n 0, 1) := by decide +kernel
theorem dX4_readFactor_1 : decode cX4_readFactor 1 = .ok (.bipush 40, 2) := by decide +kernel
theorem dX4_readFactor_3 : decode cX4_readFactor 3 = .ok (.invokevirtual 143, 3) := by decide +kernel
theorem dX4_readFactor_6 : decode cX4_readFactor 6 = .ok (.ifCond .eq 44, 3) := by decide +kernel
theorem dX4_readFactor_9 : decode cX4_readFactor 9 = .ok (.iload_n 1, 1) := by decide +kernel
theorem dX4_readFactor_10 : decode cX4_readFactor 10 = .ok (.iconst 4, 1) := by decide +kernel
theorem dX4_readFactor_11 : decode cX4_readFactor 11 = .ok (.if_icmp .lt 10, 3) := by decide +kernel
theorem dX4_readFactor_14 : decode cX4_readFactor 14 = .ok (.aload_n 0, 1) := by decide +kernel
theorem dX4_readFactor_15 : decode cX4_readFactor 15 = .ok (.bipush (-5), 2) := by decide +kernel
theorem dX4_readFactor_17 : decode cX4_readFactor 17 = .ok (.invokevirtual 62, 3) := by decide +kernel
theorem dX4_readFactor_20 : decode cX4_readFactor 20 = .ok (.ireturn, 1) := by decide +kernel
theorem dX4_readFactor_21 : decode cX4_readFactor 21 = .ok (.aload_n 0, 1) := by decide +kernel
theorem dX4_readFactor_22 : decode cX4_readFactor 22 = .ok (.invokevirtual 47, 3) := by decide +kernel
theorem dX4_readFactor_25 : decode cX4_readFactor 25 = .ok (.aload_n 0, 1) := by decide +kernel
theorem dX4_readFactor_26 : decode cX4_readFactor 26 = .ok (.iload_n 1, 1) := by decide +kernel
theorem dX4_readFactor_27 : decode cX4_readFactor 27 = .ok (.iconst 1, 1) := by decide +kernel
theorem dX4_readFactor_28 : decode cX4_readFactor 28 = .ok (.iadd, 1) := by decide +kernel
theorem dX4_readFactor_29 : decode cX4_readFactor 29 = .ok (.invokevirtual 129, 3) := by decide +kernel
theorem dX4_readFactor_32 : decode cX4_readFactor 32 = .ok (.ifCond .eq 16, 3) := by decide +kernel
theorem dX4_readFactor_35 : decode cX4_readFactor 35 = .ok (.aload_n 0, 1) := by decide +kernel
theorem dX4_readFactor_36 : decode cX4_readFactor 36 = .ok (.bipush 41, 2) := by decide +kernel
theorem dX4_readFactor_38 : decode cX4_readFactor 38 = .ok (.invokevirtual 79, 3) := by decide +kernel
theorem dX4_readFactor_41 : decode cX4_readFactor 41 = .ok (.ifCond .eq 7, 3) := by decide +kernel
theorem dX4_readFactor_44 : decode cX4_readFactor 44 = .ok (.iconst 1, 1) := by decide +kernel
theorem dX4_readFactor_45 : decode cX4_readFactor 45 = .ok (.goto 4, 3) := by decide +kernel
theorem dX4_readFactor_48 : decode cX4_readFactor 48 = .ok (.iconst 0, 1) := by decide +kernel
theorem dX4_readFactor_49 : decode cX4_readFactor 49 = .ok (.ireturn, 1) := by decide +kernel
theorem dX4_readFactor_50 : decode cX4_readFactor 50 = .ok (.aload_n 0, 1) := by decide +kernel
theorem dX4_readFactor_51 : decode cX4_readFactor 51 = .ok (.getfield 83, 3) := by decide +kernel
theorem dX4_readFactor_54 : decode cX4_readFactor 54 = .ok (.iconst 1, 1) := by decide +kernel
theorem dX4_readFactor_55 : decode cX4_readFactor 55 = .ok (.if_icmp .ne 26, 3) := by decide +kernel
theorem dX4_readFactor_58 : decode cX4_readFactor 58 = .ok (.aload_n 0, 1) := by decide +kernel
theorem dX4_readFactor_59 : decode cX4_readFactor 59 = .ok (.iconst 0, 1) := by decide +kernel
theorem dX4_readFactor_60 : decode cX4_readFactor 60 = .ok (.sipush 9999, 3) := by decide +kernel
theorem dX4_readFactor_63 : decode cX4_readFactor 63 = .ok (.invokevirtual 66, 3) := by decide +kernel
theorem dX4_readFactor_66 : decode cX4_readFactor 66 = .ok (.ifCond .ne 5, 3) := by decide +kernel
theorem dX4_readFactor_69 : decode cX4_readFactor 69 = .ok (.iconst 0, 1) := by decide +kernel
theorem dX4_readFactor_70 : decode cX4_readFactor 70 = .ok (.ireturn, 1) := by decide +kernel
theorem dX4_readFactor_71 : decode cX4_readFactor 71 = .ok (.aload_n 0, 1) := by decide +kernel
theorem dX4_readFactor_72 : decode cX4_readFactor 72 = .ok (.aload_n 0, 1) := by decide +kernel
theorem dX4_readFactor_73 : decode cX4_readFactor 73 = .ok (.getfield 70, 3) := by decide +kernel
theorem dX4_readFactor_76 : decode cX4_readFactor 76 = .ok (.invokevirtual 146, 3) := by decide +kernel
theorem dX4_readFactor_79 : decode cX4_readFactor 79 = .ok (.iconst 1, 1) := by decide +kernel
theorem dX4_readFactor_80 : decode cX4_readFactor 80 = .ok (.ireturn, 1) := by decide +kernel
theorem dX4_readFactor_81 : decode cX4_readFactor 81 = .ok (.aload_n 0, 1) := by decide +kernel
theorem dX4_readFactor_82 : decode cX4_readFactor 82 = .ok (.ldc 153, 2) := by decide +kernel
theorem dX4_readFactor_84 : decode cX4_readFactor 84 = .ok (.invokevirtual 58, 3) := by decide +kernel
theorem dX4_readFactor_87 : decode cX4_readFactor 87 = .ok (.ifCond .eq 12, 3) := by decide +kernel
theorem dX4_readFactor_90 : decode cX4_readFactor 90 = .ok (.aload_n 0, 1) := by decide +kernel
theorem dX4_readFactor_91 : decode cX4_readFactor 91 = .ok (.bipush (-5), 2) := by decide +kernel
theorem dX4_readFactor_93 : decode cX4_readFactor 93 = .ok (.invokevirtual 146, 3) := by decide +kernel
theorem dX4_readFactor_96 : decode cX4_readFactor 96 = .ok (.goto 46, 3) := by decide +kernel
theorem dX4_readFactor_99 : decode cX4_readFactor 99 = .ok (.aload_n 0, 1) := by decide +kernel
theorem dX4_readFactor_100 : decode cX4_readFactor 100 = .ok (.ldc 86, 2) := by decide +kernel
theorem dX4_readFactor_102 : decode cX4_readFactor 102 = .ok (.invokevirtual 58, 3) := by decide +kernel
theorem dX4_readFactor_105 : decode cX4_readFactor 105 = .ok (.ifCond .eq 12, 3) := by decide +kernel
theorem dX4_readFactor_108 : decode cX4_readFactor 108 = .ok (.aload_n 0, 1) := by decide +kernel
theorem dX4_readFactor_109 : decode cX4_readFactor 109 = .ok (.bipush (-6), 2) := by decide +kernel
theorem dX4_readFactor_111 : decode cX4_readFactor 111 = .ok (.invokevirtual 146, 3) := by decide +kernel
theorem dX4_readFactor_114 : decode cX4_readFactor 114 = .ok (.goto 28, 3) := by decide +kernel
theorem dX4_readFactor_117 : decode cX4_readFactor 117 = .ok (.aload_n 0, 1) := by decide +kernel
theorem dX4_readFactor_118 : decode cX4_readFactor 118 = .ok (.ldc 155, 2) := by decide +kernel
theorem dX4_readFactor_120 : decode cX4_readFactor 120 = .ok (.invokevirtual 58, 3) := by decide +kernel
theorem dX4_readFactor_123 : decode cX4_readFactor 123 = .ok (.ifCond .eq 12, 3) := by decide +kernel
theorem dX4_readFactor_126 : decode cX4_readFactor 126 = .ok (.aload_n 0, 1) := by decide +kernel
theorem dX4_readFactor_127 : decode cX4_readFactor 127 = .ok (.bipush (-7), 2) := by decide +kernel
theorem dX4_readFactor_129 : decode cX4_readFactor 129 = .ok (.invokevirtual 146, 3) := by decide +kernel
theorem dX4_readFactor_132 : decode cX4_readFactor 132 = .ok (.goto 10, 3) := by decide +kernel
theorem dX4_readFactor_135 : decode cX4_readFactor 135 = .ok (.aload_n 0, 1) := by decide +kernel
theorem dX4_readFactor_136 : decode cX4_readFactor 136 = .ok (.bipush (-2), 2) := by decide +kernel
theorem dX4_readFactor_138 : decode cX4_readFactor 138 = .ok (.invokevirtual 62, 3) := by decide +kernel
theorem dX4_readFactor_141 : decode cX4_readFactor 141 = .ok (.ireturn, 1) := by decide +kernel
theorem dX4_readFactor_142 : decode cX4_readFactor 142 = .ok (.aload_n 0, 1) := by decide +kernel
theorem dX4_readFactor_143 : decode cX4_readFactor 143 = .ok (.invokevirtual 47, 3) := by decide +kernel
theorem dX4_readFactor_146 : decode cX4_readFactor 146 = .ok (.iconst 1, 1) := by decide +kernel
theorem dX4_readFactor_147 : decode cX4_readFactor 147 = .ok (.ireturn, 1) := by decide +kernel
theorem dX4_putStep_0 : decode cX4_putStep 0 = .ok (.aload_n 0, 1) := by decide +kernel
theorem dX4_putStep_1 : decode cX4_putStep 1 = .ok (.getfield 126, 3) := by decide +kernel
theorem dX4_putStep_4 : decode cX4_putStep 4 = .ok (.sipush 700, 3) := by decide +kernel
theorem dX4_putStep_7 : decode cX4_putStep 7 = .ok (.if_icmp .ge 23, 3) := by decide +kernel
theorem dX4_putStep_10 : decode cX4_putStep 10 = .ok (.aload_n 0, 1) := by decide +kernel
theorem dX4_putStep_11 : decode cX4_putStep 11 = .ok (.getfield 15, 3) := by decide +kernel
theorem dX4_putStep_14 : decode cX4_putStep 14 = .ok (.aload_n 0, 1) := by decide +kernel
theorem dX4_putStep_15 : decode cX4_putStep 15 = .ok (.getfield 126, 3) := by decide +kernel
theorem dX4_putStep_18 : decode cX4_putStep 18 = .ok (.iload_n 1, 1) := by decide +kernel
theorem dX4_putStep_19 : decode cX4_putStep 19 = .ok (.iastore, 1) := by decide +kernel
theorem dX4_putStep_20 : decode cX4_putStep 20 = .ok (.aload_n 0, 1) := by decide +kernel
theorem dX4_putStep_21 : decode cX4_putStep 21 = .ok (.dup, 1) := by decide +kernel
theorem dX4_putStep_22 : decode cX4_putStep 22 = .ok (.getfield 126, 3) := by decide +kernel
theorem dX4_putStep_25 : decode cX4_putStep 25 = .ok (.iconst 1, 1) := by decide +kernel
theorem dX4_putStep_26 : decode cX4_putStep 26 = .ok (.iadd, 1) := by decide +kernel
theorem dX4_putStep_27 : decode cX4_putStep 27 = .ok (.putfield 126, 3) := by decide +kernel
theorem dX4_putStep_30 : decode cX4_putStep 30 = .ok (.return_, 1) := by decide +kernel
theorem dX4_takeNumber_0 : decode cX4_takeNumber 0 = .ok (.aload_n 0, 1) := by decide +kernel
theorem dX4_takeNumber_1 : decode cX4_takeNumber 1 = .ok (.getfield 83, 3) := by decide +kernel
theorem dX4_takeNumber_4 : decode cX4_takeNumber 4 = .ok (.iconst 1, 1) := by decide +kernel
theorem dX4_takeNumber_5 : decode cX4_takeNumber 5 = .ok (.if_icmp .eq 10, 3) := by decide +kernel
theorem dX4_takeNumber_8 : decode cX4_takeNumber 8 = .ok (.aload_n 0, 1) := by decide +kernel
theorem dX4_takeNumber_9 : decode cX4_takeNumber 9 = .ok (.bipush (-2), 2) := by decide +kernel
theorem dX4_takeNumber_11 : decode cX4_takeNumber 11 = .ok (.invokevirtual 62, 3) := by decide +kernel
theorem dX4_takeNumber_14 : decode cX4_takeNumber 14 = .ok (.ireturn, 1) := by decide +kernel
theorem dX4_takeNumber_15 : decode cX4_takeNumber 15 = .ok (.iconst 0, 1) := by decide +kernel
theorem dX4_takeNumber_16 : decode cX4_takeNumber 16 = .ok (.istore_n 3, 1) := by decide +kernel
theorem dX4_takeNumber_17 : decode cX4_takeNumber 17 = .ok (.aload_n 0, 1) := by decide +kernel
theorem dX4_takeNumber_18 : decode cX4_takeNumber 18 = .ok (.getfield 53, 3) := by decide +kernel
theorem dX4_takeNumber_21 : decode cX4_takeNumber 21 = .ok (.istore 4, 2) := by decide +kernel
theorem dX4_takeNumber_23 : decode cX4_takeNumber 23 = .ok (.iload 4, 2) := by decide +kernel
theorem dX4_takeNumber_25 : decode cX4_takeNumber 25 = .ok (.aload_n 0, 1) := by decide +kernel
theorem dX4_takeNumber_26 : decode cX4_takeNumber 26 = .ok (.getfield 40, 3) := by decide +kernel
theorem dX4_takeNumber_29 : decode cX4_takeNumber 29 = .ok (.if_icmp .ge 30, 3) := by decide +kernel
theorem dX4_takeNumber_32 : decode cX4_takeNumber 32 = .ok (.ldc 157, 2) := by decide +kernel
theorem dX4_takeNumber_34 : decode cX4_takeNumber 34 = .ok (.bipush 10, 2) := by decide +kernel
theorem dX4_takeNumber_36 : decode cX4_takeNumber 36 = .ok (.iload_n 3, 1) := by decide +kernel
theorem dX4_takeNumber_37 : decode cX4_takeNumber 37 = .ok (.imul, 1) := by decide +kernel
theorem dX4_takeNumber_38 : decode cX4_takeNumber 38 = .ok (.aload_n 0, 1) := by decide +kernel
theorem dX4_takeNumber_39 : decode cX4_takeNumber 39 = .ok (.getfield 9, 3) := by decide +kernel
theorem dX4_takeNumber_42 : decode cX4_takeNumber 42 = .ok (.iload 4, 2) := by decide +kernel
theorem dX4_takeNumber_44 : decode cX4_takeNumber 44 = .ok (.baload, 1) := by decide +kernel
theorem dX4_takeNumber_45 : decode cX4_takeNumber 45 = .ok (.bipush 48, 2) := by decide +kernel
theorem dX4_takeNumber_47 : decode cX4_takeNumber 47 = .ok (.isub, 1) := by decide +kernel
theorem dX4_takeNumber_48 : decode cX4_takeNumber 48 = .ok (.iadd, 1) := by decide +kernel
theorem dX4_takeNumber_49 : decode cX4_takeNumber 49 = .ok (.invokestatic 158, 3) := by decide +kernel
theorem dX4_takeNumber_52 : decode cX4_takeNumber 52 = .ok (.istore_n 3, 1) := by decide +kernel
theorem dX4_takeNumber_53 : decode cX4_takeNumber 53 = .ok (.iinc 4 1, 3) := by decide +kernel
theorem dX4_takeNumber_56 : decode cX4_takeNumber 56 = .ok (.goto (-33), 3) := by decide +kernel
theorem dX4_takeNumber_59 : decode cX4_takeNumber 59 = .ok (.iload_n 3, 1) := by decide +kernel
theorem dX4_takeNumber_60 : decode cX4_takeNumber 60 = .ok (.iload_n 1, 1) := by decide +kernel
theorem dX4_takeNumber_61 : decode cX4_takeNumber 61 = .ok (.iload_n 2, 1) := by decide +kernel
theorem dX4_takeNumber_62 : decode cX4_takeNumber 62 = .ok (.invokestatic 164, 3) := by decide +kernel
theorem dX4_takeNumber_65 : decode cX4_takeNumber 65 = .ok (.ifCond .ne 10, 3) := by decide +kernel
theorem dX4_takeNumber_68 : decode cX4_takeNumber 68 = .ok (.aload_n 0, 1) := by decide +kernel
theorem dX4_takeNumber_69 : decode cX4_takeNumber 69 = .ok (.bipush (-3), 2) := by decide +kernel
theorem dX4_takeNumber_71 : decode cX4_takeNumber 71 = .ok (.invokevirtual 62, 3) := by decide +kernel
theorem dX4_takeNumber_74 : decode cX4_takeNumber 74 = .ok (.ireturn, 1) := by decide +kernel
theorem dX4_takeNumber_75 : decode cX4_takeNumber 75 = .ok (.aload_n 0, 1) := by decide +kernel
theorem dX4_takeNumber_76 : decode cX4_takeNumber 76 = .ok (.iload_n 3, 1) := by decide +kernel
theorem dX4_takeNumber_77 : decode cX4_takeNumber 77 = .ok (.putfield 70, 3) := by decide +kernel
theorem dX4_takeNumber_80 : decode cX4_takeNumber 80 = .ok (.aload_n 0, 1) := by decide +kernel
theorem dX4_takeNumber_81 : decode cX4_takeNumber 81 = .ok (.invokevirtual 47, 3) := by decide +kernel
theorem dX4_takeNumber_84 : decode cX4_takeNumber 84 = .ok (.iconst 1, 1) := by decide +kernel
theorem dX4_takeNumber_85 : decode cX4_takeNumber 85 = .ok (.ireturn, 1) := by decide +kernel
theorem dX4_takeSign_0 : decode cX4_takeSign 0 = .ok (.aload_n 0, 1) := by decide +kernel
theorem dX4_takeSign_1 : decode cX4_takeSign 1 = .ok (.iload_n 1, 1) := by decide +kernel
theorem dX4_takeSign_2 : decode cX4_takeSign 2 = .ok (.invokevirtual 143, 3) := by decide +kernel
theorem dX4_takeSign_5 : decode cX4_takeSign 5 = .ok (.ifCond .ne 10, 3) := by decide +kernel
theorem dX4_takeSign_8 : decode cX4_takeSign 8 = .ok (.aload_n 0, 1) := by decide +kernel
theorem dX4_takeSign_9 : decode cX4_takeSign 9 = .ok (.bipush (-2), 2) := by decide +kernel
theorem dX4_takeSign_11 : decode cX4_takeSign 11 = .ok (.invokevirtual 62, 3) := by decide +kernel
theorem dX4_takeSign_14 : decode cX4_takeSign 14 = .ok (.ireturn, 1) := by decide +kernel
theorem dX4_takeSign_15 : decode cX4_takeSign 15 = .ok (.aload_n 0, 1) := by decide +kernel
theorem dX4_takeSign_16 : decode cX4_takeSign 16 = .ok (.invokevirtual 47, 3) := by decide +kernel
theorem dX4_takeSign_19 : decode cX4_takeSign 19 = .ok (.iconst 1, 1) := by decide +kernel
theorem dX4_takeSign_20 : decode cX4_takeSign 20 = .ok (.ireturn, 1) := by decide +kernel
theorem dX4_signIs_0 : decode cX4_signIs 0 = .ok (.aload_n 0, 1) := by decide +kernel
theorem dX4_signIs_1 : decode cX4_signIs 1 = .ok (.getfield 83, 3) := by decide +kernel
theorem dX4_signIs_4 : decode cX4_signIs 4 = .ok (.iconst 3, 1) := by decide +kernel
theorem dX4_signIs_5 : decode cX4_signIs 5 = .ok (.if_icmp .ne 20, 3) := by decide +kernel
theorem dX4_signIs_8 : decode cX4_signIs 8 = .ok (.aload_n 0, 1) := by decide +kernel
theorem dX4_signIs_9 : decode cX4_signIs 9 = .ok (.getfield 9, 3) := by decide +kernel
theorem dX4_signIs_12 : decode cX4_signIs 12 = .ok (.aload_n 0, 1) := by decide +kernel
theorem dX4_signIs_13 : decode cX4_signIs 13 = .ok (.getfield 53, 3) := by decide +kernel
theorem dX4_signIs_16 : decode cX4_signIs 16 = .ok (.baload, 1) := by decide +kernel
theorem dX4_signIs_17 : decode cX4_signIs 17 = .ok (.iload_n 1, 1) := by decide +kernel
theorem dX4_signIs_18 : decode cX4_signIs 18 = .ok (.if_icmp .ne 7, 3) := by decide +kernel
theorem dX4_signIs_21 : decode cX4_signIs 21 = .ok (.iconst 1, 1) := by decide +kernel
theorem dX4_signIs_22 : decode cX4_signIs 22 = .ok (.goto 4, 3) := by decide +kernel
theorem dX4_signIs_25 : decode cX4_signIs 25 = .ok (.iconst 0, 1) := by decide +kernel
theorem dX4_signIs_26 : decode cX4_signIs 26 = .ok (.ireturn, 1) := by decide +kernel
theorem dX4_wordIs_0 : decode cX4_wordIs 0 = .ok (.aload_n 0, 1) := by decide +kernel
theorem dX4_wordIs_1 : decode cX4_wordIs 1 = .ok (.getfield 83, 3) := by decide +kernel
theorem dX4_wordIs_4 : decode cX4_wordIs 4 = .ok (.iconst 2, 1) := by decide +kernel
theorem dX4_wordIs_5 : decode cX4_wordIs 5 = .ok (.if_icmp .ne 19, 3) := by decide +kernel
theorem dX4_wordIs_8 : decode cX4_wordIs 8 = .ok (.aload_n 0, 1) := by decide +kernel
theorem dX4_wordIs_9 : decode cX4_wordIs 9 = .ok (.getfield 40, 3) := by decide +kernel
theorem dX4_wordIs_12 : decode cX4_wordIs 12 = .ok (.aload_n 0, 1) := by decide +kernel
theorem dX4_wordIs_13 : decode cX4_wordIs 13 = .ok (.getfield 53, 3) := by decide +kernel
theorem dX4_wordIs_16 : decode cX4_wordIs 16 = .ok (.isub, 1) := by decide +kernel
theorem dX4_wordIs_17 : decode cX4_wordIs 17 = .ok (.aload_n 1, 1) := by decide +kernel
theorem dX4_wordIs_18 : decode cX4_wordIs 18 = .ok (.invokevirtual 168, 3) := by decide +kernel
theorem dX4_wordIs_21 : decode cX4_wordIs 21 = .ok (.if_icmp .eq 5, 3) := by decide +kernel
theorem dX4_wordIs_24 : decode cX4_wordIs 24 = .ok (.iconst 0, 1) := by decide +kernel
theorem dX4_wordIs_25 : decode cX4_wordIs 25 = .ok (.ireturn, 1) := by decide +kernel
theorem dX4_wordIs_26 : decode cX4_wordIs 26 = .ok (.iconst 0, 1) := by decide +kernel
theorem dX4_wordIs_27 : decode cX4_wordIs 27 = .ok (.istore_n 2, 1) := by decide +kernel
theorem dX4_wordIs_28 : decode cX4_wordIs 28 = .ok (.iload_n 2, 1) := by decide +kernel
theorem dX4_wordIs_29 : decode cX4_wordIs 29 = .ok (.aload_n 1, 1) := by decide +kernel
theorem dX4_wordIs_30 : decode cX4_wordIs 30 = .ok (.invokevirtual 168, 3) := by decide +kernel
theorem dX4_wordIs_33 : decode cX4_wordIs 33 = .ok (.if_icmp .ge 30, 3) := by decide +kernel
theorem dX4_wordIs_36 : decode cX4_wordIs 36 = .ok (.aload_n 0, 1) := by decide +kernel
theorem dX4_wordIs_37 : decode cX4_wordIs 37 = .ok (.getfield 9, 3) := by decide +kernel
theorem dX4_wordIs_40 : decode cX4_wordIs 40 = .ok (.aload_n 0, 1) := by decide +kernel
theorem dX4_wordIs_41 : decode cX4_wordIs 41 = .ok (.getfield 53, 3) := by decide +kernel
theorem dX4_wordIs_44 : decode cX4_wordIs 44 = .ok (.iload_n 2, 1) := by decide +kernel
theorem dX4_wordIs_45 : decode cX4_wordIs 45 = .ok (.iadd, 1) := by decide +kernel
theorem dX4_wordIs_46 : decode cX4_wordIs 46 = .ok (.baload, 1) := by decide +kernel
theorem dX4_wordIs_47 : decode cX4_wordIs 47 = .ok (.aload_n 1, 1) := by decide +kernel
theorem dX4_wordIs_48 : decode cX4_wordIs 48 = .ok (.iload_n 2, 1) := by decide +kernel
theorem dX4_wordIs_49 : decode cX4_wordIs 49 = .ok (.invokevirtual 173, 3) := by decide +kernel
theorem dX4_wordIs_52 : decode cX4_wordIs 52 = .ok (.if_icmp .eq 5, 3) := by decide +kernel
theorem dX4_wordIs_55 : decode cX4_wordIs 55 = .ok (.iconst 0, 1) := by decide +kernel
theorem dX4_wordIs_56 : decode cX4_wordIs 56 = .ok (.ireturn, 1) := by decide +kernel
theorem dX4_wordIs_57 : decode cX4_wordIs 57 = .ok (.iinc 2 1, 3) := by decide +kernel
theorem dX4_wordIs_60 : decode cX4_wordIs 60 = .ok (.goto (-32), 3) := by decide +kernel
theorem dX4_wordIs_63 : decode cX4_wordIs 63 = .ok (.iconst 1, 1) := by decide +kernel
theorem dX4_wordIs_64 : decode cX4_wordIs 64 = .ok (.ireturn, 1) := by decide +kernel
theorem dX4_readToken_0 : decode cX4_readToken 0 = .ok (.aload_n 0, 1) := by decide +kernel
theorem dX4_readToken_1 : decode cX4_readToken 1 = .ok (.aload_n 0, 1) := by decide +kernel
theorem dX4_readToken_2 : decode cX4_readToken 2 = .ok (.getfield 40, 3) := by decide +kernel
theorem dX4_readToken_5 : decode cX4_readToken 5 = .ok (.putfield 53, 3) := by decide +kernel
theorem dX4_readToken_8 : decode cX4_readToken 8 = .ok (.aload_n 0, 1) := by decide +kernel
theorem dX4_readToken_9 : decode cX4_readToken 9 = .ok (.getfield 53, 3) := by decide +kernel
theorem dX4_readToken_12 : decode cX4_readToken 12 = .ok (.aload_n 0, 1) := by decide +kernel
theorem dX4_readToken_13 : decode cX4_readToken 13 = .ok (.getfield 37, 3) := by decide +kernel
theorem dX4_readToken_16 : decode cX4_readToken 16 = .ok (.if_icmp .ge 30, 3) := by decide +kernel
theorem dX4_readToken_19 : decode cX4_readToken 19 = .ok (.aload_n 0, 1) := by decide +kernel
theorem dX4_readToken_20 : decode cX4_readToken 20 = .ok (.getfield 9, 3) := by decide +kernel
theorem dX4_readToken_23 : decode cX4_readToken 23 = .ok (.aload_n 0, 1) := by decide +kernel
theorem dX4_readToken_24 : decode cX4_readToken 24 = .ok (.getfield 53, 3) := by decide +kernel
theorem dX4_readToken_27 : decode cX4_readToken 27 = .ok (.baload, 1) := by decide +kernel
theorem dX4_readToken_28 : decode cX4_readToken 28 = .ok (.bipush 32, 2) := by decide +kernel
theorem dX4_readToken_30 : decode cX4_readToken 30 = .ok (.if_icmp .ne 16, 3) := by decide +kernel
theorem dX4_readToken_33 : decode cX4_readToken 33 = .ok (.aload_n 0, 1) := by decide +kernel
theorem dX4_readToken_34 : decode cX4_readToken 34 = .ok (.dup, 1) := by decide +kernel
theorem dX4_readToken_35 : decode cX4_readToken 35 = .ok (.getfield 53, 3) := by decide +kernel
theorem dX4_readToken_38 : decode cX4_readToken 38 = .ok (.iconst 1, 1) := by decide +kernel
theorem dX4_readToken_39 : decode cX4_readToken 39 = .ok (.iadd, 1) := by decide +kernel
theorem dX4_readToken_40 : decode cX4_readToken 40 = .ok (.putfield 53, 3) := by decide +kernel
theorem dX4_readToken_43 : decode cX4_readToken 43 = .ok (.goto (-35), 3) := by decide +kernel
theorem dX4_readToken_46 : decode cX4_readToken 46 = .ok (.aload_n 0, 1) := by decide +kernel
theorem dX4_readToken_47 : decode cX4_readToken 47 = .ok (.aload_n 0, 1) := by decide +kernel
theorem dX4_readToken_48 : decode cX4_readToken 48 = .ok (.getfield 53, 3) := by decide +kernel
theorem dX4_readToken_51 : decode cX4_readToken 51 = .ok (.putfield 40, 3) := by decide +kernel
theorem dX4_readToken_54 : decode cX4_readToken 54 = .ok (.aload_n 0, 1) := by decide +kernel
theorem dX4_readToken_55 : decode cX4_readToken 55 = .ok (.getfield 53, 3) := by decide +kernel
theorem dX4_readToken_58 : decode cX4_readToken 58 = .ok (.aload_n 0, 1) := by decide +kernel
theorem dX4_readToken_59 : decode cX4_readToken 59 = .ok (.getfield 37, 3) := by decide +kernel
theorem dX4_readToken_62 : decode cX4_readToken 62 = .ok (.if_icmp .lt 11, 3) := by decide +kernel
theorem dX4_readToken_65 : decode cX4_readToken 65 = .ok (.aload_n 0, 1) := by decide +kernel
theorem dX4_readToken_66 : decode cX4_readToken 66 = .ok (.iconst 0, 1) := by decide +kernel
theorem dX4_readToken_67 : decode cX4_readToken 67 = .ok (.putfield 83, 3) := by decide +kernel
theorem dX4_readToken_70 : decode cX4_readToken 70 = .ok (.goto 136, 3) := by decide +kernel
theorem dX4_readToken_73 : decode cX4_readToken 73 = .ok (.aload_n 0, 1) := by decide +kernel
theorem dX4_readToken_74 : decode cX4_readToken 74 = .ok (.getfield 9, 3) := by decide +kernel
theorem dX4_readToken_77 : decode cX4_readToken 77 = .ok (.aload_n 0, 1) := by decide +kernel
theorem dX4_readToken_78 : decode cX4_readToken 78 = .ok (.getfield 53, 3) := by decide +kernel
theorem dX4_readToken_81 : decode cX4_readToken 81 = .ok (.baload, 1) := by decide +kernel
theorem dX4_readToken_82 : decode cX4_readToken 82 = .ok (.invokestatic 177, 3) := by decide +kernel
theorem dX4_readToken_85 : decode cX4_readToken 85 = .ok (.ifCond .eq 47, 3) := by decide +kernel
theorem dX4_readToken_88 : decode cX4_readToken 88 = .ok (.aload_n 0, 1) := by decide +kernel
theorem dX4_readToken_89 : decode cX4_readToken 89 = .ok (.iconst 1, 1) := by decide +kernel
theorem dX4_readToken_90 : decode cX4_readToken 90 = .ok (.putfield 83, 3) := by decide +kernel
theorem dX4_readToken_93 : decode cX4_readToken 93 = .ok (.aload_n 0, 1) := by decide +kernel
theorem dX4_readToken_94 : decode cX4_readToken 94 = .ok (.getfield 40, 3) := by decide +kernel
theorem dX4_readToken_97 : decode cX4_readToken 97 = .ok (.aload_n 0, 1) := by decide +kernel
theorem dX4_readToken_98 : decode cX4_readToken 98 = .ok (.getfield 37, 3) := by decide +kernel
theorem dX4_readToken_101 : decode cX4_readToken 101 = .ok (.if_icmp .ge 105, 3) := by decide +kernel
theorem dX4_readToken_104 : decode cX4_readToken 104 = .ok (.aload_n 0, 1) := by decide +kernel
theorem dX4_readToken_105 : decode cX4_readToken 105 = .ok (.getfield 9, 3) := by decide +kernel
theorem dX4_readToken_108 : decode cX4_readToken 108 = .ok (.aload_n 0, 1) := by decide +kernel
theorem dX4_readToken_109 : decode cX4_readToken 109 = .ok (.getfield 40, 3) := by decide +kernel
theorem dX4_readToken_112 : decode cX4_readToken 112 = .ok (.baload, 1) := by decide +kernel
theorem dX4_readToken_113 : decode cX4_readToken 113 = .ok (.invokestatic 177, 3) := by decide +kernel
theorem dX4_readToken_116 : decode cX4_readToken 116 = .ok (.ifCond .eq 90, 3) := by decide +kernel
theorem dX4_readToken_119 : decode cX4_readToken 119 = .ok (.aload_n 0, 1) := by decide +kernel
theorem dX4_readToken_120 : decode cX4_readToken 120 = .ok (.dup, 1) := by decide +kernel
theorem dX4_readToken_121 : decode cX4_readToken 121 = .ok (.getfield 40, 3) := by decide +kernel
theorem dX4_readToken_124 : decode cX4_readToken 124 = .ok (.iconst 1, 1) := by decide +kernel
theorem dX4_readToken_125 : decode cX4_readToken 125 = .ok (.iadd, 1) := by decide +kernel
theorem dX4_readToken_126 : decode cX4_readToken 126 = .ok (.putfield 40, 3) := by decide +kernel
theorem dX4_readToken_129 : decode cX4_readToken 129 = .ok (.goto (-36), 3) := by decide +kernel
theorem dX4_readToken_132 : decode cX4_readToken 132 = .ok (.aload_n 0, 1) := by decide +kernel
theorem dX4_readToken_133 : decode cX4_readToken 133 = .ok (.getfield 9, 3) := by decide +kernel
theorem dX4_readToken_136 : decode cX4_readToken 136 = .ok (.aload_n 0, 1) := by decide +kernel
theorem dX4_readToken_137 : decode cX4_readToken 137 = .ok (.getfield 53, 3) := by decide +kernel
theorem dX4_readToken_140 : decode cX4_readToken 140 = .ok (.baload, 1) := by decide +kernel
theorem dX4_readToken_141 : decode cX4_readToken 141 = .ok (.invokestatic 180, 3) := by decide +kernel
theorem dX4_readToken_144 : decode cX4_readToken 144 = .ok (.ifCond .eq 47, 3) := by decide +kernel
theorem dX4_readToken_147 : decode cX4_readToken 147 = .ok (.aload_n 0, 1) := by decide +kernel
theorem dX4_readToken_148 : decode cX4_readToken 148 = .ok (.iconst 2, 1) := by decide +kernel
theorem dX4_readToken_149 : decode cX4_readToken 149 = .ok (.putfield 83, 3) := by decide +kernel
theorem dX4_readToken_152 : decode cX4_readToken 152 = .ok (.aload_n 0, 1) := by decide +kernel
theorem dX4_readToken_153 : decode cX4_readToken 153 = .ok (.getfield 40, 3) := by decide +kernel
theorem dX4_readToken_156 : decode cX4_readToken 156 = .ok (.aload_n 0, 1) := by decide +kernel
theorem dX4_readToken_157 : decode cX4_readToken 157 = .ok (.getfield 37, 3) := by decide +kernel
theorem dX4_readToken_160 : decode cX4_readToken 160 = .ok (.if_icmp .ge 46, 3) := by decide +kernel
theorem dX4_readToken_163 : decode cX4_readToken 163 = .ok (.aload_n 0, 1) := by decide +kernel
theorem dX4_readToken_164 : decode cX4_readToken 164 = .ok (.getfield 9, 3) := by decide +kernel
theorem dX4_readToken_167 : decode cX4_readToken 167 = .ok (.aload_n 0, 1) := by decide +kernel
theorem dX4_readToken_168 : decode cX4_readToken 168 = .ok (.getfield 40, 3) := by decide +kernel
theorem dX4_readToken_171 : decode cX4_readToken 171 = .ok (.baload, 1) := by decide +kernel
theorem dX4_readToken_172 : decode cX4_readToken 172 = .ok (.invokestatic 180, 3) := by decide +kernel
theorem dX4_readToken_175 : decode cX4_readToken 175 = .ok (.ifCond .eq 31, 3) := by decide +kernel
theorem dX4_readToken_178 : decode cX4_readToken 178 = .ok (.aload_n 0, 1) := by decide +kernel
theorem dX4_readToken_179 : decode cX4_readToken 179 = .ok (.dup, 1) := by decide +kernel
theorem dX4_readToken_180 : decode cX4_readToken 180 = .ok (.getfield 40, 3) := by decide +kernel
theorem dX4_readToken_183 : decode cX4_readToken 183 = .ok (.iconst 1, 1) := by decide +kernel
theorem dX4_readToken_184 : decode cX4_readToken 184 = .ok (.iadd, 1) := by decide +kernel
theorem dX4_readToken_185 : decode cX4_readToken 185 = .ok (.putfield 40, 3) := by decide +kernel
theorem dX4_readToken_188 : decode cX4_readToken 188 = .ok (.goto (-36), 3) := by decide +kernel
theorem dX4_readToken_191 : decode cX4_readToken 191 = .ok (.aload_n 0, 1) := by decide +kernel
theorem dX4_readToken_192 : decode cX4_readToken 192 = .ok (.iconst 3, 1) := by decide +kernel
theorem dX4_readToken_193 : decode cX4_readToken 193 = .ok (.putfield 83, 3) := by decide +kernel
theorem dX4_readToken_196 : decode cX4_readToken 196 = .ok (.aload_n 0, 1) := by decide +kernel
theorem dX4_readToken_197 : decode cX4_readToken 197 = .ok (.dup, 1) := by decide +kernel
theorem dX4_readToken_198 : decode cX4_readToken 198 = .ok (.getfield 40, 3) := by decide +kernel
theorem dX4_readToken_201 : decode cX4_readToken 201 = .ok (.iconst 1, 1) := by decide +kernel
theorem dX4_readToken_202 : decode cX4_readToken 202 = .ok (.iadd, 1) := by decide +kernel
theorem dX4_readToken_203 : decode cX4_readToken 203 = .ok (.putfield 40, 3) := by decide +kernel
theorem dX4_readToken_206 : decode cX4_readToken 206 = .ok (.return_, 1) := by decide +kernel
theorem dX4_isDigit_0 : decode cX4_isDigit 0 = .ok (.iload_n 0, 1) := by decide +kernel
theorem dX4_isDigit_1 : decode cX4_isDigit 1 = .ok (.bipush 48, 2) := by decide +kernel
theorem dX4_isDigit_3 : decode cX4_isDigit 3 = .ok (.if_icmp .lt 13, 3) := by decide +kernel
theorem dX4_isDigit_6 : decode cX4_isDigit 6 = .ok (.iload_n 0, 1) := by decide +kernel
theorem dX4_isDigit_7 : decode cX4_isDigit 7 = .ok (.bipush 57, 2) := by decide +kernel
theorem dX4_isDigit_9 : decode cX4_isDigit 9 = .ok (.if_icmp .gt 7, 3) := by decide +kernel
theorem dX4_isDigit_12 : decode cX4_isDigit 12 = .ok (.iconst 1, 1) := by decide +kernel
theorem dX4_isDigit_13 : decode cX4_isDigit 13 = .ok (.goto 4, 3) := by decide +kernel
theorem dX4_isDigit_16 : decode cX4_isDigit 16 = .ok (.iconst 0, 1) := by decide +kernel
theorem dX4_isDigit_17 : decode cX4_isDigit 17 = .ok (.ireturn, 1) := by decide +kernel
theorem dX4_isLetter_0 : decode cX4_isLetter 0 = .ok (.iload_n 0, 1) := by decide +kernel
theorem dX4_isLetter_1 : decode cX4_isLetter 1 = .ok (.bipush 97, 2) := by decide +kernel
theorem dX4_isLetter_3 : decode cX4_isLetter 3 = .ok (.if_icmp .lt 13, 3) := by decide +kernel
theorem dX4_isLetter_6 : decode cX4_isLetter 6 = .ok (.iload_n 0, 1) := by decide +kernel
theorem dX4_isLetter_7 : decode cX4_isLetter 7 = .ok (.bipush 122, 2) := by decide +kernel
theorem dX4_isLetter_9 : decode cX4_isLetter 9 = .ok (.if_icmp .gt 7, 3) := by decide +kernel
theorem dX4_isLetter_12 : decode cX4_isLetter 12 = .ok (.iconst 1, 1) := by decide +kernel
theorem dX4_isLetter_13 : decode cX4_isLetter 13 = .ok (.goto 4, 3) := by decide +kernel
theorem dX4_isLetter_16 : decode cX4_isLetter 16 = .ok (.iconst 0, 1) := by decide +kernel
theorem dX4_isLetter_17 : decode cX4_isLetter 17 = .ok (.ireturn, 1) := by decide +kernel
theorem dX5_init_0 : decode cX5_init 0 = .ok (.aload_n 0, 1) := by decide +kernel
theorem dX5_init_1 : decode cX5_init 1 = .ok (.invokespecial 3, 3) := by decide +kernel
theorem dX5_init_4 : decode cX5_init 4 = .ok (.new 9, 3) := by decide +kernel
theorem dX5_init_7 : decode cX5_init 7 = .ok (.dup, 1) := by decide +kernel
theorem dX5_init_8 : decode cX5_init 8 = .ok (.invokespecial 11, 3) := by decide +kernel
theorem dX5_init_11 : decode cX5_init 11 = .ok (.astore_n 1, 1) := by decide +kernel
theorem dX5_init_12 : decode cX5_init 12 = .ok (.aload_n 0, 1) := by decide +kernel
theorem dX5_init_13 : decode cX5_init 13 = .ok (.new 12, 3) := by decide +kernel
theorem dX5_init_16 : decode cX5_init 16 = .ok (.dup, 1) := by decide +kernel
theorem dX5_init_17 : decode cX5_init 17 = .ok (.invokespecial 14, 3) := by decide +kernel
theorem dX5_init_20 : decode cX5_init 20 = .ok (.putfield 15, 3) := by decide +kernel
theorem dX5_init_23 : decode cX5_init 23 = .ok (.aload_n 0, 1) := by decide +kernel
theorem dX5_init_24 : decode cX5_init 24 = .ok (.new 19, 3) := by decide +kernel
theorem dX5_init_27 : decode cX5_init 27 = .ok (.dup, 1) := by decide +kernel
theorem dX5_init_28 : decode cX5_init 28 = .ok (.aload_n 1, 1) := by decide +kernel
theorem dX5_init_29 : decode cX5_init 29 = .ok (.invokespecial 21, 3) := by decide +kernel
theorem dX5_init_32 : decode cX5_init 32 = .ok (.putfield 24, 3) := by decide +kernel
theorem dX5_init_35 : decode cX5_init 35 = .ok (.aload_n 0, 1) := by decide +kernel
theorem dX5_init_36 : decode cX5_init 36 = .ok (.new 19, 3) := by decide +kernel
theorem dX5_init_39 : decode cX5_init 39 = .ok (.dup, 1) := by decide +kernel
theorem dX5_init_40 : decode cX5_init 40 = .ok (.aload_n 1, 1) := by decide +kernel
theorem dX5_init_41 : decode cX5_init 41 = .ok (.invokespecial 21, 3) := by decide +kernel
theorem dX5_init_44 : decode cX5_init 44 = .ok (.putfield 28, 3) := by decide +kernel
theorem dX5_init_47 : decode cX5_init 47 = .ok (.aload_n 0, 1) := by decide +kernel
theorem dX5_init_48 : decode cX5_init 48 = .ok (.new 31, 3) := by decide +kernel
theorem dX5_init_51 : decode cX5_init 51 = .ok (.dup, 1) := by decide +kernel
theorem dX5_init_52 : decode cX5_init 52 = .ok (.aload_n 1, 1) := by decide +kernel
theorem dX5_init_53 : decode cX5_init 53 = .ok (.invokespecial 33, 3) := by decide +kernel
theorem dX5_init_56 : decode cX5_init 56 = .ok (.putfield 34, 3) := by decide +kernel
theorem dX5_init_59 : decode cX5_init 59 = .ok (.return_, 1) := by decide +kernel
theorem dX5_append_0 : decode cX5_append 0 = .ok (.aload_n 0, 1) := by decide +kernel
theorem dX5_append_1 : decode cX5_append 1 = .ok (.getfield 15, 3) := by decide +kernel
theorem dX5_append_4 : decode cX5_append 4 = .ok (.getfield 38, 3) := by decide +kernel
theorem dX5_append_7 : decode cX5_append 7 = .ok (.bipush 20, 2) := by decide +kernel
theorem dX5_append_9 : decode cX5_append 9 = .ok (.iadd, 1) := by decide +kernel
theorem dX5_append_10 : decode cX5_append 10 = .ok (.sipush 700, 3) := by decide +kernel
theorem dX5_append_13 : decode cX5_append 13 = .ok (.if_icmp .le 5, 3) := by decide +kernel
theorem dX5_append_16 : decode cX5_append 16 = .ok (.iconst (-1), 1) := by decide +kernel
theorem dX5_append_17 : decode cX5_append 17 = .ok (.ireturn, 1) := by decide +kernel
theorem dX5_append_18 : decode cX5_append 18 = .ok (.aload_n 0, 1) := by decide +kernel
theorem dX5_append_19 : decode cX5_append 19 = .ok (.getfield 15, 3) := by decide +kernel
theorem dX5_append_22 : decode cX5_append 22 = .ok (.iload_n 1, 1) := by decide +kernel
theorem dX5_append_23 : decode cX5_append 23 = .ok (.invokevirtual 42, 3) := by decide +kernel
theorem dX5_append_26 : decode cX5_append 26 = .ok (.aload_n 0, 1) := by decide +kernel
theorem dX5_append_27 : decode cX5_append 27 = .ok (.getfield 15, 3) := by decide +kernel
theorem dX5_append_30 : decode cX5_append 30 = .ok (.iload_n 2, 1) := by decide +kernel
theorem dX5_append_31 : decode cX5_append 31 = .ok (.invokevirtual 42, 3) := by decide +kernel
theorem dX5_append_34 : decode cX5_append 34 = .ok (.aload_n 0, 1) := by decide +kernel
theorem dX5_append_35 : decode cX5_append 35 = .ok (.getfield 15, 3) := by decide +kernel
theorem dX5_append_38 : decode cX5_append 38 = .ok (.iload_n 3, 1) := by decide +kernel
theorem dX5_append_39 : decode cX5_append 39 = .ok (.invokevirtual 42, 3) := by decide +kernel
theorem dX5_append_42 : decode cX5_append 42 = .ok (.aload_n 0, 1) := by decide +kernel
theorem dX5_append_43 : decode cX5_append 43 = .ok (.getfield 15, 3) := by decide +kernel
theorem dX5_append_46 : decode cX5_append 46 = .ok (.iload 4, 2) := by decide +kernel
theorem dX5_append_48 : decode cX5_append 48 = .ok (.invokevirtual 42, 3) := by decide +kernel
theorem dX5_append_51 : decode cX5_append 51 = .ok (.aload_n 0, 1) := by decide +kernel
theorem dX5_append_52 : decode cX5_append 52 = .ok (.getfield 15, 3) := by decide +kernel
theorem dX5_append_55 : decode cX5_append 55 = .ok (.iload 5, 2) := by decide +kernel
theorem dX5_append_57 : decode cX5_append 57 = .ok (.invokevirtual 42, 3) := by decide +kernel
theorem dX5_append_60 : decode cX5_append 60 = .ok (.aload_n 0, 1) := by decide +kernel
theorem dX5_append_61 : decode cX5_append 61 = .ok (.getfield 15, 3) := by decide +kernel
theorem dX5_append_64 : decode cX5_append 64 = .ok (.getfield 38, 3) := by decide +kernel
theorem dX5_append_67 : decode cX5_append 67 = .ok (.ireturn, 1) := by decide +kernel
theorem dX5_load_0 : decode cX5_load 0 = .ok (.iload_n 1, 1) := by decide +kernel
theorem dX5_load_1 : decode cX5_load 1 = .ok (.iconst 0, 1) := by decide +kernel
theorem dX5_load_2 : decode cX5_load 2 = .ok (.aload_n 0, 1) := by decide +kernel
theorem dX5_load_3 : decode cX5_load 3 = .ok (.getfield 15, 3) := by decide +kernel
theorem dX5_load_6 : decode cX5_load 6 = .ok (.getfield 38, 3) := by decide +kernel
theorem dX5_load_9 : decode cX5_load 9 = .ok (.invokestatic 46, 3) := by decide +kernel
theorem dX5_load_12 : decode cX5_load 12 = .ok (.aload_n 0, 1) := by decide +kernel
theorem dX5_load_13 : decode cX5_load 13 = .ok (.getfield 15, 3) := by decide +kernel
theorem dX5_load_16 : decode cX5_load 16 = .ok (.iload_n 1, 1) := by decide +kernel
theorem dX5_load_17 : decode cX5_load 17 = .ok (.invokevirtual 50, 3) := by decide +kernel
theorem dX5_load_20 : decode cX5_load 20 = .ok (.aload_n 0, 1) := by decide +kernel
theorem dX5_load_21 : decode cX5_load 21 = .ok (.getfield 15, 3) := by decide +kernel
theorem dX5_load_24 : decode cX5_load 24 = .ok (.invokevirtual 53, 3) := by decide +kernel
theorem dX5_load_27 : decode cX5_load 27 = .ok (.ifCond .eq 13, 3) := by decide +kernel
theorem dX5_load_30 : decode cX5_load 30 = .ok (.aload_n 0, 1) := by decide +kernel
theorem dX5_load_31 : decode cX5_load 31 = .ok (.getfield 15, 3) := by decide +kernel
theorem dX5_load_34 : decode cX5_load 34 = .ok (.invokevirtual 57, 3) := by decide +kernel
theorem dX5_load_37 : decode cX5_load 37 = .ok (.ifCond .ne 11, 3) := by decide +kernel
theorem dX5_load_40 : decode cX5_load 40 = .ok (.aload_n 0, 1) := by decide +kernel
theorem dX5_load_41 : decode cX5_load 41 = .ok (.getfield 15, 3) := by decide +kernel
theorem dX5_load_44 : decode cX5_load 44 = .ok (.getfield 60, 3) := by decide +kernel
theorem dX5_load_47 : decode cX5_load 47 = .ok (.ireturn, 1) := by decide +kernel
theorem dX5_load_48 : decode cX5_load 48 = .ok (.aload_n 0, 1) := by decide +kernel
theorem dX5_load_49 : decode cX5_load 49 = .ok (.getfield 34, 3) := by decide +kernel
theorem dX5_load_52 : decode cX5_load 52 = .ok (.aload_n 0, 1) := by decide +kernel
theorem dX5_load_53 : decode cX5_load 53 = .ok (.getfield 24, 3) := by decide +kernel
theorem dX5_load_56 : decode cX5_load 56 = .ok (.invokevirtual 63, 3) := by decide +kernel
theorem dX5_load_59 : decode cX5_load 59 = .ok (.aload_n 0, 1) := by decide +kernel
theorem dX5_load_60 : decode cX5_load 60 = .ok (.getfield 24, 3) := by decide +kernel
theorem dX5_load_63 : decode cX5_load 63 = .ok (.aload_n 0, 1) := by decide +kernel
theorem dX5_load_64 : decode cX5_load 64 = .ok (.getfield 15, 3) := by decide +kernel
theorem dX5_load_67 : decode cX5_load 67 = .ok (.getfield 67, 3) := by decide +kernel
theorem dX5_load_70 : decode cX5_load 70 = .ok (.invokevirtual 71, 3) := by decide +kernel
theorem dX5_load_73 : decode cX5_load 73 = .ok (.aload_n 0, 1) := by decide +kernel
theorem dX5_load_74 : decode cX5_load 74 = .ok (.getfield 24, 3) := by decide +kernel
theorem dX5_load_77 : decode cX5_load 77 = .ok (.getfield 74, 3) := by decide +kernel
theorem dX5_load_80 : decode cX5_load 80 = .ok (.getfield 75, 3) := by decide +kernel
theorem dX5_load_83 : decode cX5_load 83 = .ok (.ireturn, 1) := by decide +kernel
theorem dX5_errorOffset_0 : decode cX5_errorOffset 0 = .ok (.aload_n 0, 1) := by decide +kernel
theorem dX5_errorOffset_1 : decode cX5_errorOffset 1 = .ok (.getfield 15, 3) := by decide +kernel
theorem dX5_errorOffset_4 : decode cX5_errorOffset 4 = .ok (.getfield 78, 3) := by decide +kernel
theorem dX5_errorOffset_7 : decode cX5_errorOffset 7 = .ok (.ireturn, 1) := by decide +kernel
theorem dX5_zoneCount_0 : decode cX5_zoneCount 0 = .ok (.aload_n 0, 1) := by decide +kernel
theorem dX5_zoneCount_1 : decode cX5_zoneCount 1 = .ok (.getfield 24, 3) := by decide +kernel
theorem dX5_zoneCount_4 : decode cX5_zoneCount 4 = .ok (.getfield 74, 3) := by decide +kernel
theorem dX5_zoneCount_7 : decode cX5_zoneCount 7 = .ok (.getfield 75, 3) := by decide +kernel
theorem dX5_zoneCount_10 : decode cX5_zoneCount 10 = .ok (.ireturn, 1) := by decide +kernel
theorem dX5_sheetCount_0 : decode cX5_sheetCount 0 = .ok (.aload_n 0, 1) := by decide +kernel
theorem dX5_sheetCount_1 : decode cX5_sheetCount 1 = .ok (.getfield 24, 3) := by decide +kernel
theorem dX5_sheetCount_4 : decode cX5_sheetCount 4 = .ok (.getfield 81, 3) := by decide +kernel
theorem dX5_sheetCount_7 : decode cX5_sheetCount 7 = .ok (.ireturn, 1) := by decide +kernel
theorem dX5_clock_0 : decode cX5_clock 0 = .ok (.aload_n 0, 1) := by decide +kernel
theorem dX5_clock_1 : decode cX5_clock 1 = .ok (.getfield 24, 3) := by decide +kernel
theorem dX5_clock_4 : decode cX5_clock 4 = .ok (.getfield 84, 3) := by decide +kernel
theorem dX5_clock_7 : decode cX5_clock 7 = .ok (.ireturn, 1) := by decide +kernel
theorem dX5_zone_0 : decode cX5_zone 0 = .ok (.iload_n 1, 1) := by decide +kernel
theorem dX5_zone_1 : decode cX5_zone 1 = .ok (.aload_n 0, 1) := by decide +kernel
theorem dX5_zone_2 : decode cX5_zone 2 = .ok (.getfield 24, 3) := by decide +kernel
theorem dX5_zone_5 : decode cX5_zone 5 = .ok (.getfield 74, 3) := by decide +kernel
theorem dX5_zone_8 : decode cX5_zone 8 = .ok (.getfield 75, 3) := by decide +kernel
theorem dX5_zone_11 : decode cX5_zone 11 = .ok (.invokestatic 87, 3) := by decide +kernel
theorem dX5_zone_14 : decode cX5_zone 14 = .ok (.iload_n 2, 1) := by decide +kernel
theorem dX5_zone_15 : decode cX5_zone 15 = .ok (.tableswitch 123 0 6 #[41, 51, 64, 77, 90, 103, 113], 41) := by decide +kernel
theorem dX5_zone_56 : decode cX5_zone 56 = .ok (.aload_n 0, 1) := by decide +kernel
theorem dX5_zone_57 : decode cX5_zone 57 = .ok (.getfield 24, 3) := by decide +kernel
theorem dX5_zone_60 : decode cX5_zone 60 = .ok (.getfield 91, 3) := by decide +kernel
theorem dX5_zone_63 : decode cX5_zone 63 = .ok (.iload_n 1, 1) := by decide +kernel
theorem dX5_zone_64 : decode cX5_zone 64 = .ok (.iaload, 1) := by decide +kernel
theorem dX5_zone_65 : decode cX5_zone 65 = .ok (.ireturn, 1) := by decide +kernel
theorem dX5_zone_66 : decode cX5_zone 66 = .ok (.aload_n 0, 1) := by decide +kernel
theorem dX5_zone_67 : decode cX5_zone 67 = .ok (.getfield 24, 3) := by decide +kernel
theorem dX5_zone_70 : decode cX5_zone 70 = .ok (.getfield 74, 3) := by decide +kernel
theorem dX5_zone_73 : decode cX5_zone 73 = .ok (.getfield 95, 3) := by decide +kernel
theorem dX5_zone_76 : decode cX5_zone 76 = .ok (.iload_n 1, 1) := by decide +kernel
theorem dX5_zone_77 : decode cX5_zone 77 = .ok (.iaload, 1) := by decide +kernel
theorem dX5_zone_78 : decode cX5_zone 78 = .ok (.ireturn, 1) := by decide +kernel
theorem dX5_zone_79 : decode cX5_zone 79 = .ok (.aload_n 0, 1) := by decide +kernel
theorem dX5_zone_80 : decode cX5_zone 80 = .ok (.getfield 24, 3) := by decide +kernel
theorem dX5_zone_83 : decode cX5_zone 83 = .ok (.getfield 74, 3) := by decide +kernel
theorem dX5_zone_86 : decode cX5_zone 86 = .ok (.getfield 98, 3) := by decide +kernel
theorem dX5_zone_89 : decode cX5_zone 89 = .ok (.iload_n 1, 1) := by decide +kernel
theorem dX5_zone_90 : decode cX5_zone 90 = .ok (.iaload, 1) := by decide +kernel
theorem dX5_zone_91 : decode cX5_zone 91 = .ok (.ireturn, 1) := by decide +kernel
theorem dX5_zone_92 : decode cX5_zone 92 = .ok (.aload_n 0, 1) := by decide +kernel
theorem dX5_zone_93 : decode cX5_zone 93 = .ok (.getfield 24, 3) := by decide +kernel
theorem dX5_zone_96 : decode cX5_zone 96 = .ok (.getfield 74, 3) := by decide +kernel
theorem dX5_zone_99 : decode cX5_zone 99 = .ok (.getfield 101, 3) := by decide +kernel
theorem dX5_zone_102 : decode cX5_zone 102 = .ok (.iload_n 1, 1) := by decide +kernel
theorem dX5_zone_103 : decode cX5_zone 103 = .ok (.iaload, 1) := by decide +kernel
theorem dX5_zone_104 : decode cX5_zone 104 = .ok (.ireturn, 1) := by decide +kernel
theorem dX5_zone_105 : decode cX5_zone 105 = .ok (.aload_n 0, 1) := by decide +kernel
theorem dX5_zone_106 : decode cX5_zone 106 = .ok (.getfield 24, 3) := by decide +kernel
theorem dX5_zone_109 : decode cX5_zone 109 = .ok (.getfield 74, 3) := by decide +kernel
theorem dX5_zone_112 : decode cX5_zone 112 = .ok (.getfield 104, 3) := by decide +kernel
theorem dX5_zone_115 : decode cX5_zone 115 = .ok (.iload_n 1, 1) := by decide +kernel
theorem dX5_zone_116 : decode cX5_zone 116 = .ok (.iaload, 1) := by decide +kernel
theorem dX5_zone_117 : decode cX5_zone 117 = .ok (.ireturn, 1) := by decide +kernel
theorem dX5_zone_118 : decode cX5_zone 118 = .ok (.aload_n 0, 1) := by decide +kernel
theorem dX5_zone_119 : decode cX5_zone 119 = .ok (.getfield 24, 3) := by decide +kernel
theorem dX5_zone_122 : decode cX5_zone 122 = .ok (.getfield 107, 3) := by decide +kernel
theorem dX5_zone_125 : decode cX5_zone 125 = .ok (.iload_n 1, 1) := by decide +kernel
theorem dX5_zone_126 : decode cX5_zone 126 = .ok (.iaload, 1) := by decide +kernel
theorem dX5_zone_127 : decode cX5_zone 127 = .ok (.ireturn, 1) := by decide +kernel
theorem dX5_zone_128 : decode cX5_zone 128 = .ok (.aload_n 0, 1) := by decide +kernel
theorem dX5_zone_129 : decode cX5_zone 129 = .ok (.getfield 24, 3) := by decide +kernel
theorem dX5_zone_132 : decode cX5_zone 132 = .ok (.getfield 110, 3) := by decide +kernel
theorem dX5_zone_135 : decode cX5_zone 135 = .ok (.iload_n 1, 1) := by decide +kernel
theorem dX5_zone_136 : decode cX5_zone 136 = .ok (.iaload, 1) := by decide +kernel
theorem dX5_zone_137 : decode cX5_zone 137 = .ok (.ireturn, 1) := by decide +kernel
theorem dX5_zone_138 : decode cX5_zone 138 = .ok (.new 113, 3) := by decide +kernel
theorem dX5_zone_141 : decode cX5_zone 141 = .ok (.dup, 1) := by decide +kernel
theorem dX5_zone_142 : decode cX5_zone 142 = .ok (.ldc 115, 2) := by decide +kernel
theorem dX5_zone_144 : decode cX5_zone 144 = .ok (.invokespecial 117, 3) := by decide +kernel
theorem dX5_zone_147 : decode cX5_zone 147 = .ok (.athrow, 1) := by decide +kernel
theorem dX5_thickness_0 : decode cX5_thickness 0 = .ok (.iload_n 1, 1) := by decide +kernel
theorem dX5_thickness_1 : decode cX5_thickness 1 = .ok (.aload_n 0, 1) := by decide +kernel
theorem dX5_thickness_2 : decode cX5_thickness 2 = .ok (.getfield 24, 3) := by decide +kernel
theorem dX5_thickness_5 : decode cX5_thickness 5 = .ok (.getfield 81, 3) := by decide +kernel
theorem dX5_thickness_8 : decode cX5_thickness 8 = .ok (.invokestatic 87, 3) := by decide +kernel
theorem dX5_thickness_11 : decode cX5_thickness 11 = .ok (.aload_n 0, 1) := by decide +kernel
theorem dX5_thickness_12 : decode cX5_thickness 12 = .ok (.getfield 24, 3) := by decide +kernel
theorem dX5_thickness_15 : decode cX5_thickness 15 = .ok (.getfield 120, 3) := by decide +kernel
theorem dX5_thickness_18 : decode cX5_thickness 18 = .ok (.iload_n 1, 1) := by decide +kernel
theorem dX5_thickness_19 : decode cX5_thickness 19 = .ok (.iaload, 1) := by decide +kernel
theorem dX5_thickness_20 : decode cX5_thickness 20 = .ok (.ireturn, 1) := by decide +kernel
theorem dX5_temperature_0 : decode cX5_temperature 0 = .ok (.iload_n 1, 1) := by decide +kernel
theorem dX5_temperature_1 : decode cX5_temperature 1 = .ok (.aload_n 0, 1) := by decide +kernel
theorem dX5_temperature_2 : decode cX5_temperature 2 = .ok (.getfield 24, 3) := by decide +kernel
theorem dX5_temperature_5 : decode cX5_temperature 5 = .ok (.getfield 81, 3) := by decide +kernel
theorem dX5_temperature_8 : decode cX5_temperature 8 = .ok (.invokestatic 87, 3) := by decide +kernel
theorem dX5_temperature_11 : decode cX5_temperature 11 = .ok (.aload_n 0, 1) := by decide +kernel
theorem dX5_temperature_12 : decode cX5_temperature 12 = .ok (.getfield 24, 3) := by decide +kernel
theorem dX5_temperature_15 : decode cX5_temperature 15 = .ok (.getfield 123, 3) := by decide +kernel
theorem dX5_temperature_18 : decode cX5_temperature 18 = .ok (.iload_n 1, 1) := by decide +kernel
theorem dX5_temperature_19 : decode cX5_temperature 19 = .ok (.iaload, 1) := by decide +kernel
theorem dX5_temperature_20 : decode cX5_temperature 20 = .ok (.ireturn, 1) := by decide +kernel
theorem dX5_state_0 : decode cX5_state 0 = .ok (.iload_n 1, 1) := by decide +kernel
theorem dX5_state_1 : decode cX5_state 1 = .ok (.aload_n 0, 1) := by decide +kernel
theorem dX5_state_2 : decode cX5_state 2 = .ok (.getfield 24, 3) := by decide +kernel
theorem dX5_state_5 : decode cX5_state 5 = .ok (.getfield 81, 3) := by decide +kernel
theorem dX5_state_8 : decode cX5_state 8 = .ok (.invokestatic 87, 3) := by decide +kernel
theorem dX5_state_11 : decode cX5_state 11 = .ok (.aload_n 0, 1) := by decide +kernel
theorem dX5_state_12 : decode cX5_state 12 = .ok (.getfield 24, 3) := by decide +kernel
theorem dX5_state_15 : decode cX5_state 15 = .ok (.getfield 126, 3) := by decide +kernel
theorem dX5_state_18 : decode cX5_state 18 = .ok (.iload_n 1, 1) := by decide +kernel
theorem dX5_state_19 : decode cX5_state 19 = .ok (.iaload, 1) := by decide +kernel
theorem dX5_state_20 : decode cX5_state 20 = .ok (.ireturn, 1) := by decide +kernel
theorem dX5_quenched_0 : decode cX5_quenched 0 = .ok (.aload_n 0, 1) := by decide +kernel
theorem dX5_quenched_1 : decode cX5_quenched 1 = .ok (.getfield 24, 3) := by decide +kernel
theorem dX5_quenched_4 : decode cX5_quenched 4 = .ok (.getfield 129, 3) := by decide +kernel
theorem dX5_quenched_7 : decode cX5_quenched 7 = .ok (.ireturn, 1) := by decide +kernel
theorem dX5_quenchLeft_0 : decode cX5_quenchLeft 0 = .ok (.aload_n 0, 1) := by decide +kernel
theorem dX5_quenchLeft_1 : decode cX5_quenchLeft 1 = .ok (.getfield 24, 3) := by decide +kernel
theorem dX5_quenchLeft_4 : decode cX5_quenchLeft 4 = .ok (.getfield 132, 3) := by decide +kernel
theorem dX5_quenchLeft_7 : decode cX5_quenchLeft 7 = .ok (.ireturn, 1) := by decide +kernel
theorem dX5_count_0 : decode cX5_count 0 = .ok (.iload_n 1, 1) := by decide +kernel
theorem dX5_count_1 : decode cX5_count 1 = .ok (.iconst 0, 1) := by decide +kernel
theorem dX5_count_2 : decode cX5_count 2 = .ok (.iconst 5, 1) := by decide +kernel
theorem dX5_count_3 : decode cX5_count 3 = .ok (.invokestatic 46, 3) := by decide +kernel
theorem dX5_count_6 : decode cX5_count 6 = .ok (.aload_n 0, 1) := by decide +kernel
theorem dX5_count_7 : decode cX5_count 7 = .ok (.getfield 24, 3) := by decide +kernel
theorem dX5_count_10 : decode cX5_count 10 = .ok (.iload_n 1, 1) := by decide +kernel
theorem dX5_count_11 : decode cX5_count 11 = .ok (.invokevirtual 135, 3) := by decide +kernel
theorem dX5_count_14 : decode cX5_count 14 = .ok (.ireturn, 1) := by decide +kernel
theorem dX5_learned_0 : decode cX5_learned 0 = .ok (.iload_n 1, 1) := by decide +kernel
theorem dX5_learned_1 : decode cX5_learned 1 = .ok (.iconst 2, 1) := by decide +kernel
theorem dX5_learned_2 : decode cX5_learned 2 = .ok (.bipush 19, 2) := by decide +kernel
theorem dX5_learned_4 : decode cX5_learned 4 = .ok (.invokestatic 46, 3) := by decide +kernel
theorem dX5_learned_7 : decode cX5_learned 7 = .ok (.iload_n 2, 1) := by decide +kernel
theorem dX5_learned_8 : decode cX5_learned 8 = .ok (.tableswitch 106 0 5 #[40, 50, 60, 70, 80, 93], 40) := by decide +kernel
theorem dX5_learned_48 : decode cX5_learned 48 = .ok (.aload_n 0, 1) := by decide +kernel
theorem dX5_learned_49 : decode cX5_learned 49 = .ok (.getfield 24, 3) := by decide +kernel
theorem dX5_learned_52 : decode cX5_learned 52 = .ok (.getfield 139, 3) := by decide +kernel
theorem dX5_learned_55 : decode cX5_learned 55 = .ok (.iload_n 1, 1) := by decide +kernel
theorem dX5_learned_56 : decode cX5_learned 56 = .ok (.iaload, 1) := by decide +kernel
theorem dX5_learned_57 : decode cX5_learned 57 = .ok (.ireturn, 1) := by decide +kernel
theorem dX5_learned_58 : decode cX5_learned 58 = .ok (.aload_n 0, 1) := by decide +kernel
theorem dX5_learned_59 : decode cX5_learned 59 = .ok (.getfield 24, 3) := by decide +kernel
theorem dX5_learned_62 : decode cX5_learned 62 = .ok (.getfield 142, 3) := by decide +kernel
theorem dX5_learned_65 : decode cX5_learned 65 = .ok (.iload_n 1, 1) := by decide +kernel
theorem dX5_learned_66 : decode cX5_learned 66 = .ok (.iaload, 1) := by decide +kernel
theorem dX5_learned_67 : decode cX5_learned 67 = .ok (.ireturn, 1) := by decide +kernel
theorem dX5_learned_68 : decode cX5_learned 68 = .ok (.aload_n 0, 1) := by decide +kernel
theorem dX5_learned_69 : decode cX5_learned 69 = .ok (.getfield 24, 3) := by decide +kernel
theorem dX5_learned_72 : decode cX5_learned 72 = .ok (.getfield 145, 3) := by decide +kernel
theorem dX5_learned_75 : decode cX5_learned 75 = .ok (.iload_n 1, 1) := by decide +kernel
theorem dX5_learned_76 : decode cX5_learned 76 = .ok (.iaload, 1) := by decide +kernel
theorem dX5_learned_77 : decode cX5_learned 77 = .ok (.ireturn, 1) := by decide +kernel
theorem dX5_learned_78 : decode cX5_learned 78 = .ok (.aload_n 0, 1) := by decide +kernel
theorem dX5_learned_79 : decode cX5_learned 79 = .ok (.getfield 24, 3) := by decide +kernel
theorem dX5_learned_82 : decode cX5_learned 82 = .ok (.getfield 148, 3) := by decide +kernel
theorem dX5_learned_85 : decode cX5_learned 85 = .ok (.iload_n 1, 1) := by decide +kernel
theorem dX5_learned_86 : decode cX5_learned 86 = .ok (.iaload, 1) := by decide +kernel
theorem dX5_learned_87 : decode cX5_learned 87 = .ok (.ireturn, 1) := by decide +kernel
theorem dX5_learned_88 : decode cX5_learned 88 = .ok (.aload_n 0, 1) := by decide +kernel
theorem dX5_learned_89 : decode cX5_learned 89 = .ok (.getfield 24, 3) := by decide +kernel
theorem dX5_learned_92 : decode cX5_learned 92 = .ok (.getfield 74, 3) := by decide +kernel
theorem dX5_learned_95 : decode cX5_learned 95 = .ok (.getfield 151, 3) := by decide +kernel
theorem dX5_learned_98 : decode cX5_learned 98 = .ok (.iload_n 1, 1) := by decide +kernel
theorem dX5_learned_99 : decode cX5_learned 99 = .ok (.iaload, 1) := by decide +kernel
theorem dX5_learned_100 : decode cX5_learned 100 = .ok (.ireturn, 1) := by decide +kernel
theorem dX5_learned_101 : decode cX5_learned 101 = .ok (.aload_n 0, 1) := by decide +kernel
theorem dX5_learned_102 : decode cX5_learned 102 = .ok (.getfield 24, 3) := by decide +kernel
theorem dX5_learned_105 : decode cX5_learned 105 = .ok (.getfield 74, 3) := by decide +kernel
theorem dX5_learned_108 : decode cX5_learned 108 = .ok (.getfield 154, 3) := by decide +kernel
theorem dX5_learned_111 : decode cX5_learned 111 = .ok (.iload_n 1, 1) := by decide +kernel
theorem dX5_learned_112 : decode cX5_learned 112 = .ok (.iaload, 1) := by decide +kernel
theorem dX5_learned_113 : decode cX5_learned 113 = .ok (.ireturn, 1) := by decide +kernel
theorem dX5_learned_114 : decode cX5_learned 114 = .ok (.new 113, 3) := by decide +kernel
theorem dX5_learned_117 : decode cX5_learned 117 = .ok (.dup, 1) := by decide +kernel
theorem dX5_learned_118 : decode cX5_learned 118 = .ok (.ldc 157, 2) := by decide +kernel
theorem dX5_learned_120 : decode cX5_learned 120 = .ok (.invokespecial 117, 3) := by decide +kernel
theorem dX5_learned_123 : decode cX5_learned 123 = .ok (.athrow, 1) := by decide +kernel
theorem dX5_risk_0 : decode cX5_risk 0 = .ok (.iload_n 1, 1) := by decide +kernel
theorem dX5_risk_1 : decode cX5_risk 1 = .ok (.iconst 2, 1) := by decide +kernel
theorem dX5_risk_2 : decode cX5_risk 2 = .ok (.bipush 19, 2) := by decide +kernel
theorem dX5_risk_4 : decode cX5_risk 4 = .ok (.invokestatic 46, 3) := by decide +kernel
theorem dX5_risk_7 : decode cX5_risk 7 = .ok (.aload_n 0, 1) := by decide +kernel
theorem dX5_risk_8 : decode cX5_risk 8 = .ok (.getfield 24, 3) := by decide +kernel
theorem dX5_risk_11 : decode cX5_risk 11 = .ok (.getfield 142, 3) := by decide +kernel
theorem dX5_risk_14 : decode cX5_risk 14 = .ok (.iload_n 1, 1) := by decide +kernel
theorem dX5_risk_15 : decode cX5_risk 15 = .ok (.iaload, 1) := by decide +kernel
theorem dX5_risk_16 : decode cX5_risk 16 = .ok (.aload_n 0, 1) := by decide +kernel
theorem dX5_risk_17 : decode cX5_risk 17 = .ok (.getfield 24, 3) := by decide +kernel
theorem dX5_risk_20 : decode cX5_risk 20 = .ok (.getfield 145, 3) := by decide +kernel
theorem dX5_risk_23 : decode cX5_risk 23 = .ok (.iload_n 1, 1) := by decide +kernel
theorem dX5_risk_24 : decode cX5_risk 24 = .ok (.iaload, 1) := by decide +kernel
theorem dX5_risk_25 : decode cX5_risk 25 = .ok (.iadd, 1) := by decide +kernel
theorem dX5_risk_26 : decode cX5_risk 26 = .ok (.istore_n 2, 1) := by decide +kernel
theorem dX5_risk_27 : decode cX5_risk 27 = .ok (.iload_n 2, 1) := by decide +kernel
theorem dX5_risk_28 : decode cX5_risk 28 = .ok (.aload_n 0, 1) := by decide +kernel
theorem dX5_risk_29 : decode cX5_risk 29 = .ok (.getfield 24, 3) := by decide +kernel
theorem dX5_risk_32 : decode cX5_risk 32 = .ok (.getfield 139, 3) := by decide +kernel
theorem dX5_risk_35 : decode cX5_risk 35 = .ok (.iload_n 1, 1) := by decide +kernel
theorem dX5_risk_36 : decode cX5_risk 36 = .ok (.iaload, 1) := by decide +kernel
theorem dX5_risk_37 : decode cX5_risk 37 = .ok (.iadd, 1) := by decide +kernel
theorem dX5_risk_38 : decode cX5_risk 38 = .ok (.istore_n 3, 1) := by decide +kernel
theorem dX5_risk_39 : decode cX5_risk 39 = .ok (.iload_n 3, 1) := by decide +kernel
theorem dX5_risk_40 : decode cX5_risk 40 = .ok (.ifCond .le 13, 3) := by decide +kernel
theorem dX5_risk_43 : decode cX5_risk 43 = .ok (.sipush 1000, 3) := by decide +kernel
theorem dX5_risk_46 : decode cX5_risk 46 = .ok (.iload_n 2, 1) := by decide +kernel
theorem dX5_risk_47 : decode cX5_risk 47 = .ok (.imul, 1) := by decide +kernel
theorem dX5_risk_48 : decode cX5_risk 48 = .ok (.iload_n 3, 1) := by decide +kernel
theorem dX5_risk_49 : decode cX5_risk 49 = .ok (.idiv, 1) := by decide +kernel
theorem dX5_risk_50 : decode cX5_risk 50 = .ok (.goto 4, 3) := by decide +kernel
theorem dX5_risk_53 : decode cX5_risk 53 = .ok (.iconst (-1), 1) := by decide +kernel
theorem dX5_risk_54 : decode cX5_risk 54 = .ok (.ireturn, 1) := by decide +kernel
theorem dX5_recognise_0 : decode cX5_recognise 0 = .ok (.iload_n 1, 1) := by decide +kernel
theorem dX5_recognise_1 : decode cX5_recognise 1 = .ok (.iconst 1, 1) := by decide +kernel
theorem dX5_recognise_2 : decode cX5_recognise 2 = .ok (.sipush 9999, 3) := by decide +kernel
theorem dX5_recognise_5 : decode cX5_recognise 5 = .ok (.invokestatic 46, 3) := by decide +kernel
theorem dX5_recognise_8 : decode cX5_recognise 8 = .ok (.iload_n 2, 1) := by decide +kernel
theorem dX5_recognise_9 : decode cX5_recognise 9 = .ok (.iconst 1, 1) := by decide +kernel
theorem dX5_recognise_10 : decode cX5_recognise 10 = .ok (.sipush 9999, 3) := by decide +kernel
theorem dX5_recognise_13 : decode cX5_recognise 13 = .ok (.invokestatic 46, 3) := by decide +kernel
theorem dX5_recognise_16 : decode cX5_recognise 16 = .ok (.iload_n 1, 1) := by decide +kernel
theorem dX5_recognise_17 : decode cX5_recognise 17 = .ok (.iload_n 2, 1) := by decide +kernel
theorem dX5_recognise_18 : decode cX5_recognise 18 = .ok (.invokestatic 159, 3) := by decide +kernel
theorem dX5_recognise_21 : decode cX5_recognise 21 = .ok (.istore_n 3, 1) := by decide +kernel
theorem dX5_recognise_22 : decode cX5_recognise 22 = .ok (.iload_n 3, 1) := by decide +kernel
theorem dX5_recognise_23 : decode cX5_recognise 23 = .ok (.invokestatic 163, 3) := by decide +kernel
theorem dX5_recognise_26 : decode cX5_recognise 26 = .ok (.ifCond .eq 7, 3) := by decide +kernel
theorem dX5_recognise_29 : decode cX5_recognise 29 = .ok (.iload_n 3, 1) := by decide +kernel
theorem dX5_recognise_30 : decode cX5_recognise 30 = .ok (.goto 4, 3) := by decide +kernel
theorem dX5_recognise_33 : decode cX5_recognise 33 = .ok (.iconst (-1), 1) := by decide +kernel
theorem dX5_recognise_34 : decode cX5_recognise 34 = .ok (.ireturn, 1) := by decide +kernel
theorem dX5_guard_0 : decode cX5_guard 0 = .ok (.iload_n 1, 1) := by decide +kernel
theorem dX5_guard_1 : decode cX5_guard 1 = .ok (.iconst 2, 1) := by decide +kernel
theorem dX5_guard_2 : decode cX5_guard 2 = .ok (.bipush 19, 2) := by decide +kernel
theorem dX5_guard_4 : decode cX5_guard 4 = .ok (.invokestatic 46, 3) := by decide +kernel
theorem dX5_guard_7 : decode cX5_guard 7 = .ok (.aload_n 0, 1) := by decide +kernel
theorem dX5_guard_8 : decode cX5_guard 8 = .ok (.getfield 24, 3) := by decide +kernel
theorem dX5_guard_11 : decode cX5_guard 11 = .ok (.invokevirtual 167, 3) := by decide +kernel
theorem dX5_guard_14 : decode cX5_guard 14 = .ok (.ifCond .ne 5, 3) := by decide +kernel
theorem dX5_guard_17 : decode cX5_guard 17 = .ok (.iconst (-1), 1) := by decide +kernel
theorem dX5_guard_18 : decode cX5_guard 18 = .ok (.ireturn, 1) := by decide +kernel
theorem dX5_guard_19 : decode cX5_guard 19 = .ok (.aload_n 0, 1) := by decide +kernel
theorem dX5_guard_20 : decode cX5_guard 20 = .ok (.getfield 28, 3) := by decide +kernel
theorem dX5_guard_23 : decode cX5_guard 23 = .ok (.aload_n 0, 1) := by decide +kernel
theorem dX5_guard_24 : decode cX5_guard 24 = .ok (.getfield 24, 3) := by decide +kernel
theorem dX5_guard_27 : decode cX5_guard 27 = .ok (.invokevirtual 170, 3) := by decide +kernel
theorem dX5_guard_30 : decode cX5_guard 30 = .ok (.aload_n 0, 1) := by decide +kernel
theorem dX5_guard_31 : decode cX5_guard 31 = .ok (.getfield 28, 3) := by decide +kernel
theorem dX5_guard_34 : decode cX5_guard 34 = .ok (.iload_n 1, 1) := by decide +kernel
theorem dX5_guard_35 : decode cX5_guard 35 = .ok (.invokevirtual 173, 3) := by decide +kernel
theorem dX5_guard_38 : decode cX5_guard 38 = .ok (.aload_n 0, 1) := by decide +kernel
theorem dX5_guard_39 : decode cX5_guard 39 = .ok (.getfield 28, 3) := by decide +kernel
theorem dX5_guard_42 : decode cX5_guard 42 = .ok (.sipush 300, 3) := by decide +kernel
theorem dX5_guard_45 : decode cX5_guard 45 = .ok (.invokevirtual 176, 3) := by decide +kernel
theorem dX5_guard_48 : decode cX5_guard 48 = .ok (.istore_n 2, 1) := by decide +kernel
theorem dX5_guard_49 : decode cX5_guard 49 = .ok (.aload_n 0, 1) := by decide +kernel
theorem dX5_guard_50 : decode cX5_guard 50 = .ok (.getfield 28, 3) := by decide +kernel
theorem dX5_guard_53 : decode cX5_guard 53 = .ok (.iconst 3, 1) := by decide +kernel
theorem dX5_guard_54 : decode cX5_guard 54 = .ok (.invokevirtual 135, 3) := by decide +kernel
theorem dX5_guard_57 : decode cX5_guard 57 = .ok (.iconst 1, 1) := by decide +kernel
theorem dX5_guard_58 : decode cX5_guard 58 = .ok (.if_icmp .ne 7, 3) := by decide +kernel
theorem dX5_guard_61 : decode cX5_guard 61 = .ok (.iload_n 2, 1) := by decide +kernel
theorem dX5_guard_62 : decode cX5_guard 62 = .ok (.goto 4, 3) := by decide +kernel
theorem dX5_guard_65 : decode cX5_guard 65 = .ok (.iconst (-1), 1) := by decide +kernel
theorem dX5_guard_66 : decode cX5_guard 66 = .ok (.ireturn, 1) := by decide +kernel
theorem dX5_finishTime_0 : decode cX5_finishTime 0 = .ok (.iload_n 1, 1) := by decide +kernel
theorem dX5_finishTime_1 : decode cX5_finishTime 1 = .ok (.iconst 0, 1) := by decide +kernel
theorem dX5_finishTime_2 : decode cX5_finishTime 2 = .ok (.sipush 300, 3) := by decide +kernel
theorem dX5_finishTime_5 : decode cX5_finishTime 5 = .ok (.invokestatic 46, 3) := by decide +kernel
theorem dX5_finishTime_8 : decode cX5_finishTime 8 = .ok (.aload_n 0, 1) := by decide +kernel
theorem dX5_finishTime_9 : decode cX5_finishTime 9 = .ok (.getfield 28, 3) := by decide +kernel
theorem dX5_finishTime_12 : decode cX5_finishTime 12 = .ok (.aload_n 0, 1) := by decide +kernel
theorem dX5_finishTime_13 : decode cX5_finishTime 13 = .ok (.getfield 24, 3) := by decide +kernel
theorem dX5_finishTime_16 : decode cX5_finishTime 16 = .ok (.invokevirtual 170, 3) := by decide +kernel
theorem dX5_finishTime_19 : decode cX5_finishTime 19 = .ok (.aload_n 0, 1) := by decide +kernel
theorem dX5_finishTime_20 : decode cX5_finishTime 20 = .ok (.getfield 28, 3) := by decide +kernel
theorem dX5_finishTime_23 : decode cX5_finishTime 23 = .ok (.iload_n 1, 1) := by decide +kernel
theorem dX5_finishTime_24 : decode cX5_finishTime 24 = .ok (.invokevirtual 176, 3) := by decide +kernel
theorem dX5_finishTime_27 : decode cX5_finishTime 27 = .ok (.ireturn, 1) := by decide +kernel
theorem dX5_stateAfter_0 : decode cX5_stateAfter 0 = .ok (.iload_n 1, 1) := by decide +kernel
theorem dX5_stateAfter_1 : decode cX5_stateAfter 1 = .ok (.aload_n 0, 1) := by decide +kernel
theorem dX5_stateAfter_2 : decode cX5_stateAfter 2 = .ok (.getfield 24, 3) := by decide +kernel
theorem dX5_stateAfter_5 : decode cX5_stateAfter 5 = .ok (.getfield 81, 3) := by decide +kernel
theorem dX5_stateAfter_8 : decode cX5_stateAfter 8 = .ok (.invokestatic 87, 3) := by decide +kernel
theorem dX5_stateAfter_11 : decode cX5_stateAfter 11 = .ok (.iload_n 2, 1) := by decide +kernel
theorem dX5_stateAfter_12 : decode cX5_stateAfter 12 = .ok (.iconst 0, 1) := by decide +kernel
theorem dX5_stateAfter_13 : decode cX5_stateAfter 13 = .ok (.sipush 300, 3) := by decide +kernel
theorem dX5_stateAfter_16 : decode cX5_stateAfter 16 = .ok (.invokestatic 46, 3) := by decide +kernel
theorem dX5_stateAfter_19 : decode cX5_stateAfter 19 = .ok (.aload_n 0, 1) := by decide +kernel
theorem dX5_stateAfter_20 : decode cX5_stateAfter 20 = .ok (.getfield 28, 3) := by decide +kernel
theorem dX5_stateAfter_23 : decode cX5_stateAfter 23 = .ok (.aload_n 0, 1) := by decide +kernel
theorem dX5_stateAfter_24 : decode cX5_stateAfter 24 = .ok (.getfield 24, 3) := by decide +kernel
theorem dX5_stateAfter_27 : decode cX5_stateAfter 27 = .ok (.invokevirtual 170, 3) := by decide +kernel
theorem dX5_stateAfter_30 : decode cX5_stateAfter 30 = .ok (.aload_n 0, 1) := by decide +kernel
theorem dX5_stateAfter_31 : decode cX5_stateAfter 31 = .ok (.getfield 28, 3) := by decide +kernel
theorem dX5_stateAfter_34 : decode cX5_stateAfter 34 = .ok (.iload_n 2, 1) := by decide +kernel
theorem dX5_stateAfter_35 : decode cX5_stateAfter 35 = .ok (.invokevirtual 176, 3) := by decide +kernel
theorem dX5_stateAfter_38 : decode cX5_stateAfter 38 = .ok (.pop, 1) := by decide +kernel
theorem dX5_stateAfter_39 : decode cX5_stateAfter 39 = .ok (.aload_n 0, 1) := by decide +kernel
theorem dX5_stateAfter_40 : decode cX5_stateAfter 40 = .ok (.getfield 28, 3) := by decide +kernel
theorem dX5_stateAfter_43 : decode cX5_stateAfter 43 = .ok (.getfield 126, 3) := by decide +kernel
theorem dX5_stateAfter_46 : decode cX5_stateAfter 46 = .ok (.iload_n 1, 1) := by decide +kernel
theorem dX5_stateAfter_47 : decode cX5_stateAfter 47 = .ok (.iaload, 1) := by decide +kernel
theorem dX5_stateAfter_48 : decode cX5_stateAfter 48 = .ok (.ireturn, 1) := by decide +kernel
theorem dX5_bestSetpoint_0 : decode cX5_bestSetpoint 0 = .ok (.aload_n 0, 1) := by decide +kernel
theorem dX5_bestSetpoint_1 : decode cX5_bestSetpoint 1 = .ok (.getfield 24, 3) := by decide +kernel
theorem dX5_bestSetpoint_4 : decode cX5_bestSetpoint 4 = .ok (.invokevirtual 167, 3) := by decide +kernel
theorem dX5_bestSetpoint_7 : decode cX5_bestSetpoint 7 = .ok (.ifCond .ne 5, 3) := by decide +kernel
theorem dX5_bestSetpoint_10 : decode cX5_bestSetpoint 10 = .ok (.iconst (-1), 1) := by decide +kernel
theorem dX5_bestSetpoint_11 : decode cX5_bestSetpoint 11 = .ok (.ireturn, 1) := by decide +kernel
theorem dX5_bestSetpoint_12 : decode cX5_bestSetpoint 12 = .ok (.aload_n 0, 1) := by decide +kernel
theorem dX5_bestSetpoint_13 : decode cX5_bestSetpoint 13 = .ok (.getfield 24, 3) := by decide +kernel
theorem dX5_bestSetpoint_16 : decode cX5_bestSetpoint 16 = .ok (.getfield 91, 3) := by decide +kernel
theorem dX5_bestSetpoint_19 : decode cX5_bestSetpoint 19 = .ok (.aload_n 0, 1) := by decide +kernel
theorem dX5_bestSetpoint_20 : decode cX5_bestSetpoint 20 = .ok (.getfield 24, 3) := by decide +kernel
theorem dX5_bestSetpoint_23 : decode cX5_bestSetpoint 23 = .ok (.getfield 74, 3) := by decide +kernel
theorem dX5_bestSetpoint_26 : decode cX5_bestSetpoint 26 = .ok (.getfield 75, 3) := by decide +kernel
theorem dX5_bestSetpoint_29 : decode cX5_bestSetpoint 29 = .ok (.iconst 1, 1) := by decide +kernel
theorem dX5_bestSetpoint_30 : decode cX5_bestSetpoint 30 = .ok (.isub, 1) := by decide +kernel
theorem dX5_bestSetpoint_31 : decode cX5_bestSetpoint 31 = .ok (.iaload, 1) := by decide +kernel
theorem dX5_bestSetpoint_32 : decode cX5_bestSetpoint 32 = .ok (.istore_n 1, 1) := by decide +kernel
theorem dX5_bestSetpoint_33 : decode cX5_bestSetpoint 33 = .ok (.iload_n 1, 1) := by decide +kernel
theorem dX5_bestSetpoint_34 : decode cX5_bestSetpoint 34 = .ok (.istore_n 2, 1) := by decide +kernel
theorem dX5_bestSetpoint_35 : decode cX5_bestSetpoint 35 = .ok (.aload_n 0, 1) := by decide +kernel
theorem dX5_bestSetpoint_36 : decode cX5_bestSetpoint 36 = .ok (.iload_n 1, 1) := by decide +kernel
theorem dX5_bestSetpoint_37 : decode cX5_bestSetpoint 37 = .ok (.invokevirtual 179, 3) := by decide +kernel
theorem dX5_bestSetpoint_40 : decode cX5_bestSetpoint 40 = .ok (.istore_n 3, 1) := by decide +kernel
theorem dX5_bestSetpoint_41 : decode cX5_bestSetpoint 41 = .ok (.bipush 10, 2) := by decide +kernel
theorem dX5_bestSetpoint_43 : decode cX5_bestSetpoint 43 = .ok (.istore 4, 2) := by decide +kernel
theorem dX5_bestSetpoint_45 : decode cX5_bestSetpoint 45 = .ok (.iload 4, 2) := by decide +kernel
theorem dX5_bestSetpoint_47 : decode cX5_bestSetpoint 47 = .ok (.bipush 30, 2) := by decide +kernel
theorem dX5_bestSetpoint_49 : decode cX5_bestSetpoint 49 = .ok (.if_icmp .gt 66, 3) := by decide +kernel
theorem dX5_bestSetpoint_52 : decode cX5_bestSetpoint 52 = .ok (.iconst (-1), 1) := by decide +kernel
theorem dX5_bestSetpoint_53 : decode cX5_bestSetpoint 53 = .ok (.istore 5, 2) := by decide +kernel
theorem dX5_bestSetpoint_55 : decode cX5_bestSetpoint 55 = .ok (.iload 5, 2) := by decide +kernel
theorem dX5_bestSetpoint_57 : decode cX5_bestSetpoint 57 = .ok (.iconst 1, 1) := by decide +kernel
theorem dX5_bestSetpoint_58 : decode cX5_bestSetpoint 58 = .ok (.if_icmp .gt 51, 3) := by decide +kernel
theorem dX5_bestSetpoint_61 : decode cX5_bestSetpoint 61 = .ok (.iload_n 1, 1) := by decide +kernel
theorem dX5_bestSetpoint_62 : decode cX5_bestSetpoint 62 = .ok (.iload 5, 2) := by decide +kernel
theorem dX5_bestSetpoint_64 : decode cX5_bestSetpoint 64 = .ok (.iload 4, 2) := by decide +kernel
theorem dX5_bestSetpoint_66 : decode cX5_bestSetpoint 66 = .ok (.imul, 1) := by decide +kernel
theorem dX5_bestSetpoint_67 : decode cX5_bestSetpoint 67 = .ok (.iadd, 1) := by decide +kernel
theorem dX5_bestSetpoint_68 : decode cX5_bestSetpoint 68 = .ok (.istore 6, 2) := by decide +kernel
theorem dX5_bestSetpoint_70 : decode cX5_bestSetpoint 70 = .ok (.iload 6, 2) := by decide +kernel
theorem dX5_bestSetpoint_72 : decode cX5_bestSetpoint 72 = .ok (.bipush 100, 2) := by decide +kernel
theorem dX5_bestSetpoint_74 : decode cX5_bestSetpoint 74 = .ok (.sipush 900, 3) := by decide +kernel
theorem dX5_bestSetpoint_77 : decode cX5_bestSetpoint 77 = .ok (.invokestatic 182, 3) := by decide +kernel
theorem dX5_bestSetpoint_80 : decode cX5_bestSetpoint 80 = .ok (.ifCond .eq 23, 3) := by decide +kernel
theorem dX5_bestSetpoint_83 : decode cX5_bestSetpoint 83 = .ok (.aload_n 0, 1) := by decide +kernel
theorem dX5_bestSetpoint_84 : decode cX5_bestSetpoint 84 = .ok (.iload 6, 2) := by decide +kernel
theorem dX5_bestSetpoint_86 : decode cX5_bestSetpoint 86 = .ok (.invokevirtual 179, 3) := by decide +kernel
theorem dX5_bestSetpoint_89 : decode cX5_bestSetpoint 89 = .ok (.istore 7, 2) := by decide +kernel
theorem dX5_bestSetpoint_91 : decode cX5_bestSetpoint 91 = .ok (.iload 7, 2) := by decide +kernel
theorem dX5_bestSetpoint_93 : decode cX5_bestSetpoint 93 = .ok (.iload_n 3, 1) := by decide +kernel
theorem dX5_bestSetpoint_94 : decode cX5_bestSetpoint 94 = .ok (.if_icmp .le 9, 3) := by decide +kernel
theorem dX5_bestSetpoint_97 : decode cX5_bestSetpoint 97 = .ok (.iload 7, 2) := by decide +kernel
theorem dX5_bestSetpoint_99 : decode cX5_bestSetpoint 99 = .ok (.istore_n 3, 1) := by decide +kernel
theorem dX5_bestSetpoint_100 : decode cX5_bestSetpoint 100 = .ok (.iload 6, 2) := by decide +kernel
theorem dX5_bestSetpoint_102 : decode cX5_bestSetpoint 102 = .ok (.istore_n 2, 1) := by decide +kernel
theorem dX5_bestSetpoint_103 : decode cX5_bestSetpoint 103 = .ok (.iinc 5 2, 3) := by decide +kernel
theorem dX5_bestSetpoint_106 : decode cX5_bestSetpoint 106 = .ok (.goto (-51), 3) := by decide +kernel
theorem dX5_bestSetpoint_109 : decode cX5_bestSetpoint 109 = .ok (.iinc 4 10, 3) := by decide +kernel
theorem dX5_bestSetpoint_112 : decode cX5_bestSetpoint 112 = .ok (.goto (-67), 3) := by decide +kernel
theorem dX5_bestSetpoint_115 : decode cX5_bestSetpoint 115 = .ok (.iload_n 2, 1) := by decide +kernel
theorem dX5_bestSetpoint_116 : decode cX5_bestSetpoint 116 = .ok (.ireturn, 1) := by decide +kernel
theorem dX5_add_0 : decode cX5_add 0 = .ok (.iload_n 1, 1) := by decide +kernel
theorem dX5_add_1 : decode cX5_add 1 = .ok (.iconst 1, 1) := by decide +kernel
theorem dX5_add_2 : decode cX5_add 2 = .ok (.sipush 9999, 3) := by decide +kernel
theorem dX5_add_5 : decode cX5_add 5 = .ok (.invokestatic 46, 3) := by decide +kernel
theorem dX5_add_8 : decode cX5_add 8 = .ok (.iload_n 2, 1) := by decide +kernel
theorem dX5_add_9 : decode cX5_add 9 = .ok (.iconst 1, 1) := by decide +kernel
theorem dX5_add_10 : decode cX5_add 10 = .ok (.sipush 9999, 3) := by decide +kernel
theorem dX5_add_13 : decode cX5_add 13 = .ok (.invokestatic 46, 3) := by decide +kernel
theorem dX5_add_16 : decode cX5_add 16 = .ok (.iload_n 1, 1) := by decide +kernel
theorem dX5_add_17 : decode cX5_add 17 = .ok (.iload_n 2, 1) := by decide +kernel
theorem dX5_add_18 : decode cX5_add 18 = .ok (.invokestatic 159, 3) := by decide +kernel
theorem dX5_add_21 : decode cX5_add 21 = .ok (.istore_n 3, 1) := by decide +kernel
theorem dX5_add_22 : decode cX5_add 22 = .ok (.iload_n 3, 1) := by decide +kernel
theorem dX5_add_23 : decode cX5_add 23 = .ok (.iconst 2, 1) := by decide +kernel
theorem dX5_add_24 : decode cX5_add 24 = .ok (.bipush 19, 2) := by decide +kernel
theorem dX5_add_26 : decode cX5_add 26 = .ok (.invokestatic 46, 3) := by decide +kernel
theorem dX5_add_29 : decode cX5_add 29 = .ok (.aload_n 0, 1) := by decide +kernel
theorem dX5_add_30 : decode cX5_add 30 = .ok (.invokevirtual 186, 3) := by decide +kernel
theorem dX5_add_33 : decode cX5_add 33 = .ok (.aload_n 0, 1) := by decide +kernel
theorem dX5_add_34 : decode cX5_add 34 = .ok (.getfield 24, 3) := by decide +kernel
theorem dX5_add_37 : decode cX5_add 37 = .ok (.getfield 81, 3) := by decide +kernel
theorem dX5_add_40 : decode cX5_add 40 = .ok (.bipush 20, 2) := by decide +kernel
theorem dX5_add_42 : decode cX5_add 42 = .ok (.if_icmp .lt 13, 3) := by decide +kernel
theorem dX5_add_45 : decode cX5_add 45 = .ok (.new 189, 3) := by decide +kernel
theorem dX5_add_48 : decode cX5_add 48 = .ok (.dup, 1) := by decide +kernel
theorem dX5_add_49 : decode cX5_add 49 = .ok (.ldc 191, 2) := by decide +kernel
theorem dX5_add_51 : decode cX5_add 51 = .ok (.invokespecial 193, 3) := by decide +kernel
theorem dX5_add_54 : decode cX5_add 54 = .ok (.athrow, 1) := by decide +kernel
theorem dX5_add_55 : decode cX5_add 55 = .ok (.aload_n 0, 1) := by decide +kernel
theorem dX5_add_56 : decode cX5_add 56 = .ok (.getfield 34, 3) := by decide +kernel
theorem dX5_add_59 : decode cX5_add 59 = .ok (.aload_n 0, 1) := by decide +kernel
theorem dX5_add_60 : decode cX5_add 60 = .ok (.getfield 24, 3) := by decide +kernel
theorem dX5_add_63 : decode cX5_add 63 = .ok (.invokevirtual 63, 3) := by decide +kernel
theorem dX5_add_66 : decode cX5_add 66 = .ok (.aload_n 0, 1) := by decide +kernel
theorem dX5_add_67 : decode cX5_add 67 = .ok (.getfield 24, 3) := by decide +kernel
theorem dX5_add_70 : decode cX5_add 70 = .ok (.iload_n 3, 1) := by decide +kernel
theorem dX5_add_71 : decode cX5_add 71 = .ok (.invokevirtual 194, 3) := by decide +kernel
theorem dX5_add_74 : decode cX5_add 74 = .ok (.ireturn, 1) := by decide +kernel
theorem dX5_run_0 : decode cX5_run 0 = .ok (.iload_n 1, 1) := by decide +kernel
theorem dX5_run_1 : decode cX5_run 1 = .ok (.iconst 1, 1) := by decide +kernel
theorem dX5_run_2 : decode cX5_run 2 = .ok (.bipush 60, 2) := by decide +kernel
theorem dX5_run_4 : decode cX5_run 4 = .ok (.invokestatic 46, 3) := by decide +kernel
theorem dX5_run_7 : decode cX5_run 7 = .ok (.aload_n 0, 1) := by decide +kernel
theorem dX5_run_8 : decode cX5_run 8 = .ok (.invokevirtual 186, 3) := by decide +kernel
theorem dX5_run_11 : decode cX5_run 11 = .ok (.aload_n 0, 1) := by decide +kernel
theorem dX5_run_12 : decode cX5_run 12 = .ok (.getfield 24, 3) := by decide +kernel
theorem dX5_run_15 : decode cX5_run 15 = .ok (.getfield 84, 3) := by decide +kernel
theorem dX5_run_18 : decode cX5_run 18 = .ok (.iload_n 1, 1) := by decide +kernel
theorem dX5_run_19 : decode cX5_run 19 = .ok (.iadd, 1) := by decide +kernel
theorem dX5_run_20 : decode cX5_run 20 = .ok (.ldc 197, 2) := by decide +kernel
theorem dX5_run_22 : decode cX5_run 22 = .ok (.if_icmp .le 13, 3) := by decide +kernel
theorem dX5_run_25 : decode cX5_run 25 = .ok (.new 189, 3) := by decide +kernel
theorem dX5_run_28 : decode cX5_run 28 = .ok (.dup, 1) := by decide +kernel
theorem dX5_run_29 : decode cX5_run 29 = .ok (.ldc 198, 2) := by decide +kernel
theorem dX5_run_31 : decode cX5_run 31 = .ok (.invokespecial 193, 3) := by decide +kernel
theorem dX5_run_34 : decode cX5_run 34 = .ok (.athrow, 1) := by decide +kernel
theorem dX5_run_35 : decode cX5_run 35 = .ok (.aload_n 0, 1) := by decide +kernel
theorem dX5_run_36 : decode cX5_run 36 = .ok (.getfield 34, 3) := by decide +kernel
theorem dX5_run_39 : decode cX5_run 39 = .ok (.aload_n 0, 1) := by decide +kernel
theorem dX5_run_40 : decode cX5_run 40 = .ok (.getfield 24, 3) := by decide +kernel
theorem dX5_run_43 : decode cX5_run 43 = .ok (.invokevirtual 63, 3) := by decide +kernel
theorem dX5_run_46 : decode cX5_run 46 = .ok (.aload_n 0, 1) := by decide +kernel
theorem dX5_run_47 : decode cX5_run 47 = .ok (.getfield 24, 3) := by decide +kernel
theorem dX5_run_50 : decode cX5_run 50 = .ok (.iconst 3, 1) := by decide +kernel
theorem dX5_run_51 : decode cX5_run 51 = .ok (.invokevirtual 135, 3) := by decide +kernel
theorem dX5_run_54 : decode cX5_run 54 = .ok (.istore_n 2, 1) := by decide +kernel
theorem dX5_run_55 : decode cX5_run 55 = .ok (.iconst 0, 1) := by decide +kernel
theorem dX5_run_56 : decode cX5_run 56 = .ok (.istore_n 3, 1) := by decide +kernel
theorem dX5_run_57 : decode cX5_run 57 = .ok (.iload_n 3, 1) := by decide +kernel
theorem dX5_run_58 : decode cX5_run 58 = .ok (.iload_n 1, 1) := by decide +kernel
theorem dX5_run_59 : decode cX5_run 59 = .ok (.if_icmp .ge 16, 3) := by decide +kernel
theorem dX5_run_62 : decode cX5_run 62 = .ok (.aload_n 0, 1) := by decide +kernel
theorem dX5_run_63 : decode cX5_run 63 = .ok (.getfield 24, 3) := by decide +kernel
theorem dX5_run_66 : decode cX5_run 66 = .ok (.invokevirtual 200, 3) := by decide +kernel
theorem dX5_run_69 : decode cX5_run 69 = .ok (.iinc 3 1, 3) := by decide +kernel
theorem dX5_run_72 : decode cX5_run 72 = .ok (.goto (-15), 3) := by decide +kernel
theorem dX5_run_75 : decode cX5_run 75 = .ok (.aload_n 0, 1) := by decide +kernel
theorem dX5_run_76 : decode cX5_run 76 = .ok (.getfield 24, 3) := by decide +kernel
theorem dX5_run_79 : decode cX5_run 79 = .ok (.iconst 3, 1) := by decide +kernel
theorem dX5_run_80 : decode cX5_run 80 = .ok (.invokevirtual 135, 3) := by decide +kernel
theorem dX5_run_83 : decode cX5_run 83 = .ok (.iload_n 2, 1) := by decide +kernel
theorem dX5_run_84 : decode cX5_run 84 = .ok (.isub, 1) := by decide +kernel
theorem dX5_run_85 : decode cX5_run 85 = .ok (.ireturn, 1) := by decide +kernel
theorem dX5_setPoint_0 : decode cX5_setPoint 0 = .ok (.iload_n 1, 1) := by decide +kernel
theorem dX5_setPoint_1 : decode cX5_setPoint 1 = .ok (.aload_n 0, 1) := by decide +kernel
theorem dX5_setPoint_2 : decode cX5_setPoint 2 = .ok (.getfield 24, 3) := by decide +kernel
theorem dX5_setPoint_5 : decode cX5_setPoint 5 = .ok (.getfield 74, 3) := by decide +kernel
theorem dX5_setPoint_8 : decode cX5_setPoint 8 = .ok (.getfield 75, 3) := by decide +kernel
theorem dX5_setPoint_11 : decode cX5_setPoint 11 = .ok (.invokestatic 87, 3) := by decide +kernel
theorem dX5_setPoint_14 : decode cX5_setPoint 14 = .ok (.iload_n 2, 1) := by decide +kernel
theorem dX5_setPoint_15 : decode cX5_setPoint 15 = .ok (.bipush 100, 2) := by decide +kernel
theorem dX5_setPoint_17 : decode cX5_setPoint 17 = .ok (.sipush 900, 3) := by decide +kernel
theorem dX5_setPoint_20 : decode cX5_setPoint 20 = .ok (.invokestatic 46, 3) := by decide +kernel
theorem dX5_setPoint_23 : decode cX5_setPoint 23 = .ok (.aload_n 0, 1) := by decide +kernel
theorem dX5_setPoint_24 : decode cX5_setPoint 24 = .ok (.getfield 34, 3) := by decide +kernel
theorem dX5_setPoint_27 : decode cX5_setPoint 27 = .ok (.aload_n 0, 1) := by decide +kernel
theorem dX5_setPoint_28 : decode cX5_setPoint 28 = .ok (.getfield 24, 3) := by decide +kernel
theorem dX5_setPoint_31 : decode cX5_setPoint 31 = .ok (.invokevirtual 63, 3) := by decide +kernel
theorem dX5_setPoint_34 : decode cX5_setPoint 34 = .ok (.aload_n 0, 1) := by decide +kernel
theorem dX5_setPoint_35 : decode cX5_setPoint 35 = .ok (.getfield 24, 3) := by decide +kernel
theorem dX5_setPoint_38 : decode cX5_setPoint 38 = .ok (.getfield 91, 3) := by decide +kernel
theorem dX5_setPoint_41 : decode cX5_setPoint 41 = .ok (.iload_n 1, 1) := by decide +kernel
theorem dX5_setPoint_42 : decode cX5_setPoint 42 = .ok (.iaload, 1) := by decide +kernel
theorem dX5_setPoint_43 : decode cX5_setPoint 43 = .ok (.istore_n 3, 1) := by decide +kernel
theorem dX5_setPoint_44 : decode cX5_setPoint 44 = .ok (.aload_n 0, 1) := by decide +kernel
theorem dX5_setPoint_45 : decode cX5_setPoint 45 = .ok (.getfield 24, 3) := by decide +kernel
theorem dX5_setPoint_48 : decode cX5_setPoint 48 = .ok (.getfield 91, 3) := by decide +kernel
theorem dX5_setPoint_51 : decode cX5_setPoint 51 = .ok (.iload_n 1, 1) := by decide +kernel
theorem dX5_setPoint_52 : decode cX5_setPoint 52 = .ok (.iload_n 2, 1) := by decide +kernel
theorem dX5_setPoint_53 : decode cX5_setPoint 53 = .ok (.iastore, 1) := by decide +kernel
theorem dX5_setPoint_54 : decode cX5_setPoint 54 = .ok (.iload_n 3, 1) := by decide +kernel
theorem dX5_setPoint_55 : decode cX5_setPoint 55 = .ok (.ireturn, 1) := by decide +kernel
theorem dX5_setCorrection_0 : decode cX5_setCorrection 0 = .ok (.iload_n 1, 1) := by decide +kernel
theorem dX5_setCorrection_1 : decode cX5_setCorrection 1 = .ok (.iconst 2, 1) := by decide +kernel
theorem dX5_setCorrection_2 : decode cX5_setCorrection 2 = .ok (.bipush 19, 2) := by decide +kernel
theorem dX5_setCorrection_4 : decode cX5_setCorrection 4 = .ok (.invokestatic 46, 3) := by decide +kernel
theorem dX5_setCorrection_7 : decode cX5_setCorrection 7 = .ok (.iload_n 2, 1) := by decide +kernel
theorem dX5_setCorrection_8 : decode cX5_setCorrection 8 = .ok (.bipush (-50), 2) := by decide +kernel
theorem dX5_setCorrection_10 : decode cX5_setCorrection 10 = .ok (.bipush 50, 2) := by decide +kernel
theorem dX5_setCorrection_12 : decode cX5_setCorrection 12 = .ok (.invokestatic 46, 3) := by decide +kernel
theorem dX5_setCorrection_15 : decode cX5_setCorrection 15 = .ok (.aload_n 0, 1) := by decide +kernel
theorem dX5_setCorrection_16 : decode cX5_setCorrection 16 = .ok (.invokevirtual 186, 3) := by decide +kernel
theorem dX5_setCorrection_19 : decode cX5_setCorrection 19 = .ok (.aload_n 0, 1) := by decide +kernel
theorem dX5_setCorrection_20 : decode cX5_setCorrection 20 = .ok (.getfield 34, 3) := by decide +kernel
theorem dX5_setCorrection_23 : decode cX5_setCorrection 23 = .ok (.aload_n 0, 1) := by decide +kernel
theorem dX5_setCorrection_24 : decode cX5_setCorrection 24 = .ok (.getfield 24, 3) := by decide +kernel
theorem dX5_setCorrection_27 : decode cX5_setCorrection 27 = .ok (.invokevirtual 63, 3) := by decide +kernel
theorem dX5_setCorrection_30 : decode cX5_setCorrection 30 = .ok (.aload_n 0, 1) := by decide +kernel
theorem dX5_setCorrection_31 : decode cX5_setCorrection 31 = .ok (.getfield 24, 3) := by decide +kernel
theorem dX5_setCorrection_34 : decode cX5_setCorrection 34 = .ok (.getfield 148, 3) := by decide +kernel
theorem dX5_setCorrection_37 : decode cX5_setCorrection 37 = .ok (.iload_n 1, 1) := by decide +kernel
theorem dX5_setCorrection_38 : decode cX5_setCorrection 38 = .ok (.iaload, 1) := by decide +kernel
theorem dX5_setCorrection_39 : decode cX5_setCorrection 39 = .ok (.istore_n 3, 1) := by decide +kernel
theorem dX5_setCorrection_40 : decode cX5_setCorrection 40 = .ok (.aload_n 0, 1) := by decide +kernel
theorem dX5_setCorrection_41 : decode cX5_setCorrection 41 = .ok (.getfield 24, 3) := by decide +kernel
theorem dX5_setCorrection_44 : decode cX5_setCorrection 44 = .ok (.getfield 148, 3) := by decide +kernel
theorem dX5_setCorrection_47 : decode cX5_setCorrection 47 = .ok (.iload_n 1, 1) := by decide +kernel
theorem dX5_setCorrection_48 : decode cX5_setCorrection 48 = .ok (.iload_n 2, 1) := by decide +kernel
theorem dX5_setCorrection_49 : decode cX5_setCorrection 49 = .ok (.iastore, 1) := by decide +kernel
theorem dX5_setCorrection_50 : decode cX5_setCorrection 50 = .ok (.iload_n 3, 1) := by decide +kernel
theorem dX5_setCorrection_51 : decode cX5_setCorrection 51 = .ok (.ireturn, 1) := by decide +kernel
theorem dX5_scrap_0 : decode cX5_scrap 0 = .ok (.iload_n 1, 1) := by decide +kernel
theorem dX5_scrap_1 : decode cX5_scrap 1 = .ok (.aload_n 0, 1) := by decide +kernel
theorem dX5_scrap_2 : decode cX5_scrap 2 = .ok (.getfield 24, 3) := by decide +kernel
theorem dX5_scrap_5 : decode cX5_scrap 5 = .ok (.getfield 81, 3) := by decide +kernel
theorem dX5_scrap_8 : decode cX5_scrap 8 = .ok (.invokestatic 87, 3) := by decide +kernel
theorem dX5_scrap_11 : decode cX5_scrap 11 = .ok (.aload_n 0, 1) := by decide +kernel
theorem dX5_scrap_12 : decode cX5_scrap 12 = .ok (.getfield 24, 3) := by decide +kernel
theorem dX5_scrap_15 : decode cX5_scrap 15 = .ok (.getfield 126, 3) := by decide +kernel
theorem dX5_scrap_18 : decode cX5_scrap 18 = .ok (.iload_n 1, 1) := by decide +kernel
theorem dX5_scrap_19 : decode cX5_scrap 19 = .ok (.iaload, 1) := by decide +kernel
theorem dX5_scrap_20 : decode cX5_scrap 20 = .ok (.istore_n 2, 1) := by decide +kernel
theorem dX5_scrap_21 : decode cX5_scrap 21 = .ok (.iload_n 2, 1) := by decide +kernel
theorem dX5_scrap_22 : decode cX5_scrap 22 = .ok (.ifCond .eq 18, 3) := by decide +kernel
theorem dX5_scrap_25 : decode cX5_scrap 25 = .ok (.iload_n 2, 1) := by decide +kernel
theorem dX5_scrap_26 : decode cX5_scrap 26 = .ok (.iconst 1, 1) := by decide +kernel
theorem dX5_scrap_27 : decode cX5_scrap 27 = .ok (.if_icmp .eq 13, 3) := by decide +kernel
theorem dX5_scrap_30 : decode cX5_scrap 30 = .ok (.new 189, 3) := by decide +kernel
theorem dX5_scrap_33 : decode cX5_scrap 33 = .ok (.dup, 1) := by decide +kernel
theorem dX5_scrap_34 : decode cX5_scrap 34 = .ok (.ldc 203, 2) := by decide +kernel
theorem dX5_scrap_36 : decode cX5_scrap 36 = .ok (.invokespecial 193, 3) := by decide +kernel
theorem dX5_scrap_39 : decode cX5_scrap 39 = .ok (.athrow, 1) := by decide +kernel
theorem dX5_scrap_40 : decode cX5_scrap 40 = .ok (.aload_n 0, 1) := by decide +kernel
theorem dX5_scrap_41 : decode cX5_scrap 41 = .ok (.getfield 34, 3) := by decide +kernel
theorem dX5_scrap_44 : decode cX5_scrap 44 = .ok (.aload_n 0, 1) := by decide +kernel
theorem dX5_scrap_45 : decode cX5_scrap 45 = .ok (.getfield 24, 3) := by decide +kernel
theorem dX5_scrap_48 : decode cX5_scrap 48 = .ok (.invokevirtual 63, 3) := by decide +kernel
theorem dX5_scrap_51 : decode cX5_scrap 51 = .ok (.aload_n 0, 1) := by decide +kernel
theorem dX5_scrap_52 : decode cX5_scrap 52 = .ok (.getfield 24, 3) := by decide +kernel
theorem dX5_scrap_55 : decode cX5_scrap 55 = .ok (.iload_n 1, 1) := by decide +kernel
theorem dX5_scrap_56 : decode cX5_scrap 56 = .ok (.invokevirtual 205, 3) := by decide +kernel
theorem dX5_scrap_59 : decode cX5_scrap 59 = .ok (.iload_n 2, 1) := by decide +kernel
theorem dX5_scrap_60 : decode cX5_scrap 60 = .ok (.ireturn, 1) := by decide +kernel
theorem dX5_undo_0 : decode cX5_undo 0 = .ok (.aload_n 0, 1) := by decide +kernel
theorem dX5_undo_1 : decode cX5_undo 1 = .ok (.getfield 34, 3) := by decide +kernel
theorem dX5_undo_4 : decode cX5_undo 4 = .ok (.aload_n 0, 1) := by decide +kernel
theorem dX5_undo_5 : decode cX5_undo 5 = .ok (.getfield 24, 3) := by decide +kernel
theorem dX5_undo_8 : decode cX5_undo 8 = .ok (.invokevirtual 208, 3) := by decide +kernel
theorem dX5_undo_11 : decode cX5_undo 11 = .ok (.ireturn, 1) := by decide +kernel
theorem dX5_checksum_0 : decode cX5_checksum 0 = .ok (.aload_n 0, 1) := by decide +kernel
theorem dX5_checksum_1 : decode cX5_checksum 1 = .ok (.getfield 24, 3) := by decide +kernel
theorem dX5_checksum_4 : decode cX5_checksum 4 = .ok (.invokevirtual 212, 3) := by decide +kernel
theorem dX5_checksum_7 : decode cX5_checksum 7 = .ok (.lreturn, 1) := by decide +kernel
theorem dX5_doneWith_0 : decode cX5_doneWith 0 = .ok (.aload_n 0, 1) := by decide +kernel
theorem dX5_doneWith_1 : decode cX5_doneWith 1 = .ok (.getfield 28, 3) := by decide +kernel
theorem dX5_doneWith_4 : decode cX5_doneWith 4 = .ok (.aload_n 0, 1) := by decide +kernel
theorem dX5_doneWith_5 : decode cX5_doneWith 5 = .ok (.getfield 24, 3) := by decide +kernel
theorem dX5_doneWith_8 : decode cX5_doneWith 8 = .ok (.invokevirtual 170, 3) := by decide +kernel
theorem dX5_doneWith_11 : decode cX5_doneWith 11 = .ok (.aload_n 0, 1) := by decide +kernel
theorem dX5_doneWith_12 : decode cX5_doneWith 12 = .ok (.getfield 28, 3) := by decide +kernel
theorem dX5_doneWith_15 : decode cX5_doneWith 15 = .ok (.invokevirtual 167, 3) := by decide +kernel
theorem dX5_doneWith_18 : decode cX5_doneWith 18 = .ok (.ifCond .eq 24, 3) := by decide +kernel
theorem dX5_doneWith_21 : decode cX5_doneWith 21 = .ok (.aload_n 0, 1) := by decide +kernel
theorem dX5_doneWith_22 : decode cX5_doneWith 22 = .ok (.getfield 28, 3) := by decide +kernel
theorem dX5_doneWith_25 : decode cX5_doneWith 25 = .ok (.getfield 91, 3) := by decide +kernel
theorem dX5_doneWith_28 : decode cX5_doneWith 28 = .ok (.aload_n 0, 1) := by decide +kernel
theorem dX5_doneWith_29 : decode cX5_doneWith 29 = .ok (.getfield 28, 3) := by decide +kernel
theorem dX5_doneWith_32 : decode cX5_doneWith 32 = .ok (.getfield 74, 3) := by decide +kernel
theorem dX5_doneWith_35 : decode cX5_doneWith 35 = .ok (.getfield 75, 3) := by decide +kernel
theorem dX5_doneWith_38 : decode cX5_doneWith 38 = .ok (.iconst 1, 1) := by decide +kernel
theorem dX5_doneWith_39 : decode cX5_doneWith 39 = .ok (.isub, 1) := by decide +kernel
theorem dX5_doneWith_40 : decode cX5_doneWith 40 = .ok (.iload_n 1, 1) := by decide +kernel
theorem dX5_doneWith_41 : decode cX5_doneWith 41 = .ok (.iastore, 1) := by decide +kernel
theorem dX5_doneWith_42 : decode cX5_doneWith 42 = .ok (.aload_n 0, 1) := by decide +kernel
theorem dX5_doneWith_43 : decode cX5_doneWith 43 = .ok (.getfield 28, 3) := by decide +kernel
theorem dX5_doneWith_46 : decode cX5_doneWith 46 = .ok (.sipush 200, 3) := by decide +kernel
theorem dX5_doneWith_49 : decode cX5_doneWith 49 = .ok (.invokevirtual 176, 3) := by decide +kernel
theorem dX5_doneWith_52 : decode cX5_doneWith 52 = .ok (.pop, 1) := by decide +kernel
theorem dX5_doneWith_53 : decode cX5_doneWith 53 = .ok (.aload_n 0, 1) := by decide +kernel
theorem dX5_doneWith_54 : decode cX5_doneWith 54 = .ok (.getfield 28, 3) := by decide +kernel
theorem dX5_doneWith_57 : decode cX5_doneWith 57 = .ok (.iconst 3, 1) := by decide +kernel
theorem dX5_doneWith_58 : decode cX5_doneWith 58 = .ok (.invokevirtual 135, 3) := by decide +kernel
theorem dX5_doneWith_61 : decode cX5_doneWith 61 = .ok (.ireturn, 1) := by decide +kernel
theorem dX5_requireLine_0 : decode cX5_requireLine 0 = .ok (.aload_n 0, 1) := by decide +kernel
theorem dX5_requireLine_1 : decode cX5_requireLine 1 = .ok (.getfield 24, 3) := by decide +kernel
theorem dX5_requireLine_4 : decode cX5_requireLine 4 = .ok (.invokevirtual 167, 3) := by decide +kernel
theorem dX5_requireLine_7 : decode cX5_requireLine 7 = .ok (.ifCond .ne 13, 3) := by decide +kernel
theorem dX5_requireLine_10 : decode cX5_requireLine 10 = .ok (.new 189, 3) := by decide +kernel
theorem dX5_requireLine_13 : decode cX5_requireLine 13 = .ok (.dup, 1) := by decide +kernel
theorem dX5_requireLine_14 : decode cX5_requireLine 14 = .ok (.ldc 216, 2) := by decide +kernel
theorem dX5_requireLine_16 : decode cX5_requireLine 16 = .ok (.invokespecial 193, 3) := by decide +kernel
theorem dX5_requireLine_19 : decode cX5_requireLine 19 = .ok (.athrow, 1) := by decide +kernel
theorem dX5_requireLine_20 : decode cX5_requireLine 20 = .ok (.return_, 1) := by decide +kernel
theorem dX5_requireArgument_0 : decode cX5_requireArgument 0 = .ok (.iload_n 0, 1) := by decide +kernel
theorem dX5_requireArgument_1 : decode cX5_requireArgument 1 = .ok (.iload_n 1, 1) := by decide +kernel
theorem dX5_requireArgument_2 : decode cX5_requireArgument 2 = .ok (.iload_n 2, 1) := by decide +kernel
theorem dX5_requireArgument_3 : decode cX5_requireArgument 3 = .ok (.invokestatic 182, 3) := by decide +kernel
theorem dX5_requireArgument_6 : decode cX5_requireArgument 6 = .ok (.ifCond .ne 13, 3) := by decide +kernel
theorem dX5_requireArgument_9 : decode cX5_requireArgument 9 = .ok (.new 113, 3) := by decide +kernel
theorem dX5_requireArgument_12 : decode cX5_requireArgument 12 = .ok (.dup, 1) := by decide +kernel
theorem dX5_requireArgument_13 : decode cX5_requireArgument 13 = .ok (.ldc 218, 2) := by decide +kernel
theorem dX5_requireArgument_15 : decode cX5_requireArgument 15 = .ok (.invokespecial 117, 3) := by decide +kernel
theorem dX5_requireArgument_18 : decode cX5_requireArgument 18 = .ok (.athrow, 1) := by decide +kernel
theorem dX5_requireArgument_19 : decode cX5_requireArgument 19 = .ok (.return_, 1) := by decide +kernel
theorem dX5_requireIndex_0 : decode cX5_requireIndex 0 = .ok (.iload_n 0, 1) := by decide +kernel
theorem dX5_requireIndex_1 : decode cX5_requireIndex 1 = .ok (.ifCond .lt 8, 3) := by decide +kernel
theorem dX5_requireIndex_4 : decode cX5_requireIndex 4 = .ok (.iload_n 0, 1) := by decide +kernel
theorem dX5_requireIndex_5 : decode cX5_requireIndex 5 = .ok (.iload_n 1, 1) := by decide +kernel
theorem dX5_requireIndex_6 : decode cX5_requireIndex 6 = .ok (.if_icmp .lt 13, 3) := by decide +kernel
theorem dX5_requireIndex_9 : decode cX5_requireIndex 9 = .ok (.new 220, 3) := by decide +kernel
theorem dX5_requireIndex_12 : decode cX5_requireIndex 12 = .ok (.dup, 1) := by decide +kernel
theorem dX5_requireIndex_13 : decode cX5_requireIndex 13 = .ok (.ldc 222, 2) := by decide +kernel
theorem dX5_requireIndex_15 : decode cX5_requireIndex 15 = .ok (.invokespecial 224, 3) := by decide +kernel
theorem dX5_requireIndex_18 : decode cX5_requireIndex 18 = .ok (.athrow, 1) := by decide +kernel
theorem dX5_requireIndex_19 : decode cX5_requireIndex 19 = .ok (.return_, 1) := by decide +kernel
theorem dX5_isWithin_0 : decode cX5_isWithin 0 = .ok (.iload_n 0, 1) := by decide +kernel
theorem dX5_isWithin_1 : decode cX5_isWithin 1 = .ok (.iload_n 1, 1) := by decide +kernel
theorem dX5_isWithin_2 : decode cX5_isWithin 2 = .ok (.if_icmp .lt 12, 3) := by decide +kernel
theorem dX5_isWithin_5 : decode cX5_isWithin 5 = .ok (.iload_n 0, 1) := by decide +kernel
theorem dX5_isWithin_6 : decode cX5_isWithin 6 = .ok (.iload_n 2, 1) := by decide +kernel
theorem dX5_isWithin_7 : decode cX5_isWithin 7 = .ok (.if_icmp .gt 7, 3) := by decide +kernel
theorem dX5_isWithin_10 : decode cX5_isWithin 10 = .ok (.iconst 1, 1) := by decide +kernel
theorem dX5_isWithin_11 : decode cX5_isWithin 11 = .ok (.goto 4, 3) := by decide +kernel
theorem dX5_isWithin_14 : decode cX5_isWithin 14 = .ok (.iconst 0, 1) := by decide +kernel
theorem dX5_isWithin_15 : decode cX5_isWithin 15 = .ok (.ireturn, 1) := by decide +kernel
theorem dX5_isThickness_0 : decode cX5_isThickness 0 = .ok (.iload_n 0, 1) := by decide +kernel
theorem dX5_isThickness_1 : decode cX5_isThickness 1 = .ok (.iconst 2, 1) := by decide +kernel
theorem dX5_isThickness_2 : decode cX5_isThickness 2 = .ok (.bipush 19, 2) := by decide +kernel
theorem dX5_isThickness_4 : decode cX5_isThickness 4 = .ok (.invokestatic 182, 3) := by decide +kernel
theorem dX5_isThickness_7 : decode cX5_isThickness 7 = .ok (.ireturn, 1) := by decide +kernel
theorem dX5_limit_0 : decode cX5_limit 0 = .ok (.iload_n 0, 1) := by decide +kernel
theorem dX5_limit_1 : decode cX5_limit 1 = .ok (.iload_n 1, 1) := by decide +kernel
theorem dX5_limit_2 : decode cX5_limit 2 = .ok (.if_icmp .ge 7, 3) := by decide +kernel
theorem dX5_limit_5 : decode cX5_limit 5 = .ok (.iload_n 1, 1) := by decide +kernel
theorem dX5_limit_6 : decode cX5_limit 6 = .ok (.goto 13, 3) := by decide +kernel
theorem dX5_limit_9 : decode cX5_limit 9 = .ok (.iload_n 0, 1) := by decide +kernel
theorem dX5_limit_10 : decode cX5_limit 10 = .ok (.iload_n 2, 1) := by decide +kernel
theorem dX5_limit_11 : decode cX5_limit 11 = .ok (.if_icmp .le 7, 3) := by decide +kernel
theorem dX5_limit_14 : decode cX5_limit 14 = .ok (.iload_n 2, 1) := by decide +kernel
theorem dX5_limit_15 : decode cX5_limit 15 = .ok (.goto 4, 3) := by decide +kernel
theorem dX5_limit_18 : decode cX5_limit 18 = .ok (.iload_n 0, 1) := by decide +kernel
theorem dX5_limit_19 : decode cX5_limit 19 = .ok (.ireturn, 1) := by decide +kernel
theorem dX5_thicknessOf_0 : decode cX5_thicknessOf 0 = .ok (.iload_n 1, 1) := by decide +kernel
theorem dX5_thicknessOf_1 : decode cX5_thicknessOf 1 = .ok (.ifCond .le 16, 3) := by decide +kernel
theorem dX5_thicknessOf_4 : decode cX5_thicknessOf 4 = .ok (.bipush 40, 2) := by decide +kernel
theorem dX5_thicknessOf_6 : decode cX5_thicknessOf 6 = .ok (.iload_n 0, 1) := by decide +kernel
theorem dX5_thicknessOf_7 : decode cX5_thicknessOf 7 = .ok (.imul, 1) := by decide +kernel
theorem dX5_thicknessOf_8 : decode cX5_thicknessOf 8 = .ok (.iload_n 1, 1) := by decide +kernel
theorem dX5_thicknessOf_9 : decode cX5_thicknessOf 9 = .ok (.iconst 2, 1) := by decide +kernel
theorem dX5_thicknessOf_10 : decode cX5_thicknessOf 10 = .ok (.idiv, 1) := by decide +kernel
theorem dX5_thicknessOf_11 : decode cX5_thicknessOf 11 = .ok (.iadd, 1) := by decide +kernel
theorem dX5_thicknessOf_12 : decode cX5_thicknessOf 12 = .ok (.iload_n 1, 1) := by decide +kernel
theorem dX5_thicknessOf_13 : decode cX5_thicknessOf 13 = .ok (.idiv, 1) := by decide +kernel
theorem dX5_thicknessOf_14 : decode cX5_thicknessOf 14 = .ok (.goto 4, 3) := by decide +kernel
theorem dX5_thicknessOf_17 : decode cX5_thicknessOf 17 = .ok (.iconst 0, 1) := by decide +kernel
theorem dX5_thicknessOf_18 : decode cX5_thicknessOf 18 = .ok (.ireturn, 1) := by decide +kernel
theorem dX6_init_0 : decode cX6_init 0 = .ok (.aload_n 0, 1) := by decide +kernel
theorem dX6_init_1 : decode cX6_init 1 = .ok (.invokespecial 3, 3) := by decide +kernel
theorem dX6_init_4 : decode cX6_init 4 = .ok (.aload_n 0, 1) := by decide +kernel
theorem dX6_init_5 : decode cX6_init 5 = .ok (.sipush 700, 3) := by decide +kernel
theorem dX6_init_8 : decode cX6_init 8 = .ok (.newarray .int, 2) := by decide +kernel
theorem dX6_init_10 : decode cX6_init 10 = .ok (.putfield 9, 3) := by decide +kernel
theorem dX6_init_13 : decode cX6_init 13 = .ok (.aload_n 0, 1) := by decide +kernel
theorem dX6_init_14 : decode cX6_init 14 = .ok (.iconst (-1), 1) := by decide +kernel
theorem dX6_init_15 : decode cX6_init 15 = .ok (.putfield 13, 3) := by decide +kernel
theorem dX6_init_18 : decode cX6_init 18 = .ok (.aload_n 0, 1) := by decide +kernel
theorem dX6_init_19 : decode cX6_init 19 = .ok (.sipush 1451, 3) := by decide +kernel
theorem dX6_init_22 : decode cX6_init 22 = .ok (.newarray .int, 2) := by decide +kernel
theorem dX6_init_24 : decode cX6_init 24 = .ok (.putfield 17, 3) := by decide +kernel
theorem dX6_init_27 : decode cX6_init 27 = .ok (.aload_n 0, 1) := by decide +kernel
theorem dX6_init_28 : decode cX6_init 28 = .ok (.sipush 1451, 3) := by decide +kernel
theorem dX6_init_31 : decode cX6_init 31 = .ok (.newarray .int, 2) := by decide +kernel
theorem dX6_init_33 : decode cX6_init 33 = .ok (.putfield 20, 3) := by decide +kernel
theorem dX6_init_36 : decode cX6_init 36 = .ok (.aload_n 0, 1) := by decide +kernel
theorem dX6_init_37 : decode cX6_init 37 = .ok (.sipush 1451, 3) := by decide +kernel
theorem dX6_init_40 : decode cX6_init 40 = .ok (.newarray .int, 2) := by decide +kernel
theorem dX6_init_42 : decode cX6_init 42 = .ok (.putfield 23, 3) := by decide +kernel
theorem dX6_init_45 : decode cX6_init 45 = .ok (.aload_n 0, 1) := by decide +kernel
theorem dX6_init_46 : decode cX6_init 46 = .ok (.bipush 8, 2) := by decide +kernel
theorem dX6_init_48 : decode cX6_init 48 = .ok (.sipush 1451, 3) := by decide +kernel
theorem dX6_init_51 : decode cX6_init 51 = .ok (.multianewarray 26 2, 4) := by decide +kernel
theorem dX6_init_55 : decode cX6_init 55 = .ok (.putfield 28, 3) := by decide +kernel
theorem dX6_init_58 : decode cX6_init 58 = .ok (.aload_n 0, 1) := by decide +kernel
theorem dX6_init_59 : decode cX6_init 59 = .ok (.sipush 1200, 3) := by decide +kernel
theorem dX6_init_62 : decode cX6_init 62 = .ok (.newarray .long, 2) := by decide +kernel
theorem dX6_init_64 : decode cX6_init 64 = .ok (.putfield 31, 3) := by decide +kernel
theorem dX6_init_67 : decode cX6_init 67 = .ok (.return_, 1) := by decide +kernel
theorem dX6_thrown_0 : decode cX6_thrown 0 = .ok (.aload_n 0, 1) := by decide +kernel
theorem dX6_thrown_1 : decode cX6_thrown 1 = .ok (.getfield 35, 3) := by decide +kernel
theorem dX6_thrown_4 : decode cX6_thrown 4 = .ok (.ireturn, 1) := by decide +kernel
theorem dX6_fails_0 : decode cX6_fails 0 = .ok (.iload_n 1, 1) := by decide +kernel
theorem dX6_fails_1 : decode cX6_fails 1 = .ok (.ifCond .eq 15, 3) := by decide +kernel
theorem dX6_fails_4 : decode cX6_fails 4 = .ok (.aload_n 0, 1) := by decide +kernel
theorem dX6_fails_5 : decode cX6_fails 5 = .ok (.getfield 35, 3) := by decide +kernel
theorem dX6_fails_8 : decode cX6_fails 8 = .ok (.ifCond .ne 8, 3) := by decide +kernel
theorem dX6_fails_11 : decode cX6_fails 11 = .ok (.aload_n 0, 1) := by decide +kernel
theorem dX6_fails_12 : decode cX6_fails 12 = .ok (.iload_n 2, 1) := by decide +kernel
theorem dX6_fails_13 : decode cX6_fails 13 = .ok (.putfield 35, 3) := by decide +kernel
theorem dX6_fails_16 : decode cX6_fails 16 = .ok (.aload_n 0, 1) := by decide +kernel
theorem dX6_fails_17 : decode cX6_fails 17 = .ok (.getfield 35, 3) := by decide +kernel
theorem dX6_fails_20 : decode cX6_fails 20 = .ok (.ifCond .eq 7, 3) := by decide +kernel
theorem dX6_fails_23 : decode cX6_fails 23 = .ok (.iconst 1, 1) := by decide +kernel
theorem dX6_fails_24 : decode cX6_fails 24 = .ok (.goto 4, 3) := by decide +kernel
theorem dX6_fails_27 : decode cX6_fails 27 = .ok (.iconst 0, 1) := by decide +kernel
theorem dX6_fails_28 : decode cX6_fails 28 = .ok (.ireturn, 1) := by decide +kernel
theorem dX6_in_0 : decode cX6_in 0 = .ok (.iload_n 0, 1) := by decide +kernel
theorem dX6_in_1 : decode cX6_in 1 = .ok (.iload_n 1, 1) := by decide +kernel
theorem dX6_in_2 : decode cX6_in 2 = .ok (.if_icmp .lt 12, 3) := by decide +kernel
theorem dX6_in_5 : decode cX6_in 5 = .ok (.iload_n 0, 1) := by decide +kernel
theorem dX6_in_6 : decode cX6_in 6 = .ok (.iload_n 2, 1) := by decide +kernel
theorem dX6_in_7 : decode cX6_in 7 = .ok (.if_icmp .gt 7, 3) := by decide +kernel
theorem dX6_in_10 : decode cX6_in 10 = .ok (.iconst 1, 1) := by decide +kernel
theorem dX6_in_11 : decode cX6_in 11 = .ok (.goto 4, 3) := by decide +kernel
theorem dX6_in_14 : decode cX6_in 14 = .ok (.iconst 0, 1) := by decide +kernel
theorem dX6_in_15 : decode cX6_in 15 = .ok (.ireturn, 1) := by decide +kernel
theorem dX6_min_0 : decode cX6_min 0 = .ok (.iload_n 0, 1) := by decide +kernel
theorem dX6_min_1 : decode cX6_min 1 = .ok (.iload_n 1, 1) := by decide +kernel
theorem dX6_min_2 : decode cX6_min 2 = .ok (.if_icmp .ge 7, 3) := by decide +kernel
theorem dX6_min_5 : decode cX6_min 5 = .ok (.iload_n 0, 1) := by decide +kernel
theorem dX6_min_6 : decode cX6_min 6 = .ok (.goto 4, 3) := by decide +kernel
theorem dX6_min_9 : decode cX6_min 9 = .ok (.iload_n 1, 1) := by decide +kernel
theorem dX6_min_10 : decode cX6_min 10 = .ok (.ireturn, 1) := by decide +kernel
theorem dX6_max_0 : decode cX6_max 0 = .ok (.iload_n 0, 1) := by decide +kernel
theorem dX6_max_1 : decode cX6_max 1 = .ok (.iload_n 1, 1) := by decide +kernel
theorem dX6_max_2 : decode cX6_max 2 = .ok (.if_icmp .le 7, 3) := by decide +kernel
theorem dX6_max_5 : decode cX6_max 5 = .ok (.iload_n 0, 1) := by decide +kernel
theorem dX6_max_6 : decode cX6_max 6 = .ok (.goto 4, 3) := by decide +kernel
theorem dX6_max_9 : decode cX6_max 9 = .ok (.iload_n 1, 1) := by decide +kernel
theorem dX6_max_10 : decode cX6_max 10 = .ok (.ireturn, 1) := by decide +kernel
theorem dX6_copy_0 : decode cX6_copy 0 = .ok (.iconst 0, 1) := by decide +kernel
theorem dX6_copy_1 : decode cX6_copy 1 = .ok (.istore_n 2, 1) := by decide +kernel
theorem dX6_copy_2 : decode cX6_copy 2 = .ok (.iload_n 2, 1) := by decide +kernel
theorem dX6_copy_3 : decode cX6_copy 3 = .ok (.sipush 1451, 3) := by decide +kernel
theorem dX6_copy_6 : decode cX6_copy 6 = .ok (.if_icmp .ge 15, 3) := by decide +kernel
theorem dX6_copy_9 : decode cX6_copy 9 = .ok (.aload_n 1, 1) := by decide +kernel
theorem dX6_copy_10 : decode cX6_copy 10 = .ok (.iload_n 2, 1) := by decide +kernel
theorem dX6_copy_11 : decode cX6_copy 11 = .ok (.aload_n 0, 1) := by decide +kernel
theorem dX6_copy_12 : decode cX6_copy 12 = .ok (.iload_n 2, 1) := by decide +kernel
theorem dX6_copy_13 : decode cX6_copy 13 = .ok (.iaload, 1) := by decide +kernel
theorem dX6_copy_14 : decode cX6_copy 14 = .ok (.iastore, 1) := by decide +kernel
theorem dX6_copy_15 : decode cX6_copy 15 = .ok (.iinc 2 1, 3) := by decide +kernel
theorem dX6_copy_18 : decode cX6_copy 18 = .ok (.goto (-16), 3) := by decide +kernel
theorem dX6_copy_21 : decode cX6_copy 21 = .ok (.return_, 1) := by decide +kernel
theorem dX6_zoneAt_0 : decode cX6_zoneAt 0 = .ok (.bipush 9, 2) := by decide +kernel
theorem dX6_zoneAt_2 : decode cX6_zoneAt 2 = .ok (.bipush 7, 2) := by decide +kernel
theorem dX6_zoneAt_4 : decode cX6_zoneAt 4 = .ok (.iload_n 0, 1) := by decide +kernel
theorem dX6_zoneAt_5 : decode cX6_zoneAt 5 = .ok (.imul, 1) := by decide +kernel
theorem dX6_zoneAt_6 : decode cX6_zoneAt 6 = .ok (.iadd, 1) := by decide +kernel
theorem dX6_zoneAt_7 : decode cX6_zoneAt 7 = .ok (.ireturn, 1) := by decide +kernel
theorem dX6_sheetAt_0 : decode cX6_sheetAt 0 = .ok (.bipush 51, 2) := by decide +kernel
theorem dX6_sheetAt_2 : decode cX6_sheetAt 2 = .ok (.iconst 3, 1) := by decide +kernel
theorem dX6_sheetAt_3 : decode cX6_sheetAt 3 = .ok (.iload_n 0, 1) := by decide +kernel
theorem dX6_sheetAt_4 : decode cX6_sheetAt 4 = .ok (.imul, 1) := by decide +kernel
theorem dX6_sheetAt_5 : decode cX6_sheetAt 5 = .ok (.iadd, 1) := by decide +kernel
theorem dX6_sheetAt_6 : decode cX6_sheetAt 6 = .ok (.ireturn, 1) := by decide +kernel
theorem dX6_kindAt_0 : decode cX6_kindAt 0 = .ok (.bipush 111, 2) := by decide +kernel
theorem dX6_kindAt_2 : decode cX6_kindAt 2 = .ok (.bipush 7, 2) := by decide +kernel
theorem dX6_kindAt_4 : decode cX6_kindAt 4 = .ok (.iload_n 0, 1) := by decide +kernel
theorem dX6_kindAt_5 : decode cX6_kindAt 5 = .ok (.imul, 1) := by decide +kernel
theorem dX6_kindAt_6 : decode cX6_kindAt 6 = .ok (.iadd, 1) := by decide +kernel
theorem dX6_kindAt_7 : decode cX6_kindAt 7 = .ok (.ireturn, 1) := by decide +kernel
theorem dX6_append_0 : decode cX6_append 0 = .ok (.aload_n 0, 1) := by decide +kernel
theorem dX6_append_1 : decode cX6_append 1 = .ok (.iconst 0, 1) := by decide +kernel
theorem dX6_append_2 : decode cX6_append 2 = .ok (.putfield 35, 3) := by decide +kernel
theorem dX6_append_5 : decode cX6_append 5 = .ok (.aload_n 0, 1) := by decide +kernel
theorem dX6_append_6 : decode cX6_append 6 = .ok (.getfield 38, 3) := by decide +kernel
theorem dX6_append_9 : decode cX6_append 9 = .ok (.bipush 20, 2) := by decide +kernel
theorem dX6_append_11 : decode cX6_append 11 = .ok (.iadd, 1) := by decide +kernel
theorem dX6_append_12 : decode cX6_append 12 = .ok (.sipush 700, 3) := by decide +kernel
theorem dX6_append_15 : decode cX6_append 15 = .ok (.if_icmp .le 5, 3) := by decide +kernel
theorem dX6_append_18 : decode cX6_append 18 = .ok (.iconst (-1), 1) := by decide +kernel
theorem dX6_append_19 : decode cX6_append 19 = .ok (.ireturn, 1) := by decide +kernel
theorem dX6_append_20 : decode cX6_append 20 = .ok (.iconst 0, 1) := by decide +kernel
theorem dX6_append_21 : decode cX6_append 21 = .ok (.istore 6, 2) := by decide +kernel
theorem dX6_append_23 : decode cX6_append 23 = .ok (.iload 6, 2) := by decide +kernel
theorem dX6_append_25 : decode cX6_append 25 = .ok (.bipush 20, 2) := by decide +kernel
theorem dX6_append_27 : decode cX6_append 27 = .ok (.if_icmp .ge 93, 3) := by decide +kernel
theorem dX6_append_30 : decode cX6_append 30 = .ok (.iload 6, 2) := by decide +kernel
theorem dX6_append_32 : decode cX6_append 32 = .ok (.iconst 4, 1) := by decide +kernel
theorem dX6_append_33 : decode cX6_append 33 = .ok (.if_icmp .ge 7, 3) := by decide +kernel
theorem dX6_append_36 : decode cX6_append 36 = .ok (.iload_n 1, 1) := by decide +kernel
theorem dX6_append_37 : decode cX6_append 37 = .ok (.goto 39, 3) := by decide +kernel
theorem dX6_append_40 : decode cX6_append 40 = .ok (.iload 6, 2) := by decide +kernel
theorem dX6_append_42 : decode cX6_append 42 = .ok (.bipush 8, 2) := by decide +kernel
theorem dX6_append_44 : decode cX6_append 44 = .ok (.if_icmp .ge 7, 3) := by decide +kernel
theorem dX6_append_47 : decode cX6_append 47 = .ok (.iload_n 2, 1) := by decide +kernel
theorem dX6_append_48 : decode cX6_append 48 = .ok (.goto 28, 3) := by decide +kernel
theorem dX6_append_51 : decode cX6_append 51 = .ok (.iload 6, 2) := by decide +kernel
theorem dX6_append_53 : decode cX6_append 53 = .ok (.bipush 12, 2) := by decide +kernel
theorem dX6_append_55 : decode cX6_append 55 = .ok (.if_icmp .ge 7, 3) := by decide +kernel
theorem dX6_append_58 : decode cX6_append 58 = .ok (.iload_n 3, 1) := by decide +kernel
theorem dX6_append_59 : decode cX6_append 59 = .ok (.goto 17, 3) := by decide +kernel
theorem dX6_append_62 : decode cX6_append 62 = .ok (.iload 6, 2) := by decide +kernel
theorem dX6_append_64 : decode cX6_append 64 = .ok (.bipush 16, 2) := by decide +kernel
theorem dX6_append_66 : decode cX6_append 66 = .ok (.if_icmp .ge 8, 3) := by decide +kernel
theorem dX6_append_69 : decode cX6_append 69 = .ok (.iload 4, 2) := by decide +kernel
theorem dX6_append_71 : decode cX6_append 71 = .ok (.goto 5, 3) := by decide +kernel
theorem dX6_append_74 : decode cX6_append 74 = .ok (.iload 5, 2) := by decide +kernel
theorem dX6_append_76 : decode cX6_append 76 = .ok (.istore 7, 2) := by decide +kernel
theorem dX6_append_78 : decode cX6_append 78 = .ok (.aload_n 0, 1) := by decide +kernel
theorem dX6_append_79 : decode cX6_append 79 = .ok (.getfield 9, 3) := by decide +kernel
theorem dX6_append_82 : decode cX6_append 82 = .ok (.aload_n 0, 1) := by decide +kernel
theorem dX6_append_83 : decode cX6_append 83 = .ok (.getfield 38, 3) := by decide +kernel
theorem dX6_append_86 : decode cX6_append 86 = .ok (.iload 7, 2) := by decide +kernel
theorem dX6_append_88 : decode cX6_append 88 = .ok (.bipush 24, 2) := by decide +kernel
theorem dX6_append_90 : decode cX6_append 90 = .ok (.bipush 8, 2) := by decide +kernel
theorem dX6_append_92 : decode cX6_append 92 = .ok (.iload 6, 2) := by decide +kernel
theorem dX6_append_94 : decode cX6_append 94 = .ok (.iconst 4, 1) := by decide +kernel
theorem dX6_append_95 : decode cX6_append 95 = .ok (.irem, 1) := by decide +kernel
theorem dX6_append_96 : decode cX6_append 96 = .ok (.imul, 1) := by decide +kernel
theorem dX6_append_97 : decode cX6_append 97 = .ok (.isub, 1) := by decide +kernel
theorem dX6_append_98 : decode cX6_append 98 = .ok (.ishr, 1) := by decide +kernel
theorem dX6_append_99 : decode cX6_append 99 = .ok (.sipush 255, 3) := by decide +kernel
theorem dX6_append_102 : decode cX6_append 102 = .ok (.iand, 1) := by decide +kernel
theorem dX6_append_103 : decode cX6_append 103 = .ok (.iastore, 1) := by decide +kernel
theorem dX6_append_104 : decode cX6_append 104 = .ok (.aload_n 0, 1) := by decide +kernel
theorem dX6_append_105 : decode cX6_append 105 = .ok (.dup, 1) := by decide +kernel
theorem dX6_append_106 : decode cX6_append 106 = .ok (.getfield 38, 3) := by decide +kernel
theorem dX6_append_109 : decode cX6_append 109 = .ok (.iconst 1, 1) := by decide +kernel
theorem dX6_append_110 : decode cX6_append 110 = .ok (.iadd, 1) := by decide +kernel
theorem dX6_append_111 : decode cX6_append 111 = .ok (.putfield 38, 3) := by decide +kernel
theorem dX6_append_114 : decode cX6_append 114 = .ok (.iinc 6 1, 3) := by decide +kernel
theorem dX6_append_117 : decode cX6_append 117 = .ok (.goto (-94), 3) := by decide +kernel
theorem dX6_append_120 : decode cX6_append 120 = .ok (.aload_n 0, 1) := by decide +kernel
theorem dX6_append_121 : decode cX6_append 121 = .ok (.getfield 38, 3) := by decide +kernel
theorem dX6_append_124 : decode cX6_append 124 = .ok (.ireturn, 1) := by decide +kernel
theorem dX6_byteAt_0 : decode cX6_byteAt 0 = .ok (.iload_n 1, 1) := by decide +kernel
theorem dX6_byteAt_1 : decode cX6_byteAt 1 = .ok (.aload_n 0, 1) := by decide +kernel
theorem dX6_byteAt_2 : decode cX6_byteAt 2 = .ok (.getfield 41, 3) := by decide +kernel
theorem dX6_byteAt_5 : decode cX6_byteAt 5 = .ok (.if_icmp .ge 12, 3) := by decide +kernel
theorem dX6_byteAt_8 : decode cX6_byteAt 8 = .ok (.aload_n 0, 1) := by decide +kernel
theorem dX6_byteAt_9 : decode cX6_byteAt 9 = .ok (.getfield 9, 3) := by decide +kernel
theorem dX6_byteAt_12 : decode cX6_byteAt 12 = .ok (.iload_n 1, 1) := by decide +kernel
theorem dX6_byteAt_13 : decode cX6_byteAt 13 = .ok (.iaload, 1) := by decide +kernel
theorem dX6_byteAt_14 : decode cX6_byteAt 14 = .ok (.goto 4, 3) := by decide +kernel
theorem dX6_byteAt_17 : decode cX6_byteAt 17 = .ok (.iconst (-1), 1) := by decide +kernel
theorem dX6_byteAt_18 : decode cX6_byteAt 18 = .ok (.ireturn, 1) := by decide +kernel
theorem dX6_next_0 : decode cX6_next 0 = .ok (.aload_n 0, 1) := by decide +kernel
theorem dX6_next_1 : decode cX6_next 1 = .ok (.aload_n 0, 1) := by decide +kernel
theorem dX6_next_2 : decode cX6_next 2 = .ok (.getfield 44, 3) := by decide +kernel
theorem dX6_next_5 : decode cX6_next 5 = .ok (.invokevirtual 47, 3) := by decide +kernel
theorem dX6_next_8 : decode cX6_next 8 = .ok (.bipush 32, 2) := by decide +kernel
theorem dX6_next_10 : decode cX6_next 10 = .ok (.if_icmp .ne 16, 3) := by decide +kernel
theorem dX6_next_13 : decode cX6_next 13 = .ok (.aload_n 0, 1) := by decide +kernel
theorem dX6_next_14 : decode cX6_next 14 = .ok (.dup, 1) := by decide +kernel
theorem dX6_next_15 : decode cX6_next 15 = .ok (.getfield 44, 3) := by decide +kernel
theorem dX6_next_18 : decode cX6_next 18 = .ok (.iconst 1, 1) := by decide +kernel
theorem dX6_next_19 : decode cX6_next 19 = .ok (.iadd, 1) := by decide +kernel
theorem dX6_next_20 : decode cX6_next 20 = .ok (.putfield 44, 3) := by decide +kernel
theorem dX6_next_23 : decode cX6_next 23 = .ok (.goto (-23), 3) := by decide +kernel
theorem dX6_next_26 : decode cX6_next 26 = .ok (.aload_n 0, 1) := by decide +kernel
theorem dX6_next_27 : decode cX6_next 27 = .ok (.aload_n 0, 1) := by decide +kernel
theorem dX6_next_28 : decode cX6_next 28 = .ok (.getfield 44, 3) := by decide +kernel
theorem dX6_next_31 : decode cX6_next 31 = .ok (.invokevirtual 47, 3) := by decide +kernel
theorem dX6_next_34 : decode cX6_next 34 = .ok (.ireturn, 1) := by decide +kernel
theorem dX6_isGood_0 : decode cX6_isGood 0 = .ok (.aload_n 0, 1) := by decide +kernel
theorem dX6_isGood_1 : decode cX6_isGood 1 = .ok (.getfield 51, 3) := by decide +kernel
theorem dX6_isGood_4 : decode cX6_isGood 4 = .ok (.ifCond .ne 7, 3) := by decide +kernel
theorem dX6_isGood_7 : decode cX6_isGood 7 = .ok (.iconst 1, 1) := by decide +kernel
theorem dX6_isGood_8 : decode cX6_isGood 8 = .ok (.goto 4, 3) := by decide +kernel
theorem dX6_isGood_11 : decode cX6_isGood 11 = .ok (.iconst 0, 1) := by decide +kernel
theorem dX6_isGood_12 : decode cX6_isGood 12 = .ok (.ireturn, 1) := by decide +kernel
theorem dX6_report_0 : decode cX6_report 0 = .ok (.aload_n 0, 1) := by decide +kernel
theorem dX6_report_1 : decode cX6_report 1 = .ok (.getfield 51, 3) := by decide +kernel
theorem dX6_report_4 : decode cX6_report 4 = .ok (.ifCond .eq 4, 3) := by decide +kernel
theorem dX6_report_7 : decode cX6_report 7 = .ok (.return_, 1) := by decide +kernel
theorem dX6_report_8 : decode cX6_report 8 = .ok (.aload_n 0, 1) := by decide +kernel
theorem dX6_report_9 : decode cX6_report 9 = .ok (.iload_n 1, 1) := by decide +kernel
theorem dX6_report_10 : decode cX6_report 10 = .ok (.putfield 51, 3) := by decide +kernel
theorem dX6_report_13 : decode cX6_report 13 = .ok (.aload_n 0, 1) := by decide +kernel
theorem dX6_report_14 : decode cX6_report 14 = .ok (.iload_n 2, 1) := by decide +kernel
theorem dX6_report_15 : decode cX6_report 15 = .ok (.putfield 54, 3) := by decide +kernel
theorem dX6_report_18 : decode cX6_report 18 = .ok (.return_, 1) := by decide +kernel
theorem dX6_isDigit_0 : decode cX6_isDigit 0 = .ok (.iload_n 0, 1) := by decide +kernel
theorem dX6_isDigit_1 : decode cX6_isDigit 1 = .ok (.bipush 48, 2) := by decide +kernel
theorem dX6_isDigit_3 : decode cX6_isDigit 3 = .ok (.bipush 57, 2) := by decide +kernel
theorem dX6_isDigit_5 : decode cX6_isDigit 5 = .ok (.invokestatic 57, 3) := by decide +kernel
theorem dX6_isDigit_8 : decode cX6_isDigit 8 = .ok (.ireturn, 1) := by decide +kernel
theorem dX6_takeWord_0 : decode cX6_takeWord 0 = .ok (.aload_n 0, 1) := by decide +kernel
theorem dX6_takeWord_1 : decode cX6_takeWord 1 = .ok (.invokevirtual 61, 3) := by decide +kernel
theorem dX6_takeWord_4 : decode cX6_takeWord 4 = .ok (.ifCond .ne 5, 3) := by decide +kernel
theorem dX6_takeWord_7 : decode cX6_takeWord 7 = .ok (.iconst 0, 1) := by decide +kernel
theorem dX6_takeWord_8 : decode cX6_takeWord 8 = .ok (.ireturn, 1) := by decide +kernel
theorem dX6_takeWord_9 : decode cX6_takeWord 9 = .ok (.aload_n 0, 1) := by decide +kernel
theorem dX6_takeWord_10 : decode cX6_takeWord 10 = .ok (.invokevirtual 65, 3) := by decide +kernel
theorem dX6_takeWord_13 : decode cX6_takeWord 13 = .ok (.pop, 1) := by decide +kernel
theorem dX6_takeWord_14 : decode cX6_takeWord 14 = .ok (.iconst 0, 1) := by decide +kernel
theorem dX6_takeWord_15 : decode cX6_takeWord 15 = .ok (.istore_n 2, 1) := by decide +kernel
theorem dX6_takeWord_16 : decode cX6_takeWord 16 = .ok (.iload_n 2, 1) := by decide +kernel
theorem dX6_takeWord_17 : decode cX6_takeWord 17 = .ok (.aload_n 1, 1) := by decide +kernel
theorem dX6_takeWord_18 : decode cX6_takeWord 18 = .ok (.invokevirtual 69, 3) := by decide +kernel
theorem dX6_takeWord_21 : decode cX6_takeWord 21 = .ok (.if_icmp .ge 27, 3) := by decide +kernel
theorem dX6_takeWord_24 : decode cX6_takeWord 24 = .ok (.aload_n 0, 1) := by decide +kernel
theorem dX6_takeWord_25 : decode cX6_takeWord 25 = .ok (.aload_n 0, 1) := by decide +kernel
theorem dX6_takeWord_26 : decode cX6_takeWord 26 = .ok (.getfield 44, 3) := by decide +kernel
theorem dX6_takeWord_29 : decode cX6_takeWord 29 = .ok (.iload_n 2, 1) := by decide +kernel
theorem dX6_takeWord_30 : decode cX6_takeWord 30 = .ok (.iadd, 1) := by decide +kernel
theorem dX6_takeWord_31 : decode cX6_takeWord 31 = .ok (.invokevirtual 47, 3) := by decide +kernel
theorem dX6_takeWord_34 : decode cX6_takeWord 34 = .ok (.aload_n 1, 1) := by decide +kernel
theorem dX6_takeWord_35 : decode cX6_takeWord 35 = .ok (.iload_n 2, 1) := by decide +kernel
theorem dX6_takeWord_36 : decode cX6_takeWord 36 = .ok (.invokevirtual 74, 3) := by decide +kernel
theorem dX6_takeWord_39 : decode cX6_takeWord 39 = .ok (.if_icmp .ne 9, 3) := by decide +kernel
theorem dX6_takeWord_42 : decode cX6_takeWord 42 = .ok (.iinc 2 1, 3) := by decide +kernel
theorem dX6_takeWord_45 : decode cX6_takeWord 45 = .ok (.goto (-29), 3) := by decide +kernel
theorem dX6_takeWord_48 : decode cX6_takeWord 48 = .ok (.iload_n 2, 1) := by decide +kernel
theorem dX6_takeWord_49 : decode cX6_takeWord 49 = .ok (.aload_n 1, 1) := by decide +kernel
theorem dX6_takeWord_50 : decode cX6_takeWord 50 = .ok (.invokevirtual 69, 3) := by decide +kernel
theorem dX6_takeWord_53 : decode cX6_takeWord 53 = .ok (.if_icmp .lt 23, 3) := by decide +kernel
theorem dX6_takeWord_56 : decode cX6_takeWord 56 = .ok (.aload_n 0, 1) := by decide +kernel
theorem dX6_takeWord_57 : decode cX6_takeWord 57 = .ok (.aload_n 0, 1) := by decide +kernel
theorem dX6_takeWord_58 : decode cX6_takeWord 58 = .ok (.getfield 44, 3) := by decide +kernel
theorem dX6_takeWord_61 : decode cX6_takeWord 61 = .ok (.iload_n 2, 1) := by decide +kernel
theorem dX6_takeWord_62 : decode cX6_takeWord 62 = .ok (.iadd, 1) := by decide +kernel
theorem dX6_takeWord_63 : decode cX6_takeWord 63 = .ok (.invokevirtual 47, 3) := by decide +kernel
theorem dX6_takeWord_66 : decode cX6_takeWord 66 = .ok (.bipush 97, 2) := by decide +kernel
theorem dX6_takeWord_68 : decode cX6_takeWord 68 = .ok (.bipush 122, 2) := by decide +kernel
theorem dX6_takeWord_70 : decode cX6_takeWord 70 = .ok (.invokestatic 57, 3) := by decide +kernel
theorem dX6_takeWord_73 : decode cX6_takeWord 73 = .ok (.ifCond .eq 5, 3) := by decide +kernel
theorem dX6_takeWord_76 : decode cX6_takeWord 76 = .ok (.iconst 0, 1) := by decide +kernel
theorem dX6_takeWord_77 : decode cX6_takeWord 77 = .ok (.ireturn, 1) := by decide +kernel
theorem dX6_takeWord_78 : decode cX6_takeWord 78 = .ok (.aload_n 0, 1) := by decide +kernel
theorem dX6_takeWord_79 : decode cX6_takeWord 79 = .ok (.dup, 1) := by decide +kernel
theorem dX6_takeWord_80 : decode cX6_takeWord 80 = .ok (.getfield 44, 3) := by decide +kernel
theorem dX6_takeWord_83 : decode cX6_takeWord 83 = .ok (.iload_n 2, 1) := by decide +kernel
theorem dX6_takeWord_84 : decode cX6_takeWord 84 = .ok (.iadd, 1) := by decide +kernel
theorem dX6_takeWord_85 : decode cX6_takeWord 85 = .ok (.putfield 44, 3) := by decide +kernel
theorem dX6_takeWord_88 : decode cX6_takeWord 88 = .ok (.iconst 1, 1) := by decide +kernel
theorem dX6_takeWord_89 : decode cX6_takeWord 89 = .ok (.ireturn, 1) := by decide +kernel
theorem dX6_expect_0 : decode cX6_expect 0 = .ok (.aload_n 0, 1) := by decide +kernel
theorem dX6_expect_1 : decode cX6_expect 1 = .ok (.invokevirtual 61, 3) := by decide +kernel
theorem dX6_expect_4 : decode cX6_expect 4 = .ok (.ifCond .ne 4, 3) := by decide +kernel
theorem dX6_expect_7 : decode cX6_expect 7 = .ok (.return_, 1) := by decide +kernel
theorem dX6_expect_8 : decode cX6_expect 8 = .ok (.aload_n 0, 1) := by decide +kernel
theorem dX6_expect_9 : decode cX6_expect 9 = .ok (.invokevirtual 65, 3) := by decide +kernel
theorem dX6_expect_12 : decode cX6_expect 12 = .ok (.iload_n 1, 1) := by decide +kernel
theorem dX6_expect_13 : decode cX6_expect 13 = .ok (.if_icmp .ne 16, 3) := by decide +kernel
theorem dX6_expect_16 : decode cX6_expect 16 = .ok (.aload_n 0, 1) := by decide +kernel
theorem dX6_expect_17 : decode cX6_expect 17 = .ok (.dup, 1) := by decide +kernel
theorem dX6_expect_18 : decode cX6_expect 18 = .ok (.getfield 44, 3) := by decide +kernel
theorem dX6_expect_21 : decode cX6_expect 21 = .ok (.iconst 1, 1) := by decide +kernel
theorem dX6_expect_22 : decode cX6_expect 22 = .ok (.iadd, 1) := by decide +kernel
theorem dX6_expect_23 : decode cX6_expect 23 = .ok (.putfield 44, 3) := by decide +kernel
theorem dX6_expect_26 : decode cX6_expect 26 = .ok (.goto 13, 3) := by decide +kernel
theorem dX6_expect_29 : decode cX6_expect 29 = .ok (.aload_n 0, 1) := by decide +kernel
theorem dX6_expect_30 : decode cX6_expect 30 = .ok (.bipush (-2), 2) := by decide +kernel
theorem dX6_expect_32 : decode cX6_expect 32 = .ok (.aload_n 0, 1) := by decide +kernel
theorem dX6_expect_33 : decode cX6_expect 33 = .ok (.getfield 44, 3) := by decide +kernel
theorem dX6_expect_36 : decode cX6_expect 36 = .ok (.invokevirtual 78, 3) := by decide +kernel
theorem dX6_expect_39 : decode cX6_expect 39 = .ok (.return_, 1) := by decide +kernel
theorem dX6_number_0 : decode cX6_number 0 = .ok (.aload_n 0, 1) := by decide +kernel
theorem dX6_number_1 : decode cX6_number 1 = .ok (.invokevirtual 61, 3) := by decide +kernel
theorem dX6_number_4 : decode cX6_number 4 = .ok (.ifCond .ne 5, 3) := by decide +kernel
theorem dX6_number_7 : decode cX6_number 7 = .ok (.iconst 0, 1) := by decide +kernel
theorem dX6_number_8 : decode cX6_number 8 = .ok (.ireturn, 1) := by decide +kernel
theorem dX6_number_9 : decode cX6_number 9 = .ok (.aload_n 0, 1) := by decide +kernel
theorem dX6_number_10 : decode cX6_number 10 = .ok (.invokevirtual 65, 3) := by decide +kernel
theorem dX6_number_13 : decode cX6_number 13 = .ok (.invokestatic 82, 3) := by decide +kernel
theorem dX6_number_16 : decode cX6_number 16 = .ok (.ifCond .ne 15, 3) := by decide +kernel
theorem dX6_number_19 : decode cX6_number 19 = .ok (.aload_n 0, 1) := by decide +kernel
theorem dX6_number_20 : decode cX6_number 20 = .ok (.bipush (-2), 2) := by decide +kernel
theorem dX6_number_22 : decode cX6_number 22 = .ok (.aload_n 0, 1) := by decide +kernel
theorem dX6_number_23 : decode cX6_number 23 = .ok (.getfield 44, 3) := by decide +kernel
theorem dX6_number_26 : decode cX6_number 26 = .ok (.invokevirtual 78, 3) := by decide +kernel
theorem dX6_number_29 : decode cX6_number 29 = .ok (.iconst 0, 1) := by decide +kernel
theorem dX6_number_30 : decode cX6_number 30 = .ok (.ireturn, 1) := by decide +kernel
theorem dX6_number_31 : decode cX6_number 31 = .ok (.aload_n 0, 1) := by decide +kernel
theorem dX6_number_32 : decode cX6_number 32 = .ok (.getfield 44, 3) := by decide +kernel
theorem dX6_number_35 : decode cX6_number 35 = .ok (.istore_n 3, 1) := by decide +kernel
theorem dX6_number_36 : decode cX6_number 36 = .ok (.iconst 0, 1) := by decide +kernel
theorem dX6_number_37 : decode cX6_number 37 = .ok (.istore 4, 2) := by decide +kernel
theorem dX6_number_39 : decode cX6_number 39 = .ok (.aload_n 0, 1) := by decide +kernel
theorem dX6_number_40 : decode cX6_number 40 = .ok (.aload_n 0, 1) := by decide +kernel
theorem dX6_number_41 : decode cX6_number 41 = .ok (.getfield 44, 3) := by decide +kernel
theorem dX6_number_44 : decode cX6_number 44 = .ok (.invokevirtual 47, 3) := by decide +kernel
theorem dX6_number_47 : decode cX6_number 47 = .ok (.invokestatic 82, 3) := by decide +kernel
theorem dX6_number_50 : decode cX6_number 50 = .ok (.ifCond .eq 40, 3) := by decide +kernel
theorem dX6_number_53 : decode cX6_number 53 = .ok (.ldc 86, 2) := by decide +kernel
theorem dX6_number_55 : decode cX6_number 55 = .ok (.bipush 10, 2) := by decide +kernel
theorem dX6_number_57 : decode cX6_number 57 = .ok (.iload 4, 2) := by decide +kernel
theorem dX6_number_59 : decode cX6_number 59 = .ok (.imul, 1) := by decide +kernel
theorem dX6_number_60 : decode cX6_number 60 = .ok (.aload_n 0, 1) := by decide +kernel
theorem dX6_number_61 : decode cX6_number 61 = .ok (.aload_n 0, 1) := by decide +kernel
theorem dX6_number_62 : decode cX6_number 62 = .ok (.getfield 44, 3) := by decide +kernel
theorem dX6_number_65 : decode cX6_number 65 = .ok (.invokevirtual 47, 3) := by decide +kernel
theorem dX6_number_68 : decode cX6_number 68 = .ok (.iadd, 1) := by decide +kernel
theorem dX6_number_69 : decode cX6_number 69 = .ok (.bipush 48, 2) := by decide +kernel
theorem dX6_number_71 : decode cX6_number 71 = .ok (.isub, 1) := by decide +kernel
theorem dX6_number_72 : decode cX6_number 72 = .ok (.invokestatic 87, 3) := by decide +kernel
theorem dX6_number_75 : decode cX6_number 75 = .ok (.istore 4, 2) := by decide +kernel
theorem dX6_number_77 : decode cX6_number 77 = .ok (.aload_n 0, 1) := by decide +kernel
theorem dX6_number_78 : decode cX6_number 78 = .ok (.dup, 1) := by decide +kernel
theorem dX6_number_79 : decode cX6_number 79 = .ok (.getfield 44, 3) := by decide +kernel
theorem dX6_number_82 : decode cX6_number 82 = .ok (.iconst 1, 1) := by decide +kernel
theorem dX6_number_83 : decode cX6_number 83 = .ok (.iadd, 1) := by decide +kernel
theorem dX6_number_84 : decode cX6_number 84 = .ok (.putfield 44, 3) := by decide +kernel
theorem dX6_number_87 : decode cX6_number 87 = .ok (.goto (-48), 3) := by decide +kernel
theorem dX6_number_90 : decode cX6_number 90 = .ok (.iload 4, 2) := by decide +kernel
theorem dX6_number_92 : decode cX6_number 92 = .ok (.iload_n 1, 1) := by decide +kernel
theorem dX6_number_93 : decode cX6_number 93 = .ok (.iload_n 2, 1) := by decide +kernel
theorem dX6_number_94 : decode cX6_number 94 = .ok (.invokestatic 57, 3) := by decide +kernel
theorem dX6_number_97 : decode cX6_number 97 = .ok (.ifCond .ne 10, 3) := by decide +kernel
theorem dX6_number_100 : decode cX6_number 100 = .ok (.aload_n 0, 1) := by decide +kernel
theorem dX6_number_101 : decode cX6_number 101 = .ok (.bipush (-3), 2) := by decide +kernel
theorem dX6_number_103 : decode cX6_number 103 = .ok (.iload_n 3, 1) := by decide +kernel
theorem dX6_number_104 : decode cX6_number 104 = .ok (.invokevirtual 78, 3) := by decide +kernel
theorem dX6_number_107 : decode cX6_number 107 = .ok (.iload 4, 2) := by decide +kernel
theorem dX6_number_109 : decode cX6_number 109 = .ok (.ireturn, 1) := by decide +kernel
theorem dX6_emit_0 : decode cX6_emit 0 = .ok (.aload_n 0, 1) := by decide +kernel
theorem dX6_emit_1 : decode cX6_emit 1 = .ok (.invokevirtual 61, 3) := by decide +kernel
theorem dX6_emit_4 : decode cX6_emit 4 = .ok (.ifCond .ne 4, 3) := by decide +kernel
theorem dX6_emit_7 : decode cX6_emit 7 = .ok (.return_, 1) := by decide +kernel
theorem dX6_emit_8 : decode cX6_emit 8 = .ok (.aload_n 0, 1) := by decide +kernel
theorem dX6_emit_9 : decode cX6_emit 9 = .ok (.getfield 20, 3) := by decide +kernel
theorem dX6_emit_12 : decode cX6_emit 12 = .ok (.sipush 251, 3) := by decide +kernel
theorem dX6_emit_15 : decode cX6_emit 15 = .ok (.aload_n 0, 1) := by decide +kernel
theorem dX6_emit_16 : decode cX6_emit 16 = .ok (.getfield 20, 3) := by decide +kernel
theorem dX6_emit_19 : decode cX6_emit 19 = .ok (.bipush 8, 2) := by decide +kernel
theorem dX6_emit_21 : decode cX6_emit 21 = .ok (.iaload, 1) := by decide +kernel
theorem dX6_emit_22 : decode cX6_emit 22 = .ok (.iadd, 1) := by decide +kernel
theorem dX6_emit_23 : decode cX6_emit 23 = .ok (.iload_n 1, 1) := by decide +kernel
theorem dX6_emit_24 : decode cX6_emit 24 = .ok (.iastore, 1) := by decide +kernel
theorem dX6_emit_25 : decode cX6_emit 25 = .ok (.aload_n 0, 1) := by decide +kernel
theorem dX6_emit_26 : decode cX6_emit 26 = .ok (.getfield 20, 3) := by decide +kernel
theorem dX6_emit_29 : decode cX6_emit 29 = .ok (.bipush 8, 2) := by decide +kernel
theorem dX6_emit_31 : decode cX6_emit 31 = .ok (.dup2, 1) := by decide +kernel
theorem dX6_emit_32 : decode cX6_emit 32 = .ok (.iaload, 1) := by decide +kernel
theorem dX6_emit_33 : decode cX6_emit 33 = .ok (.iconst 1, 1) := by decide +kernel
theorem dX6_emit_34 : decode cX6_emit 34 = .ok (.iadd, 1) := by decide +kernel
theorem dX6_emit_35 : decode cX6_emit 35 = .ok (.iastore, 1) := by decide +kernel
theorem dX6_emit_36 : decode cX6_emit 36 = .ok (.return_, 1) := by decide +kernel
theorem dX6_factor_0 : decode cX6_factor 0 = .ok (.aload_n 0, 1) := by decide +kernel
theorem dX6_factor_1 : decode cX6_factor 1 = .ok (.invokevirtual 61, 3) := by decide +kernel
theorem dX6_factor_4 : decode cX6_factor 4 = .ok (.ifCond .ne 4, 3) := by decide +kernel
theorem dX6_factor_7 : decode cX6_factor 7 = .ok (.return_, 1) := by decide +kernel
theorem dX6_factor_8 : decode cX6_factor 8 = .ok (.aload_n 0, 1) := by decide +kernel
theorem dX6_factor_9 : decode cX6_factor 9 = .ok (.invokevirtual 65, 3) := by decide +kernel
theorem dX6_factor_12 : decode cX6_factor 12 = .ok (.istore_n 1, 1) := by decide +kernel
theorem dX6_factor_13 : decode cX6_factor 13 = .ok (.iload_n 1, 1) := by decide +kernel
theorem dX6_factor_14 : decode cX6_factor 14 = .ok (.bipush 40, 2) := by decide +kernel
theorem dX6_factor_16 : decode cX6_factor 16 = .ok (.if_icmp .ne 62, 3) := by decide +kernel
theorem dX6_factor_19 : decode cX6_factor 19 = .ok (.aload_n 0, 1) := by decide +kernel
theorem dX6_factor_20 : decode cX6_factor 20 = .ok (.getfield 91, 3) := by decide +kernel
theorem dX6_factor_23 : decode cX6_factor 23 = .ok (.iconst 4, 1) := by decide +kernel
theorem dX6_factor_24 : decode cX6_factor 24 = .ok (.if_icmp .ne 13, 3) := by decide +kernel
theorem dX6_factor_27 : decode cX6_factor 27 = .ok (.aload_n 0, 1) := by decide +kernel
theorem dX6_factor_28 : decode cX6_factor 28 = .ok (.bipush (-5), 2) := by decide +kernel
theorem dX6_factor_30 : decode cX6_factor 30 = .ok (.aload_n 0, 1) := by decide +kernel
theorem dX6_factor_31 : decode cX6_factor 31 = .ok (.getfield 44, 3) := by decide +kernel
theorem dX6_factor_34 : decode cX6_factor 34 = .ok (.invokevirtual 78, 3) := by decide +kernel
theorem dX6_factor_37 : decode cX6_factor 37 = .ok (.aload_n 0, 1) := by decide +kernel
theorem dX6_factor_38 : decode cX6_factor 38 = .ok (.dup, 1) := by decide +kernel
theorem dX6_factor_39 : decode cX6_factor 39 = .ok (.getfield 44, 3) := by decide +kernel
theorem dX6_factor_42 : decode cX6_factor 42 = .ok (.iconst 1, 1) := by decide +kernel
theorem dX6_factor_43 : decode cX6_factor 43 = .ok (.iadd, 1) := by decide +kernel
theorem dX6_factor_44 : decode cX6_factor 44 = .ok (.putfield 44, 3) := by decide +kernel
theorem dX6_factor_47 : decode cX6_factor 47 = .ok (.aload_n 0, 1) := by decide +kernel
theorem dX6_factor_48 : decode cX6_factor 48 = .ok (.dup, 1) := by decide +kernel
theorem dX6_factor_49 : decode cX6_factor 49 = .ok (.getfield 91, 3) := by decide +kernel
theorem dX6_factor_52 : decode cX6_factor 52 = .ok (.iconst 1, 1) := by decide +kernel
theorem dX6_factor_53 : decode cX6_factor 53 = .ok (.iadd, 1) := by decide +kernel
theorem dX6_factor_54 : decode cX6_factor 54 = .ok (.putfield 91, 3) := by decide +kernel
theorem dX6_factor_57 : decode cX6_factor 57 = .ok (.aload_n 0, 1) := by decide +kernel
theorem dX6_factor_58 : decode cX6_factor 58 = .ok (.invokevirtual 94, 3) := by decide +kernel
theorem dX6_factor_61 : decode cX6_factor 61 = .ok (.aload_n 0, 1) := by decide +kernel
theorem dX6_factor_62 : decode cX6_factor 62 = .ok (.bipush 41, 2) := by decide +kernel
theorem dX6_factor_64 : decode cX6_factor 64 = .ok (.invokevirtual 97, 3) := by decide +kernel
theorem dX6_factor_67 : decode cX6_factor 67 = .ok (.aload_n 0, 1) := by decide +kernel
theorem dX6_factor_68 : decode cX6_factor 68 = .ok (.dup, 1) := by decide +kernel
theorem dX6_factor_69 : decode cX6_factor 69 = .ok (.getfield 91, 3) := by decide +kernel
theorem dX6_factor_72 : decode cX6_factor 72 = .ok (.iconst 1, 1) := by decide +kernel
theorem dX6_factor_73 : decode cX6_factor 73 = .ok (.isub, 1) := by decide +kernel
theorem dX6_factor_74 : decode cX6_factor 74 = .ok (.putfield 91, 3) := by decide +kernel
theorem dX6_factor_77 : decode cX6_factor 77 = .ok (.return_, 1) := by decide +kernel
theorem dX6_factor_78 : decode cX6_factor 78 = .ok (.iload_n 1, 1) := by decide +kernel
theorem dX6_factor_79 : decode cX6_factor 79 = .ok (.invokestatic 82, 3) := by decide +kernel
theorem dX6_factor_82 : decode cX6_factor 82 = .ok (.ifCond .eq 7, 3) := by decide +kernel
theorem dX6_factor_85 : decode cX6_factor 85 = .ok (.iconst (-1), 1) := by decide +kernel
theorem dX6_factor_86 : decode cX6_factor 86 = .ok (.goto 43, 3) := by decide +kernel
theorem dX6_factor_89 : decode cX6_factor 89 = .ok (.aload_n 0, 1) := by decide +kernel
theorem dX6_factor_90 : decode cX6_factor 90 = .ok (.ldc 101, 2) := by decide +kernel
theorem dX6_factor_92 : decode cX6_factor 92 = .ok (.invokevirtual 103, 3) := by decide +kernel
theorem dX6_factor_95 : decode cX6_factor 95 = .ok (.ifCond .eq 7, 3) := by decide +kernel
theorem dX6_factor_98 : decode cX6_factor 98 = .ok (.iconst 0, 1) := by decide +kernel
theorem dX6_factor_99 : decode cX6_factor 99 = .ok (.goto 30, 3) := by decide +kernel
theorem dX6_factor_102 : decode cX6_factor 102 = .ok (.aload_n 0, 1) := by decide +kernel
theorem dX6_factor_103 : decode cX6_factor 103 = .ok (.ldc 107, 2) := by decide +kernel
theorem dX6_factor_105 : decode cX6_factor 105 = .ok (.invokevirtual 103, 3) := by decide +kernel
theorem dX6_factor_108 : decode cX6_factor 108 = .ok (.ifCond .eq 7, 3) := by decide +kernel
theorem dX6_factor_111 : decode cX6_factor 111 = .ok (.iconst 1, 1) := by decide +kernel
theorem dX6_factor_112 : decode cX6_factor 112 = .ok (.goto 17, 3) := by decide +kernel
theorem dX6_factor_115 : decode cX6_factor 115 = .ok (.aload_n 0, 1) := by decide +kernel
theorem dX6_factor_116 : decode cX6_factor 116 = .ok (.ldc 109, 2) := by decide +kernel
theorem dX6_factor_118 : decode cX6_factor 118 = .ok (.invokevirtual 103, 3) := by decide +kernel
theorem dX6_factor_121 : decode cX6_factor 121 = .ok (.ifCond .eq 7, 3) := by decide +kernel
theorem dX6_factor_124 : decode cX6_factor 124 = .ok (.iconst 2, 1) := by decide +kernel
theorem dX6_factor_125 : decode cX6_factor 125 = .ok (.goto 4, 3) := by decide +kernel
theorem dX6_factor_128 : decode cX6_factor 128 = .ok (.iconst (-1), 1) := by decide +kernel
theorem dX6_factor_129 : decode cX6_factor 129 = .ok (.istore_n 2, 1) := by decide +kernel
theorem dX6_factor_130 : decode cX6_factor 130 = .ok (.iload_n 2, 1) := by decide +kernel
theorem dX6_factor_131 : decode cX6_factor 131 = .ok (.ifCond .ge 14, 3) := by decide +kernel
theorem dX6_factor_134 : decode cX6_factor 134 = .ok (.aload_n 0, 1) := by decide +kernel
theorem dX6_factor_135 : decode cX6_factor 135 = .ok (.iconst 0, 1) := by decide +kernel
theorem dX6_factor_136 : decode cX6_factor 136 = .ok (.sipush 9999, 3) := by decide +kernel
theorem dX6_factor_139 : decode cX6_factor 139 = .ok (.invokevirtual 111, 3) := by decide +kernel
theorem dX6_factor_142 : decode cX6_factor 142 = .ok (.goto 4, 3) := by decide +kernel
theorem dX6_factor_145 : decode cX6_factor 145 = .ok (.iload_n 2, 1) := by decide +kernel
theorem dX6_factor_146 : decode cX6_factor 146 = .ok (.istore_n 3, 1) := by decide +kernel
theorem dX6_factor_147 : decode cX6_factor 147 = .ok (.aload_n 0, 1) := by decide +kernel
theorem dX6_factor_148 : decode cX6_factor 148 = .ok (.iload_n 2, 1) := by decide +kernel
theorem dX6_factor_149 : decode cX6_factor 149 = .ok (.ifCond .ge 7, 3) := by decide +kernel
theorem dX6_factor_152 : decode cX6_factor 152 = .ok (.iconst 0, 1) := by decide +kernel
theorem dX6_factor_153 : decode cX6_factor 153 = .ok (.goto 4, 3) := by decide +kernel
theorem dX6_factor_156 : decode cX6_factor 156 = .ok (.iconst 1, 1) := by decide +kernel
theorem dX6_factor_157 : decode cX6_factor 157 = .ok (.invokevirtual 114, 3) := by decide +kernel
theorem dX6_factor_160 : decode cX6_factor 160 = .ok (.aload_n 0, 1) := by decide +kernel
theorem dX6_factor_161 : decode cX6_factor 161 = .ok (.iload_n 3, 1) := by decide +kernel
theorem dX6_factor_162 : decode cX6_factor 162 = .ok (.invokevirtual 114, 3) := by decide +kernel
theorem dX6_factor_165 : decode cX6_factor 165 = .ok (.return_, 1) := by decide +kernel
theorem dX6_term_0 : decode cX6_term 0 = .ok (.aload_n 0, 1) := by decide +kernel
theorem dX6_term_1 : decode cX6_term 1 = .ok (.invokevirtual 117, 3) := by decide +kernel
theorem dX6_term_4 : decode cX6_term 4 = .ok (.aload_n 0, 1) := by decide +kernel
theorem dX6_term_5 : decode cX6_term 5 = .ok (.invokevirtual 61, 3) := by decide +kernel
theorem dX6_term_8 : decode cX6_term 8 = .ok (.ifCond .eq 66, 3) := by decide +kernel
theorem dX6_term_11 : decode cX6_term 11 = .ok (.aload_n 0, 1) := by decide +kernel
theorem dX6_term_12 : decode cX6_term 12 = .ok (.invokevirtual 65, 3) := by decide +kernel
theorem dX6_term_15 : decode cX6_term 15 = .ok (.bipush 42, 2) := by decide +kernel
theorem dX6_term_17 : decode cX6_term 17 = .ok (.if_icmp .eq 12, 3) := by decide +kernel
theorem dX6_term_20 : decode cX6_term 20 = .ok (.aload_n 0, 1) := by decide +kernel
theorem dX6_term_21 : decode cX6_term 21 = .ok (.invokevirtual 65, 3) := by decide +kernel
theorem dX6_term_24 : decode cX6_term 24 = .ok (.bipush 47, 2) := by decide +kernel
theorem dX6_term_26 : decode cX6_term 26 = .ok (.if_icmp .ne 48, 3) := by decide +kernel
theorem dX6_term_29 : decode cX6_term 29 = .ok (.aload_n 0, 1) := by decide +kernel
theorem dX6_term_30 : decode cX6_term 30 = .ok (.invokevirtual 65, 3) := by decide +kernel
theorem dX6_term_33 : decode cX6_term 33 = .ok (.bipush 42, 2) := by decide +kernel
theorem dX6_term_35 : decode cX6_term 35 = .ok (.if_icmp .ne 7, 3) := by decide +kernel
theorem dX6_term_38 : decode cX6_term 38 = .ok (.iconst 1, 1) := by decide +kernel
theorem dX6_term_39 : decode cX6_term 39 = .ok (.goto 4, 3) := by decide +kernel
theorem dX6_term_42 : decode cX6_term 42 = .ok (.iconst 0, 1) := by decide +kernel
theorem dX6_term_43 : decode cX6_term 43 = .ok (.istore_n 1, 1) := by decide +kernel
theorem dX6_term_44 : decode cX6_term 44 = .ok (.aload_n 0, 1) := by decide +kernel
theorem dX6_term_45 : decode cX6_term 45 = .ok (.dup, 1) := by decide +kernel
theorem dX6_term_46 : decode cX6_term 46 = .ok (.getfield 44, 3) := by decide +kernel
theorem dX6_term_49 : decode cX6_term 49 = .ok (.iconst 1, 1) := by decide +kernel
theorem dX6_term_50 : decode cX6_term 50 = .ok (.iadd, 1) := by decide +kernel
theorem dX6_term_51 : decode cX6_term 51 = .ok (.putfield 44, 3) := by decide +kernel
theorem dX6_term_54 : decode cX6_term 54 = .ok (.aload_n 0, 1) := by decide +kernel
theorem dX6_term_55 : decode cX6_term 55 = .ok (.invokevirtual 117, 3) := by decide +kernel
theorem dX6_term_58 : decode cX6_term 58 = .ok (.aload_n 0, 1) := by decide +kernel
theorem dX6_term_59 : decode cX6_term 59 = .ok (.iload_n 1, 1) := by decide +kernel
theorem dX6_term_60 : decode cX6_term 60 = .ok (.ifCond .eq 7, 3) := by decide +kernel
theorem dX6_term_63 : decode cX6_term 63 = .ok (.iconst 4, 1) := by decide +kernel
theorem dX6_term_64 : decode cX6_term 64 = .ok (.goto 4, 3) := by decide +kernel
theorem dX6_term_67 : decode cX6_term 67 = .ok (.iconst 5, 1) := by decide +kernel
theorem dX6_term_68 : decode cX6_term 68 = .ok (.invokevirtual 114, 3) := by decide +kernel
theorem dX6_term_71 : decode cX6_term 71 = .ok (.goto (-67), 3) := by decide +kernel
theorem dX6_term_74 : decode cX6_term 74 = .ok (.return_, 1) := by decide +kernel
theorem dX6_sum_0 : decode cX6_sum 0 = .ok (.aload_n 0, 1) := by decide +kernel
theorem dX6_sum_1 : decode cX6_sum 1 = .ok (.invokevirtual 120, 3) := by decide +kernel
theorem dX6_sum_4 : decode cX6_sum 4 = .ok (.aload_n 0, 1) := by decide +kernel
theorem dX6_sum_5 : decode cX6_sum 5 = .ok (.invokevirtual 61, 3) := by decide +kernel
theorem dX6_sum_8 : decode cX6_sum 8 = .ok (.ifCond .eq 66, 3) := by decide +kernel
theorem dX6_sum_11 : decode cX6_sum 11 = .ok (.aload_n 0, 1) := by decide +kernel
theorem dX6_sum_12 : decode cX6_sum 12 = .ok (.invokevirtual 65, 3) := by decide +kernel
theorem dX6_sum_15 : decode cX6_sum 15 = .ok (.bipush 43, 2) := by decide +kernel
theorem dX6_sum_17 : decode cX6_sum 17 = .ok (.if_icmp .eq 12, 3) := by decide +kernel
theorem dX6_sum_20 : decode cX6_sum 20 = .ok (.aload_n 0, 1) := by decide +kernel
theorem dX6_sum_21 : decode cX6_sum 21 = .ok (.invokevirtual 65, 3) := by decide +kernel
theorem dX6_sum_24 : decode cX6_sum 24 = .ok (.bipush 45, 2) := by decide +kernel
theorem dX6_sum_26 : decode cX6_sum 26 = .ok (.if_icmp .ne 48, 3) := by decide +kernel
theorem dX6_sum_29 : decode cX6_sum 29 = .ok (.aload_n 0, 1) := by decide +kernel
theorem dX6_sum_30 : decode cX6_sum 30 = .ok (.invokevirtual 65, 3) := by decide +kernel
theorem dX6_sum_33 : decode cX6_sum 33 = .ok (.bipush 43, 2) := by decide +kernel
theorem dX6_sum_35 : decode cX6_sum 35 = .ok (.if_icmp .ne 7, 3) := by decide +kernel
theorem dX6_sum_38 : decode cX6_sum 38 = .ok (.iconst 1, 1) := by decide +kernel
theorem dX6_sum_39 : decode cX6_sum 39 = .ok (.goto 4, 3) := by decide +kernel
theorem dX6_sum_42 : decode cX6_sum 42 = .ok (.iconst 0, 1) := by decide +kernel
theorem dX6_sum_43 : decode cX6_sum 43 = .ok (.istore_n 1, 1) := by decide +kernel
theorem dX6_sum_44 : decode cX6_sum 44 = .ok (.aload_n 0, 1) := by decide +kernel
theorem dX6_sum_45 : decode cX6_sum 45 = .ok (.dup, 1) := by decide +kernel
theorem dX6_sum_46 : decode cX6_sum 46 = .ok (.getfield 44, 3) := by decide +kernel
theorem dX6_sum_49 : decode cX6_sum 49 = .ok (.iconst 1, 1) := by decide +kernel
theorem dX6_sum_50 : decode cX6_sum 50 = .ok (.iadd, 1) := by decide +kernel
theorem dX6_sum_51 : decode cX6_sum 51 = .ok (.putfield 44, 3) := by decide +kernel
theorem dX6_sum_54 : decode cX6_sum 54 = .ok (.aload_n 0, 1) := by decide +kernel
theorem dX6_sum_55 : decode cX6_sum 55 = .ok (.invokevirtual 120, 3) := by decide +kernel
theorem dX6_sum_58 : decode cX6_sum 58 = .ok (.aload_n 0, 1) := by decide +kernel
theorem dX6_sum_59 : decode cX6_sum 59 = .ok (.iload_n 1, 1) := by decide +kernel
theorem dX6_sum_60 : decode cX6_sum 60 = .ok (.ifCond .eq 7, 3) := by decide +kernel
theorem dX6_sum_63 : decode cX6_sum 63 = .ok (.iconst 2, 1) := by decide +kernel
theorem dX6_sum_64 : decode cX6_sum 64 = .ok (.goto 4, 3) := by decide +kernel
theorem dX6_sum_67 : decode cX6_sum 67 = .ok (.iconst 3, 1) := by decide +kernel
theorem dX6_sum_68 : decode cX6_sum 68 = .ok (.invokevirtual 114, 3) := by decide +kernel
theorem dX6_sum_71 : decode cX6_sum 71 = .ok (.goto (-67), 3) := by decide +kernel
theorem dX6_sum_74 : decode cX6_sum 74 = .ok (.return_, 1) := by decide +kernel
theorem dX6_once_0 : decode cX6_once 0 = .ok (.aload_n 0, 1) := by decide +kernel
theorem dX6_once_1 : decode cX6_once 1 = .ok (.getfield 123, 3) := by decide +kernel
theorem dX6_once_4 : decode cX6_once 4 = .ok (.iload_n 1, 1) := by decide +kernel
theorem dX6_once_5 : decode cX6_once 5 = .ok (.ishr, 1) := by decide +kernel
theorem dX6_once_6 : decode cX6_once 6 = .ok (.iconst 1, 1) := by decide +kernel
theorem dX6_once_7 : decode cX6_once 7 = .ok (.iand, 1) := by decide +kernel
theorem dX6_once_8 : decode cX6_once 8 = .ok (.iconst 1, 1) := by decide +kernel
theorem dX6_once_9 : decode cX6_once 9 = .ok (.if_icmp .ne 10, 3) := by decide +kernel
theorem dX6_once_12 : decode cX6_once 12 = .ok (.aload_n 0, 1) := by decide +kernel
theorem dX6_once_13 : decode cX6_once 13 = .ok (.bipush (-2), 2) := by decide +kernel
theorem dX6_once_15 : decode cX6_once 15 = .ok (.iload_n 2, 1) := by decide +kernel
theorem dX6_once_16 : decode cX6_once 16 = .ok (.invokevirtual 78, 3) := by decide +kernel
theorem dX6_once_19 : decode cX6_once 19 = .ok (.aload_n 0, 1) := by decide +kernel
theorem dX6_once_20 : decode cX6_once 20 = .ok (.dup, 1) := by decide +kernel
theorem dX6_once_21 : decode cX6_once 21 = .ok (.getfield 123, 3) := by decide +kernel
theorem dX6_once_24 : decode cX6_once 24 = .ok (.iconst 1, 1) := by decide +kernel
theorem dX6_once_25 : decode cX6_once 25 = .ok (.iload_n 1, 1) := by decide +kernel
theorem dX6_once_26 : decode cX6_once 26 = .ok (.ishl, 1) := by decide +kernel
theorem dX6_once_27 : decode cX6_once 27 = .ok (.ior, 1) := by decide +kernel
theorem dX6_once_28 : decode cX6_once 28 = .ok (.putfield 123, 3) := by decide +kernel
theorem dX6_once_31 : decode cX6_once 31 = .ok (.return_, 1) := by decide +kernel
theorem dX6_readZone_0 : decode cX6_readZone 0 = .ok (.aload_n 0, 1) := by decide +kernel
theorem dX6_readZone_1 : decode cX6_readZone 1 = .ok (.getfield 20, 3) := by decide +kernel
theorem dX6_readZone_4 : decode cX6_readZone 4 = .ok (.iconst 0, 1) := by decide +kernel
theorem dX6_readZone_5 : decode cX6_readZone 5 = .ok (.iaload, 1) := by decide +kernel
theorem dX6_readZone_6 : decode cX6_readZone 6 = .ok (.bipush 6, 2) := by decide +kernel
theorem dX6_readZone_8 : decode cX6_readZone 8 = .ok (.if_icmp .ne 10, 3) := by decide +kernel
theorem dX6_readZone_11 : decode cX6_readZone 11 = .ok (.aload_n 0, 1) := by decide +kernel
theorem dX6_readZone_12 : decode cX6_readZone 12 = .ok (.bipush (-4), 2) := by decide +kernel
theorem dX6_readZone_14 : decode cX6_readZone 14 = .ok (.iload_n 1, 1) := by decide +kernel
theorem dX6_readZone_15 : decode cX6_readZone 15 = .ok (.invokevirtual 78, 3) := by decide +kernel
theorem dX6_readZone_18 : decode cX6_readZone 18 = .ok (.aload_n 0, 1) := by decide +kernel
theorem dX6_readZone_19 : decode cX6_readZone 19 = .ok (.bipush 100, 2) := by decide +kernel
theorem dX6_readZone_21 : decode cX6_readZone 21 = .ok (.sipush 900, 3) := by decide +kernel
theorem dX6_readZone_24 : decode cX6_readZone 24 = .ok (.invokevirtual 111, 3) := by decide +kernel
theorem dX6_readZone_27 : decode cX6_readZone 27 = .ok (.istore_n 2, 1) := by decide +kernel
theorem dX6_readZone_28 : decode cX6_readZone 28 = .ok (.aload_n 0, 1) := by decide +kernel
theorem dX6_readZone_29 : decode cX6_readZone 29 = .ok (.iconst 1, 1) := by decide +kernel
theorem dX6_readZone_30 : decode cX6_readZone 30 = .ok (.bipush 99, 2) := by decide +kernel
theorem dX6_readZone_32 : decode cX6_readZone 32 = .ok (.invokevirtual 111, 3) := by decide +kernel
theorem dX6_readZone_35 : decode cX6_readZone 35 = .ok (.istore_n 3, 1) := by decide +kernel
theorem dX6_readZone_36 : decode cX6_readZone 36 = .ok (.aload_n 0, 1) := by decide +kernel
theorem dX6_readZone_37 : decode cX6_readZone 37 = .ok (.iconst 1, 1) := by decide +kernel
