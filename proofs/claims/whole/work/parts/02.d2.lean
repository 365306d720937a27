theorem dX6_readZone_38 : decode cX6_readZone 38 = .ok (.sipush 999, 3) := by decide +kernel
theorem dX6_readZone_41 : decode cX6_readZone 41 = .ok (.invokevirtual 111, 3) := by decide +kernel
theorem dX6_readZone_44 : decode cX6_readZone 44 = .ok (.istore 4, 2) := by decide +kernel
theorem dX6_readZone_46 : decode cX6_readZone 46 = .ok (.aload_n 0, 1) := by decide +kernel
theorem dX6_readZone_47 : decode cX6_readZone 47 = .ok (.bipush 20, 2) := by decide +kernel
theorem dX6_readZone_49 : decode cX6_readZone 49 = .ok (.sipush 900, 3) := by decide +kernel
theorem dX6_readZone_52 : decode cX6_readZone 52 = .ok (.invokevirtual 111, 3) := by decide +kernel
theorem dX6_readZone_55 : decode cX6_readZone 55 = .ok (.istore 5, 2) := by decide +kernel
theorem dX6_readZone_57 : decode cX6_readZone 57 = .ok (.aload_n 0, 1) := by decide +kernel
theorem dX6_readZone_58 : decode cX6_readZone 58 = .ok (.iload 5, 2) := by decide +kernel
theorem dX6_readZone_60 : decode cX6_readZone 60 = .ok (.sipush 900, 3) := by decide +kernel
theorem dX6_readZone_63 : decode cX6_readZone 63 = .ok (.invokevirtual 111, 3) := by decide +kernel
theorem dX6_readZone_66 : decode cX6_readZone 66 = .ok (.istore 6, 2) := by decide +kernel
theorem dX6_readZone_68 : decode cX6_readZone 68 = .ok (.aload_n 0, 1) := by decide +kernel
theorem dX6_readZone_69 : decode cX6_readZone 69 = .ok (.invokevirtual 61, 3) := by decide +kernel
theorem dX6_readZone_72 : decode cX6_readZone 72 = .ok (.ifCond .ne 4, 3) := by decide +kernel
theorem dX6_readZone_75 : decode cX6_readZone 75 = .ok (.return_, 1) := by decide +kernel
theorem dX6_readZone_76 : decode cX6_readZone 76 = .ok (.aload_n 0, 1) := by decide +kernel
theorem dX6_readZone_77 : decode cX6_readZone 77 = .ok (.getfield 20, 3) := by decide +kernel
theorem dX6_readZone_80 : decode cX6_readZone 80 = .ok (.iconst 0, 1) := by decide +kernel
theorem dX6_readZone_81 : decode cX6_readZone 81 = .ok (.iaload, 1) := by decide +kernel
theorem dX6_readZone_82 : decode cX6_readZone 82 = .ok (.invokestatic 126, 3) := by decide +kernel
theorem dX6_readZone_85 : decode cX6_readZone 85 = .ok (.istore 7, 2) := by decide +kernel
theorem dX6_readZone_87 : decode cX6_readZone 87 = .ok (.aload_n 0, 1) := by decide +kernel
theorem dX6_readZone_88 : decode cX6_readZone 88 = .ok (.getfield 20, 3) := by decide +kernel
theorem dX6_readZone_91 : decode cX6_readZone 91 = .ok (.iload 7, 2) := by decide +kernel
theorem dX6_readZone_93 : decode cX6_readZone 93 = .ok (.iload_n 2, 1) := by decide +kernel
theorem dX6_readZone_94 : decode cX6_readZone 94 = .ok (.iastore, 1) := by decide +kernel
theorem dX6_readZone_95 : decode cX6_readZone 95 = .ok (.aload_n 0, 1) := by decide +kernel
theorem dX6_readZone_96 : decode cX6_readZone 96 = .ok (.getfield 20, 3) := by decide +kernel
theorem dX6_readZone_99 : decode cX6_readZone 99 = .ok (.iload 7, 2) := by decide +kernel
theorem dX6_readZone_101 : decode cX6_readZone 101 = .ok (.iconst 1, 1) := by decide +kernel
theorem dX6_readZone_102 : decode cX6_readZone 102 = .ok (.iadd, 1) := by decide +kernel
theorem dX6_readZone_103 : decode cX6_readZone 103 = .ok (.iload_n 3, 1) := by decide +kernel
theorem dX6_readZone_104 : decode cX6_readZone 104 = .ok (.iastore, 1) := by decide +kernel
theorem dX6_readZone_105 : decode cX6_readZone 105 = .ok (.aload_n 0, 1) := by decide +kernel
theorem dX6_readZone_106 : decode cX6_readZone 106 = .ok (.getfield 20, 3) := by decide +kernel
theorem dX6_readZone_109 : decode cX6_readZone 109 = .ok (.iload 7, 2) := by decide +kernel
theorem dX6_readZone_111 : decode cX6_readZone 111 = .ok (.iconst 2, 1) := by decide +kernel
theorem dX6_readZone_112 : decode cX6_readZone 112 = .ok (.iadd, 1) := by decide +kernel
theorem dX6_readZone_113 : decode cX6_readZone 113 = .ok (.iload 4, 2) := by decide +kernel
theorem dX6_readZone_115 : decode cX6_readZone 115 = .ok (.iastore, 1) := by decide +kernel
theorem dX6_readZone_116 : decode cX6_readZone 116 = .ok (.aload_n 0, 1) := by decide +kernel
theorem dX6_readZone_117 : decode cX6_readZone 117 = .ok (.getfield 20, 3) := by decide +kernel
theorem dX6_readZone_120 : decode cX6_readZone 120 = .ok (.iload 7, 2) := by decide +kernel
theorem dX6_readZone_122 : decode cX6_readZone 122 = .ok (.iconst 3, 1) := by decide +kernel
theorem dX6_readZone_123 : decode cX6_readZone 123 = .ok (.iadd, 1) := by decide +kernel
theorem dX6_readZone_124 : decode cX6_readZone 124 = .ok (.iload 5, 2) := by decide +kernel
theorem dX6_readZone_126 : decode cX6_readZone 126 = .ok (.iastore, 1) := by decide +kernel
theorem dX6_readZone_127 : decode cX6_readZone 127 = .ok (.aload_n 0, 1) := by decide +kernel
theorem dX6_readZone_128 : decode cX6_readZone 128 = .ok (.getfield 20, 3) := by decide +kernel
theorem dX6_readZone_131 : decode cX6_readZone 131 = .ok (.iload 7, 2) := by decide +kernel
theorem dX6_readZone_133 : decode cX6_readZone 133 = .ok (.iconst 4, 1) := by decide +kernel
theorem dX6_readZone_134 : decode cX6_readZone 134 = .ok (.iadd, 1) := by decide +kernel
theorem dX6_readZone_135 : decode cX6_readZone 135 = .ok (.iload 6, 2) := by decide +kernel
theorem dX6_readZone_137 : decode cX6_readZone 137 = .ok (.iastore, 1) := by decide +kernel
theorem dX6_readZone_138 : decode cX6_readZone 138 = .ok (.aload_n 0, 1) := by decide +kernel
theorem dX6_readZone_139 : decode cX6_readZone 139 = .ok (.getfield 20, 3) := by decide +kernel
theorem dX6_readZone_142 : decode cX6_readZone 142 = .ok (.iload 7, 2) := by decide +kernel
theorem dX6_readZone_144 : decode cX6_readZone 144 = .ok (.iconst 5, 1) := by decide +kernel
theorem dX6_readZone_145 : decode cX6_readZone 145 = .ok (.iadd, 1) := by decide +kernel
theorem dX6_readZone_146 : decode cX6_readZone 146 = .ok (.iload_n 2, 1) := by decide +kernel
theorem dX6_readZone_147 : decode cX6_readZone 147 = .ok (.iastore, 1) := by decide +kernel
theorem dX6_readZone_148 : decode cX6_readZone 148 = .ok (.aload_n 0, 1) := by decide +kernel
theorem dX6_readZone_149 : decode cX6_readZone 149 = .ok (.getfield 20, 3) := by decide +kernel
theorem dX6_readZone_152 : decode cX6_readZone 152 = .ok (.iconst 0, 1) := by decide +kernel
theorem dX6_readZone_153 : decode cX6_readZone 153 = .ok (.dup2, 1) := by decide +kernel
theorem dX6_readZone_154 : decode cX6_readZone 154 = .ok (.iaload, 1) := by decide +kernel
theorem dX6_readZone_155 : decode cX6_readZone 155 = .ok (.iconst 1, 1) := by decide +kernel
theorem dX6_readZone_156 : decode cX6_readZone 156 = .ok (.iadd, 1) := by decide +kernel
theorem dX6_readZone_157 : decode cX6_readZone 157 = .ok (.iastore, 1) := by decide +kernel
theorem dX6_readZone_158 : decode cX6_readZone 158 = .ok (.return_, 1) := by decide +kernel
theorem dX6_readBand_0 : decode cX6_readBand 0 = .ok (.aload_n 0, 1) := by decide +kernel
theorem dX6_readBand_1 : decode cX6_readBand 1 = .ok (.iconst 2, 1) := by decide +kernel
theorem dX6_readBand_2 : decode cX6_readBand 2 = .ok (.bipush 19, 2) := by decide +kernel
theorem dX6_readBand_4 : decode cX6_readBand 4 = .ok (.invokevirtual 111, 3) := by decide +kernel
theorem dX6_readBand_7 : decode cX6_readBand 7 = .ok (.istore_n 1, 1) := by decide +kernel
theorem dX6_readBand_8 : decode cX6_readBand 8 = .ok (.aload_n 0, 1) := by decide +kernel
theorem dX6_readBand_9 : decode cX6_readBand 9 = .ok (.bipush 20, 2) := by decide +kernel
theorem dX6_readBand_11 : decode cX6_readBand 11 = .ok (.sipush 900, 3) := by decide +kernel
theorem dX6_readBand_14 : decode cX6_readBand 14 = .ok (.invokevirtual 111, 3) := by decide +kernel
theorem dX6_readBand_17 : decode cX6_readBand 17 = .ok (.istore_n 2, 1) := by decide +kernel
theorem dX6_readBand_18 : decode cX6_readBand 18 = .ok (.aload_n 0, 1) := by decide +kernel
theorem dX6_readBand_19 : decode cX6_readBand 19 = .ok (.iload_n 2, 1) := by decide +kernel
theorem dX6_readBand_20 : decode cX6_readBand 20 = .ok (.sipush 900, 3) := by decide +kernel
theorem dX6_readBand_23 : decode cX6_readBand 23 = .ok (.invokevirtual 111, 3) := by decide +kernel
theorem dX6_readBand_26 : decode cX6_readBand 26 = .ok (.istore_n 3, 1) := by decide +kernel
theorem dX6_readBand_27 : decode cX6_readBand 27 = .ok (.aload_n 0, 1) := by decide +kernel
theorem dX6_readBand_28 : decode cX6_readBand 28 = .ok (.invokevirtual 61, 3) := by decide +kernel
theorem dX6_readBand_31 : decode cX6_readBand 31 = .ok (.ifCond .ne 4, 3) := by decide +kernel
theorem dX6_readBand_34 : decode cX6_readBand 34 = .ok (.return_, 1) := by decide +kernel
theorem dX6_readBand_35 : decode cX6_readBand 35 = .ok (.iload_n 1, 1) := by decide +kernel
theorem dX6_readBand_36 : decode cX6_readBand 36 = .ok (.invokestatic 129, 3) := by decide +kernel
theorem dX6_readBand_39 : decode cX6_readBand 39 = .ok (.istore 4, 2) := by decide +kernel
theorem dX6_readBand_41 : decode cX6_readBand 41 = .ok (.aload_n 0, 1) := by decide +kernel
theorem dX6_readBand_42 : decode cX6_readBand 42 = .ok (.getfield 20, 3) := by decide +kernel
theorem dX6_readBand_45 : decode cX6_readBand 45 = .ok (.iload 4, 2) := by decide +kernel
theorem dX6_readBand_47 : decode cX6_readBand 47 = .ok (.iconst 4, 1) := by decide +kernel
theorem dX6_readBand_48 : decode cX6_readBand 48 = .ok (.iadd, 1) := by decide +kernel
theorem dX6_readBand_49 : decode cX6_readBand 49 = .ok (.iload_n 2, 1) := by decide +kernel
theorem dX6_readBand_50 : decode cX6_readBand 50 = .ok (.iastore, 1) := by decide +kernel
theorem dX6_readBand_51 : decode cX6_readBand 51 = .ok (.aload_n 0, 1) := by decide +kernel
theorem dX6_readBand_52 : decode cX6_readBand 52 = .ok (.getfield 20, 3) := by decide +kernel
theorem dX6_readBand_55 : decode cX6_readBand 55 = .ok (.iload 4, 2) := by decide +kernel
theorem dX6_readBand_57 : decode cX6_readBand 57 = .ok (.iconst 5, 1) := by decide +kernel
theorem dX6_readBand_58 : decode cX6_readBand 58 = .ok (.iadd, 1) := by decide +kernel
theorem dX6_readBand_59 : decode cX6_readBand 59 = .ok (.iload_n 3, 1) := by decide +kernel
theorem dX6_readBand_60 : decode cX6_readBand 60 = .ok (.iastore, 1) := by decide +kernel
theorem dX6_readBand_61 : decode cX6_readBand 61 = .ok (.aload_n 0, 1) := by decide +kernel
theorem dX6_readBand_62 : decode cX6_readBand 62 = .ok (.getfield 20, 3) := by decide +kernel
theorem dX6_readBand_65 : decode cX6_readBand 65 = .ok (.iload 4, 2) := by decide +kernel
theorem dX6_readBand_67 : decode cX6_readBand 67 = .ok (.bipush 6, 2) := by decide +kernel
theorem dX6_readBand_69 : decode cX6_readBand 69 = .ok (.iadd, 1) := by decide +kernel
theorem dX6_readBand_70 : decode cX6_readBand 70 = .ok (.iconst 1, 1) := by decide +kernel
theorem dX6_readBand_71 : decode cX6_readBand 71 = .ok (.iastore, 1) := by decide +kernel
theorem dX6_readBand_72 : decode cX6_readBand 72 = .ok (.return_, 1) := by decide +kernel
theorem dX6_statement_0 : decode cX6_statement 0 = .ok (.aload_n 0, 1) := by decide +kernel
theorem dX6_statement_1 : decode cX6_statement 1 = .ok (.invokevirtual 65, 3) := by decide +kernel
theorem dX6_statement_4 : decode cX6_statement 4 = .ok (.pop, 1) := by decide +kernel
theorem dX6_statement_5 : decode cX6_statement 5 = .ok (.aload_n 0, 1) := by decide +kernel
theorem dX6_statement_6 : decode cX6_statement 6 = .ok (.getfield 44, 3) := by decide +kernel
theorem dX6_statement_9 : decode cX6_statement 9 = .ok (.istore_n 1, 1) := by decide +kernel
theorem dX6_statement_10 : decode cX6_statement 10 = .ok (.aload_n 0, 1) := by decide +kernel
theorem dX6_statement_11 : decode cX6_statement 11 = .ok (.ldc 107, 2) := by decide +kernel
theorem dX6_statement_13 : decode cX6_statement 13 = .ok (.invokevirtual 103, 3) := by decide +kernel
theorem dX6_statement_16 : decode cX6_statement 16 = .ok (.ifCond .eq 11, 3) := by decide +kernel
theorem dX6_statement_19 : decode cX6_statement 19 = .ok (.aload_n 0, 1) := by decide +kernel
theorem dX6_statement_20 : decode cX6_statement 20 = .ok (.iload_n 1, 1) := by decide +kernel
theorem dX6_statement_21 : decode cX6_statement 21 = .ok (.invokevirtual 132, 3) := by decide +kernel
theorem dX6_statement_24 : decode cX6_statement 24 = .ok (.goto 56, 3) := by decide +kernel
theorem dX6_statement_27 : decode cX6_statement 27 = .ok (.aload_n 0, 1) := by decide +kernel
theorem dX6_statement_28 : decode cX6_statement 28 = .ok (.ldc 135, 2) := by decide +kernel
theorem dX6_statement_30 : decode cX6_statement 30 = .ok (.invokevirtual 103, 3) := by decide +kernel
theorem dX6_statement_33 : decode cX6_statement 33 = .ok (.ifCond .eq 10, 3) := by decide +kernel
theorem dX6_statement_36 : decode cX6_statement 36 = .ok (.aload_n 0, 1) := by decide +kernel
theorem dX6_statement_37 : decode cX6_statement 37 = .ok (.invokevirtual 137, 3) := by decide +kernel
theorem dX6_statement_40 : decode cX6_statement 40 = .ok (.goto 40, 3) := by decide +kernel
theorem dX6_statement_43 : decode cX6_statement 43 = .ok (.aload_n 0, 1) := by decide +kernel
theorem dX6_statement_44 : decode cX6_statement 44 = .ok (.ldc 140, 2) := by decide +kernel
theorem dX6_statement_46 : decode cX6_statement 46 = .ok (.invokevirtual 103, 3) := by decide +kernel
theorem dX6_statement_49 : decode cX6_statement 49 = .ok (.ifCond .eq 24, 3) := by decide +kernel
theorem dX6_statement_52 : decode cX6_statement 52 = .ok (.aload_n 0, 1) := by decide +kernel
theorem dX6_statement_53 : decode cX6_statement 53 = .ok (.iconst 0, 1) := by decide +kernel
theorem dX6_statement_54 : decode cX6_statement 54 = .ok (.iload_n 1, 1) := by decide +kernel
theorem dX6_statement_55 : decode cX6_statement 55 = .ok (.invokevirtual 142, 3) := by decide +kernel
theorem dX6_statement_58 : decode cX6_statement 58 = .ok (.aload_n 0, 1) := by decide +kernel
theorem dX6_statement_59 : decode cX6_statement 59 = .ok (.getfield 20, 3) := by decide +kernel
theorem dX6_statement_62 : decode cX6_statement 62 = .ok (.bipush 7, 2) := by decide +kernel
theorem dX6_statement_64 : decode cX6_statement 64 = .ok (.iconst 1, 1) := by decide +kernel
theorem dX6_statement_65 : decode cX6_statement 65 = .ok (.iastore, 1) := by decide +kernel
theorem dX6_statement_66 : decode cX6_statement 66 = .ok (.aload_n 0, 1) := by decide +kernel
theorem dX6_statement_67 : decode cX6_statement 67 = .ok (.invokevirtual 94, 3) := by decide +kernel
theorem dX6_statement_70 : decode cX6_statement 70 = .ok (.goto 10, 3) := by decide +kernel
theorem dX6_statement_73 : decode cX6_statement 73 = .ok (.aload_n 0, 1) := by decide +kernel
theorem dX6_statement_74 : decode cX6_statement 74 = .ok (.bipush (-2), 2) := by decide +kernel
theorem dX6_statement_76 : decode cX6_statement 76 = .ok (.iload_n 1, 1) := by decide +kernel
theorem dX6_statement_77 : decode cX6_statement 77 = .ok (.invokevirtual 78, 3) := by decide +kernel
theorem dX6_statement_80 : decode cX6_statement 80 = .ok (.aload_n 0, 1) := by decide +kernel
theorem dX6_statement_81 : decode cX6_statement 81 = .ok (.bipush 59, 2) := by decide +kernel
theorem dX6_statement_83 : decode cX6_statement 83 = .ok (.invokevirtual 97, 3) := by decide +kernel
theorem dX6_statement_86 : decode cX6_statement 86 = .ok (.return_, 1) := by decide +kernel
theorem dX6_load_0 : decode cX6_load 0 = .ok (.aload_n 0, 1) := by decide +kernel
theorem dX6_load_1 : decode cX6_load 1 = .ok (.iconst 0, 1) := by decide +kernel
theorem dX6_load_2 : decode cX6_load 2 = .ok (.putfield 35, 3) := by decide +kernel
theorem dX6_load_5 : decode cX6_load 5 = .ok (.aload_n 0, 1) := by decide +kernel
theorem dX6_load_6 : decode cX6_load 6 = .ok (.iload_n 1, 1) := by decide +kernel
theorem dX6_load_7 : decode cX6_load 7 = .ok (.iconst 0, 1) := by decide +kernel
theorem dX6_load_8 : decode cX6_load 8 = .ok (.aload_n 0, 1) := by decide +kernel
theorem dX6_load_9 : decode cX6_load 9 = .ok (.getfield 38, 3) := by decide +kernel
theorem dX6_load_12 : decode cX6_load 12 = .ok (.invokestatic 57, 3) := by decide +kernel
theorem dX6_load_15 : decode cX6_load 15 = .ok (.ifCond .ne 7, 3) := by decide +kernel
theorem dX6_load_18 : decode cX6_load 18 = .ok (.iconst 1, 1) := by decide +kernel
theorem dX6_load_19 : decode cX6_load 19 = .ok (.goto 4, 3) := by decide +kernel
theorem dX6_load_22 : decode cX6_load 22 = .ok (.iconst 0, 1) := by decide +kernel
theorem dX6_load_23 : decode cX6_load 23 = .ok (.iconst 1, 1) := by decide +kernel
theorem dX6_load_24 : decode cX6_load 24 = .ok (.invokevirtual 145, 3) := by decide +kernel
theorem dX6_load_27 : decode cX6_load 27 = .ok (.ifCond .eq 5, 3) := by decide +kernel
theorem dX6_load_30 : decode cX6_load 30 = .ok (.iconst 0, 1) := by decide +kernel
theorem dX6_load_31 : decode cX6_load 31 = .ok (.ireturn, 1) := by decide +kernel
theorem dX6_load_32 : decode cX6_load 32 = .ok (.aload_n 0, 1) := by decide +kernel
theorem dX6_load_33 : decode cX6_load 33 = .ok (.iconst 0, 1) := by decide +kernel
theorem dX6_load_34 : decode cX6_load 34 = .ok (.putfield 38, 3) := by decide +kernel
theorem dX6_load_37 : decode cX6_load 37 = .ok (.aload_n 0, 1) := by decide +kernel
theorem dX6_load_38 : decode cX6_load 38 = .ok (.iload_n 1, 1) := by decide +kernel
theorem dX6_load_39 : decode cX6_load 39 = .ok (.putfield 41, 3) := by decide +kernel
theorem dX6_load_42 : decode cX6_load 42 = .ok (.aload_n 0, 1) := by decide +kernel
theorem dX6_load_43 : decode cX6_load 43 = .ok (.iconst 0, 1) := by decide +kernel
theorem dX6_load_44 : decode cX6_load 44 = .ok (.putfield 44, 3) := by decide +kernel
theorem dX6_load_47 : decode cX6_load 47 = .ok (.aload_n 0, 1) := by decide +kernel
theorem dX6_load_48 : decode cX6_load 48 = .ok (.iconst 0, 1) := by decide +kernel
theorem dX6_load_49 : decode cX6_load 49 = .ok (.putfield 51, 3) := by decide +kernel
theorem dX6_load_52 : decode cX6_load 52 = .ok (.aload_n 0, 1) := by decide +kernel
theorem dX6_load_53 : decode cX6_load 53 = .ok (.iconst (-1), 1) := by decide +kernel
theorem dX6_load_54 : decode cX6_load 54 = .ok (.putfield 54, 3) := by decide +kernel
theorem dX6_load_57 : decode cX6_load 57 = .ok (.aload_n 0, 1) := by decide +kernel
theorem dX6_load_58 : decode cX6_load 58 = .ok (.iconst 0, 1) := by decide +kernel
theorem dX6_load_59 : decode cX6_load 59 = .ok (.putfield 91, 3) := by decide +kernel
theorem dX6_load_62 : decode cX6_load 62 = .ok (.aload_n 0, 1) := by decide +kernel
theorem dX6_load_63 : decode cX6_load 63 = .ok (.iconst 0, 1) := by decide +kernel
theorem dX6_load_64 : decode cX6_load 64 = .ok (.putfield 123, 3) := by decide +kernel
theorem dX6_load_67 : decode cX6_load 67 = .ok (.iconst 0, 1) := by decide +kernel
theorem dX6_load_68 : decode cX6_load 68 = .ok (.istore_n 2, 1) := by decide +kernel
theorem dX6_load_69 : decode cX6_load 69 = .ok (.iload_n 2, 1) := by decide +kernel
theorem dX6_load_70 : decode cX6_load 70 = .ok (.sipush 1451, 3) := by decide +kernel
theorem dX6_load_73 : decode cX6_load 73 = .ok (.if_icmp .ge 16, 3) := by decide +kernel
theorem dX6_load_76 : decode cX6_load 76 = .ok (.aload_n 0, 1) := by decide +kernel
theorem dX6_load_77 : decode cX6_load 77 = .ok (.getfield 20, 3) := by decide +kernel
theorem dX6_load_80 : decode cX6_load 80 = .ok (.iload_n 2, 1) := by decide +kernel
theorem dX6_load_81 : decode cX6_load 81 = .ok (.iconst 0, 1) := by decide +kernel
theorem dX6_load_82 : decode cX6_load 82 = .ok (.iastore, 1) := by decide +kernel
theorem dX6_load_83 : decode cX6_load 83 = .ok (.iinc 2 1, 3) := by decide +kernel
theorem dX6_load_86 : decode cX6_load 86 = .ok (.goto (-17), 3) := by decide +kernel
theorem dX6_load_89 : decode cX6_load 89 = .ok (.aload_n 0, 1) := by decide +kernel
theorem dX6_load_90 : decode cX6_load 90 = .ok (.ldc 149, 2) := by decide +kernel
theorem dX6_load_92 : decode cX6_load 92 = .ok (.invokevirtual 103, 3) := by decide +kernel
theorem dX6_load_95 : decode cX6_load 95 = .ok (.ifCond .ne 13, 3) := by decide +kernel
theorem dX6_load_98 : decode cX6_load 98 = .ok (.aload_n 0, 1) := by decide +kernel
theorem dX6_load_99 : decode cX6_load 99 = .ok (.bipush (-2), 2) := by decide +kernel
theorem dX6_load_101 : decode cX6_load 101 = .ok (.aload_n 0, 1) := by decide +kernel
theorem dX6_load_102 : decode cX6_load 102 = .ok (.getfield 44, 3) := by decide +kernel
theorem dX6_load_105 : decode cX6_load 105 = .ok (.invokevirtual 78, 3) := by decide +kernel
theorem dX6_load_108 : decode cX6_load 108 = .ok (.aload_n 0, 1) := by decide +kernel
theorem dX6_load_109 : decode cX6_load 109 = .ok (.getfield 20, 3) := by decide +kernel
theorem dX6_load_112 : decode cX6_load 112 = .ok (.iconst 3, 1) := by decide +kernel
theorem dX6_load_113 : decode cX6_load 113 = .ok (.aload_n 0, 1) := by decide +kernel
theorem dX6_load_114 : decode cX6_load 114 = .ok (.iconst 1, 1) := by decide +kernel
theorem dX6_load_115 : decode cX6_load 115 = .ok (.bipush 9, 2) := by decide +kernel
theorem dX6_load_117 : decode cX6_load 117 = .ok (.invokevirtual 111, 3) := by decide +kernel
theorem dX6_load_120 : decode cX6_load 120 = .ok (.iastore, 1) := by decide +kernel
theorem dX6_load_121 : decode cX6_load 121 = .ok (.aload_n 0, 1) := by decide +kernel
theorem dX6_load_122 : decode cX6_load 122 = .ok (.getfield 20, 3) := by decide +kernel
theorem dX6_load_125 : decode cX6_load 125 = .ok (.iconst 4, 1) := by decide +kernel
theorem dX6_load_126 : decode cX6_load 126 = .ok (.aload_n 0, 1) := by decide +kernel
theorem dX6_load_127 : decode cX6_load 127 = .ok (.iconst 0, 1) := by decide +kernel
theorem dX6_load_128 : decode cX6_load 128 = .ok (.bipush 20, 2) := by decide +kernel
theorem dX6_load_130 : decode cX6_load 130 = .ok (.invokevirtual 111, 3) := by decide +kernel
theorem dX6_load_133 : decode cX6_load 133 = .ok (.iastore, 1) := by decide +kernel
theorem dX6_load_134 : decode cX6_load 134 = .ok (.aload_n 0, 1) := by decide +kernel
theorem dX6_load_135 : decode cX6_load 135 = .ok (.bipush 59, 2) := by decide +kernel
theorem dX6_load_137 : decode cX6_load 137 = .ok (.invokevirtual 97, 3) := by decide +kernel
theorem dX6_load_140 : decode cX6_load 140 = .ok (.aload_n 0, 1) := by decide +kernel
theorem dX6_load_141 : decode cX6_load 141 = .ok (.invokevirtual 61, 3) := by decide +kernel
theorem dX6_load_144 : decode cX6_load 144 = .ok (.ifCond .eq 18, 3) := by decide +kernel
theorem dX6_load_147 : decode cX6_load 147 = .ok (.aload_n 0, 1) := by decide +kernel
theorem dX6_load_148 : decode cX6_load 148 = .ok (.invokevirtual 65, 3) := by decide +kernel
theorem dX6_load_151 : decode cX6_load 151 = .ok (.iconst (-1), 1) := by decide +kernel
theorem dX6_load_152 : decode cX6_load 152 = .ok (.if_icmp .eq 10, 3) := by decide +kernel
theorem dX6_load_155 : decode cX6_load 155 = .ok (.aload_n 0, 1) := by decide +kernel
theorem dX6_load_156 : decode cX6_load 156 = .ok (.invokevirtual 151, 3) := by decide +kernel
theorem dX6_load_159 : decode cX6_load 159 = .ok (.goto (-19), 3) := by decide +kernel
theorem dX6_load_162 : decode cX6_load 162 = .ok (.aload_n 0, 1) := by decide +kernel
theorem dX6_load_163 : decode cX6_load 163 = .ok (.getfield 20, 3) := by decide +kernel
theorem dX6_load_166 : decode cX6_load 166 = .ok (.iconst 0, 1) := by decide +kernel
theorem dX6_load_167 : decode cX6_load 167 = .ok (.iaload, 1) := by decide +kernel
theorem dX6_load_168 : decode cX6_load 168 = .ok (.ifCond .ne 13, 3) := by decide +kernel
theorem dX6_load_171 : decode cX6_load 171 = .ok (.aload_n 0, 1) := by decide +kernel
theorem dX6_load_172 : decode cX6_load 172 = .ok (.bipush (-2), 2) := by decide +kernel
theorem dX6_load_174 : decode cX6_load 174 = .ok (.aload_n 0, 1) := by decide +kernel
theorem dX6_load_175 : decode cX6_load 175 = .ok (.getfield 41, 3) := by decide +kernel
theorem dX6_load_178 : decode cX6_load 178 = .ok (.invokevirtual 78, 3) := by decide +kernel
theorem dX6_load_181 : decode cX6_load 181 = .ok (.aload_n 0, 1) := by decide +kernel
theorem dX6_load_182 : decode cX6_load 182 = .ok (.aload_n 0, 1) := by decide +kernel
theorem dX6_load_183 : decode cX6_load 183 = .ok (.getfield 54, 3) := by decide +kernel
theorem dX6_load_186 : decode cX6_load 186 = .ok (.putfield 13, 3) := by decide +kernel
theorem dX6_load_189 : decode cX6_load 189 = .ok (.aload_n 0, 1) := by decide +kernel
theorem dX6_load_190 : decode cX6_load 190 = .ok (.invokevirtual 61, 3) := by decide +kernel
theorem dX6_load_193 : decode cX6_load 193 = .ok (.ifCond .ne 8, 3) := by decide +kernel
theorem dX6_load_196 : decode cX6_load 196 = .ok (.aload_n 0, 1) := by decide +kernel
theorem dX6_load_197 : decode cX6_load 197 = .ok (.getfield 51, 3) := by decide +kernel
theorem dX6_load_200 : decode cX6_load 200 = .ok (.ireturn, 1) := by decide +kernel
theorem dX6_load_201 : decode cX6_load 201 = .ok (.aload_n 0, 1) := by decide +kernel
theorem dX6_load_202 : decode cX6_load 202 = .ok (.invokevirtual 154, 3) := by decide +kernel
theorem dX6_load_205 : decode cX6_load 205 = .ok (.aload_n 0, 1) := by decide +kernel
theorem dX6_load_206 : decode cX6_load 206 = .ok (.getfield 20, 3) := by decide +kernel
theorem dX6_load_209 : decode cX6_load 209 = .ok (.aload_n 0, 1) := by decide +kernel
theorem dX6_load_210 : decode cX6_load 210 = .ok (.getfield 17, 3) := by decide +kernel
theorem dX6_load_213 : decode cX6_load 213 = .ok (.invokestatic 157, 3) := by decide +kernel
theorem dX6_load_216 : decode cX6_load 216 = .ok (.aload_n 0, 1) := by decide +kernel
theorem dX6_load_217 : decode cX6_load 217 = .ok (.getfield 17, 3) := by decide +kernel
theorem dX6_load_220 : decode cX6_load 220 = .ok (.iconst 0, 1) := by decide +kernel
theorem dX6_load_221 : decode cX6_load 221 = .ok (.iaload, 1) := by decide +kernel
theorem dX6_load_222 : decode cX6_load 222 = .ok (.ireturn, 1) := by decide +kernel
theorem dX6_errorOffset_0 : decode cX6_errorOffset 0 = .ok (.aload_n 0, 1) := by decide +kernel
theorem dX6_errorOffset_1 : decode cX6_errorOffset 1 = .ok (.iconst 0, 1) := by decide +kernel
theorem dX6_errorOffset_2 : decode cX6_errorOffset 2 = .ok (.putfield 35, 3) := by decide +kernel
theorem dX6_errorOffset_5 : decode cX6_errorOffset 5 = .ok (.aload_n 0, 1) := by decide +kernel
theorem dX6_errorOffset_6 : decode cX6_errorOffset 6 = .ok (.getfield 13, 3) := by decide +kernel
theorem dX6_errorOffset_9 : decode cX6_errorOffset 9 = .ok (.ireturn, 1) := by decide +kernel
theorem dX6_held_0 : decode cX6_held 0 = .ok (.aload_n 0, 1) := by decide +kernel
theorem dX6_held_1 : decode cX6_held 1 = .ok (.getfield 17, 3) := by decide +kernel
theorem dX6_held_4 : decode cX6_held 4 = .ok (.iload_n 1, 1) := by decide +kernel
theorem dX6_held_5 : decode cX6_held 5 = .ok (.invokestatic 126, 3) := by decide +kernel
theorem dX6_held_8 : decode cX6_held 8 = .ok (.bipush 6, 2) := by decide +kernel
theorem dX6_held_10 : decode cX6_held 10 = .ok (.iadd, 1) := by decide +kernel
theorem dX6_held_11 : decode cX6_held 11 = .ok (.iaload, 1) := by decide +kernel
theorem dX6_held_12 : decode cX6_held 12 = .ok (.iconst 1, 1) := by decide +kernel
theorem dX6_held_13 : decode cX6_held 13 = .ok (.isub, 1) := by decide +kernel
theorem dX6_held_14 : decode cX6_held 14 = .ok (.ireturn, 1) := by decide +kernel
theorem dX6_hold_0 : decode cX6_hold 0 = .ok (.aload_n 0, 1) := by decide +kernel
theorem dX6_hold_1 : decode cX6_hold 1 = .ok (.getfield 17, 3) := by decide +kernel
theorem dX6_hold_4 : decode cX6_hold 4 = .ok (.iload_n 1, 1) := by decide +kernel
theorem dX6_hold_5 : decode cX6_hold 5 = .ok (.invokestatic 126, 3) := by decide +kernel
theorem dX6_hold_8 : decode cX6_hold 8 = .ok (.bipush 6, 2) := by decide +kernel
theorem dX6_hold_10 : decode cX6_hold 10 = .ok (.iadd, 1) := by decide +kernel
theorem dX6_hold_11 : decode cX6_hold 11 = .ok (.iload_n 2, 1) := by decide +kernel
theorem dX6_hold_12 : decode cX6_hold 12 = .ok (.iconst 1, 1) := by decide +kernel
theorem dX6_hold_13 : decode cX6_hold 13 = .ok (.iadd, 1) := by decide +kernel
theorem dX6_hold_14 : decode cX6_hold 14 = .ok (.iastore, 1) := by decide +kernel
theorem dX6_hold_15 : decode cX6_hold 15 = .ok (.return_, 1) := by decide +kernel
theorem dX6_warmth_0 : decode cX6_warmth 0 = .ok (.aload_n 0, 1) := by decide +kernel
theorem dX6_warmth_1 : decode cX6_warmth 1 = .ok (.getfield 17, 3) := by decide +kernel
theorem dX6_warmth_4 : decode cX6_warmth 4 = .ok (.iload_n 1, 1) := by decide +kernel
theorem dX6_warmth_5 : decode cX6_warmth 5 = .ok (.invokestatic 161, 3) := by decide +kernel
theorem dX6_warmth_8 : decode cX6_warmth 8 = .ok (.iconst 1, 1) := by decide +kernel
theorem dX6_warmth_9 : decode cX6_warmth 9 = .ok (.iadd, 1) := by decide +kernel
theorem dX6_warmth_10 : decode cX6_warmth 10 = .ok (.iaload, 1) := by decide +kernel
theorem dX6_warmth_11 : decode cX6_warmth 11 = .ok (.ireturn, 1) := by decide +kernel
theorem dX6_stateOf_0 : decode cX6_stateOf 0 = .ok (.aload_n 0, 1) := by decide +kernel
theorem dX6_stateOf_1 : decode cX6_stateOf 1 = .ok (.getfield 17, 3) := by decide +kernel
theorem dX6_stateOf_4 : decode cX6_stateOf 4 = .ok (.iload_n 1, 1) := by decide +kernel
theorem dX6_stateOf_5 : decode cX6_stateOf 5 = .ok (.invokestatic 161, 3) := by decide +kernel
theorem dX6_stateOf_8 : decode cX6_stateOf 8 = .ok (.iconst 2, 1) := by decide +kernel
theorem dX6_stateOf_9 : decode cX6_stateOf 9 = .ok (.iadd, 1) := by decide +kernel
theorem dX6_stateOf_10 : decode cX6_stateOf 10 = .ok (.iaload, 1) := by decide +kernel
theorem dX6_stateOf_11 : decode cX6_stateOf 11 = .ok (.ireturn, 1) := by decide +kernel
theorem dX6_become_0 : decode cX6_become 0 = .ok (.aload_n 0, 1) := by decide +kernel
theorem dX6_become_1 : decode cX6_become 1 = .ok (.getfield 17, 3) := by decide +kernel
theorem dX6_become_4 : decode cX6_become 4 = .ok (.iload_n 1, 1) := by decide +kernel
theorem dX6_become_5 : decode cX6_become 5 = .ok (.invokestatic 161, 3) := by decide +kernel
theorem dX6_become_8 : decode cX6_become 8 = .ok (.iconst 2, 1) := by decide +kernel
theorem dX6_become_9 : decode cX6_become 9 = .ok (.iadd, 1) := by decide +kernel
theorem dX6_become_10 : decode cX6_become 10 = .ok (.iload_n 2, 1) := by decide +kernel
theorem dX6_become_11 : decode cX6_become 11 = .ok (.iastore, 1) := by decide +kernel
theorem dX6_become_12 : decode cX6_become 12 = .ok (.return_, 1) := by decide +kernel
theorem dX6_thicknessOf_0 : decode cX6_thicknessOf 0 = .ok (.aload_n 0, 1) := by decide +kernel
theorem dX6_thicknessOf_1 : decode cX6_thicknessOf 1 = .ok (.getfield 17, 3) := by decide +kernel
theorem dX6_thicknessOf_4 : decode cX6_thicknessOf 4 = .ok (.iload_n 1, 1) := by decide +kernel
theorem dX6_thicknessOf_5 : decode cX6_thicknessOf 5 = .ok (.invokestatic 161, 3) := by decide +kernel
theorem dX6_thicknessOf_8 : decode cX6_thicknessOf 8 = .ok (.iaload, 1) := by decide +kernel
theorem dX6_thicknessOf_9 : decode cX6_thicknessOf 9 = .ok (.ireturn, 1) := by decide +kernel
theorem dX6_limited_0 : decode cX6_limited 0 = .ok (.lload_n 0, 1) := by decide +kernel
theorem dX6_limited_1 : decode cX6_limited 1 = .ok (.ldc2_w 164, 3) := by decide +kernel
theorem dX6_limited_4 : decode cX6_limited 4 = .ok (.lcmp, 1) := by decide +kernel
theorem dX6_limited_5 : decode cX6_limited 5 = .ok (.ifCond .le 9, 3) := by decide +kernel
theorem dX6_limited_8 : decode cX6_limited 8 = .ok (.ldc2_w 164, 3) := by decide +kernel
theorem dX6_limited_11 : decode cX6_limited 11 = .ok (.goto 18, 3) := by decide +kernel
theorem dX6_limited_14 : decode cX6_limited 14 = .ok (.lload_n 0, 1) := by decide +kernel
theorem dX6_limited_15 : decode cX6_limited 15 = .ok (.ldc2_w 166, 3) := by decide +kernel
theorem dX6_limited_18 : decode cX6_limited 18 = .ok (.lcmp, 1) := by decide +kernel
theorem dX6_limited_19 : decode cX6_limited 19 = .ok (.ifCond .ge 9, 3) := by decide +kernel
theorem dX6_limited_22 : decode cX6_limited 22 = .ok (.ldc2_w 166, 3) := by decide +kernel
theorem dX6_limited_25 : decode cX6_limited 25 = .ok (.goto 4, 3) := by decide +kernel
theorem dX6_limited_28 : decode cX6_limited 28 = .ok (.lload_n 0, 1) := by decide +kernel
theorem dX6_limited_29 : decode cX6_limited 29 = .ok (.lreturn, 1) := by decide +kernel
theorem dX6_operate_0 : decode cX6_operate 0 = .ok (.iload_n 0, 1) := by decide +kernel
theorem dX6_operate_1 : decode cX6_operate 1 = .ok (.iconst 5, 1) := by decide +kernel
theorem dX6_operate_2 : decode cX6_operate 2 = .ok (.if_icmp .ne 17, 3) := by decide +kernel
theorem dX6_operate_5 : decode cX6_operate 5 = .ok (.lload_n 3, 1) := by decide +kernel
theorem dX6_operate_6 : decode cX6_operate 6 = .ok (.lconst 0, 1) := by decide +kernel
theorem dX6_operate_7 : decode cX6_operate 7 = .ok (.lcmp, 1) := by decide +kernel
theorem dX6_operate_8 : decode cX6_operate 8 = .ok (.ifCond .ne 7, 3) := by decide +kernel
theorem dX6_operate_11 : decode cX6_operate 11 = .ok (.lconst 0, 1) := by decide +kernel
theorem dX6_operate_12 : decode cX6_operate 12 = .ok (.goto 6, 3) := by decide +kernel
theorem dX6_operate_15 : decode cX6_operate 15 = .ok (.lload_n 1, 1) := by decide +kernel
theorem dX6_operate_16 : decode cX6_operate 16 = .ok (.lload_n 3, 1) := by decide +kernel
theorem dX6_operate_17 : decode cX6_operate 17 = .ok (.ldiv, 1) := by decide +kernel
theorem dX6_operate_18 : decode cX6_operate 18 = .ok (.lreturn, 1) := by decide +kernel
theorem dX6_operate_19 : decode cX6_operate 19 = .ok (.iload_n 0, 1) := by decide +kernel
theorem dX6_operate_20 : decode cX6_operate 20 = .ok (.iconst 2, 1) := by decide +kernel
theorem dX6_operate_21 : decode cX6_operate 21 = .ok (.if_icmp .ne 9, 3) := by decide +kernel
theorem dX6_operate_24 : decode cX6_operate 24 = .ok (.lload_n 1, 1) := by decide +kernel
theorem dX6_operate_25 : decode cX6_operate 25 = .ok (.lload_n 3, 1) := by decide +kernel
theorem dX6_operate_26 : decode cX6_operate 26 = .ok (.ladd, 1) := by decide +kernel
theorem dX6_operate_27 : decode cX6_operate 27 = .ok (.goto 17, 3) := by decide +kernel
theorem dX6_operate_30 : decode cX6_operate 30 = .ok (.iload_n 0, 1) := by decide +kernel
theorem dX6_operate_31 : decode cX6_operate 31 = .ok (.iconst 3, 1) := by decide +kernel
theorem dX6_operate_32 : decode cX6_operate 32 = .ok (.if_icmp .ne 9, 3) := by decide +kernel
theorem dX6_operate_35 : decode cX6_operate 35 = .ok (.lload_n 1, 1) := by decide +kernel
theorem dX6_operate_36 : decode cX6_operate 36 = .ok (.lload_n 3, 1) := by decide +kernel
theorem dX6_operate_37 : decode cX6_operate 37 = .ok (.lsub, 1) := by decide +kernel
theorem dX6_operate_38 : decode cX6_operate 38 = .ok (.goto 6, 3) := by decide +kernel
theorem dX6_operate_41 : decode cX6_operate 41 = .ok (.lload_n 1, 1) := by decide +kernel
theorem dX6_operate_42 : decode cX6_operate 42 = .ok (.lload_n 3, 1) := by decide +kernel
theorem dX6_operate_43 : decode cX6_operate 43 = .ok (.lmul, 1) := by decide +kernel
theorem dX6_operate_44 : decode cX6_operate 44 = .ok (.invokestatic 168, 3) := by decide +kernel
theorem dX6_operate_47 : decode cX6_operate 47 = .ok (.lreturn, 1) := by decide +kernel
theorem dX6_transfer_0 : decode cX6_transfer 0 = .ok (.aload_n 0, 1) := by decide +kernel
theorem dX6_transfer_1 : decode cX6_transfer 1 = .ok (.getfield 17, 3) := by decide +kernel
theorem dX6_transfer_4 : decode cX6_transfer 4 = .ok (.bipush 7, 2) := by decide +kernel
theorem dX6_transfer_6 : decode cX6_transfer 6 = .ok (.iaload, 1) := by decide +kernel
theorem dX6_transfer_7 : decode cX6_transfer 7 = .ok (.ifCond .ne 9, 3) := by decide +kernel
theorem dX6_transfer_10 : decode cX6_transfer 10 = .ok (.sipush 400, 3) := by decide +kernel
theorem dX6_transfer_13 : decode cX6_transfer 13 = .ok (.iload_n 1, 1) := by decide +kernel
theorem dX6_transfer_14 : decode cX6_transfer 14 = .ok (.idiv, 1) := by decide +kernel
theorem dX6_transfer_15 : decode cX6_transfer 15 = .ok (.ireturn, 1) := by decide +kernel
theorem dX6_transfer_16 : decode cX6_transfer 16 = .ok (.iconst 0, 1) := by decide +kernel
theorem dX6_transfer_17 : decode cX6_transfer 17 = .ok (.istore 4, 2) := by decide +kernel
theorem dX6_transfer_19 : decode cX6_transfer 19 = .ok (.iconst 0, 1) := by decide +kernel
theorem dX6_transfer_20 : decode cX6_transfer 20 = .ok (.istore 5, 2) := by decide +kernel
theorem dX6_transfer_22 : decode cX6_transfer 22 = .ok (.iload 5, 2) := by decide +kernel
theorem dX6_transfer_24 : decode cX6_transfer 24 = .ok (.aload_n 0, 1) := by decide +kernel
theorem dX6_transfer_25 : decode cX6_transfer 25 = .ok (.getfield 17, 3) := by decide +kernel
theorem dX6_transfer_28 : decode cX6_transfer 28 = .ok (.bipush 8, 2) := by decide +kernel
theorem dX6_transfer_30 : decode cX6_transfer 30 = .ok (.iaload, 1) := by decide +kernel
theorem dX6_transfer_31 : decode cX6_transfer 31 = .ok (.if_icmp .ge 124, 3) := by decide +kernel
theorem dX6_transfer_34 : decode cX6_transfer 34 = .ok (.aload_n 0, 1) := by decide +kernel
theorem dX6_transfer_35 : decode cX6_transfer 35 = .ok (.getfield 17, 3) := by decide +kernel
theorem dX6_transfer_38 : decode cX6_transfer 38 = .ok (.sipush 251, 3) := by decide +kernel
theorem dX6_transfer_41 : decode cX6_transfer 41 = .ok (.iload 5, 2) := by decide +kernel
theorem dX6_transfer_43 : decode cX6_transfer 43 = .ok (.iadd, 1) := by decide +kernel
theorem dX6_transfer_44 : decode cX6_transfer 44 = .ok (.iaload, 1) := by decide +kernel
theorem dX6_transfer_45 : decode cX6_transfer 45 = .ok (.istore 6, 2) := by decide +kernel
theorem dX6_transfer_47 : decode cX6_transfer 47 = .ok (.iload 6, 2) := by decide +kernel
theorem dX6_transfer_49 : decode cX6_transfer 49 = .ok (.iconst 1, 1) := by decide +kernel
theorem dX6_transfer_50 : decode cX6_transfer 50 = .ok (.if_icmp .gt 66, 3) := by decide +kernel
theorem dX6_transfer_53 : decode cX6_transfer 53 = .ok (.iinc 5 1, 3) := by decide +kernel
theorem dX6_transfer_56 : decode cX6_transfer 56 = .ok (.aload_n 0, 1) := by decide +kernel
theorem dX6_transfer_57 : decode cX6_transfer 57 = .ok (.getfield 17, 3) := by decide +kernel
theorem dX6_transfer_60 : decode cX6_transfer 60 = .ok (.sipush 251, 3) := by decide +kernel
theorem dX6_transfer_63 : decode cX6_transfer 63 = .ok (.iload 5, 2) := by decide +kernel
theorem dX6_transfer_65 : decode cX6_transfer 65 = .ok (.iadd, 1) := by decide +kernel
theorem dX6_transfer_66 : decode cX6_transfer 66 = .ok (.iaload, 1) := by decide +kernel
theorem dX6_transfer_67 : decode cX6_transfer 67 = .ok (.istore 7, 2) := by decide +kernel
theorem dX6_transfer_69 : decode cX6_transfer 69 = .ok (.aload_n 0, 1) := by decide +kernel
theorem dX6_transfer_70 : decode cX6_transfer 70 = .ok (.getfield 31, 3) := by decide +kernel
theorem dX6_transfer_73 : decode cX6_transfer 73 = .ok (.iload 4, 2) := by decide +kernel
theorem dX6_transfer_75 : decode cX6_transfer 75 = .ok (.iload 6, 2) := by decide +kernel
theorem dX6_transfer_77 : decode cX6_transfer 77 = .ok (.ifCond .ne 9, 3) := by decide +kernel
theorem dX6_transfer_80 : decode cX6_transfer 80 = .ok (.iload 7, 2) := by decide +kernel
theorem dX6_transfer_82 : decode cX6_transfer 82 = .ok (.i2l, 1) := by decide +kernel
theorem dX6_transfer_83 : decode cX6_transfer 83 = .ok (.goto 26, 3) := by decide +kernel
theorem dX6_transfer_86 : decode cX6_transfer 86 = .ok (.iload 7, 2) := by decide +kernel
theorem dX6_transfer_88 : decode cX6_transfer 88 = .ok (.ifCond .ne 8, 3) := by decide +kernel
theorem dX6_transfer_91 : decode cX6_transfer 91 = .ok (.iload_n 1, 1) := by decide +kernel
theorem dX6_transfer_92 : decode cX6_transfer 92 = .ok (.i2l, 1) := by decide +kernel
theorem dX6_transfer_93 : decode cX6_transfer 93 = .ok (.goto 16, 3) := by decide +kernel
theorem dX6_transfer_96 : decode cX6_transfer 96 = .ok (.iload 7, 2) := by decide +kernel
theorem dX6_transfer_98 : decode cX6_transfer 98 = .ok (.iconst 1, 1) := by decide +kernel
theorem dX6_transfer_99 : decode cX6_transfer 99 = .ok (.if_icmp .ne 8, 3) := by decide +kernel
theorem dX6_transfer_102 : decode cX6_transfer 102 = .ok (.iload_n 2, 1) := by decide +kernel
theorem dX6_transfer_103 : decode cX6_transfer 103 = .ok (.i2l, 1) := by decide +kernel
theorem dX6_transfer_104 : decode cX6_transfer 104 = .ok (.goto 5, 3) := by decide +kernel
theorem dX6_transfer_107 : decode cX6_transfer 107 = .ok (.iload_n 3, 1) := by decide +kernel
theorem dX6_transfer_108 : decode cX6_transfer 108 = .ok (.i2l, 1) := by decide +kernel
theorem dX6_transfer_109 : decode cX6_transfer 109 = .ok (.lastore, 1) := by decide +kernel
theorem dX6_transfer_110 : decode cX6_transfer 110 = .ok (.iinc 4 1, 3) := by decide +kernel
theorem dX6_transfer_113 : decode cX6_transfer 113 = .ok (.goto 36, 3) := by decide +kernel
theorem dX6_transfer_116 : decode cX6_transfer 116 = .ok (.iinc 4 (-1), 3) := by decide +kernel
theorem dX6_transfer_119 : decode cX6_transfer 119 = .ok (.aload_n 0, 1) := by decide +kernel
theorem dX6_transfer_120 : decode cX6_transfer 120 = .ok (.getfield 31, 3) := by decide +kernel
theorem dX6_transfer_123 : decode cX6_transfer 123 = .ok (.iload 4, 2) := by decide +kernel
theorem dX6_transfer_125 : decode cX6_transfer 125 = .ok (.iconst 1, 1) := by decide +kernel
theorem dX6_transfer_126 : decode cX6_transfer 126 = .ok (.isub, 1) := by decide +kernel
theorem dX6_transfer_127 : decode cX6_transfer 127 = .ok (.iload 6, 2) := by decide +kernel
theorem dX6_transfer_129 : decode cX6_transfer 129 = .ok (.aload_n 0, 1) := by decide +kernel
theorem dX6_transfer_130 : decode cX6_transfer 130 = .ok (.getfield 31, 3) := by decide +kernel
theorem dX6_transfer_133 : decode cX6_transfer 133 = .ok (.iload 4, 2) := by decide +kernel
theorem dX6_transfer_135 : decode cX6_transfer 135 = .ok (.iconst 1, 1) := by decide +kernel
theorem dX6_transfer_136 : decode cX6_transfer 136 = .ok (.isub, 1) := by decide +kernel
theorem dX6_transfer_137 : decode cX6_transfer 137 = .ok (.laload, 1) := by decide +kernel
theorem dX6_transfer_138 : decode cX6_transfer 138 = .ok (.aload_n 0, 1) := by decide +kernel
theorem dX6_transfer_139 : decode cX6_transfer 139 = .ok (.getfield 31, 3) := by decide +kernel
theorem dX6_transfer_142 : decode cX6_transfer 142 = .ok (.iload 4, 2) := by decide +kernel
theorem dX6_transfer_144 : decode cX6_transfer 144 = .ok (.laload, 1) := by decide +kernel
theorem dX6_transfer_145 : decode cX6_transfer 145 = .ok (.invokestatic 172, 3) := by decide +kernel
theorem dX6_transfer_148 : decode cX6_transfer 148 = .ok (.lastore, 1) := by decide +kernel
theorem dX6_transfer_149 : decode cX6_transfer 149 = .ok (.iinc 5 1, 3) := by decide +kernel
theorem dX6_transfer_152 : decode cX6_transfer 152 = .ok (.goto (-130), 3) := by decide +kernel
theorem dX6_transfer_155 : decode cX6_transfer 155 = .ok (.aload_n 0, 1) := by decide +kernel
theorem dX6_transfer_156 : decode cX6_transfer 156 = .ok (.getfield 31, 3) := by decide +kernel
theorem dX6_transfer_159 : decode cX6_transfer 159 = .ok (.iconst 0, 1) := by decide +kernel
theorem dX6_transfer_160 : decode cX6_transfer 160 = .ok (.laload, 1) := by decide +kernel
theorem dX6_transfer_161 : decode cX6_transfer 161 = .ok (.lconst 0, 1) := by decide +kernel
theorem dX6_transfer_162 : decode cX6_transfer 162 = .ok (.lcmp, 1) := by decide +kernel
theorem dX6_transfer_163 : decode cX6_transfer 163 = .ok (.ifCond .ge 7, 3) := by decide +kernel
theorem dX6_transfer_166 : decode cX6_transfer 166 = .ok (.iconst 0, 1) := by decide +kernel
theorem dX6_transfer_167 : decode cX6_transfer 167 = .ok (.goto 29, 3) := by decide +kernel
theorem dX6_transfer_170 : decode cX6_transfer 170 = .ok (.aload_n 0, 1) := by decide +kernel
theorem dX6_transfer_171 : decode cX6_transfer 171 = .ok (.getfield 31, 3) := by decide +kernel
theorem dX6_transfer_174 : decode cX6_transfer 174 = .ok (.iconst 0, 1) := by decide +kernel
theorem dX6_transfer_175 : decode cX6_transfer 175 = .ok (.laload, 1) := by decide +kernel
theorem dX6_transfer_176 : decode cX6_transfer 176 = .ok (.ldc2_w 176, 3) := by decide +kernel
theorem dX6_transfer_179 : decode cX6_transfer 179 = .ok (.lcmp, 1) := by decide +kernel
theorem dX6_transfer_180 : decode cX6_transfer 180 = .ok (.ifCond .le 9, 3) := by decide +kernel
theorem dX6_transfer_183 : decode cX6_transfer 183 = .ok (.sipush 1000, 3) := by decide +kernel
theorem dX6_transfer_186 : decode cX6_transfer 186 = .ok (.goto 10, 3) := by decide +kernel
theorem dX6_transfer_189 : decode cX6_transfer 189 = .ok (.aload_n 0, 1) := by decide +kernel
theorem dX6_transfer_190 : decode cX6_transfer 190 = .ok (.getfield 31, 3) := by decide +kernel
theorem dX6_transfer_193 : decode cX6_transfer 193 = .ok (.iconst 0, 1) := by decide +kernel
theorem dX6_transfer_194 : decode cX6_transfer 194 = .ok (.laload, 1) := by decide +kernel
theorem dX6_transfer_195 : decode cX6_transfer 195 = .ok (.l2i, 1) := by decide +kernel
theorem dX6_transfer_196 : decode cX6_transfer 196 = .ok (.ireturn, 1) := by decide +kernel
theorem dX6_heat_0 : decode cX6_heat 0 = .ok (.iload_n 1, 1) := by decide +kernel
theorem dX6_heat_1 : decode cX6_heat 1 = .ok (.invokestatic 126, 3) := by decide +kernel
theorem dX6_heat_4 : decode cX6_heat 4 = .ok (.istore_n 2, 1) := by decide +kernel
theorem dX6_heat_5 : decode cX6_heat 5 = .ok (.aload_n 0, 1) := by decide +kernel
theorem dX6_heat_6 : decode cX6_heat 6 = .ok (.iload_n 1, 1) := by decide +kernel
theorem dX6_heat_7 : decode cX6_heat 7 = .ok (.invokevirtual 178, 3) := by decide +kernel
theorem dX6_heat_10 : decode cX6_heat 10 = .ok (.istore_n 3, 1) := by decide +kernel
theorem dX6_heat_11 : decode cX6_heat 11 = .ok (.iload_n 3, 1) := by decide +kernel
theorem dX6_heat_12 : decode cX6_heat 12 = .ok (.iconst (-1), 1) := by decide +kernel
theorem dX6_heat_13 : decode cX6_heat 13 = .ok (.if_icmp .eq 19, 3) := by decide +kernel
theorem dX6_heat_16 : decode cX6_heat 16 = .ok (.aload_n 0, 1) := by decide +kernel
theorem dX6_heat_17 : decode cX6_heat 17 = .ok (.getfield 17, 3) := by decide +kernel
theorem dX6_heat_20 : decode cX6_heat 20 = .ok (.iload_n 2, 1) := by decide +kernel
theorem dX6_heat_21 : decode cX6_heat 21 = .ok (.iconst 5, 1) := by decide +kernel
theorem dX6_heat_22 : decode cX6_heat 22 = .ok (.iadd, 1) := by decide +kernel
theorem dX6_heat_23 : decode cX6_heat 23 = .ok (.iaload, 1) := by decide +kernel
theorem dX6_heat_24 : decode cX6_heat 24 = .ok (.aload_n 0, 1) := by decide +kernel
theorem dX6_heat_25 : decode cX6_heat 25 = .ok (.iload_n 3, 1) := by decide +kernel
theorem dX6_heat_26 : decode cX6_heat 26 = .ok (.invokevirtual 181, 3) := by decide +kernel
theorem dX6_heat_29 : decode cX6_heat 29 = .ok (.if_icmp .gt 4, 3) := by decide +kernel
theorem dX6_heat_32 : decode cX6_heat 32 = .ok (.return_, 1) := by decide +kernel
theorem dX6_heat_33 : decode cX6_heat 33 = .ok (.aload_n 0, 1) := by decide +kernel
theorem dX6_heat_34 : decode cX6_heat 34 = .ok (.getfield 17, 3) := by decide +kernel
theorem dX6_heat_37 : decode cX6_heat 37 = .ok (.iload_n 2, 1) := by decide +kernel
theorem dX6_heat_38 : decode cX6_heat 38 = .ok (.iconst 5, 1) := by decide +kernel
theorem dX6_heat_39 : decode cX6_heat 39 = .ok (.iadd, 1) := by decide +kernel
theorem dX6_heat_40 : decode cX6_heat 40 = .ok (.iaload, 1) := by decide +kernel
theorem dX6_heat_41 : decode cX6_heat 41 = .ok (.aload_n 0, 1) := by decide +kernel
theorem dX6_heat_42 : decode cX6_heat 42 = .ok (.iload_n 3, 1) := by decide +kernel
theorem dX6_heat_43 : decode cX6_heat 43 = .ok (.invokevirtual 181, 3) := by decide +kernel
theorem dX6_heat_46 : decode cX6_heat 46 = .ok (.isub, 1) := by decide +kernel
theorem dX6_heat_47 : decode cX6_heat 47 = .ok (.istore 4, 2) := by decide +kernel
theorem dX6_heat_49 : decode cX6_heat 49 = .ok (.iload 4, 2) := by decide +kernel
theorem dX6_heat_51 : decode cX6_heat 51 = .ok (.aload_n 0, 1) := by decide +kernel
theorem dX6_heat_52 : decode cX6_heat 52 = .ok (.aload_n 0, 1) := by decide +kernel
theorem dX6_heat_53 : decode cX6_heat 53 = .ok (.iload_n 3, 1) := by decide +kernel
theorem dX6_heat_54 : decode cX6_heat 54 = .ok (.invokevirtual 184, 3) := by decide +kernel
theorem dX6_heat_57 : decode cX6_heat 57 = .ok (.iload_n 1, 1) := by decide +kernel
theorem dX6_heat_58 : decode cX6_heat 58 = .ok (.iload 4, 2) := by decide +kernel
theorem dX6_heat_60 : decode cX6_heat 60 = .ok (.invokevirtual 187, 3) := by decide +kernel
theorem dX6_heat_63 : decode cX6_heat 63 = .ok (.imul, 1) := by decide +kernel
theorem dX6_heat_64 : decode cX6_heat 64 = .ok (.sipush 1000, 3) := by decide +kernel
theorem dX6_heat_67 : decode cX6_heat 67 = .ok (.idiv, 1) := by decide +kernel
theorem dX6_heat_68 : decode cX6_heat 68 = .ok (.istore 5, 2) := by decide +kernel
theorem dX6_heat_70 : decode cX6_heat 70 = .ok (.aload_n 0, 1) := by decide +kernel
theorem dX6_heat_71 : decode cX6_heat 71 = .ok (.getfield 17, 3) := by decide +kernel
theorem dX6_heat_74 : decode cX6_heat 74 = .ok (.iload_n 3, 1) := by decide +kernel
theorem dX6_heat_75 : decode cX6_heat 75 = .ok (.invokestatic 161, 3) := by decide +kernel
theorem dX6_heat_78 : decode cX6_heat 78 = .ok (.iconst 1, 1) := by decide +kernel
theorem dX6_heat_79 : decode cX6_heat 79 = .ok (.iadd, 1) := by decide +kernel
theorem dX6_heat_80 : decode cX6_heat 80 = .ok (.dup2, 1) := by decide +kernel
theorem dX6_heat_81 : decode cX6_heat 81 = .ok (.iaload, 1) := by decide +kernel
theorem dX6_heat_82 : decode cX6_heat 82 = .ok (.iload 5, 2) := by decide +kernel
theorem dX6_heat_84 : decode cX6_heat 84 = .ok (.iadd, 1) := by decide +kernel
theorem dX6_heat_85 : decode cX6_heat 85 = .ok (.iastore, 1) := by decide +kernel
theorem dX6_heat_86 : decode cX6_heat 86 = .ok (.aload_n 0, 1) := by decide +kernel
theorem dX6_heat_87 : decode cX6_heat 87 = .ok (.getfield 17, 3) := by decide +kernel
theorem dX6_heat_90 : decode cX6_heat 90 = .ok (.iload_n 2, 1) := by decide +kernel
theorem dX6_heat_91 : decode cX6_heat 91 = .ok (.iconst 5, 1) := by decide +kernel
theorem dX6_heat_92 : decode cX6_heat 92 = .ok (.iadd, 1) := by decide +kernel
theorem dX6_heat_93 : decode cX6_heat 93 = .ok (.bipush 20, 2) := by decide +kernel
theorem dX6_heat_95 : decode cX6_heat 95 = .ok (.aload_n 0, 1) := by decide +kernel
theorem dX6_heat_96 : decode cX6_heat 96 = .ok (.getfield 17, 3) := by decide +kernel
theorem dX6_heat_99 : decode cX6_heat 99 = .ok (.iload_n 2, 1) := by decide +kernel
theorem dX6_heat_100 : decode cX6_heat 100 = .ok (.iconst 5, 1) := by decide +kernel
theorem dX6_heat_101 : decode cX6_heat 101 = .ok (.iadd, 1) := by decide +kernel
theorem dX6_heat_102 : decode cX6_heat 102 = .ok (.iaload, 1) := by decide +kernel
theorem dX6_heat_103 : decode cX6_heat 103 = .ok (.iload 5, 2) := by decide +kernel
theorem dX6_heat_105 : decode cX6_heat 105 = .ok (.aload_n 0, 1) := by decide +kernel
theorem dX6_heat_106 : decode cX6_heat 106 = .ok (.iload_n 3, 1) := by decide +kernel
theorem dX6_heat_107 : decode cX6_heat 107 = .ok (.invokevirtual 184, 3) := by decide +kernel
theorem dX6_heat_110 : decode cX6_heat 110 = .ok (.imul, 1) := by decide +kernel
theorem dX6_heat_111 : decode cX6_heat 111 = .ok (.aload_n 0, 1) := by decide +kernel
theorem dX6_heat_112 : decode cX6_heat 112 = .ok (.getfield 17, 3) := by decide +kernel
theorem dX6_heat_115 : decode cX6_heat 115 = .ok (.iload_n 2, 1) := by decide +kernel
theorem dX6_heat_116 : decode cX6_heat 116 = .ok (.iconst 2, 1) := by decide +kernel
theorem dX6_heat_117 : decode cX6_heat 117 = .ok (.iadd, 1) := by decide +kernel
theorem dX6_heat_118 : decode cX6_heat 118 = .ok (.iaload, 1) := by decide +kernel
theorem dX6_heat_119 : decode cX6_heat 119 = .ok (.idiv, 1) := by decide +kernel
theorem dX6_heat_120 : decode cX6_heat 120 = .ok (.isub, 1) := by decide +kernel
theorem dX6_heat_121 : decode cX6_heat 121 = .ok (.invokestatic 191, 3) := by decide +kernel
theorem dX6_heat_124 : decode cX6_heat 124 = .ok (.iastore, 1) := by decide +kernel
theorem dX6_heat_125 : decode cX6_heat 125 = .ok (.return_, 1) := by decide +kernel
theorem dX6_leaveQuench_0 : decode cX6_leaveQuench 0 = .ok (.aload_n 0, 1) := by decide +kernel
theorem dX6_leaveQuench_1 : decode cX6_leaveQuench 1 = .ok (.getfield 17, 3) := by decide +kernel
theorem dX6_leaveQuench_4 : decode cX6_leaveQuench 4 = .ok (.iconst 5, 1) := by decide +kernel
theorem dX6_leaveQuench_5 : decode cX6_leaveQuench 5 = .ok (.iaload, 1) := by decide +kernel
theorem dX6_leaveQuench_6 : decode cX6_leaveQuench 6 = .ok (.iconst 1, 1) := by decide +kernel
theorem dX6_leaveQuench_7 : decode cX6_leaveQuench 7 = .ok (.isub, 1) := by decide +kernel
theorem dX6_leaveQuench_8 : decode cX6_leaveQuench 8 = .ok (.istore_n 1, 1) := by decide +kernel
theorem dX6_leaveQuench_9 : decode cX6_leaveQuench 9 = .ok (.aload_n 0, 1) := by decide +kernel
theorem dX6_leaveQuench_10 : decode cX6_leaveQuench 10 = .ok (.iload_n 1, 1) := by decide +kernel
theorem dX6_leaveQuench_11 : decode cX6_leaveQuench 11 = .ok (.invokevirtual 184, 3) := by decide +kernel
theorem dX6_leaveQuench_14 : decode cX6_leaveQuench 14 = .ok (.invokestatic 129, 3) := by decide +kernel
theorem dX6_leaveQuench_17 : decode cX6_leaveQuench 17 = .ok (.istore_n 2, 1) := by decide +kernel
theorem dX6_leaveQuench_18 : decode cX6_leaveQuench 18 = .ok (.aload_n 0, 1) := by decide +kernel
theorem dX6_leaveQuench_19 : decode cX6_leaveQuench 19 = .ok (.getfield 17, 3) := by decide +kernel
theorem dX6_leaveQuench_22 : decode cX6_leaveQuench 22 = .ok (.iconst 5, 1) := by decide +kernel
theorem dX6_leaveQuench_23 : decode cX6_leaveQuench 23 = .ok (.iconst 0, 1) := by decide +kernel
theorem dX6_leaveQuench_24 : decode cX6_leaveQuench 24 = .ok (.iastore, 1) := by decide +kernel
theorem dX6_leaveQuench_25 : decode cX6_leaveQuench 25 = .ok (.aload_n 0, 1) := by decide +kernel
theorem dX6_leaveQuench_26 : decode cX6_leaveQuench 26 = .ok (.getfield 17, 3) := by decide +kernel
theorem dX6_leaveQuench_29 : decode cX6_leaveQuench 29 = .ok (.iload_n 2, 1) := by decide +kernel
theorem dX6_leaveQuench_30 : decode cX6_leaveQuench 30 = .ok (.bipush 6, 2) := by decide +kernel
theorem dX6_leaveQuench_32 : decode cX6_leaveQuench 32 = .ok (.iadd, 1) := by decide +kernel
theorem dX6_leaveQuench_33 : decode cX6_leaveQuench 33 = .ok (.iaload, 1) := by decide +kernel
theorem dX6_leaveQuench_34 : decode cX6_leaveQuench 34 = .ok (.iconst 1, 1) := by decide +kernel
theorem dX6_leaveQuench_35 : decode cX6_leaveQuench 35 = .ok (.if_icmp .ne 23, 3) := by decide +kernel
theorem dX6_leaveQuench_38 : decode cX6_leaveQuench 38 = .ok (.aload_n 0, 1) := by decide +kernel
theorem dX6_leaveQuench_39 : decode cX6_leaveQuench 39 = .ok (.iload_n 1, 1) := by decide +kernel
theorem dX6_leaveQuench_40 : decode cX6_leaveQuench 40 = .ok (.invokevirtual 181, 3) := by decide +kernel
theorem dX6_leaveQuench_43 : decode cX6_leaveQuench 43 = .ok (.aload_n 0, 1) := by decide +kernel
theorem dX6_leaveQuench_44 : decode cX6_leaveQuench 44 = .ok (.getfield 17, 3) := by decide +kernel
theorem dX6_leaveQuench_47 : decode cX6_leaveQuench 47 = .ok (.iload_n 2, 1) := by decide +kernel
theorem dX6_leaveQuench_48 : decode cX6_leaveQuench 48 = .ok (.iconst 4, 1) := by decide +kernel
theorem dX6_leaveQuench_49 : decode cX6_leaveQuench 49 = .ok (.iadd, 1) := by decide +kernel
theorem dX6_leaveQuench_50 : decode cX6_leaveQuench 50 = .ok (.iaload, 1) := by decide +kernel
theorem dX6_leaveQuench_51 : decode cX6_leaveQuench 51 = .ok (.if_icmp .ge 7, 3) := by decide +kernel
theorem dX6_leaveQuench_54 : decode cX6_leaveQuench 54 = .ok (.iconst 1, 1) := by decide +kernel
theorem dX6_leaveQuench_55 : decode cX6_leaveQuench 55 = .ok (.goto 4, 3) := by decide +kernel
theorem dX6_leaveQuench_58 : decode cX6_leaveQuench 58 = .ok (.iconst 0, 1) := by decide +kernel
theorem dX6_leaveQuench_59 : decode cX6_leaveQuench 59 = .ok (.istore_n 3, 1) := by decide +kernel
theorem dX6_leaveQuench_60 : decode cX6_leaveQuench 60 = .ok (.aload_n 0, 1) := by decide +kernel
theorem dX6_leaveQuench_61 : decode cX6_leaveQuench 61 = .ok (.getfield 17, 3) := by decide +kernel
theorem dX6_leaveQuench_64 : decode cX6_leaveQuench 64 = .ok (.iload_n 2, 1) := by decide +kernel
theorem dX6_leaveQuench_65 : decode cX6_leaveQuench 65 = .ok (.bipush 6, 2) := by decide +kernel
theorem dX6_leaveQuench_67 : decode cX6_leaveQuench 67 = .ok (.iadd, 1) := by decide +kernel
theorem dX6_leaveQuench_68 : decode cX6_leaveQuench 68 = .ok (.iaload, 1) := by decide +kernel
theorem dX6_leaveQuench_69 : decode cX6_leaveQuench 69 = .ok (.iconst 1, 1) := by decide +kernel
theorem dX6_leaveQuench_70 : decode cX6_leaveQuench 70 = .ok (.if_icmp .ne 23, 3) := by decide +kernel
theorem dX6_leaveQuench_73 : decode cX6_leaveQuench 73 = .ok (.aload_n 0, 1) := by decide +kernel
theorem dX6_leaveQuench_74 : decode cX6_leaveQuench 74 = .ok (.iload_n 1, 1) := by decide +kernel
theorem dX6_leaveQuench_75 : decode cX6_leaveQuench 75 = .ok (.invokevirtual 181, 3) := by decide +kernel
theorem dX6_leaveQuench_78 : decode cX6_leaveQuench 78 = .ok (.aload_n 0, 1) := by decide +kernel
theorem dX6_leaveQuench_79 : decode cX6_leaveQuench 79 = .ok (.getfield 17, 3) := by decide +kernel
theorem dX6_leaveQuench_82 : decode cX6_leaveQuench 82 = .ok (.iload_n 2, 1) := by decide +kernel
theorem dX6_leaveQuench_83 : decode cX6_leaveQuench 83 = .ok (.iconst 5, 1) := by decide +kernel
theorem dX6_leaveQuench_84 : decode cX6_leaveQuench 84 = .ok (.iadd, 1) := by decide +kernel
theorem dX6_leaveQuench_85 : decode cX6_leaveQuench 85 = .ok (.iaload, 1) := by decide +kernel
theorem dX6_leaveQuench_86 : decode cX6_leaveQuench 86 = .ok (.if_icmp .le 7, 3) := by decide +kernel
theorem dX6_leaveQuench_89 : decode cX6_leaveQuench 89 = .ok (.iconst 1, 1) := by decide +kernel
theorem dX6_leaveQuench_90 : decode cX6_leaveQuench 90 = .ok (.goto 4, 3) := by decide +kernel
theorem dX6_leaveQuench_93 : decode cX6_leaveQuench 93 = .ok (.iconst 0, 1) := by decide +kernel
theorem dX6_leaveQuench_94 : decode cX6_leaveQuench 94 = .ok (.istore 4, 2) := by decide +kernel
theorem dX6_leaveQuench_96 : decode cX6_leaveQuench 96 = .ok (.aload_n 0, 1) := by decide +kernel
theorem dX6_leaveQuench_97 : decode cX6_leaveQuench 97 = .ok (.iload_n 1, 1) := by decide +kernel
theorem dX6_leaveQuench_98 : decode cX6_leaveQuench 98 = .ok (.iload_n 3, 1) := by decide +kernel
theorem dX6_leaveQuench_99 : decode cX6_leaveQuench 99 = .ok (.ifCond .ne 8, 3) := by decide +kernel
theorem dX6_leaveQuench_102 : decode cX6_leaveQuench 102 = .ok (.iload 4, 2) := by decide +kernel
theorem dX6_leaveQuench_104 : decode cX6_leaveQuench 104 = .ok (.ifCond .eq 7, 3) := by decide +kernel
theorem dX6_leaveQuench_107 : decode cX6_leaveQuench 107 = .ok (.iconst 4, 1) := by decide +kernel
theorem dX6_leaveQuench_108 : decode cX6_leaveQuench 108 = .ok (.goto 4, 3) := by decide +kernel
theorem dX6_leaveQuench_111 : decode cX6_leaveQuench 111 = .ok (.iconst 3, 1) := by decide +kernel
theorem dX6_leaveQuench_112 : decode cX6_leaveQuench 112 = .ok (.invokevirtual 194, 3) := by decide +kernel
theorem dX6_leaveQuench_115 : decode cX6_leaveQuench 115 = .ok (.aload_n 0, 1) := by decide +kernel
theorem dX6_leaveQuench_116 : decode cX6_leaveQuench 116 = .ok (.getfield 17, 3) := by decide +kernel
theorem dX6_leaveQuench_119 : decode cX6_leaveQuench 119 = .ok (.iload_n 2, 1) := by decide +kernel
theorem dX6_leaveQuench_120 : decode cX6_leaveQuench 120 = .ok (.iload_n 3, 1) := by decide +kernel
theorem dX6_leaveQuench_121 : decode cX6_leaveQuench 121 = .ok (.ifCond .eq 7, 3) := by decide +kernel
theorem dX6_leaveQuench_124 : decode cX6_leaveQuench 124 = .ok (.iconst 1, 1) := by decide +kernel
theorem dX6_leaveQuench_125 : decode cX6_leaveQuench 125 = .ok (.goto 13, 3) := by decide +kernel
theorem dX6_leaveQuench_128 : decode cX6_leaveQuench 128 = .ok (.iload 4, 2) := by decide +kernel
theorem dX6_leaveQuench_130 : decode cX6_leaveQuench 130 = .ok (.ifCond .eq 7, 3) := by decide +kernel
theorem dX6_leaveQuench_133 : decode cX6_leaveQuench 133 = .ok (.iconst 2, 1) := by decide +kernel
theorem dX6_leaveQuench_134 : decode cX6_leaveQuench 134 = .ok (.goto 4, 3) := by decide +kernel
theorem dX6_leaveQuench_137 : decode cX6_leaveQuench 137 = .ok (.iconst 0, 1) := by decide +kernel
theorem dX6_leaveQuench_138 : decode cX6_leaveQuench 138 = .ok (.iadd, 1) := by decide +kernel
theorem dX6_leaveQuench_139 : decode cX6_leaveQuench 139 = .ok (.dup2, 1) := by decide +kernel
theorem dX6_leaveQuench_140 : decode cX6_leaveQuench 140 = .ok (.iaload, 1) := by decide +kernel
theorem dX6_leaveQuench_141 : decode cX6_leaveQuench 141 = .ok (.iconst 1, 1) := by decide +kernel
theorem dX6_leaveQuench_142 : decode cX6_leaveQuench 142 = .ok (.iadd, 1) := by decide +kernel
theorem dX6_leaveQuench_143 : decode cX6_leaveQuench 143 = .ok (.iastore, 1) := by decide +kernel
theorem dX6_leaveQuench_144 : decode cX6_leaveQuench 144 = .ok (.iload_n 3, 1) := by decide +kernel
theorem dX6_leaveQuench_145 : decode cX6_leaveQuench 145 = .ok (.ifCond .eq 12, 3) := by decide +kernel
theorem dX6_leaveQuench_148 : decode cX6_leaveQuench 148 = .ok (.aload_n 0, 1) := by decide +kernel
theorem dX6_leaveQuench_149 : decode cX6_leaveQuench 149 = .ok (.getfield 17, 3) := by decide +kernel
theorem dX6_leaveQuench_152 : decode cX6_leaveQuench 152 = .ok (.iconst 4, 1) := by decide +kernel
theorem dX6_leaveQuench_153 : decode cX6_leaveQuench 153 = .ok (.iaload, 1) := by decide +kernel
theorem dX6_leaveQuench_154 : decode cX6_leaveQuench 154 = .ok (.goto 19, 3) := by decide +kernel
theorem dX6_leaveQuench_157 : decode cX6_leaveQuench 157 = .ok (.iload 4, 2) := by decide +kernel
theorem dX6_leaveQuench_159 : decode cX6_leaveQuench 159 = .ok (.ifCond .eq 13, 3) := by decide +kernel
theorem dX6_leaveQuench_162 : decode cX6_leaveQuench 162 = .ok (.aload_n 0, 1) := by decide +kernel
theorem dX6_leaveQuench_163 : decode cX6_leaveQuench 163 = .ok (.getfield 17, 3) := by decide +kernel
theorem dX6_leaveQuench_166 : decode cX6_leaveQuench 166 = .ok (.iconst 4, 1) := by decide +kernel
theorem dX6_leaveQuench_167 : decode cX6_leaveQuench 167 = .ok (.iaload, 1) := by decide +kernel
theorem dX6_leaveQuench_168 : decode cX6_leaveQuench 168 = .ok (.ineg, 1) := by decide +kernel
theorem dX6_leaveQuench_169 : decode cX6_leaveQuench 169 = .ok (.goto 4, 3) := by decide +kernel
theorem dX6_leaveQuench_172 : decode cX6_leaveQuench 172 = .ok (.iconst 0, 1) := by decide +kernel
theorem dX6_leaveQuench_173 : decode cX6_leaveQuench 173 = .ok (.istore 5, 2) := by decide +kernel
theorem dX6_leaveQuench_175 : decode cX6_leaveQuench 175 = .ok (.aload_n 0, 1) := by decide +kernel
theorem dX6_leaveQuench_176 : decode cX6_leaveQuench 176 = .ok (.getfield 17, 3) := by decide +kernel
theorem dX6_leaveQuench_179 : decode cX6_leaveQuench 179 = .ok (.iload_n 2, 1) := by decide +kernel
theorem dX6_leaveQuench_180 : decode cX6_leaveQuench 180 = .ok (.iconst 3, 1) := by decide +kernel
theorem dX6_leaveQuench_181 : decode cX6_leaveQuench 181 = .ok (.iadd, 1) := by decide +kernel
theorem dX6_leaveQuench_182 : decode cX6_leaveQuench 182 = .ok (.bipush (-50), 2) := by decide +kernel
theorem dX6_leaveQuench_184 : decode cX6_leaveQuench 184 = .ok (.bipush 50, 2) := by decide +kernel
theorem dX6_leaveQuench_186 : decode cX6_leaveQuench 186 = .ok (.aload_n 0, 1) := by decide +kernel
theorem dX6_leaveQuench_187 : decode cX6_leaveQuench 187 = .ok (.getfield 17, 3) := by decide +kernel
theorem dX6_leaveQuench_190 : decode cX6_leaveQuench 190 = .ok (.iload_n 2, 1) := by decide +kernel
theorem dX6_leaveQuench_191 : decode cX6_leaveQuench 191 = .ok (.iconst 3, 1) := by decide +kernel
theorem dX6_leaveQuench_192 : decode cX6_leaveQuench 192 = .ok (.iadd, 1) := by decide +kernel
theorem dX6_leaveQuench_193 : decode cX6_leaveQuench 193 = .ok (.iaload, 1) := by decide +kernel
theorem dX6_leaveQuench_194 : decode cX6_leaveQuench 194 = .ok (.iload 5, 2) := by decide +kernel
theorem dX6_leaveQuench_196 : decode cX6_leaveQuench 196 = .ok (.iadd, 1) := by decide +kernel
theorem dX6_leaveQuench_197 : decode cX6_leaveQuench 197 = .ok (.invokestatic 87, 3) := by decide +kernel
theorem dX6_leaveQuench_200 : decode cX6_leaveQuench 200 = .ok (.invokestatic 191, 3) := by decide +kernel
theorem dX6_leaveQuench_203 : decode cX6_leaveQuench 203 = .ok (.iastore, 1) := by decide +kernel
theorem dX6_leaveQuench_204 : decode cX6_leaveQuench 204 = .ok (.return_, 1) := by decide +kernel
theorem dX6_move_0 : decode cX6_move 0 = .ok (.aload_n 0, 1) := by decide +kernel
theorem dX6_move_1 : decode cX6_move 1 = .ok (.iload_n 1, 1) := by decide +kernel
theorem dX6_move_2 : decode cX6_move 2 = .ok (.invokevirtual 178, 3) := by decide +kernel
theorem dX6_move_5 : decode cX6_move 5 = .ok (.istore_n 2, 1) := by decide +kernel
theorem dX6_move_6 : decode cX6_move 6 = .ok (.iload_n 1, 1) := by decide +kernel
theorem dX6_move_7 : decode cX6_move 7 = .ok (.invokestatic 126, 3) := by decide +kernel
theorem dX6_move_10 : decode cX6_move 10 = .ok (.istore_n 3, 1) := by decide +kernel
theorem dX6_move_11 : decode cX6_move 11 = .ok (.iload_n 2, 1) := by decide +kernel
theorem dX6_move_12 : decode cX6_move 12 = .ok (.iconst (-1), 1) := by decide +kernel
theorem dX6_move_13 : decode cX6_move 13 = .ok (.if_icmp .ne 4, 3) := by decide +kernel
theorem dX6_move_16 : decode cX6_move 16 = .ok (.return_, 1) := by decide +kernel
theorem dX6_move_17 : decode cX6_move 17 = .ok (.iload_n 1, 1) := by decide +kernel
theorem dX6_move_18 : decode cX6_move 18 = .ok (.aload_n 0, 1) := by decide +kernel
theorem dX6_move_19 : decode cX6_move 19 = .ok (.getfield 17, 3) := by decide +kernel
theorem dX6_move_22 : decode cX6_move 22 = .ok (.iconst 0, 1) := by decide +kernel
theorem dX6_move_23 : decode cX6_move 23 = .ok (.iaload, 1) := by decide +kernel
theorem dX6_move_24 : decode cX6_move 24 = .ok (.iconst 1, 1) := by decide +kernel
theorem dX6_move_25 : decode cX6_move 25 = .ok (.isub, 1) := by decide +kernel
theorem dX6_move_26 : decode cX6_move 26 = .ok (.if_icmp .ne 7, 3) := by decide +kernel
theorem dX6_move_29 : decode cX6_move 29 = .ok (.iconst 1, 1) := by decide +kernel
theorem dX6_move_30 : decode cX6_move 30 = .ok (.goto 4, 3) := by decide +kernel
theorem dX6_move_33 : decode cX6_move 33 = .ok (.iconst 0, 1) := by decide +kernel
theorem dX6_move_34 : decode cX6_move 34 = .ok (.istore 4, 2) := by decide +kernel
theorem dX6_move_36 : decode cX6_move 36 = .ok (.iload 4, 2) := by decide +kernel
theorem dX6_move_38 : decode cX6_move 38 = .ok (.ifCond .eq 21, 3) := by decide +kernel
theorem dX6_move_41 : decode cX6_move 41 = .ok (.aload_n 0, 1) := by decide +kernel
theorem dX6_move_42 : decode cX6_move 42 = .ok (.getfield 17, 3) := by decide +kernel
theorem dX6_move_45 : decode cX6_move 45 = .ok (.aload_n 0, 1) := by decide +kernel
theorem dX6_move_46 : decode cX6_move 46 = .ok (.iload_n 2, 1) := by decide +kernel
theorem dX6_move_47 : decode cX6_move 47 = .ok (.invokevirtual 184, 3) := by decide +kernel
theorem dX6_move_50 : decode cX6_move 50 = .ok (.invokestatic 129, 3) := by decide +kernel
theorem dX6_move_53 : decode cX6_move 53 = .ok (.iconst 3, 1) := by decide +kernel
theorem dX6_move_54 : decode cX6_move 54 = .ok (.iadd, 1) := by decide +kernel
theorem dX6_move_55 : decode cX6_move 55 = .ok (.iaload, 1) := by decide +kernel
theorem dX6_move_56 : decode cX6_move 56 = .ok (.goto 4, 3) := by decide +kernel
theorem dX6_move_59 : decode cX6_move 59 = .ok (.iconst 0, 1) := by decide +kernel
theorem dX6_move_60 : decode cX6_move 60 = .ok (.istore 5, 2) := by decide +kernel
theorem dX6_move_62 : decode cX6_move 62 = .ok (.aload_n 0, 1) := by decide +kernel
theorem dX6_move_63 : decode cX6_move 63 = .ok (.iload_n 2, 1) := by decide +kernel
theorem dX6_move_64 : decode cX6_move 64 = .ok (.invokevirtual 181, 3) := by decide +kernel
theorem dX6_move_67 : decode cX6_move 67 = .ok (.aload_n 0, 1) := by decide +kernel
theorem dX6_move_68 : decode cX6_move 68 = .ok (.getfield 17, 3) := by decide +kernel
theorem dX6_move_71 : decode cX6_move 71 = .ok (.iload_n 3, 1) := by decide +kernel
theorem dX6_move_72 : decode cX6_move 72 = .ok (.iconst 4, 1) := by decide +kernel
theorem dX6_move_73 : decode cX6_move 73 = .ok (.iadd, 1) := by decide +kernel
theorem dX6_move_74 : decode cX6_move 74 = .ok (.iaload, 1) := by decide +kernel
theorem dX6_move_75 : decode cX6_move 75 = .ok (.iload 5, 2) := by decide +kernel
theorem dX6_move_77 : decode cX6_move 77 = .ok (.iadd, 1) := by decide +kernel
theorem dX6_move_78 : decode cX6_move 78 = .ok (.if_icmp .le 18, 3) := by decide +kernel
theorem dX6_move_81 : decode cX6_move 81 = .ok (.aload_n 0, 1) := by decide +kernel
theorem dX6_move_82 : decode cX6_move 82 = .ok (.iload_n 2, 1) := by decide +kernel
theorem dX6_move_83 : decode cX6_move 83 = .ok (.iconst 5, 1) := by decide +kernel
theorem dX6_move_84 : decode cX6_move 84 = .ok (.invokevirtual 194, 3) := by decide +kernel
theorem dX6_move_87 : decode cX6_move 87 = .ok (.aload_n 0, 1) := by decide +kernel
theorem dX6_move_88 : decode cX6_move 88 = .ok (.iload_n 1, 1) := by decide +kernel
theorem dX6_move_89 : decode cX6_move 89 = .ok (.iconst (-1), 1) := by decide +kernel
theorem dX6_move_90 : decode cX6_move 90 = .ok (.invokevirtual 197, 3) := by decide +kernel
theorem dX6_move_93 : decode cX6_move 93 = .ok (.goto 106, 3) := by decide +kernel
theorem dX6_move_96 : decode cX6_move 96 = .ok (.aload_n 0, 1) := by decide +kernel
theorem dX6_move_97 : decode cX6_move 97 = .ok (.iload_n 2, 1) := by decide +kernel
theorem dX6_move_98 : decode cX6_move 98 = .ok (.invokevirtual 181, 3) := by decide +kernel
theorem dX6_move_101 : decode cX6_move 101 = .ok (.aload_n 0, 1) := by decide +kernel
theorem dX6_move_102 : decode cX6_move 102 = .ok (.getfield 17, 3) := by decide +kernel
theorem dX6_move_105 : decode cX6_move 105 = .ok (.iload_n 3, 1) := by decide +kernel
theorem dX6_move_106 : decode cX6_move 106 = .ok (.iconst 3, 1) := by decide +kernel
theorem dX6_move_107 : decode cX6_move 107 = .ok (.iadd, 1) := by decide +kernel
theorem dX6_move_108 : decode cX6_move 108 = .ok (.iaload, 1) := by decide +kernel
theorem dX6_move_109 : decode cX6_move 109 = .ok (.iload 5, 2) := by decide +kernel
theorem dX6_move_111 : decode cX6_move 111 = .ok (.iadd, 1) := by decide +kernel
theorem dX6_move_112 : decode cX6_move 112 = .ok (.if_icmp .lt 87, 3) := by decide +kernel
theorem dX6_move_115 : decode cX6_move 115 = .ok (.iload 4, 2) := by decide +kernel
theorem dX6_move_117 : decode cX6_move 117 = .ok (.ifCond .eq 15, 3) := by decide +kernel
theorem dX6_move_120 : decode cX6_move 120 = .ok (.aload_n 0, 1) := by decide +kernel
theorem dX6_move_121 : decode cX6_move 121 = .ok (.getfield 17, 3) := by decide +kernel
theorem dX6_move_124 : decode cX6_move 124 = .ok (.iconst 5, 1) := by decide +kernel
theorem dX6_move_125 : decode cX6_move 125 = .ok (.iaload, 1) := by decide +kernel
theorem dX6_move_126 : decode cX6_move 126 = .ok (.ifCond .ne 73, 3) := by decide +kernel
theorem dX6_move_129 : decode cX6_move 129 = .ok (.goto 14, 3) := by decide +kernel
theorem dX6_move_132 : decode cX6_move 132 = .ok (.aload_n 0, 1) := by decide +kernel
theorem dX6_move_133 : decode cX6_move 133 = .ok (.iload_n 1, 1) := by decide +kernel
theorem dX6_move_134 : decode cX6_move 134 = .ok (.iconst 1, 1) := by decide +kernel
theorem dX6_move_135 : decode cX6_move 135 = .ok (.iadd, 1) := by decide +kernel
theorem dX6_move_136 : decode cX6_move 136 = .ok (.invokevirtual 178, 3) := by decide +kernel
theorem dX6_move_139 : decode cX6_move 139 = .ok (.iconst (-1), 1) := by decide +kernel
theorem dX6_move_140 : decode cX6_move 140 = .ok (.if_icmp .ne 59, 3) := by decide +kernel
theorem dX6_move_143 : decode cX6_move 143 = .ok (.aload_n 0, 1) := by decide +kernel
theorem dX6_move_144 : decode cX6_move 144 = .ok (.iload_n 1, 1) := by decide +kernel
theorem dX6_move_145 : decode cX6_move 145 = .ok (.iconst (-1), 1) := by decide +kernel
theorem dX6_move_146 : decode cX6_move 146 = .ok (.invokevirtual 197, 3) := by decide +kernel
theorem dX6_move_149 : decode cX6_move 149 = .ok (.iload 4, 2) := by decide +kernel
theorem dX6_move_151 : decode cX6_move 151 = .ok (.ifCond .ne 14, 3) := by decide +kernel
theorem dX6_move_154 : decode cX6_move 154 = .ok (.aload_n 0, 1) := by decide +kernel
theorem dX6_move_155 : decode cX6_move 155 = .ok (.iload_n 1, 1) := by decide +kernel
theorem dX6_move_156 : decode cX6_move 156 = .ok (.iconst 1, 1) := by decide +kernel
theorem dX6_move_157 : decode cX6_move 157 = .ok (.iadd, 1) := by decide +kernel
theorem dX6_move_158 : decode cX6_move 158 = .ok (.iload_n 2, 1) := by decide +kernel
theorem dX6_move_159 : decode cX6_move 159 = .ok (.invokevirtual 197, 3) := by decide +kernel
theorem dX6_move_162 : decode cX6_move 162 = .ok (.goto 37, 3) := by decide +kernel
theorem dX6_move_165 : decode cX6_move 165 = .ok (.aload_n 0, 1) := by decide +kernel
theorem dX6_move_166 : decode cX6_move 166 = .ok (.getfield 17, 3) := by decide +kernel
theorem dX6_move_169 : decode cX6_move 169 = .ok (.iconst 5, 1) := by decide +kernel
theorem dX6_move_170 : decode cX6_move 170 = .ok (.iload_n 2, 1) := by decide +kernel
theorem dX6_move_171 : decode cX6_move 171 = .ok (.iconst 1, 1) := by decide +kernel
theorem dX6_move_172 : decode cX6_move 172 = .ok (.iadd, 1) := by decide +kernel
theorem dX6_move_173 : decode cX6_move 173 = .ok (.iastore, 1) := by decide +kernel
theorem dX6_move_174 : decode cX6_move 174 = .ok (.aload_n 0, 1) := by decide +kernel
theorem dX6_move_175 : decode cX6_move 175 = .ok (.getfield 17, 3) := by decide +kernel
theorem dX6_move_178 : decode cX6_move 178 = .ok (.bipush 6, 2) := by decide +kernel
theorem dX6_move_180 : decode cX6_move 180 = .ok (.aload_n 0, 1) := by decide +kernel
theorem dX6_move_181 : decode cX6_move 181 = .ok (.iload_n 2, 1) := by decide +kernel
theorem dX6_move_182 : decode cX6_move 182 = .ok (.invokevirtual 184, 3) := by decide +kernel
theorem dX6_move_185 : decode cX6_move 185 = .ok (.aload_n 0, 1) := by decide +kernel
theorem dX6_move_186 : decode cX6_move 186 = .ok (.getfield 17, 3) := by decide +kernel
theorem dX6_move_189 : decode cX6_move 189 = .ok (.iconst 3, 1) := by decide +kernel
theorem dX6_move_190 : decode cX6_move 190 = .ok (.iaload, 1) := by decide +kernel
theorem dX6_move_191 : decode cX6_move 191 = .ok (.imul, 1) := by decide +kernel
theorem dX6_move_192 : decode cX6_move 192 = .ok (.iastore, 1) := by decide +kernel
theorem dX6_move_193 : decode cX6_move 193 = .ok (.aload_n 0, 1) := by decide +kernel
theorem dX6_move_194 : decode cX6_move 194 = .ok (.iload_n 2, 1) := by decide +kernel
theorem dX6_move_195 : decode cX6_move 195 = .ok (.iconst 2, 1) := by decide +kernel
theorem dX6_move_196 : decode cX6_move 196 = .ok (.invokevirtual 194, 3) := by decide +kernel
theorem dX6_move_199 : decode cX6_move 199 = .ok (.return_, 1) := by decide +kernel
theorem dX6_tick_0 : decode cX6_tick 0 = .ok (.aload_n 0, 1) := by decide +kernel
theorem dX6_tick_1 : decode cX6_tick 1 = .ok (.getfield 17, 3) := by decide +kernel
theorem dX6_tick_4 : decode cX6_tick 4 = .ok (.iconst 0, 1) := by decide +kernel
theorem dX6_tick_5 : decode cX6_tick 5 = .ok (.iaload, 1) := by decide +kernel
theorem dX6_tick_6 : decode cX6_tick 6 = .ok (.istore_n 1, 1) := by decide +kernel
theorem dX6_tick_7 : decode cX6_tick 7 = .ok (.iconst 0, 1) := by decide +kernel
theorem dX6_tick_8 : decode cX6_tick 8 = .ok (.istore_n 2, 1) := by decide +kernel
theorem dX6_tick_9 : decode cX6_tick 9 = .ok (.iload_n 2, 1) := by decide +kernel
theorem dX6_tick_10 : decode cX6_tick 10 = .ok (.iload_n 1, 1) := by decide +kernel
theorem dX6_tick_11 : decode cX6_tick 11 = .ok (.if_icmp .ge 78, 3) := by decide +kernel
theorem dX6_tick_14 : decode cX6_tick 14 = .ok (.aload_n 0, 1) := by decide +kernel
theorem dX6_tick_15 : decode cX6_tick 15 = .ok (.getfield 17, 3) := by decide +kernel
theorem dX6_tick_18 : decode cX6_tick 18 = .ok (.iload_n 2, 1) := by decide +kernel
theorem dX6_tick_19 : decode cX6_tick 19 = .ok (.invokestatic 126, 3) := by decide +kernel
theorem dX6_tick_22 : decode cX6_tick 22 = .ok (.iconst 5, 1) := by decide +kernel
theorem dX6_tick_23 : decode cX6_tick 23 = .ok (.iadd, 1) := by decide +kernel
theorem dX6_tick_24 : decode cX6_tick 24 = .ok (.iaload, 1) := by decide +kernel
theorem dX6_tick_25 : decode cX6_tick 25 = .ok (.aload_n 0, 1) := by decide +kernel
theorem dX6_tick_26 : decode cX6_tick 26 = .ok (.getfield 17, 3) := by decide +kernel
theorem dX6_tick_29 : decode cX6_tick 29 = .ok (.iload_n 2, 1) := by decide +kernel
theorem dX6_tick_30 : decode cX6_tick 30 = .ok (.invokestatic 126, 3) := by decide +kernel
theorem dX6_tick_33 : decode cX6_tick 33 = .ok (.iaload, 1) := by decide +kernel
theorem dX6_tick_34 : decode cX6_tick 34 = .ok (.if_icmp .ge 49, 3) := by decide +kernel
theorem dX6_tick_37 : decode cX6_tick 37 = .ok (.aload_n 0, 1) := by decide +kernel
theorem dX6_tick_38 : decode cX6_tick 38 = .ok (.getfield 17, 3) := by decide +kernel
theorem dX6_tick_41 : decode cX6_tick 41 = .ok (.iload_n 2, 1) := by decide +kernel
theorem dX6_tick_42 : decode cX6_tick 42 = .ok (.invokestatic 126, 3) := by decide +kernel
theorem dX6_tick_45 : decode cX6_tick 45 = .ok (.iconst 5, 1) := by decide +kernel
theorem dX6_tick_46 : decode cX6_tick 46 = .ok (.iadd, 1) := by decide +kernel
theorem dX6_tick_47 : decode cX6_tick 47 = .ok (.aload_n 0, 1) := by decide +kernel
theorem dX6_tick_48 : decode cX6_tick 48 = .ok (.getfield 17, 3) := by decide +kernel
theorem dX6_tick_51 : decode cX6_tick 51 = .ok (.iload_n 2, 1) := by decide +kernel
theorem dX6_tick_52 : decode cX6_tick 52 = .ok (.invokestatic 126, 3) := by decide +kernel
theorem dX6_tick_55 : decode cX6_tick 55 = .ok (.iaload, 1) := by decide +kernel
theorem dX6_tick_56 : decode cX6_tick 56 = .ok (.aload_n 0, 1) := by decide +kernel
theorem dX6_tick_57 : decode cX6_tick 57 = .ok (.getfield 17, 3) := by decide +kernel
theorem dX6_tick_60 : decode cX6_tick 60 = .ok (.iload_n 2, 1) := by decide +kernel
theorem dX6_tick_61 : decode cX6_tick 61 = .ok (.invokestatic 126, 3) := by decide +kernel
theorem dX6_tick_64 : decode cX6_tick 64 = .ok (.iconst 5, 1) := by decide +kernel
theorem dX6_tick_65 : decode cX6_tick 65 = .ok (.iadd, 1) := by decide +kernel
theorem dX6_tick_66 : decode cX6_tick 66 = .ok (.iaload, 1) := by decide +kernel
theorem dX6_tick_67 : decode cX6_tick 67 = .ok (.aload_n 0, 1) := by decide +kernel
theorem dX6_tick_68 : decode cX6_tick 68 = .ok (.getfield 17, 3) := by decide +kernel
theorem dX6_tick_71 : decode cX6_tick 71 = .ok (.iload_n 2, 1) := by decide +kernel
theorem dX6_tick_72 : decode cX6_tick 72 = .ok (.invokestatic 126, 3) := by decide +kernel
theorem dX6_tick_75 : decode cX6_tick 75 = .ok (.iconst 1, 1) := by decide +kernel
theorem dX6_tick_76 : decode cX6_tick 76 = .ok (.iadd, 1) := by decide +kernel
theorem dX6_tick_77 : decode cX6_tick 77 = .ok (.iaload, 1) := by decide +kernel
theorem dX6_tick_78 : decode cX6_tick 78 = .ok (.iadd, 1) := by decide +kernel
theorem dX6_tick_79 : decode cX6_tick 79 = .ok (.invokestatic 87, 3) := by decide +kernel
theorem dX6_tick_82 : decode cX6_tick 82 = .ok (.iastore, 1) := by decide +kernel
theorem dX6_tick_83 : decode cX6_tick 83 = .ok (.iinc 2 1, 3) := by decide +kernel
theorem dX6_tick_86 : decode cX6_tick 86 = .ok (.goto (-77), 3) := by decide +kernel
theorem dX6_tick_89 : decode cX6_tick 89 = .ok (.iconst 0, 1) := by decide +kernel
theorem dX6_tick_90 : decode cX6_tick 90 = .ok (.istore_n 2, 1) := by decide +kernel
theorem dX6_tick_91 : decode cX6_tick 91 = .ok (.iload_n 2, 1) := by decide +kernel
theorem dX6_tick_92 : decode cX6_tick 92 = .ok (.iload_n 1, 1) := by decide +kernel
theorem dX6_tick_93 : decode cX6_tick 93 = .ok (.if_icmp .ge 14, 3) := by decide +kernel
theorem dX6_tick_96 : decode cX6_tick 96 = .ok (.aload_n 0, 1) := by decide +kernel
theorem dX6_tick_97 : decode cX6_tick 97 = .ok (.iload_n 2, 1) := by decide +kernel
theorem dX6_tick_98 : decode cX6_tick 98 = .ok (.invokevirtual 200, 3) := by decide +kernel
theorem dX6_tick_101 : decode cX6_tick 101 = .ok (.iinc 2 1, 3) := by decide +kernel
theorem dX6_tick_104 : decode cX6_tick 104 = .ok (.goto (-13), 3) := by decide +kernel
theorem dX6_tick_107 : decode cX6_tick 107 = .ok (.aload_n 0, 1) := by decide +kernel
theorem dX6_tick_108 : decode cX6_tick 108 = .ok (.getfield 17, 3) := by decide +kernel
theorem dX6_tick_111 : decode cX6_tick 111 = .ok (.iconst 5, 1) := by decide +kernel
theorem dX6_tick_112 : decode cX6_tick 112 = .ok (.iaload, 1) := by decide +kernel
theorem dX6_tick_113 : decode cX6_tick 113 = .ok (.ifCond .le 28, 3) := by decide +kernel
theorem dX6_tick_116 : decode cX6_tick 116 = .ok (.aload_n 0, 1) := by decide +kernel
theorem dX6_tick_117 : decode cX6_tick 117 = .ok (.getfield 17, 3) := by decide +kernel
theorem dX6_tick_120 : decode cX6_tick 120 = .ok (.bipush 6, 2) := by decide +kernel
theorem dX6_tick_122 : decode cX6_tick 122 = .ok (.dup2, 1) := by decide +kernel
theorem dX6_tick_123 : decode cX6_tick 123 = .ok (.iaload, 1) := by decide +kernel
theorem dX6_tick_124 : decode cX6_tick 124 = .ok (.iconst 1, 1) := by decide +kernel
theorem dX6_tick_125 : decode cX6_tick 125 = .ok (.isub, 1) := by decide +kernel
theorem dX6_tick_126 : decode cX6_tick 126 = .ok (.iastore, 1) := by decide +kernel
theorem dX6_tick_127 : decode cX6_tick 127 = .ok (.aload_n 0, 1) := by decide +kernel
theorem dX6_tick_128 : decode cX6_tick 128 = .ok (.getfield 17, 3) := by decide +kernel
theorem dX6_tick_131 : decode cX6_tick 131 = .ok (.bipush 6, 2) := by decide +kernel
theorem dX6_tick_133 : decode cX6_tick 133 = .ok (.iaload, 1) := by decide +kernel
theorem dX6_tick_134 : decode cX6_tick 134 = .ok (.ifCond .ne 7, 3) := by decide +kernel
theorem dX6_tick_137 : decode cX6_tick 137 = .ok (.aload_n 0, 1) := by decide +kernel
theorem dX6_tick_138 : decode cX6_tick 138 = .ok (.invokevirtual 202, 3) := by decide +kernel
theorem dX6_tick_141 : decode cX6_tick 141 = .ok (.iload_n 1, 1) := by decide +kernel
theorem dX6_tick_142 : decode cX6_tick 142 = .ok (.iconst 1, 1) := by decide +kernel
theorem dX6_tick_143 : decode cX6_tick 143 = .ok (.isub, 1) := by decide +kernel
theorem dX6_tick_144 : decode cX6_tick 144 = .ok (.istore_n 2, 1) := by decide +kernel
theorem dX6_tick_145 : decode cX6_tick 145 = .ok (.iload_n 2, 1) := by decide +kernel
theorem dX6_tick_146 : decode cX6_tick 146 = .ok (.ifCond .lt 14, 3) := by decide +kernel
theorem dX6_tick_149 : decode cX6_tick 149 = .ok (.aload_n 0, 1) := by decide +kernel
theorem dX6_tick_150 : decode cX6_tick 150 = .ok (.iload_n 2, 1) := by decide +kernel
theorem dX6_tick_151 : decode cX6_tick 151 = .ok (.invokevirtual 205, 3) := by decide +kernel
theorem dX6_tick_154 : decode cX6_tick 154 = .ok (.iinc 2 (-1), 3) := by decide +kernel
theorem dX6_tick_157 : decode cX6_tick 157 = .ok (.goto (-12), 3) := by decide +kernel
theorem dX6_tick_160 : decode cX6_tick 160 = .ok (.iconst 0, 1) := by decide +kernel
theorem dX6_tick_161 : decode cX6_tick 161 = .ok (.istore_n 2, 1) := by decide +kernel
theorem dX6_tick_162 : decode cX6_tick 162 = .ok (.iload_n 2, 1) := by decide +kernel
theorem dX6_tick_163 : decode cX6_tick 163 = .ok (.aload_n 0, 1) := by decide +kernel
theorem dX6_tick_164 : decode cX6_tick 164 = .ok (.getfield 17, 3) := by decide +kernel
theorem dX6_tick_167 : decode cX6_tick 167 = .ok (.iconst 1, 1) := by decide +kernel
theorem dX6_tick_168 : decode cX6_tick 168 = .ok (.iaload, 1) := by decide +kernel
theorem dX6_tick_169 : decode cX6_tick 169 = .ok (.if_icmp .ge 41, 3) := by decide +kernel
theorem dX6_tick_172 : decode cX6_tick 172 = .ok (.aload_n 0, 1) := by decide +kernel
theorem dX6_tick_173 : decode cX6_tick 173 = .ok (.iconst 0, 1) := by decide +kernel
theorem dX6_tick_174 : decode cX6_tick 174 = .ok (.invokevirtual 178, 3) := by decide +kernel
theorem dX6_tick_177 : decode cX6_tick 177 = .ok (.iconst (-1), 1) := by decide +kernel
theorem dX6_tick_178 : decode cX6_tick 178 = .ok (.if_icmp .ne 32, 3) := by decide +kernel
theorem dX6_tick_181 : decode cX6_tick 181 = .ok (.aload_n 0, 1) := by decide +kernel
theorem dX6_tick_182 : decode cX6_tick 182 = .ok (.iload_n 2, 1) := by decide +kernel
theorem dX6_tick_183 : decode cX6_tick 183 = .ok (.invokevirtual 208, 3) := by decide +kernel
theorem dX6_tick_186 : decode cX6_tick 186 = .ok (.ifCond .eq 6, 3) := by decide +kernel
theorem dX6_tick_189 : decode cX6_tick 189 = .ok (.goto 15, 3) := by decide +kernel
theorem dX6_tick_192 : decode cX6_tick 192 = .ok (.aload_n 0, 1) := by decide +kernel
theorem dX6_tick_193 : decode cX6_tick 193 = .ok (.iconst 0, 1) := by decide +kernel
theorem dX6_tick_194 : decode cX6_tick 194 = .ok (.iload_n 2, 1) := by decide +kernel
theorem dX6_tick_195 : decode cX6_tick 195 = .ok (.invokevirtual 197, 3) := by decide +kernel
theorem dX6_tick_198 : decode cX6_tick 198 = .ok (.aload_n 0, 1) := by decide +kernel
theorem dX6_tick_199 : decode cX6_tick 199 = .ok (.iload_n 2, 1) := by decide +kernel
theorem dX6_tick_200 : decode cX6_tick 200 = .ok (.iconst 1, 1) := by decide +kernel
theorem dX6_tick_201 : decode cX6_tick 201 = .ok (.invokevirtual 194, 3) := by decide +kernel
theorem dX6_tick_204 : decode cX6_tick 204 = .ok (.iinc 2 1, 3) := by decide +kernel
theorem dX6_tick_207 : decode cX6_tick 207 = .ok (.goto (-45), 3) := by decide +kernel
theorem dX6_tick_210 : decode cX6_tick 210 = .ok (.aload_n 0, 1) := by decide +kernel
theorem dX6_tick_211 : decode cX6_tick 211 = .ok (.getfield 17, 3) := by decide +kernel
theorem dX6_tick_214 : decode cX6_tick 214 = .ok (.iconst 2, 1) := by decide +kernel
theorem dX6_tick_215 : decode cX6_tick 215 = .ok (.dup2, 1) := by decide +kernel
theorem dX6_tick_216 : decode cX6_tick 216 = .ok (.iaload, 1) := by decide +kernel
theorem dX6_tick_217 : decode cX6_tick 217 = .ok (.iconst 1, 1) := by decide +kernel
theorem dX6_tick_218 : decode cX6_tick 218 = .ok (.iadd, 1) := by decide +kernel
theorem dX6_tick_219 : decode cX6_tick 219 = .ok (.iastore, 1) := by decide +kernel
theorem dX6_tick_220 : decode cX6_tick 220 = .ok (.return_, 1) := by decide +kernel
theorem dX6_countOf_0 : decode cX6_countOf 0 = .ok (.iconst 0, 1) := by decide +kernel
theorem dX6_countOf_1 : decode cX6_countOf 1 = .ok (.istore_n 2, 1) := by decide +kernel
theorem dX6_countOf_2 : decode cX6_countOf 2 = .ok (.iconst 0, 1) := by decide +kernel
theorem dX6_countOf_3 : decode cX6_countOf 3 = .ok (.istore_n 3, 1) := by decide +kernel
theorem dX6_countOf_4 : decode cX6_countOf 4 = .ok (.iload_n 3, 1) := by decide +kernel
theorem dX6_countOf_5 : decode cX6_countOf 5 = .ok (.aload_n 0, 1) := by decide +kernel
theorem dX6_countOf_6 : decode cX6_countOf 6 = .ok (.getfield 17, 3) := by decide +kernel
theorem dX6_countOf_9 : decode cX6_countOf 9 = .ok (.iconst 1, 1) := by decide +kernel
theorem dX6_countOf_10 : decode cX6_countOf 10 = .ok (.iaload, 1) := by decide +kernel
theorem dX6_countOf_11 : decode cX6_countOf 11 = .ok (.if_icmp .ge 26, 3) := by decide +kernel
theorem dX6_countOf_14 : decode cX6_countOf 14 = .ok (.iload_n 2, 1) := by decide +kernel
theorem dX6_countOf_15 : decode cX6_countOf 15 = .ok (.aload_n 0, 1) := by decide +kernel
theorem dX6_countOf_16 : decode cX6_countOf 16 = .ok (.iload_n 3, 1) := by decide +kernel
theorem dX6_countOf_17 : decode cX6_countOf 17 = .ok (.invokevirtual 208, 3) := by decide +kernel
theorem dX6_countOf_20 : decode cX6_countOf 20 = .ok (.iload_n 1, 1) := by decide +kernel
theorem dX6_countOf_21 : decode cX6_countOf 21 = .ok (.if_icmp .ne 7, 3) := by decide +kernel
theorem dX6_countOf_24 : decode cX6_countOf 24 = .ok (.iconst 1, 1) := by decide +kernel
theorem dX6_countOf_25 : decode cX6_countOf 25 = .ok (.goto 4, 3) := by decide +kernel
theorem dX6_countOf_28 : decode cX6_countOf 28 = .ok (.iconst 0, 1) := by decide +kernel
theorem dX6_countOf_29 : decode cX6_countOf 29 = .ok (.iadd, 1) := by decide +kernel
theorem dX6_countOf_30 : decode cX6_countOf 30 = .ok (.istore_n 2, 1) := by decide +kernel
theorem dX6_countOf_31 : decode cX6_countOf 31 = .ok (.iinc 3 1, 3) := by decide +kernel
theorem dX6_countOf_34 : decode cX6_countOf 34 = .ok (.goto (-30), 3) := by decide +kernel
theorem dX6_countOf_37 : decode cX6_countOf 37 = .ok (.iload_n 2, 1) := by decide +kernel
theorem dX6_countOf_38 : decode cX6_countOf 38 = .ok (.ireturn, 1) := by decide +kernel
theorem dX6_isFinished_0 : decode cX6_isFinished 0 = .ok (.aload_n 0, 1) := by decide +kernel
theorem dX6_isFinished_1 : decode cX6_isFinished 1 = .ok (.iconst 0, 1) := by decide +kernel
theorem dX6_isFinished_2 : decode cX6_isFinished 2 = .ok (.invokevirtual 211, 3) := by decide +kernel
theorem dX6_isFinished_5 : decode cX6_isFinished 5 = .ok (.aload_n 0, 1) := by decide +kernel
theorem dX6_isFinished_6 : decode cX6_isFinished 6 = .ok (.iconst 1, 1) := by decide +kernel
theorem dX6_isFinished_7 : decode cX6_isFinished 7 = .ok (.invokevirtual 211, 3) := by decide +kernel
theorem dX6_isFinished_10 : decode cX6_isFinished 10 = .ok (.iadd, 1) := by decide +kernel
theorem dX6_isFinished_11 : decode cX6_isFinished 11 = .ok (.aload_n 0, 1) := by decide +kernel
theorem dX6_isFinished_12 : decode cX6_isFinished 12 = .ok (.iconst 2, 1) := by decide +kernel
theorem dX6_isFinished_13 : decode cX6_isFinished 13 = .ok (.invokevirtual 211, 3) := by decide +kernel
theorem dX6_isFinished_16 : decode cX6_isFinished 16 = .ok (.iadd, 1) := by decide +kernel
theorem dX6_isFinished_17 : decode cX6_isFinished 17 = .ok (.ifCond .ne 7, 3) := by decide +kernel
theorem dX6_isFinished_20 : decode cX6_isFinished 20 = .ok (.iconst 1, 1) := by decide +kernel
theorem dX6_isFinished_21 : decode cX6_isFinished 21 = .ok (.goto 4, 3) := by decide +kernel
theorem dX6_isFinished_24 : decode cX6_isFinished 24 = .ok (.iconst 0, 1) := by decide +kernel
theorem dX6_isFinished_25 : decode cX6_isFinished 25 = .ok (.ireturn, 1) := by decide +kernel
theorem dX6_noZone_0 : decode cX6_noZone 0 = .ok (.aload_n 0, 1) := by decide +kernel
theorem dX6_noZone_1 : decode cX6_noZone 1 = .ok (.iload_n 1, 1) := by decide +kernel
theorem dX6_noZone_2 : decode cX6_noZone 2 = .ok (.iconst 0, 1) := by decide +kernel
theorem dX6_noZone_3 : decode cX6_noZone 3 = .ok (.aload_n 0, 1) := by decide +kernel
theorem dX6_noZone_4 : decode cX6_noZone 4 = .ok (.getfield 17, 3) := by decide +kernel
theorem dX6_noZone_7 : decode cX6_noZone 7 = .ok (.iconst 0, 1) := by decide +kernel
theorem dX6_noZone_8 : decode cX6_noZone 8 = .ok (.iaload, 1) := by decide +kernel
theorem dX6_noZone_9 : decode cX6_noZone 9 = .ok (.iconst 1, 1) := by decide +kernel
theorem dX6_noZone_10 : decode cX6_noZone 10 = .ok (.isub, 1) := by decide +kernel
theorem dX6_noZone_11 : decode cX6_noZone 11 = .ok (.invokestatic 57, 3) := by decide +kernel
theorem dX6_noZone_14 : decode cX6_noZone 14 = .ok (.ifCond .ne 7, 3) := by decide +kernel
theorem dX6_noZone_17 : decode cX6_noZone 17 = .ok (.iconst 1, 1) := by decide +kernel
theorem dX6_noZone_18 : decode cX6_noZone 18 = .ok (.goto 4, 3) := by decide +kernel
theorem dX6_noZone_21 : decode cX6_noZone 21 = .ok (.iconst 0, 1) := by decide +kernel
theorem dX6_noZone_22 : decode cX6_noZone 22 = .ok (.iconst 1, 1) := by decide +kernel
theorem dX6_noZone_23 : decode cX6_noZone 23 = .ok (.invokevirtual 145, 3) := by decide +kernel
theorem dX6_noZone_26 : decode cX6_noZone 26 = .ok (.ireturn, 1) := by decide +kernel
theorem dX6_noSheet_0 : decode cX6_noSheet 0 = .ok (.aload_n 0, 1) := by decide +kernel
theorem dX6_noSheet_1 : decode cX6_noSheet 1 = .ok (.iload_n 1, 1) := by decide +kernel
theorem dX6_noSheet_2 : decode cX6_noSheet 2 = .ok (.iconst 0, 1) := by decide +kernel
theorem dX6_noSheet_3 : decode cX6_noSheet 3 = .ok (.aload_n 0, 1) := by decide +kernel
theorem dX6_noSheet_4 : decode cX6_noSheet 4 = .ok (.getfield 17, 3) := by decide +kernel
theorem dX6_noSheet_7 : decode cX6_noSheet 7 = .ok (.iconst 1, 1) := by decide +kernel
theorem dX6_noSheet_8 : decode cX6_noSheet 8 = .ok (.iaload, 1) := by decide +kernel
theorem dX6_noSheet_9 : decode cX6_noSheet 9 = .ok (.iconst 1, 1) := by decide +kernel
theorem dX6_noSheet_10 : decode cX6_noSheet 10 = .ok (.isub, 1) := by decide +kernel
theorem dX6_noSheet_11 : decode cX6_noSheet 11 = .ok (.invokestatic 57, 3) := by decide +kernel
theorem dX6_noSheet_14 : decode cX6_noSheet 14 = .ok (.ifCond .ne 7, 3) := by decide +kernel
theorem dX6_noSheet_17 : decode cX6_noSheet 17 = .ok (.iconst 1, 1) := by decide +kernel
theorem dX6_noSheet_18 : decode cX6_noSheet 18 = .ok (.goto 4, 3) := by decide +kernel
theorem dX6_noSheet_21 : decode cX6_noSheet 21 = .ok (.iconst 0, 1) := by decide +kernel
theorem dX6_noSheet_22 : decode cX6_noSheet 22 = .ok (.iconst 1, 1) := by decide +kernel
theorem dX6_noSheet_23 : decode cX6_noSheet 23 = .ok (.invokevirtual 145, 3) := by decide +kernel
theorem dX6_noSheet_26 : decode cX6_noSheet 26 = .ok (.ireturn, 1) := by decide +kernel
theorem dX6_noThickness_0 : decode cX6_noThickness 0 = .ok (.aload_n 0, 1) := by decide +kernel
theorem dX6_noThickness_1 : decode cX6_noThickness 1 = .ok (.iload_n 1, 1) := by decide +kernel
theorem dX6_noThickness_2 : decode cX6_noThickness 2 = .ok (.iconst 2, 1) := by decide +kernel
theorem dX6_noThickness_3 : decode cX6_noThickness 3 = .ok (.bipush 19, 2) := by decide +kernel
theorem dX6_noThickness_5 : decode cX6_noThickness 5 = .ok (.invokestatic 57, 3) := by decide +kernel
theorem dX6_noThickness_8 : decode cX6_noThickness 8 = .ok (.ifCond .ne 7, 3) := by decide +kernel
theorem dX6_noThickness_11 : decode cX6_noThickness 11 = .ok (.iconst 1, 1) := by decide +kernel
theorem dX6_noThickness_12 : decode cX6_noThickness 12 = .ok (.goto 4, 3) := by decide +kernel
theorem dX6_noThickness_15 : decode cX6_noThickness 15 = .ok (.iconst 0, 1) := by decide +kernel
theorem dX6_noThickness_16 : decode cX6_noThickness 16 = .ok (.iconst 1, 1) := by decide +kernel
theorem dX6_noThickness_17 : decode cX6_noThickness 17 = .ok (.invokevirtual 145, 3) := by decide +kernel
theorem dX6_noThickness_20 : decode cX6_noThickness 20 = .ok (.ireturn, 1) := by decide +kernel
theorem dX6_isEmpty_0 : decode cX6_isEmpty 0 = .ok (.aload_n 0, 1) := by decide +kernel
theorem dX6_isEmpty_1 : decode cX6_isEmpty 1 = .ok (.getfield 17, 3) := by decide +kernel
theorem dX6_isEmpty_4 : decode cX6_isEmpty 4 = .ok (.iconst 0, 1) := by decide +kernel
theorem dX6_isEmpty_5 : decode cX6_isEmpty 5 = .ok (.iaload, 1) := by decide +kernel
theorem dX6_isEmpty_6 : decode cX6_isEmpty 6 = .ok (.ifCond .ne 7, 3) := by decide +kernel
theorem dX6_isEmpty_9 : decode cX6_isEmpty 9 = .ok (.iconst 1, 1) := by decide +kernel
theorem dX6_isEmpty_10 : decode cX6_isEmpty 10 = .ok (.goto 4, 3) := by decide +kernel
theorem dX6_isEmpty_13 : decode cX6_isEmpty 13 = .ok (.iconst 0, 1) := by decide +kernel
theorem dX6_isEmpty_14 : decode cX6_isEmpty 14 = .ok (.ireturn, 1) := by decide +kernel
theorem dX6_zoneCount_0 : decode cX6_zoneCount 0 = .ok (.aload_n 0, 1) := by decide +kernel
theorem dX6_zoneCount_1 : decode cX6_zoneCount 1 = .ok (.iconst 0, 1) := by decide +kernel
theorem dX6_zoneCount_2 : decode cX6_zoneCount 2 = .ok (.putfield 35, 3) := by decide +kernel
theorem dX6_zoneCount_5 : decode cX6_zoneCount 5 = .ok (.aload_n 0, 1) := by decide +kernel
theorem dX6_zoneCount_6 : decode cX6_zoneCount 6 = .ok (.getfield 17, 3) := by decide +kernel
theorem dX6_zoneCount_9 : decode cX6_zoneCount 9 = .ok (.iconst 0, 1) := by decide +kernel
theorem dX6_zoneCount_10 : decode cX6_zoneCount 10 = .ok (.iaload, 1) := by decide +kernel
theorem dX6_zoneCount_11 : decode cX6_zoneCount 11 = .ok (.ireturn, 1) := by decide +kernel
theorem dX6_sheetCount_0 : decode cX6_sheetCount 0 = .ok (.aload_n 0, 1) := by decide +kernel
theorem dX6_sheetCount_1 : decode cX6_sheetCount 1 = .ok (.iconst 0, 1) := by decide +kernel
theorem dX6_sheetCount_2 : decode cX6_sheetCount 2 = .ok (.putfield 35, 3) := by decide +kernel
theorem dX6_sheetCount_5 : decode cX6_sheetCount 5 = .ok (.aload_n 0, 1) := by decide +kernel
theorem dX6_sheetCount_6 : decode cX6_sheetCount 6 = .ok (.getfield 17, 3) := by decide +kernel
theorem dX6_sheetCount_9 : decode cX6_sheetCount 9 = .ok (.iconst 1, 1) := by decide +kernel
theorem dX6_sheetCount_10 : decode cX6_sheetCount 10 = .ok (.iaload, 1) := by decide +kernel
theorem dX6_sheetCount_11 : decode cX6_sheetCount 11 = .ok (.ireturn, 1) := by decide +kernel
theorem dX6_clock_0 : decode cX6_clock 0 = .ok (.aload_n 0, 1) := by decide +kernel
theorem dX6_clock_1 : decode cX6_clock 1 = .ok (.iconst 0, 1) := by decide +kernel
theorem dX6_clock_2 : decode cX6_clock 2 = .ok (.putfield 35, 3) := by decide +kernel
theorem dX6_clock_5 : decode cX6_clock 5 = .ok (.aload_n 0, 1) := by decide +kernel
theorem dX6_clock_6 : decode cX6_clock 6 = .ok (.getfield 17, 3) := by decide +kernel
theorem dX6_clock_9 : decode cX6_clock 9 = .ok (.iconst 2, 1) := by decide +kernel
theorem dX6_clock_10 : decode cX6_clock 10 = .ok (.iaload, 1) := by decide +kernel
theorem dX6_clock_11 : decode cX6_clock 11 = .ok (.ireturn, 1) := by decide +kernel
theorem dX6_zone_0 : decode cX6_zone 0 = .ok (.aload_n 0, 1) := by decide +kernel
theorem dX6_zone_1 : decode cX6_zone 1 = .ok (.iconst 0, 1) := by decide +kernel
theorem dX6_zone_2 : decode cX6_zone 2 = .ok (.putfield 35, 3) := by decide +kernel
theorem dX6_zone_5 : decode cX6_zone 5 = .ok (.aload_n 0, 1) := by decide +kernel
theorem dX6_zone_6 : decode cX6_zone 6 = .ok (.iload_n 1, 1) := by decide +kernel
theorem dX6_zone_7 : decode cX6_zone 7 = .ok (.invokevirtual 214, 3) := by decide +kernel
theorem dX6_zone_10 : decode cX6_zone 10 = .ok (.ifCond .ne 26, 3) := by decide +kernel
theorem dX6_zone_13 : decode cX6_zone 13 = .ok (.aload_n 0, 1) := by decide +kernel
theorem dX6_zone_14 : decode cX6_zone 14 = .ok (.iload_n 2, 1) := by decide +kernel
theorem dX6_zone_15 : decode cX6_zone 15 = .ok (.iconst 0, 1) := by decide +kernel
theorem dX6_zone_16 : decode cX6_zone 16 = .ok (.bipush 6, 2) := by decide +kernel
theorem dX6_zone_18 : decode cX6_zone 18 = .ok (.invokestatic 57, 3) := by decide +kernel
theorem dX6_zone_21 : decode cX6_zone 21 = .ok (.ifCond .ne 7, 3) := by decide +kernel
theorem dX6_zone_24 : decode cX6_zone 24 = .ok (.iconst 1, 1) := by decide +kernel
theorem dX6_zone_25 : decode cX6_zone 25 = .ok (.goto 4, 3) := by decide +kernel
theorem dX6_zone_28 : decode cX6_zone 28 = .ok (.iconst 0, 1) := by decide +kernel
theorem dX6_zone_29 : decode cX6_zone 29 = .ok (.iconst 2, 1) := by decide +kernel
theorem dX6_zone_30 : decode cX6_zone 30 = .ok (.invokevirtual 145, 3) := by decide +kernel
theorem dX6_zone_33 : decode cX6_zone 33 = .ok (.ifCond .eq 5, 3) := by decide +kernel
theorem dX6_zone_36 : decode cX6_zone 36 = .ok (.iconst 0, 1) := by decide +kernel
theorem dX6_zone_37 : decode cX6_zone 37 = .ok (.ireturn, 1) := by decide +kernel
theorem dX6_zone_38 : decode cX6_zone 38 = .ok (.iload_n 2, 1) := by decide +kernel
theorem dX6_zone_39 : decode cX6_zone 39 = .ok (.bipush 6, 2) := by decide +kernel
theorem dX6_zone_41 : decode cX6_zone 41 = .ok (.if_icmp .ne 11, 3) := by decide +kernel
theorem dX6_zone_44 : decode cX6_zone 44 = .ok (.aload_n 0, 1) := by decide +kernel
theorem dX6_zone_45 : decode cX6_zone 45 = .ok (.iload_n 1, 1) := by decide +kernel
theorem dX6_zone_46 : decode cX6_zone 46 = .ok (.invokevirtual 178, 3) := by decide +kernel
theorem dX6_zone_49 : decode cX6_zone 49 = .ok (.goto 14, 3) := by decide +kernel
theorem dX6_zone_52 : decode cX6_zone 52 = .ok (.aload_n 0, 1) := by decide +kernel
theorem dX6_zone_53 : decode cX6_zone 53 = .ok (.getfield 17, 3) := by decide +kernel
theorem dX6_zone_56 : decode cX6_zone 56 = .ok (.iload_n 1, 1) := by decide +kernel
theorem dX6_zone_57 : decode cX6_zone 57 = .ok (.invokestatic 126, 3) := by decide +kernel
theorem dX6_zone_60 : decode cX6_zone 60 = .ok (.iload_n 2, 1) := by decide +kernel
theorem dX6_zone_61 : decode cX6_zone 61 = .ok (.iadd, 1) := by decide +kernel
theorem dX6_zone_62 : decode cX6_zone 62 = .ok (.iaload, 1) := by decide +kernel
theorem dX6_zone_63 : decode cX6_zone 63 = .ok (.ireturn, 1) := by decide +kernel
theorem dX6_thickness_0 : decode cX6_thickness 0 = .ok (.aload_n 0, 1) := by decide +kernel
theorem dX6_thickness_1 : decode cX6_thickness 1 = .ok (.iconst 0, 1) := by decide +kernel
theorem dX6_thickness_2 : decode cX6_thickness 2 = .ok (.putfield 35, 3) := by decide +kernel
theorem dX6_thickness_5 : decode cX6_thickness 5 = .ok (.aload_n 0, 1) := by decide +kernel
theorem dX6_thickness_6 : decode cX6_thickness 6 = .ok (.iload_n 1, 1) := by decide +kernel
theorem dX6_thickness_7 : decode cX6_thickness 7 = .ok (.invokevirtual 217, 3) := by decide +kernel
theorem dX6_thickness_10 : decode cX6_thickness 10 = .ok (.ifCond .eq 7, 3) := by decide +kernel
theorem dX6_thickness_13 : decode cX6_thickness 13 = .ok (.iconst 0, 1) := by decide +kernel
theorem dX6_thickness_14 : decode cX6_thickness 14 = .ok (.goto 8, 3) := by decide +kernel
theorem dX6_thickness_17 : decode cX6_thickness 17 = .ok (.aload_n 0, 1) := by decide +kernel
theorem dX6_thickness_18 : decode cX6_thickness 18 = .ok (.iload_n 1, 1) := by decide +kernel
theorem dX6_thickness_19 : decode cX6_thickness 19 = .ok (.invokevirtual 184, 3) := by decide +kernel
theorem dX6_thickness_22 : decode cX6_thickness 22 = .ok (.ireturn, 1) := by decide +kernel
theorem dX6_temperature_0 : decode cX6_temperature 0 = .ok (.aload_n 0, 1) := by decide +kernel
theorem dX6_temperature_1 : decode cX6_temperature 1 = .ok (.iconst 0, 1) := by decide +kernel
theorem dX6_temperature_2 : decode cX6_temperature 2 = .ok (.putfield 35, 3) := by decide +kernel
theorem dX6_temperature_5 : decode cX6_temperature 5 = .ok (.aload_n 0, 1) := by decide +kernel
theorem dX6_temperature_6 : decode cX6_temperature 6 = .ok (.iload_n 1, 1) := by decide +kernel
theorem dX6_temperature_7 : decode cX6_temperature 7 = .ok (.invokevirtual 217, 3) := by decide +kernel
theorem dX6_temperature_10 : decode cX6_temperature 10 = .ok (.ifCond .eq 7, 3) := by decide +kernel
theorem dX6_temperature_13 : decode cX6_temperature 13 = .ok (.iconst 0, 1) := by decide +kernel
theorem dX6_temperature_14 : decode cX6_temperature 14 = .ok (.goto 8, 3) := by decide +kernel
theorem dX6_temperature_17 : decode cX6_temperature 17 = .ok (.aload_n 0, 1) := by decide +kernel
theorem dX6_temperature_18 : decode cX6_temperature 18 = .ok (.iload_n 1, 1) := by decide +kernel
theorem dX6_temperature_19 : decode cX6_temperature 19 = .ok (.invokevirtual 181, 3) := by decide +kernel
theorem dX6_temperature_22 : decode cX6_temperature 22 = .ok (.ireturn, 1) := by decide +kernel
theorem dX6_state_0 : decode cX6_state 0 = .ok (.aload_n 0, 1) := by decide +kernel
theorem dX6_state_1 : decode cX6_state 1 = .ok (.iconst 0, 1) := by decide +kernel
theorem dX6_state_2 : decode cX6_state 2 = .ok (.putfield 35, 3) := by decide +kernel
theorem dX6_state_5 : decode cX6_state 5 = .ok (.aload_n 0, 1) := by decide +kernel
theorem dX6_state_6 : decode cX6_state 6 = .ok (.iload_n 1, 1) := by decide +kernel
theorem dX6_state_7 : decode cX6_state 7 = .ok (.invokevirtual 217, 3) := by decide +kernel
theorem dX6_state_10 : decode cX6_state 10 = .ok (.ifCond .eq 7, 3) := by decide +kernel
theorem dX6_state_13 : decode cX6_state 13 = .ok (.iconst 0, 1) := by decide +kernel
theorem dX6_state_14 : decode cX6_state 14 = .ok (.goto 8, 3) := by decide +kernel
theorem dX6_state_17 : decode cX6_state 17 = .ok (.aload_n 0, 1) := by decide +kernel
theorem dX6_state_18 : decode cX6_state 18 = .ok (.iload_n 1, 1) := by decide +kernel
theorem dX6_state_19 : decode cX6_state 19 = .ok (.invokevirtual 208, 3) := by decide +kernel
theorem dX6_state_22 : decode cX6_state 22 = .ok (.ireturn, 1) := by decide +kernel
theorem dX6_quenched_0 : decode cX6_quenched 0 = .ok (.aload_n 0, 1) := by decide +kernel
theorem dX6_quenched_1 : decode cX6_quenched 1 = .ok (.iconst 0, 1) := by decide +kernel
theorem dX6_quenched_2 : decode cX6_quenched 2 = .ok (.putfield 35, 3) := by decide +kernel
theorem dX6_quenched_5 : decode cX6_quenched 5 = .ok (.aload_n 0, 1) := by decide +kernel
theorem dX6_quenched_6 : decode cX6_quenched 6 = .ok (.getfield 17, 3) := by decide +kernel
theorem dX6_quenched_9 : decode cX6_quenched 9 = .ok (.iconst 5, 1) := by decide +kernel
theorem dX6_quenched_10 : decode cX6_quenched 10 = .ok (.iaload, 1) := by decide +kernel
theorem dX6_quenched_11 : decode cX6_quenched 11 = .ok (.iconst 1, 1) := by decide +kernel
theorem dX6_quenched_12 : decode cX6_quenched 12 = .ok (.isub, 1) := by decide +kernel
theorem dX6_quenched_13 : decode cX6_quenched 13 = .ok (.ireturn, 1) := by decide +kernel
theorem dX6_leftNow_0 : decode cX6_leftNow 0 = .ok (.aload_n 0, 1) := by decide +kernel
theorem dX6_leftNow_1 : decode cX6_leftNow 1 = .ok (.getfield 17, 3) := by decide +kernel
theorem dX6_leftNow_4 : decode cX6_leftNow 4 = .ok (.iconst 5, 1) := by decide +kernel
theorem dX6_leftNow_5 : decode cX6_leftNow 5 = .ok (.iaload, 1) := by decide +kernel
theorem dX6_leftNow_6 : decode cX6_leftNow 6 = .ok (.ifCond .ne 7, 3) := by decide +kernel
theorem dX6_leftNow_9 : decode cX6_leftNow 9 = .ok (.iconst 0, 1) := by decide +kernel
theorem dX6_leftNow_10 : decode cX6_leftNow 10 = .ok (.goto 10, 3) := by decide +kernel
theorem dX6_leftNow_13 : decode cX6_leftNow 13 = .ok (.aload_n 0, 1) := by decide +kernel
theorem dX6_leftNow_14 : decode cX6_leftNow 14 = .ok (.getfield 17, 3) := by decide +kernel
theorem dX6_leftNow_17 : decode cX6_leftNow 17 = .ok (.bipush 6, 2) := by decide +kernel
theorem dX6_leftNow_19 : decode cX6_leftNow 19 = .ok (.iaload, 1) := by decide +kernel
theorem dX6_leftNow_20 : decode cX6_leftNow 20 = .ok (.ireturn, 1) := by decide +kernel
theorem dX6_quenchLeft_0 : decode cX6_quenchLeft 0 = .ok (.aload_n 0, 1) := by decide +kernel
theorem dX6_quenchLeft_1 : decode cX6_quenchLeft 1 = .ok (.iconst 0, 1) := by decide +kernel
theorem dX6_quenchLeft_2 : decode cX6_quenchLeft 2 = .ok (.putfield 35, 3) := by decide +kernel
theorem dX6_quenchLeft_5 : decode cX6_quenchLeft 5 = .ok (.aload_n 0, 1) := by decide +kernel
theorem dX6_quenchLeft_6 : decode cX6_quenchLeft 6 = .ok (.invokevirtual 220, 3) := by decide +kernel
theorem dX6_quenchLeft_9 : decode cX6_quenchLeft 9 = .ok (.ireturn, 1) := by decide +kernel
theorem dX6_count_0 : decode cX6_count 0 = .ok (.aload_n 0, 1) := by decide +kernel
theorem dX6_count_1 : decode cX6_count 1 = .ok (.iconst 0, 1) := by decide +kernel
theorem dX6_count_2 : decode cX6_count 2 = .ok (.putfield 35, 3) := by decide +kernel
theorem dX6_count_5 : decode cX6_count 5 = .ok (.aload_n 0, 1) := by decide +kernel
theorem dX6_count_6 : decode cX6_count 6 = .ok (.iload_n 1, 1) := by decide +kernel
theorem dX6_count_7 : decode cX6_count 7 = .ok (.iconst 0, 1) := by decide +kernel
theorem dX6_count_8 : decode cX6_count 8 = .ok (.iconst 5, 1) := by decide +kernel
theorem dX6_count_9 : decode cX6_count 9 = .ok (.invokestatic 57, 3) := by decide +kernel
theorem dX6_count_12 : decode cX6_count 12 = .ok (.ifCond .ne 7, 3) := by decide +kernel
theorem dX6_count_15 : decode cX6_count 15 = .ok (.iconst 1, 1) := by decide +kernel
theorem dX6_count_16 : decode cX6_count 16 = .ok (.goto 4, 3) := by decide +kernel
theorem dX6_count_19 : decode cX6_count 19 = .ok (.iconst 0, 1) := by decide +kernel
theorem dX6_count_20 : decode cX6_count 20 = .ok (.iconst 1, 1) := by decide +kernel
theorem dX6_count_21 : decode cX6_count 21 = .ok (.invokevirtual 145, 3) := by decide +kernel
theorem dX6_count_24 : decode cX6_count 24 = .ok (.ifCond .eq 7, 3) := by decide +kernel
theorem dX6_count_27 : decode cX6_count 27 = .ok (.iconst 0, 1) := by decide +kernel
theorem dX6_count_28 : decode cX6_count 28 = .ok (.goto 8, 3) := by decide +kernel
theorem dX6_count_31 : decode cX6_count 31 = .ok (.aload_n 0, 1) := by decide +kernel
theorem dX6_count_32 : decode cX6_count 32 = .ok (.iload_n 1, 1) := by decide +kernel
theorem dX6_count_33 : decode cX6_count 33 = .ok (.invokevirtual 211, 3) := by decide +kernel
theorem dX6_count_36 : decode cX6_count 36 = .ok (.ireturn, 1) := by decide +kernel
theorem dX6_learned_0 : decode cX6_learned 0 = .ok (.aload_n 0, 1) := by decide +kernel
theorem dX6_learned_1 : decode cX6_learned 1 = .ok (.iconst 0, 1) := by decide +kernel
theorem dX6_learned_2 : decode cX6_learned 2 = .ok (.putfield 35, 3) := by decide +kernel
theorem dX6_learned_5 : decode cX6_learned 5 = .ok (.aload_n 0, 1) := by decide +kernel
theorem dX6_learned_6 : decode cX6_learned 6 = .ok (.iload_n 1, 1) := by decide +kernel
theorem dX6_learned_7 : decode cX6_learned 7 = .ok (.invokevirtual 223, 3) := by decide +kernel
theorem dX6_learned_10 : decode cX6_learned 10 = .ok (.ifCond .ne 25, 3) := by decide +kernel
theorem dX6_learned_13 : decode cX6_learned 13 = .ok (.aload_n 0, 1) := by decide +kernel
theorem dX6_learned_14 : decode cX6_learned 14 = .ok (.iload_n 2, 1) := by decide +kernel
theorem dX6_learned_15 : decode cX6_learned 15 = .ok (.iconst 0, 1) := by decide +kernel
theorem dX6_learned_16 : decode cX6_learned 16 = .ok (.iconst 5, 1) := by decide +kernel
theorem dX6_learned_17 : decode cX6_learned 17 = .ok (.invokestatic 57, 3) := by decide +kernel
theorem dX6_learned_20 : decode cX6_learned 20 = .ok (.ifCond .ne 7, 3) := by decide +kernel
theorem dX6_learned_23 : decode cX6_learned 23 = .ok (.iconst 1, 1) := by decide +kernel
theorem dX6_learned_24 : decode cX6_learned 24 = .ok (.goto 4, 3) := by decide +kernel
theorem dX6_learned_27 : decode cX6_learned 27 = .ok (.iconst 0, 1) := by decide +kernel
theorem dX6_learned_28 : decode cX6_learned 28 = .ok (.iconst 1, 1) := by decide +kernel
theorem dX6_learned_29 : decode cX6_learned 29 = .ok (.invokevirtual 145, 3) := by decide +kernel
theorem dX6_learned_32 : decode cX6_learned 32 = .ok (.ifCond .eq 5, 3) := by decide +kernel
theorem dX6_learned_35 : decode cX6_learned 35 = .ok (.iconst 0, 1) := by decide +kernel
theorem dX6_learned_36 : decode cX6_learned 36 = .ok (.ireturn, 1) := by decide +kernel
theorem dX6_learned_37 : decode cX6_learned 37 = .ok (.iload_n 1, 1) := by decide +kernel
theorem dX6_learned_38 : decode cX6_learned 38 = .ok (.invokestatic 129, 3) := by decide +kernel
theorem dX6_learned_41 : decode cX6_learned 41 = .ok (.istore_n 3, 1) := by decide +kernel
theorem dX6_learned_42 : decode cX6_learned 42 = .ok (.iload_n 2, 1) := by decide +kernel
theorem dX6_learned_43 : decode cX6_learned 43 = .ok (.iconst 3, 1) := by decide +kernel
theorem dX6_learned_44 : decode cX6_learned 44 = .ok (.if_icmp .le 19, 3) := by decide +kernel
theorem dX6_learned_47 : decode cX6_learned 47 = .ok (.aload_n 0, 1) := by decide +kernel
theorem dX6_learned_48 : decode cX6_learned 48 = .ok (.getfield 17, 3) := by decide +kernel
theorem dX6_learned_51 : decode cX6_learned 51 = .ok (.iload_n 3, 1) := by decide +kernel
theorem dX6_learned_52 : decode cX6_learned 52 = .ok (.bipush 6, 2) := by decide +kernel
theorem dX6_learned_54 : decode cX6_learned 54 = .ok (.iadd, 1) := by decide +kernel
theorem dX6_learned_55 : decode cX6_learned 55 = .ok (.iaload, 1) := by decide +kernel
theorem dX6_learned_56 : decode cX6_learned 56 = .ok (.ifCond .ne 7, 3) := by decide +kernel
theorem dX6_learned_59 : decode cX6_learned 59 = .ok (.iconst (-1), 1) := by decide +kernel
theorem dX6_learned_60 : decode cX6_learned 60 = .ok (.goto 11, 3) := by decide +kernel
theorem dX6_learned_63 : decode cX6_learned 63 = .ok (.aload_n 0, 1) := by decide +kernel
theorem dX6_learned_64 : decode cX6_learned 64 = .ok (.getfield 17, 3) := by decide +kernel
theorem dX6_learned_67 : decode cX6_learned 67 = .ok (.iload_n 3, 1) := by decide +kernel
theorem dX6_learned_68 : decode cX6_learned 68 = .ok (.iload_n 2, 1) := by decide +kernel
theorem dX6_learned_69 : decode cX6_learned 69 = .ok (.iadd, 1) := by decide +kernel
theorem dX6_learned_70 : decode cX6_learned 70 = .ok (.iaload, 1) := by decide +kernel
theorem dX6_learned_71 : decode cX6_learned 71 = .ok (.ireturn, 1) := by decide +kernel
theorem dX6_risk_0 : decode cX6_risk 0 = .ok (.aload_n 0, 1) := by decide +kernel
theorem dX6_risk_1 : decode cX6_risk 1 = .ok (.iconst 0, 1) := by decide +kernel
theorem dX6_risk_2 : decode cX6_risk 2 = .ok (.putfield 35, 3) := by decide +kernel
theorem dX6_risk_5 : decode cX6_risk 5 = .ok (.aload_n 0, 1) := by decide +kernel
theorem dX6_risk_6 : decode cX6_risk 6 = .ok (.iload_n 1, 1) := by decide +kernel
theorem dX6_risk_7 : decode cX6_risk 7 = .ok (.invokevirtual 223, 3) := by decide +kernel
theorem dX6_risk_10 : decode cX6_risk 10 = .ok (.ifCond .eq 5, 3) := by decide +kernel
theorem dX6_risk_13 : decode cX6_risk 13 = .ok (.iconst 0, 1) := by decide +kernel
theorem dX6_risk_14 : decode cX6_risk 14 = .ok (.ireturn, 1) := by decide +kernel
theorem dX6_risk_15 : decode cX6_risk 15 = .ok (.iload_n 1, 1) := by decide +kernel
theorem dX6_risk_16 : decode cX6_risk 16 = .ok (.invokestatic 129, 3) := by decide +kernel
theorem dX6_risk_19 : decode cX6_risk 19 = .ok (.istore_n 2, 1) := by decide +kernel
theorem dX6_risk_20 : decode cX6_risk 20 = .ok (.aload_n 0, 1) := by decide +kernel
theorem dX6_risk_21 : decode cX6_risk 21 = .ok (.getfield 17, 3) := by decide +kernel
theorem dX6_risk_24 : decode cX6_risk 24 = .ok (.iload_n 2, 1) := by decide +kernel
theorem dX6_risk_25 : decode cX6_risk 25 = .ok (.iconst 1, 1) := by decide +kernel
theorem dX6_risk_26 : decode cX6_risk 26 = .ok (.iadd, 1) := by decide +kernel
theorem dX6_risk_27 : decode cX6_risk 27 = .ok (.iaload, 1) := by decide +kernel
theorem dX6_risk_28 : decode cX6_risk 28 = .ok (.aload_n 0, 1) := by decide +kernel
theorem dX6_risk_29 : decode cX6_risk 29 = .ok (.getfield 17, 3) := by decide +kernel
theorem dX6_risk_32 : decode cX6_risk 32 = .ok (.iload_n 2, 1) := by decide +kernel
theorem dX6_risk_33 : decode cX6_risk 33 = .ok (.iconst 2, 1) := by decide +kernel
theorem dX6_risk_34 : decode cX6_risk 34 = .ok (.iadd, 1) := by decide +kernel
theorem dX6_risk_35 : decode cX6_risk 35 = .ok (.iaload, 1) := by decide +kernel
theorem dX6_risk_36 : decode cX6_risk 36 = .ok (.iadd, 1) := by decide +kernel
theorem dX6_risk_37 : decode cX6_risk 37 = .ok (.istore_n 3, 1) := by decide +kernel
theorem dX6_risk_38 : decode cX6_risk 38 = .ok (.iload_n 3, 1) := by decide +kernel
theorem dX6_risk_39 : decode cX6_risk 39 = .ok (.aload_n 0, 1) := by decide +kernel
theorem dX6_risk_40 : decode cX6_risk 40 = .ok (.getfield 17, 3) := by decide +kernel
theorem dX6_risk_43 : decode cX6_risk 43 = .ok (.iload_n 2, 1) := by decide +kernel
theorem dX6_risk_44 : decode cX6_risk 44 = .ok (.iaload, 1) := by decide +kernel
theorem dX6_risk_45 : decode cX6_risk 45 = .ok (.iadd, 1) := by decide +kernel
theorem dX6_risk_46 : decode cX6_risk 46 = .ok (.istore 4, 2) := by decide +kernel
theorem dX6_risk_48 : decode cX6_risk 48 = .ok (.iload 4, 2) := by decide +kernel
theorem dX6_risk_50 : decode cX6_risk 50 = .ok (.ifCond .ne 7, 3) := by decide +kernel
theorem dX6_risk_53 : decode cX6_risk 53 = .ok (.iconst (-1), 1) := by decide +kernel
theorem dX6_risk_54 : decode cX6_risk 54 = .ok (.goto 11, 3) := by decide +kernel
theorem dX6_risk_57 : decode cX6_risk 57 = .ok (.sipush 1000, 3) := by decide +kernel
theorem dX6_risk_60 : decode cX6_risk 60 = .ok (.iload_n 3, 1) := by decide +kernel
theorem dX6_risk_61 : decode cX6_risk 61 = .ok (.imul, 1) := by decide +kernel
theorem dX6_risk_62 : decode cX6_risk 62 = .ok (.iload 4, 2) := by decide +kernel
theorem dX6_risk_64 : decode cX6_risk 64 = .ok (.idiv, 1) := by decide +kernel
theorem dX6_risk_65 : decode cX6_risk 65 = .ok (.ireturn, 1) := by decide +kernel
theorem dX6_noMeasures_0 : decode cX6_noMeasures 0 = .ok (.aload_n 0, 1) := by decide +kernel
theorem dX6_noMeasures_1 : decode cX6_noMeasures 1 = .ok (.iload_n 1, 1) := by decide +kernel
theorem dX6_noMeasures_2 : decode cX6_noMeasures 2 = .ok (.iconst 1, 1) := by decide +kernel
theorem dX6_noMeasures_3 : decode cX6_noMeasures 3 = .ok (.sipush 9999, 3) := by decide +kernel
theorem dX6_noMeasures_6 : decode cX6_noMeasures 6 = .ok (.invokestatic 57, 3) := by decide +kernel
theorem dX6_noMeasures_9 : decode cX6_noMeasures 9 = .ok (.ifCond .eq 14, 3) := by decide +kernel
theorem dX6_noMeasures_12 : decode cX6_noMeasures 12 = .ok (.iload_n 2, 1) := by decide +kernel
theorem dX6_noMeasures_13 : decode cX6_noMeasures 13 = .ok (.iconst 1, 1) := by decide +kernel
theorem dX6_noMeasures_14 : decode cX6_noMeasures 14 = .ok (.sipush 9999, 3) := by decide +kernel
theorem dX6_noMeasures_17 : decode cX6_noMeasures 17 = .ok (.invokestatic 57, 3) := by decide +kernel
theorem dX6_noMeasures_20 : decode cX6_noMeasures 20 = .ok (.ifCond .ne 7, 3) := by decide +kernel
theorem dX6_noMeasures_23 : decode cX6_noMeasures 23 = .ok (.iconst 1, 1) := by decide +kernel
theorem dX6_noMeasures_24 : decode cX6_noMeasures 24 = .ok (.goto 4, 3) := by decide +kernel
theorem dX6_noMeasures_27 : decode cX6_noMeasures 27 = .ok (.iconst 0, 1) := by decide +kernel
theorem dX6_noMeasures_28 : decode cX6_noMeasures 28 = .ok (.iconst 1, 1) := by decide +kernel
theorem dX6_noMeasures_29 : decode cX6_noMeasures 29 = .ok (.invokevirtual 145, 3) := by decide +kernel
theorem dX6_noMeasures_32 : decode cX6_noMeasures 32 = .ok (.ireturn, 1) := by decide +kernel
theorem dX6_recognised_0 : decode cX6_recognised 0 = .ok (.bipush 40, 2) := by decide +kernel
theorem dX6_recognised_2 : decode cX6_recognised 2 = .ok (.iload_n 0, 1) := by decide +kernel
theorem dX6_recognised_3 : decode cX6_recognised 3 = .ok (.imul, 1) := by decide +kernel
theorem dX6_recognised_4 : decode cX6_recognised 4 = .ok (.iload_n 1, 1) := by decide +kernel
theorem dX6_recognised_5 : decode cX6_recognised 5 = .ok (.iconst 2, 1) := by decide +kernel
theorem dX6_recognised_6 : decode cX6_recognised 6 = .ok (.idiv, 1) := by decide +kernel
theorem dX6_recognised_7 : decode cX6_recognised 7 = .ok (.iadd, 1) := by decide +kernel
theorem dX6_recognised_8 : decode cX6_recognised 8 = .ok (.iload_n 1, 1) := by decide +kernel
theorem dX6_recognised_9 : decode cX6_recognised 9 = .ok (.idiv, 1) := by decide +kernel
theorem dX6_recognised_10 : decode cX6_recognised 10 = .ok (.istore_n 2, 1) := by decide +kernel
theorem dX6_recognised_11 : decode cX6_recognised 11 = .ok (.iload_n 2, 1) := by decide +kernel
theorem dX6_recognised_12 : decode cX6_recognised 12 = .ok (.iconst 2, 1) := by decide +kernel
theorem dX6_recognised_13 : decode cX6_recognised 13 = .ok (.bipush 19, 2) := by decide +kernel
theorem dX6_recognised_15 : decode cX6_recognised 15 = .ok (.invokestatic 57, 3) := by decide +kernel
theorem dX6_recognised_18 : decode cX6_recognised 18 = .ok (.ifCond .eq 7, 3) := by decide +kernel
theorem dX6_recognised_21 : decode cX6_recognised 21 = .ok (.iload_n 2, 1) := by decide +kernel
theorem dX6_recognised_22 : decode cX6_recognised 22 = .ok (.goto 4, 3) := by decide +kernel
theorem dX6_recognised_25 : decode cX6_recognised 25 = .ok (.iconst (-1), 1) := by decide +kernel
theorem dX6_recognised_26 : decode cX6_recognised 26 = .ok (.ireturn, 1) := by decide +kernel
theorem dX6_recognise_0 : decode cX6_recognise 0 = .ok (.aload_n 0, 1) := by decide +kernel
theorem dX6_recognise_1 : decode cX6_recognise 1 = .ok (.iconst 0, 1) := by decide +kernel
theorem dX6_recognise_2 : decode cX6_recognise 2 = .ok (.putfield 35, 3) := by decide +kernel
theorem dX6_recognise_5 : decode cX6_recognise 5 = .ok (.aload_n 0, 1) := by decide +kernel
theorem dX6_recognise_6 : decode cX6_recognise 6 = .ok (.iload_n 1, 1) := by decide +kernel
theorem dX6_recognise_7 : decode cX6_recognise 7 = .ok (.iload_n 2, 1) := by decide +kernel
theorem dX6_recognise_8 : decode cX6_recognise 8 = .ok (.invokevirtual 226, 3) := by decide +kernel
theorem dX6_recognise_11 : decode cX6_recognise 11 = .ok (.ifCond .eq 7, 3) := by decide +kernel
theorem dX6_recognise_14 : decode cX6_recognise 14 = .ok (.iconst 0, 1) := by decide +kernel
theorem dX6_recognise_15 : decode cX6_recognise 15 = .ok (.goto 8, 3) := by decide +kernel
theorem dX6_recognise_18 : decode cX6_recognise 18 = .ok (.iload_n 1, 1) := by decide +kernel
theorem dX6_recognise_19 : decode cX6_recognise 19 = .ok (.iload_n 2, 1) := by decide +kernel
theorem dX6_recognise_20 : decode cX6_recognise 20 = .ok (.invokestatic 230, 3) := by decide +kernel
theorem dX6_recognise_23 : decode cX6_recognise 23 = .ok (.ireturn, 1) := by decide +kernel
theorem dX6_guard_0 : decode cX6_guard 0 = .ok (.aload_n 0, 1) := by decide +kernel
theorem dX6_guard_1 : decode cX6_guard 1 = .ok (.iconst 0, 1) := by decide +kernel
theorem dX6_guard_2 : decode cX6_guard 2 = .ok (.putfield 35, 3) := by decide +kernel
theorem dX6_guard_5 : decode cX6_guard 5 = .ok (.aload_n 0, 1) := by decide +kernel
theorem dX6_guard_6 : decode cX6_guard 6 = .ok (.iload_n 1, 1) := by decide +kernel
theorem dX6_guard_7 : decode cX6_guard 7 = .ok (.invokevirtual 223, 3) := by decide +kernel
theorem dX6_guard_10 : decode cX6_guard 10 = .ok (.ifCond .eq 5, 3) := by decide +kernel
theorem dX6_guard_13 : decode cX6_guard 13 = .ok (.iconst 0, 1) := by decide +kernel
theorem dX6_guard_14 : decode cX6_guard 14 = .ok (.ireturn, 1) := by decide +kernel
theorem dX6_guard_15 : decode cX6_guard 15 = .ok (.aload_n 0, 1) := by decide +kernel
theorem dX6_guard_16 : decode cX6_guard 16 = .ok (.invokevirtual 233, 3) := by decide +kernel
theorem dX6_guard_19 : decode cX6_guard 19 = .ok (.ifCond .eq 5, 3) := by decide +kernel
theorem dX6_guard_22 : decode cX6_guard 22 = .ok (.iconst (-1), 1) := by decide +kernel
theorem dX6_guard_23 : decode cX6_guard 23 = .ok (.ireturn, 1) := by decide +kernel
theorem dX6_guard_24 : decode cX6_guard 24 = .ok (.aload_n 0, 1) := by decide +kernel
theorem dX6_guard_25 : decode cX6_guard 25 = .ok (.getfield 17, 3) := by decide +kernel
theorem dX6_guard_28 : decode cX6_guard 28 = .ok (.aload_n 0, 1) := by decide +kernel
theorem dX6_guard_29 : decode cX6_guard 29 = .ok (.getfield 23, 3) := by decide +kernel
theorem dX6_guard_32 : decode cX6_guard 32 = .ok (.invokestatic 157, 3) := by decide +kernel
theorem dX6_guard_35 : decode cX6_guard 35 = .ok (.iconst 0, 1) := by decide +kernel
theorem dX6_guard_36 : decode cX6_guard 36 = .ok (.istore_n 2, 1) := by decide +kernel
theorem dX6_guard_37 : decode cX6_guard 37 = .ok (.iload_n 2, 1) := by decide +kernel
theorem dX6_guard_38 : decode cX6_guard 38 = .ok (.aload_n 0, 1) := by decide +kernel
theorem dX6_guard_39 : decode cX6_guard 39 = .ok (.getfield 17, 3) := by decide +kernel
theorem dX6_guard_42 : decode cX6_guard 42 = .ok (.iconst 0, 1) := by decide +kernel
theorem dX6_guard_43 : decode cX6_guard 43 = .ok (.iaload, 1) := by decide +kernel
theorem dX6_guard_44 : decode cX6_guard 44 = .ok (.if_icmp .ge 35, 3) := by decide +kernel
theorem dX6_guard_47 : decode cX6_guard 47 = .ok (.aload_n 0, 1) := by decide +kernel
theorem dX6_guard_48 : decode cX6_guard 48 = .ok (.getfield 17, 3) := by decide +kernel
theorem dX6_guard_51 : decode cX6_guard 51 = .ok (.iload_n 2, 1) := by decide +kernel
theorem dX6_guard_52 : decode cX6_guard 52 = .ok (.invokestatic 126, 3) := by decide +kernel
theorem dX6_guard_55 : decode cX6_guard 55 = .ok (.iconst 5, 1) := by decide +kernel
theorem dX6_guard_56 : decode cX6_guard 56 = .ok (.iadd, 1) := by decide +kernel
theorem dX6_guard_57 : decode cX6_guard 57 = .ok (.aload_n 0, 1) := by decide +kernel
theorem dX6_guard_58 : decode cX6_guard 58 = .ok (.getfield 17, 3) := by decide +kernel
theorem dX6_guard_61 : decode cX6_guard 61 = .ok (.iload_n 2, 1) := by decide +kernel
theorem dX6_guard_62 : decode cX6_guard 62 = .ok (.invokestatic 126, 3) := by decide +kernel
theorem dX6_guard_65 : decode cX6_guard 65 = .ok (.iaload, 1) := by decide +kernel
theorem dX6_guard_66 : decode cX6_guard 66 = .ok (.iastore, 1) := by decide +kernel
theorem dX6_guard_67 : decode cX6_guard 67 = .ok (.aload_n 0, 1) := by decide +kernel
theorem dX6_guard_68 : decode cX6_guard 68 = .ok (.iload_n 2, 1) := by decide +kernel
theorem dX6_guard_69 : decode cX6_guard 69 = .ok (.iconst (-1), 1) := by decide +kernel
theorem dX6_guard_70 : decode cX6_guard 70 = .ok (.invokevirtual 197, 3) := by decide +kernel
theorem dX6_guard_73 : decode cX6_guard 73 = .ok (.iinc 2 1, 3) := by decide +kernel
theorem dX6_guard_76 : decode cX6_guard 76 = .ok (.goto (-39), 3) := by decide +kernel
theorem dX6_guard_79 : decode cX6_guard 79 = .ok (.aload_n 0, 1) := by decide +kernel
theorem dX6_guard_80 : decode cX6_guard 80 = .ok (.getfield 17, 3) := by decide +kernel
theorem dX6_guard_83 : decode cX6_guard 83 = .ok (.iconst 5, 1) := by decide +kernel
theorem dX6_guard_84 : decode cX6_guard 84 = .ok (.iconst 0, 1) := by decide +kernel
theorem dX6_guard_85 : decode cX6_guard 85 = .ok (.iastore, 1) := by decide +kernel
theorem dX6_guard_86 : decode cX6_guard 86 = .ok (.aload_n 0, 1) := by decide +kernel
theorem dX6_guard_87 : decode cX6_guard 87 = .ok (.getfield 17, 3) := by decide +kernel
theorem dX6_guard_90 : decode cX6_guard 90 = .ok (.iconst 1, 1) := by decide +kernel
theorem dX6_guard_91 : decode cX6_guard 91 = .ok (.iconst 0, 1) := by decide +kernel
theorem dX6_guard_92 : decode cX6_guard 92 = .ok (.iastore, 1) := by decide +kernel
theorem dX6_guard_93 : decode cX6_guard 93 = .ok (.aload_n 0, 1) := by decide +kernel
theorem dX6_guard_94 : decode cX6_guard 94 = .ok (.iload_n 1, 1) := by decide +kernel
theorem dX6_guard_95 : decode cX6_guard 95 = .ok (.invokevirtual 236, 3) := by decide +kernel
theorem dX6_guard_98 : decode cX6_guard 98 = .ok (.pop, 1) := by decide +kernel
theorem dX6_guard_99 : decode cX6_guard 99 = .ok (.iconst 0, 1) := by decide +kernel
theorem dX6_guard_100 : decode cX6_guard 100 = .ok (.istore_n 2, 1) := by decide +kernel
theorem dX6_guard_101 : decode cX6_guard 101 = .ok (.iload_n 2, 1) := by decide +kernel
theorem dX6_guard_102 : decode cX6_guard 102 = .ok (.sipush 300, 3) := by decide +kernel
theorem dX6_guard_105 : decode cX6_guard 105 = .ok (.if_icmp .ge 20, 3) := by decide +kernel
theorem dX6_guard_108 : decode cX6_guard 108 = .ok (.aload_n 0, 1) := by decide +kernel
theorem dX6_guard_109 : decode cX6_guard 109 = .ok (.invokevirtual 239, 3) := by decide +kernel
theorem dX6_guard_112 : decode cX6_guard 112 = .ok (.ifCond .ne 13, 3) := by decide +kernel
theorem dX6_guard_115 : decode cX6_guard 115 = .ok (.aload_n 0, 1) := by decide +kernel
theorem dX6_guard_116 : decode cX6_guard 116 = .ok (.invokevirtual 242, 3) := by decide +kernel
theorem dX6_guard_119 : decode cX6_guard 119 = .ok (.iinc 2 1, 3) := by decide +kernel
theorem dX6_guard_122 : decode cX6_guard 122 = .ok (.goto (-21), 3) := by decide +kernel
theorem dX6_guard_125 : decode cX6_guard 125 = .ok (.aload_n 0, 1) := by decide +kernel
theorem dX6_guard_126 : decode cX6_guard 126 = .ok (.iconst 0, 1) := by decide +kernel
theorem dX6_guard_127 : decode cX6_guard 127 = .ok (.invokevirtual 208, 3) := by decide +kernel
theorem dX6_guard_130 : decode cX6_guard 130 = .ok (.iconst 3, 1) := by decide +kernel
theorem dX6_guard_131 : decode cX6_guard 131 = .ok (.if_icmp .ne 7, 3) := by decide +kernel
theorem dX6_guard_134 : decode cX6_guard 134 = .ok (.iconst 1, 1) := by decide +kernel
theorem dX6_guard_135 : decode cX6_guard 135 = .ok (.goto 4, 3) := by decide +kernel
theorem dX6_guard_138 : decode cX6_guard 138 = .ok (.iconst 0, 1) := by decide +kernel
theorem dX6_guard_139 : decode cX6_guard 139 = .ok (.istore_n 3, 1) := by decide +kernel
theorem dX6_guard_140 : decode cX6_guard 140 = .ok (.aload_n 0, 1) := by decide +kernel
theorem dX6_guard_141 : decode cX6_guard 141 = .ok (.getfield 23, 3) := by decide +kernel
theorem dX6_guard_144 : decode cX6_guard 144 = .ok (.aload_n 0, 1) := by decide +kernel
theorem dX6_guard_145 : decode cX6_guard 145 = .ok (.getfield 17, 3) := by decide +kernel
theorem dX6_guard_148 : decode cX6_guard 148 = .ok (.invokestatic 157, 3) := by decide +kernel
theorem dX6_guard_151 : decode cX6_guard 151 = .ok (.iload_n 3, 1) := by decide +kernel
theorem dX6_guard_152 : decode cX6_guard 152 = .ok (.ifCond .eq 7, 3) := by decide +kernel
theorem dX6_guard_155 : decode cX6_guard 155 = .ok (.iload_n 2, 1) := by decide +kernel
theorem dX6_guard_156 : decode cX6_guard 156 = .ok (.goto 4, 3) := by decide +kernel
theorem dX6_guard_159 : decode cX6_guard 159 = .ok (.iconst (-1), 1) := by decide +kernel
theorem dX6_guard_160 : decode cX6_guard 160 = .ok (.ireturn, 1) := by decide +kernel
theorem dX6_finishTime_0 : decode cX6_finishTime 0 = .ok (.aload_n 0, 1) := by decide +kernel
theorem dX6_finishTime_1 : decode cX6_finishTime 1 = .ok (.iconst 0, 1) := by decide +kernel
theorem dX6_finishTime_2 : decode cX6_finishTime 2 = .ok (.putfield 35, 3) := by decide +kernel
theorem dX6_finishTime_5 : decode cX6_finishTime 5 = .ok (.aload_n 0, 1) := by decide +kernel
theorem dX6_finishTime_6 : decode cX6_finishTime 6 = .ok (.iload_n 1, 1) := by decide +kernel
theorem dX6_finishTime_7 : decode cX6_finishTime 7 = .ok (.iconst 0, 1) := by decide +kernel
theorem dX6_finishTime_8 : decode cX6_finishTime 8 = .ok (.sipush 300, 3) := by decide +kernel
theorem dX6_finishTime_11 : decode cX6_finishTime 11 = .ok (.invokestatic 57, 3) := by decide +kernel
theorem dX6_finishTime_14 : decode cX6_finishTime 14 = .ok (.ifCond .ne 7, 3) := by decide +kernel
theorem dX6_finishTime_17 : decode cX6_finishTime 17 = .ok (.iconst 1, 1) := by decide +kernel
theorem dX6_finishTime_18 : decode cX6_finishTime 18 = .ok (.goto 4, 3) := by decide +kernel
theorem dX6_finishTime_21 : decode cX6_finishTime 21 = .ok (.iconst 0, 1) := by decide +kernel
theorem dX6_finishTime_22 : decode cX6_finishTime 22 = .ok (.iconst 1, 1) := by decide +kernel
theorem dX6_finishTime_23 : decode cX6_finishTime 23 = .ok (.invokevirtual 145, 3) := by decide +kernel
theorem dX6_finishTime_26 : decode cX6_finishTime 26 = .ok (.ifCond .eq 5, 3) := by decide +kernel
theorem dX6_finishTime_29 : decode cX6_finishTime 29 = .ok (.iconst 0, 1) := by decide +kernel
theorem dX6_finishTime_30 : decode cX6_finishTime 30 = .ok (.ireturn, 1) := by decide +kernel
theorem dX6_finishTime_31 : decode cX6_finishTime 31 = .ok (.aload_n 0, 1) := by decide +kernel
theorem dX6_finishTime_32 : decode cX6_finishTime 32 = .ok (.getfield 17, 3) := by decide +kernel
theorem dX6_finishTime_35 : decode cX6_finishTime 35 = .ok (.aload_n 0, 1) := by decide +kernel
theorem dX6_finishTime_36 : decode cX6_finishTime 36 = .ok (.getfield 23, 3) := by decide +kernel
theorem dX6_finishTime_39 : decode cX6_finishTime 39 = .ok (.invokestatic 157, 3) := by decide +kernel
theorem dX6_finishTime_42 : decode cX6_finishTime 42 = .ok (.iconst 0, 1) := by decide +kernel
theorem dX6_finishTime_43 : decode cX6_finishTime 43 = .ok (.istore_n 2, 1) := by decide +kernel
theorem dX6_finishTime_44 : decode cX6_finishTime 44 = .ok (.iload_n 2, 1) := by decide +kernel
theorem dX6_finishTime_45 : decode cX6_finishTime 45 = .ok (.iload_n 1, 1) := by decide +kernel
theorem dX6_finishTime_46 : decode cX6_finishTime 46 = .ok (.if_icmp .ge 20, 3) := by decide +kernel
theorem dX6_finishTime_49 : decode cX6_finishTime 49 = .ok (.aload_n 0, 1) := by decide +kernel
theorem dX6_finishTime_50 : decode cX6_finishTime 50 = .ok (.invokevirtual 239, 3) := by decide +kernel
theorem dX6_finishTime_53 : decode cX6_finishTime 53 = .ok (.ifCond .ne 13, 3) := by decide +kernel
theorem dX6_finishTime_56 : decode cX6_finishTime 56 = .ok (.aload_n 0, 1) := by decide +kernel
theorem dX6_finishTime_57 : decode cX6_finishTime 57 = .ok (.invokevirtual 242, 3) := by decide +kernel
theorem dX6_finishTime_60 : decode cX6_finishTime 60 = .ok (.iinc 2 1, 3) := by decide +kernel
theorem dX6_finishTime_63 : decode cX6_finishTime 63 = .ok (.goto (-19), 3) := by decide +kernel
theorem dX6_finishTime_66 : decode cX6_finishTime 66 = .ok (.aload_n 0, 1) := by decide +kernel
theorem dX6_finishTime_67 : decode cX6_finishTime 67 = .ok (.invokevirtual 239, 3) := by decide +kernel
theorem dX6_finishTime_70 : decode cX6_finishTime 70 = .ok (.istore_n 3, 1) := by decide +kernel
theorem dX6_finishTime_71 : decode cX6_finishTime 71 = .ok (.aload_n 0, 1) := by decide +kernel
theorem dX6_finishTime_72 : decode cX6_finishTime 72 = .ok (.getfield 23, 3) := by decide +kernel
theorem dX6_finishTime_75 : decode cX6_finishTime 75 = .ok (.aload_n 0, 1) := by decide +kernel
theorem dX6_finishTime_76 : decode cX6_finishTime 76 = .ok (.getfield 17, 3) := by decide +kernel
theorem dX6_finishTime_79 : decode cX6_finishTime 79 = .ok (.invokestatic 157, 3) := by decide +kernel
theorem dX6_finishTime_82 : decode cX6_finishTime 82 = .ok (.iload_n 3, 1) := by decide +kernel
theorem dX6_finishTime_83 : decode cX6_finishTime 83 = .ok (.ifCond .eq 7, 3) := by decide +kernel
theorem dX6_finishTime_86 : decode cX6_finishTime 86 = .ok (.iload_n 2, 1) := by decide +kernel
theorem dX6_finishTime_87 : decode cX6_finishTime 87 = .ok (.goto 4, 3) := by decide +kernel
theorem dX6_finishTime_90 : decode cX6_finishTime 90 = .ok (.iconst (-1), 1) := by decide +kernel
theorem dX6_finishTime_91 : decode cX6_finishTime 91 = .ok (.ireturn, 1) := by decide +kernel
theorem dX6_stateAfter_0 : decode cX6_stateAfter 0 = .ok (.aload_n 0, 1) := by decide +kernel
theorem dX6_stateAfter_1 : decode cX6_stateAfter 1 = .ok (.iconst 0, 1) := by decide +kernel
theorem dX6_stateAfter_2 : decode cX6_stateAfter 2 = .ok (.putfield 35, 3) := by decide +kernel
theorem dX6_stateAfter_5 : decode cX6_stateAfter 5 = .ok (.aload_n 0, 1) := by decide +kernel
theorem dX6_stateAfter_6 : decode cX6_stateAfter 6 = .ok (.iload_n 1, 1) := by decide +kernel
theorem dX6_stateAfter_7 : decode cX6_stateAfter 7 = .ok (.invokevirtual 217, 3) := by decide +kernel
theorem dX6_stateAfter_10 : decode cX6_stateAfter 10 = .ok (.ifCond .ne 27, 3) := by decide +kernel
theorem dX6_stateAfter_13 : decode cX6_stateAfter 13 = .ok (.aload_n 0, 1) := by decide +kernel
theorem dX6_stateAfter_14 : decode cX6_stateAfter 14 = .ok (.iload_n 2, 1) := by decide +kernel
theorem dX6_stateAfter_15 : decode cX6_stateAfter 15 = .ok (.iconst 0, 1) := by decide +kernel
theorem dX6_stateAfter_16 : decode cX6_stateAfter 16 = .ok (.sipush 300, 3) := by decide +kernel
theorem dX6_stateAfter_19 : decode cX6_stateAfter 19 = .ok (.invokestatic 57, 3) := by decide +kernel
theorem dX6_stateAfter_22 : decode cX6_stateAfter 22 = .ok (.ifCond .ne 7, 3) := by decide +kernel
theorem dX6_stateAfter_25 : decode cX6_stateAfter 25 = .ok (.iconst 1, 1) := by decide +kernel
theorem dX6_stateAfter_26 : decode cX6_stateAfter 26 = .ok (.goto 4, 3) := by decide +kernel
theorem dX6_stateAfter_29 : decode cX6_stateAfter 29 = .ok (.iconst 0, 1) := by decide +kernel
theorem dX6_stateAfter_30 : decode cX6_stateAfter 30 = .ok (.iconst 2, 1) := by decide +kernel
theorem dX6_stateAfter_31 : decode cX6_stateAfter 31 = .ok (.invokevirtual 145, 3) := by decide +kernel
theorem dX6_stateAfter_34 : decode cX6_stateAfter 34 = .ok (.ifCond .eq 5, 3) := by decide +kernel
theorem dX6_stateAfter_37 : decode cX6_stateAfter 37 = .ok (.iconst 0, 1) := by decide +kernel
theorem dX6_stateAfter_38 : decode cX6_stateAfter 38 = .ok (.ireturn, 1) := by decide +kernel
theorem dX6_stateAfter_39 : decode cX6_stateAfter 39 = .ok (.aload_n 0, 1) := by decide +kernel
theorem dX6_stateAfter_40 : decode cX6_stateAfter 40 = .ok (.getfield 17, 3) := by decide +kernel
theorem dX6_stateAfter_43 : decode cX6_stateAfter 43 = .ok (.aload_n 0, 1) := by decide +kernel
theorem dX6_stateAfter_44 : decode cX6_stateAfter 44 = .ok (.getfield 23, 3) := by decide +kernel
theorem dX6_stateAfter_47 : decode cX6_stateAfter 47 = .ok (.invokestatic 157, 3) := by decide +kernel
theorem dX6_stateAfter_50 : decode cX6_stateAfter 50 = .ok (.iconst 0, 1) := by decide +kernel
theorem dX6_stateAfter_51 : decode cX6_stateAfter 51 = .ok (.istore_n 3, 1) := by decide +kernel
theorem dX6_stateAfter_52 : decode cX6_stateAfter 52 = .ok (.iload_n 3, 1) := by decide +kernel
theorem dX6_stateAfter_53 : decode cX6_stateAfter 53 = .ok (.iload_n 2, 1) := by decide +kernel
theorem dX6_stateAfter_54 : decode cX6_stateAfter 54 = .ok (.if_icmp .ge 13, 3) := by decide +kernel
theorem dX6_stateAfter_57 : decode cX6_stateAfter 57 = .ok (.aload_n 0, 1) := by decide +kernel
theorem dX6_stateAfter_58 : decode cX6_stateAfter 58 = .ok (.invokevirtual 242, 3) := by decide +kernel
theorem dX6_stateAfter_61 : decode cX6_stateAfter 61 = .ok (.iinc 3 1, 3) := by decide +kernel
theorem dX6_stateAfter_64 : decode cX6_stateAfter 64 = .ok (.goto (-12), 3) := by decide +kernel
theorem dX6_stateAfter_67 : decode cX6_stateAfter 67 = .ok (.aload_n 0, 1) := by decide +kernel
theorem dX6_stateAfter_68 : decode cX6_stateAfter 68 = .ok (.iload_n 1, 1) := by decide +kernel
theorem dX6_stateAfter_69 : decode cX6_stateAfter 69 = .ok (.invokevirtual 208, 3) := by decide +kernel
theorem dX6_stateAfter_72 : decode cX6_stateAfter 72 = .ok (.istore_n 3, 1) := by decide +kernel
theorem dX6_stateAfter_73 : decode cX6_stateAfter 73 = .ok (.aload_n 0, 1) := by decide +kernel
theorem dX6_stateAfter_74 : decode cX6_stateAfter 74 = .ok (.getfield 23, 3) := by decide +kernel
theorem dX6_stateAfter_77 : decode cX6_stateAfter 77 = .ok (.aload_n 0, 1) := by decide +kernel
theorem dX6_stateAfter_78 : decode cX6_stateAfter 78 = .ok (.getfield 17, 3) := by decide +kernel
theorem dX6_stateAfter_81 : decode cX6_stateAfter 81 = .ok (.invokestatic 157, 3) := by decide +kernel
theorem dX6_stateAfter_84 : decode cX6_stateAfter 84 = .ok (.iload_n 3, 1) := by decide +kernel
theorem dX6_stateAfter_85 : decode cX6_stateAfter 85 = .ok (.ireturn, 1) := by decide +kernel
theorem dX6_doneWith_0 : decode cX6_doneWith 0 = .ok (.aload_n 0, 1) := by decide +kernel
theorem dX6_doneWith_1 : decode cX6_doneWith 1 = .ok (.getfield 17, 3) := by decide +kernel
theorem dX6_doneWith_4 : decode cX6_doneWith 4 = .ok (.aload_n 0, 1) := by decide +kernel
theorem dX6_doneWith_5 : decode cX6_doneWith 5 = .ok (.getfield 23, 3) := by decide +kernel
theorem dX6_doneWith_8 : decode cX6_doneWith 8 = .ok (.invokestatic 157, 3) := by decide +kernel
theorem dX6_doneWith_11 : decode cX6_doneWith 11 = .ok (.aload_n 0, 1) := by decide +kernel
theorem dX6_doneWith_12 : decode cX6_doneWith 12 = .ok (.getfield 17, 3) := by decide +kernel
theorem dX6_doneWith_15 : decode cX6_doneWith 15 = .ok (.aload_n 0, 1) := by decide +kernel
theorem dX6_doneWith_16 : decode cX6_doneWith 16 = .ok (.getfield 17, 3) := by decide +kernel
theorem dX6_doneWith_19 : decode cX6_doneWith 19 = .ok (.iconst 0, 1) := by decide +kernel
theorem dX6_doneWith_20 : decode cX6_doneWith 20 = .ok (.iaload, 1) := by decide +kernel
theorem dX6_doneWith_21 : decode cX6_doneWith 21 = .ok (.iconst 1, 1) := by decide +kernel
theorem dX6_doneWith_22 : decode cX6_doneWith 22 = .ok (.isub, 1) := by decide +kernel
theorem dX6_doneWith_23 : decode cX6_doneWith 23 = .ok (.invokestatic 126, 3) := by decide +kernel
theorem dX6_doneWith_26 : decode cX6_doneWith 26 = .ok (.iload_n 1, 1) := by decide +kernel
theorem dX6_doneWith_27 : decode cX6_doneWith 27 = .ok (.iastore, 1) := by decide +kernel
theorem dX6_doneWith_28 : decode cX6_doneWith 28 = .ok (.iconst 0, 1) := by decide +kernel
theorem dX6_doneWith_29 : decode cX6_doneWith 29 = .ok (.istore_n 2, 1) := by decide +kernel
theorem dX6_doneWith_30 : decode cX6_doneWith 30 = .ok (.iload_n 2, 1) := by decide +kernel
theorem dX6_doneWith_31 : decode cX6_doneWith 31 = .ok (.sipush 200, 3) := by decide +kernel
theorem dX6_doneWith_34 : decode cX6_doneWith 34 = .ok (.if_icmp .ge 13, 3) := by decide +kernel
theorem dX6_doneWith_37 : decode cX6_doneWith 37 = .ok (.aload_n 0, 1) := by decide +kernel
theorem dX6_doneWith_38 : decode cX6_doneWith 38 = .ok (.invokevirtual 242, 3) := by decide +kernel
theorem dX6_doneWith_41 : decode cX6_doneWith 41 = .ok (.iinc 2 1, 3) := by decide +kernel
theorem dX6_doneWith_44 : decode cX6_doneWith 44 = .ok (.goto (-14), 3) := by decide +kernel
theorem dX6_doneWith_47 : decode cX6_doneWith 47 = .ok (.aload_n 0, 1) := by decide +kernel
theorem dX6_doneWith_48 : decode cX6_doneWith 48 = .ok (.iconst 3, 1) := by decide +kernel
theorem dX6_doneWith_49 : decode cX6_doneWith 49 = .ok (.invokevirtual 211, 3) := by decide +kernel
theorem dX6_doneWith_52 : decode cX6_doneWith 52 = .ok (.istore_n 2, 1) := by decide +kernel
theorem dX6_doneWith_53 : decode cX6_doneWith 53 = .ok (.aload_n 0, 1) := by decide +kernel
theorem dX6_doneWith_54 : decode cX6_doneWith 54 = .ok (.getfield 23, 3) := by decide +kernel
theorem dX6_doneWith_57 : decode cX6_doneWith 57 = .ok (.aload_n 0, 1) := by decide +kernel
theorem dX6_doneWith_58 : decode cX6_doneWith 58 = .ok (.getfield 17, 3) := by decide +kernel
theorem dX6_doneWith_61 : decode cX6_doneWith 61 = .ok (.invokestatic 157, 3) := by decide +kernel
theorem dX6_doneWith_64 : decode cX6_doneWith 64 = .ok (.iload_n 2, 1) := by decide +kernel
theorem dX6_doneWith_65 : decode cX6_doneWith 65 = .ok (.ireturn, 1) := by decide +kernel
theorem dX6_bestSetpoint_0 : decode cX6_bestSetpoint 0 = .ok (.aload_n 0, 1) := by decide +kernel
theorem dX6_bestSetpoint_1 : decode cX6_bestSetpoint 1 = .ok (.iconst 0, 1) := by decide +kernel
theorem dX6_bestSetpoint_2 : decode cX6_bestSetpoint 2 = .ok (.putfield 35, 3) := by decide +kernel
theorem dX6_bestSetpoint_5 : decode cX6_bestSetpoint 5 = .ok (.aload_n 0, 1) := by decide +kernel
theorem dX6_bestSetpoint_6 : decode cX6_bestSetpoint 6 = .ok (.invokevirtual 233, 3) := by decide +kernel
theorem dX6_bestSetpoint_9 : decode cX6_bestSetpoint 9 = .ok (.ifCond .eq 5, 3) := by decide +kernel
theorem dX6_bestSetpoint_12 : decode cX6_bestSetpoint 12 = .ok (.iconst (-1), 1) := by decide +kernel
theorem dX6_bestSetpoint_13 : decode cX6_bestSetpoint 13 = .ok (.ireturn, 1) := by decide +kernel
theorem dX6_bestSetpoint_14 : decode cX6_bestSetpoint 14 = .ok (.aload_n 0, 1) := by decide +kernel
theorem dX6_bestSetpoint_15 : decode cX6_bestSetpoint 15 = .ok (.getfield 17, 3) := by decide +kernel
theorem dX6_bestSetpoint_18 : decode cX6_bestSetpoint 18 = .ok (.aload_n 0, 1) := by decide +kernel
theorem dX6_bestSetpoint_19 : decode cX6_bestSetpoint 19 = .ok (.getfield 17, 3) := by decide +kernel
theorem dX6_bestSetpoint_22 : decode cX6_bestSetpoint 22 = .ok (.iconst 0, 1) := by decide +kernel
theorem dX6_bestSetpoint_23 : decode cX6_bestSetpoint 23 = .ok (.iaload, 1) := by decide +kernel
theorem dX6_bestSetpoint_24 : decode cX6_bestSetpoint 24 = .ok (.iconst 1, 1) := by decide +kernel
theorem dX6_bestSetpoint_25 : decode cX6_bestSetpoint 25 = .ok (.isub, 1) := by decide +kernel
theorem dX6_bestSetpoint_26 : decode cX6_bestSetpoint 26 = .ok (.invokestatic 126, 3) := by decide +kernel
theorem dX6_bestSetpoint_29 : decode cX6_bestSetpoint 29 = .ok (.iaload, 1) := by decide +kernel
theorem dX6_bestSetpoint_30 : decode cX6_bestSetpoint 30 = .ok (.istore_n 1, 1) := by decide +kernel
theorem dX6_bestSetpoint_31 : decode cX6_bestSetpoint 31 = .ok (.iload_n 1, 1) := by decide +kernel
theorem dX6_bestSetpoint_32 : decode cX6_bestSetpoint 32 = .ok (.istore_n 2, 1) := by decide +kernel
theorem dX6_bestSetpoint_33 : decode cX6_bestSetpoint 33 = .ok (.aload_n 0, 1) := by decide +kernel
theorem dX6_bestSetpoint_34 : decode cX6_bestSetpoint 34 = .ok (.iload_n 1, 1) := by decide +kernel
theorem dX6_bestSetpoint_35 : decode cX6_bestSetpoint 35 = .ok (.invokevirtual 245, 3) := by decide +kernel
theorem dX6_bestSetpoint_38 : decode cX6_bestSetpoint 38 = .ok (.istore_n 3, 1) := by decide +kernel
theorem dX6_bestSetpoint_39 : decode cX6_bestSetpoint 39 = .ok (.iconst 2, 1) := by decide +kernel
theorem dX6_bestSetpoint_40 : decode cX6_bestSetpoint 40 = .ok (.istore 4, 2) := by decide +kernel
theorem dX6_bestSetpoint_42 : decode cX6_bestSetpoint 42 = .ok (.iload 4, 2) := by decide +kernel
theorem dX6_bestSetpoint_44 : decode cX6_bestSetpoint 44 = .ok (.bipush 8, 2) := by decide +kernel
theorem dX6_bestSetpoint_46 : decode cX6_bestSetpoint 46 = .ok (.if_icmp .ge 72, 3) := by decide +kernel
theorem dX6_bestSetpoint_49 : decode cX6_bestSetpoint 49 = .ok (.iload_n 1, 1) := by decide +kernel
theorem dX6_bestSetpoint_50 : decode cX6_bestSetpoint 50 = .ok (.bipush 10, 2) := by decide +kernel
theorem dX6_bestSetpoint_52 : decode cX6_bestSetpoint 52 = .ok (.iload 4, 2) := by decide +kernel
theorem dX6_bestSetpoint_54 : decode cX6_bestSetpoint 54 = .ok (.iconst 2, 1) := by decide +kernel
theorem dX6_bestSetpoint_55 : decode cX6_bestSetpoint 55 = .ok (.idiv, 1) := by decide +kernel
theorem dX6_bestSetpoint_56 : decode cX6_bestSetpoint 56 = .ok (.imul, 1) := by decide +kernel
theorem dX6_bestSetpoint_57 : decode cX6_bestSetpoint 57 = .ok (.iload 4, 2) := by decide +kernel
theorem dX6_bestSetpoint_59 : decode cX6_bestSetpoint 59 = .ok (.iconst 2, 1) := by decide +kernel
theorem dX6_bestSetpoint_60 : decode cX6_bestSetpoint 60 = .ok (.irem, 1) := by decide +kernel
theorem dX6_bestSetpoint_61 : decode cX6_bestSetpoint 61 = .ok (.ifCond .ne 7, 3) := by decide +kernel
theorem dX6_bestSetpoint_64 : decode cX6_bestSetpoint 64 = .ok (.iconst (-1), 1) := by decide +kernel
theorem dX6_bestSetpoint_65 : decode cX6_bestSetpoint 65 = .ok (.goto 4, 3) := by decide +kernel
theorem dX6_bestSetpoint_68 : decode cX6_bestSetpoint 68 = .ok (.iconst 1, 1) := by decide +kernel
theorem dX6_bestSetpoint_69 : decode cX6_bestSetpoint 69 = .ok (.imul, 1) := by decide +kernel
theorem dX6_bestSetpoint_70 : decode cX6_bestSetpoint 70 = .ok (.iadd, 1) := by decide +kernel
theorem dX6_bestSetpoint_71 : decode cX6_bestSetpoint 71 = .ok (.istore 5, 2) := by decide +kernel
theorem dX6_bestSetpoint_73 : decode cX6_bestSetpoint 73 = .ok (.iload 5, 2) := by decide +kernel
theorem dX6_bestSetpoint_75 : decode cX6_bestSetpoint 75 = .ok (.bipush 100, 2) := by decide +kernel
theorem dX6_bestSetpoint_77 : decode cX6_bestSetpoint 77 = .ok (.sipush 900, 3) := by decide +kernel
theorem dX6_bestSetpoint_80 : decode cX6_bestSetpoint 80 = .ok (.invokestatic 57, 3) := by decide +kernel
theorem dX6_bestSetpoint_83 : decode cX6_bestSetpoint 83 = .ok (.ifCond .ne 6, 3) := by decide +kernel
theorem dX6_bestSetpoint_86 : decode cX6_bestSetpoint 86 = .ok (.goto 26, 3) := by decide +kernel
theorem dX6_bestSetpoint_89 : decode cX6_bestSetpoint 89 = .ok (.aload_n 0, 1) := by decide +kernel
theorem dX6_bestSetpoint_90 : decode cX6_bestSetpoint 90 = .ok (.iload 5, 2) := by decide +kernel
theorem dX6_bestSetpoint_92 : decode cX6_bestSetpoint 92 = .ok (.invokevirtual 245, 3) := by decide +kernel
theorem dX6_bestSetpoint_95 : decode cX6_bestSetpoint 95 = .ok (.istore 6, 2) := by decide +kernel
theorem dX6_bestSetpoint_97 : decode cX6_bestSetpoint 97 = .ok (.iload 6, 2) := by decide +kernel
theorem dX6_bestSetpoint_99 : decode cX6_bestSetpoint 99 = .ok (.iload_n 3, 1) := by decide +kernel
theorem dX6_bestSetpoint_100 : decode cX6_bestSetpoint 100 = .ok (.if_icmp .gt 6, 3) := by decide +kernel
theorem dX6_bestSetpoint_103 : decode cX6_bestSetpoint 103 = .ok (.goto 9, 3) := by decide +kernel
theorem dX6_bestSetpoint_106 : decode cX6_bestSetpoint 106 = .ok (.iload 6, 2) := by decide +kernel
theorem dX6_bestSetpoint_108 : decode cX6_bestSetpoint 108 = .ok (.istore_n 3, 1) := by decide +kernel
theorem dX6_bestSetpoint_109 : decode cX6_bestSetpoint 109 = .ok (.iload 5, 2) := by decide +kernel
theorem dX6_bestSetpoint_111 : decode cX6_bestSetpoint 111 = .ok (.istore_n 2, 1) := by decide +kernel
theorem dX6_bestSetpoint_112 : decode cX6_bestSetpoint 112 = .ok (.iinc 4 1, 3) := by decide +kernel
theorem dX6_bestSetpoint_115 : decode cX6_bestSetpoint 115 = .ok (.goto (-73), 3) := by decide +kernel
theorem dX6_bestSetpoint_118 : decode cX6_bestSetpoint 118 = .ok (.iload_n 2, 1) := by decide +kernel
theorem dX6_bestSetpoint_119 : decode cX6_bestSetpoint 119 = .ok (.ireturn, 1) := by decide +kernel
theorem dX6_remember_0 : decode cX6_remember 0 = .ok (.aload_n 0, 1) := by decide +kernel
theorem dX6_remember_1 : decode cX6_remember 1 = .ok (.getfield 248, 3) := by decide +kernel
theorem dX6_remember_4 : decode cX6_remember 4 = .ok (.bipush 8, 2) := by decide +kernel
theorem dX6_remember_6 : decode cX6_remember 6 = .ok (.if_icmp .ne 44, 3) := by decide +kernel
theorem dX6_remember_9 : decode cX6_remember 9 = .ok (.iconst 1, 1) := by decide +kernel
theorem dX6_remember_10 : decode cX6_remember 10 = .ok (.istore_n 1, 1) := by decide +kernel
theorem dX6_remember_11 : decode cX6_remember 11 = .ok (.iload_n 1, 1) := by decide +kernel
theorem dX6_remember_12 : decode cX6_remember 12 = .ok (.bipush 8, 2) := by decide +kernel
theorem dX6_remember_14 : decode cX6_remember 14 = .ok (.if_icmp .ge 26, 3) := by decide +kernel
theorem dX6_remember_17 : decode cX6_remember 17 = .ok (.aload_n 0, 1) := by decide +kernel
theorem dX6_remember_18 : decode cX6_remember 18 = .ok (.getfield 28, 3) := by decide +kernel
theorem dX6_remember_21 : decode cX6_remember 21 = .ok (.iload_n 1, 1) := by decide +kernel
theorem dX6_remember_22 : decode cX6_remember 22 = .ok (.aaload, 1) := by decide +kernel
theorem dX6_remember_23 : decode cX6_remember 23 = .ok (.aload_n 0, 1) := by decide +kernel
theorem dX6_remember_24 : decode cX6_remember 24 = .ok (.getfield 28, 3) := by decide +kernel
theorem dX6_remember_27 : decode cX6_remember 27 = .ok (.iload_n 1, 1) := by decide +kernel
theorem dX6_remember_28 : decode cX6_remember 28 = .ok (.iconst 1, 1) := by decide +kernel
theorem dX6_remember_29 : decode cX6_remember 29 = .ok (.isub, 1) := by decide +kernel
theorem dX6_remember_30 : decode cX6_remember 30 = .ok (.aaload, 1) := by decide +kernel
theorem dX6_remember_31 : decode cX6_remember 31 = .ok (.invokestatic 157, 3) := by decide +kernel
theorem dX6_remember_34 : decode cX6_remember 34 = .ok (.iinc 1 1, 3) := by decide +kernel
theorem dX6_remember_37 : decode cX6_remember 37 = .ok (.goto (-26), 3) := by decide +kernel
theorem dX6_remember_40 : decode cX6_remember 40 = .ok (.aload_n 0, 1) := by decide +kernel
theorem dX6_remember_41 : decode cX6_remember 41 = .ok (.dup, 1) := by decide +kernel
theorem dX6_remember_42 : decode cX6_remember 42 = .ok (.getfield 248, 3) := by decide +kernel
theorem dX6_remember_45 : decode cX6_remember 45 = .ok (.iconst 1, 1) := by decide +kernel
theorem dX6_remember_46 : decode cX6_remember 46 = .ok (.isub, 1) := by decide +kernel
theorem dX6_remember_47 : decode cX6_remember 47 = .ok (.putfield 248, 3) := by decide +kernel
theorem dX6_remember_50 : decode cX6_remember 50 = .ok (.aload_n 0, 1) := by decide +kernel
theorem dX6_remember_51 : decode cX6_remember 51 = .ok (.getfield 17, 3) := by decide +kernel
theorem dX6_remember_54 : decode cX6_remember 54 = .ok (.aload_n 0, 1) := by decide +kernel
theorem dX6_remember_55 : decode cX6_remember 55 = .ok (.getfield 28, 3) := by decide +kernel
theorem dX6_remember_58 : decode cX6_remember 58 = .ok (.aload_n 0, 1) := by decide +kernel
theorem dX6_remember_59 : decode cX6_remember 59 = .ok (.getfield 248, 3) := by decide +kernel
theorem dX6_remember_62 : decode cX6_remember 62 = .ok (.aaload, 1) := by decide +kernel
theorem dX6_remember_63 : decode cX6_remember 63 = .ok (.invokestatic 157, 3) := by decide +kernel
theorem dX6_remember_66 : decode cX6_remember 66 = .ok (.aload_n 0, 1) := by decide +kernel
theorem dX6_remember_67 : decode cX6_remember 67 = .ok (.dup, 1) := by decide +kernel
theorem dX6_remember_68 : decode cX6_remember 68 = .ok (.getfield 248, 3) := by decide +kernel
theorem dX6_remember_71 : decode cX6_remember 71 = .ok (.iconst 1, 1) := by decide +kernel
theorem dX6_remember_72 : decode cX6_remember 72 = .ok (.iadd, 1) := by decide +kernel
theorem dX6_remember_73 : decode cX6_remember 73 = .ok (.putfield 248, 3) := by decide +kernel
theorem dX6_remember_76 : decode cX6_remember 76 = .ok (.return_, 1) := by decide +kernel
theorem dX6_lay_0 : decode cX6_lay 0 = .ok (.aload_n 0, 1) := by decide +kernel
theorem dX6_lay_1 : decode cX6_lay 1 = .ok (.getfield 17, 3) := by decide +kernel
theorem dX6_lay_4 : decode cX6_lay 4 = .ok (.iconst 1, 1) := by decide +kernel
theorem dX6_lay_5 : decode cX6_lay 5 = .ok (.iaload, 1) := by decide +kernel
theorem dX6_lay_6 : decode cX6_lay 6 = .ok (.invokestatic 161, 3) := by decide +kernel
theorem dX6_lay_9 : decode cX6_lay 9 = .ok (.istore_n 2, 1) := by decide +kernel
theorem dX6_lay_10 : decode cX6_lay 10 = .ok (.aload_n 0, 1) := by decide +kernel
theorem dX6_lay_11 : decode cX6_lay 11 = .ok (.getfield 17, 3) := by decide +kernel
theorem dX6_lay_14 : decode cX6_lay 14 = .ok (.iload_n 2, 1) := by decide +kernel
theorem dX6_lay_15 : decode cX6_lay 15 = .ok (.iload_n 1, 1) := by decide +kernel
theorem dX6_lay_16 : decode cX6_lay 16 = .ok (.iastore, 1) := by decide +kernel
theorem dX6_lay_17 : decode cX6_lay 17 = .ok (.aload_n 0, 1) := by decide +kernel
theorem dX6_lay_18 : decode cX6_lay 18 = .ok (.getfield 17, 3) := by decide +kernel
theorem dX6_lay_21 : decode cX6_lay 21 = .ok (.iload_n 2, 1) := by decide +kernel
theorem dX6_lay_22 : decode cX6_lay 22 = .ok (.iconst 1, 1) := by decide +kernel
theorem dX6_lay_23 : decode cX6_lay 23 = .ok (.iadd, 1) := by decide +kernel
theorem dX6_lay_24 : decode cX6_lay 24 = .ok (.bipush 20, 2) := by decide +kernel
theorem dX6_lay_26 : decode cX6_lay 26 = .ok (.iastore, 1) := by decide +kernel
theorem dX6_lay_27 : decode cX6_lay 27 = .ok (.aload_n 0, 1) := by decide +kernel
theorem dX6_lay_28 : decode cX6_lay 28 = .ok (.getfield 17, 3) := by decide +kernel
theorem dX6_lay_31 : decode cX6_lay 31 = .ok (.iload_n 2, 1) := by decide +kernel
theorem dX6_lay_32 : decode cX6_lay 32 = .ok (.iconst 2, 1) := by decide +kernel
theorem dX6_lay_33 : decode cX6_lay 33 = .ok (.iadd, 1) := by decide +kernel
theorem dX6_lay_34 : decode cX6_lay 34 = .ok (.iconst 0, 1) := by decide +kernel
theorem dX6_lay_35 : decode cX6_lay 35 = .ok (.iastore, 1) := by decide +kernel
theorem dX6_lay_36 : decode cX6_lay 36 = .ok (.aload_n 0, 1) := by decide +kernel
theorem dX6_lay_37 : decode cX6_lay 37 = .ok (.getfield 17, 3) := by decide +kernel
theorem dX6_lay_40 : decode cX6_lay 40 = .ok (.iconst 1, 1) := by decide +kernel
theorem dX6_lay_41 : decode cX6_lay 41 = .ok (.dup2, 1) := by decide +kernel
theorem dX6_lay_42 : decode cX6_lay 42 = .ok (.iaload, 1) := by decide +kernel
theorem dX6_lay_43 : decode cX6_lay 43 = .ok (.iconst 1, 1) := by decide +kernel
theorem dX6_lay_44 : decode cX6_lay 44 = .ok (.iadd, 1) := by decide +kernel
theorem dX6_lay_45 : decode cX6_lay 45 = .ok (.iastore, 1) := by decide +kernel
theorem dX6_lay_46 : decode cX6_lay 46 = .ok (.aload_n 0, 1) := by decide +kernel
theorem dX6_lay_47 : decode cX6_lay 47 = .ok (.getfield 17, 3) := by decide +kernel
