theorem dX6_sum_1 : decode cX6_sum 1 = .ok (.getfield 32, 3) := by decide +kernel
theorem dX6_sum_4 : decode cX6_sum 4 = .ok (.i2l, 1) := by decide +kernel
theorem dX6_sum_5 : decode cX6_sum 5 = .ok (.lstore_n 1, 1) := by decide +kernel
theorem dX6_sum_6 : decode cX6_sum 6 = .ok (.iconst 0, 1) := by decide +kernel
theorem dX6_sum_7 : decode cX6_sum 7 = .ok (.istore_n 3, 1) := by decide +kernel
theorem dX6_sum_8 : decode cX6_sum 8 = .ok (.iload_n 3, 1) := by decide +kernel
theorem dX6_sum_9 : decode cX6_sum 9 = .ok (.aload_n 0, 1) := by decide +kernel
theorem dX6_sum_10 : decode cX6_sum 10 = .ok (.getfield 9, 3) := by decide +kernel
theorem dX6_sum_13 : decode cX6_sum 13 = .ok (.arraylength, 1) := by decide +kernel
theorem dX6_sum_14 : decode cX6_sum 14 = .ok (.if_icmp .ge 48, 3) := by decide +kernel
theorem dX6_sum_17 : decode cX6_sum 17 = .ok (.ldc2_w 125, 3) := by decide +kernel
theorem dX6_sum_20 : decode cX6_sum 20 = .ok (.ldc2_w 125, 3) := by decide +kernel
theorem dX6_sum_23 : decode cX6_sum 23 = .ok (.ldc2_w 125, 3) := by decide +kernel
theorem dX6_sum_26 : decode cX6_sum 26 = .ok (.lload_n 1, 1) := by decide +kernel
theorem dX6_sum_27 : decode cX6_sum 27 = .ok (.lmul, 1) := by decide +kernel
theorem dX6_sum_28 : decode cX6_sum 28 = .ok (.aload_n 0, 1) := by decide +kernel
theorem dX6_sum_29 : decode cX6_sum 29 = .ok (.getfield 9, 3) := by decide +kernel
theorem dX6_sum_32 : decode cX6_sum 32 = .ok (.iload_n 3, 1) := by decide +kernel
theorem dX6_sum_33 : decode cX6_sum 33 = .ok (.aaload, 1) := by decide +kernel
theorem dX6_sum_34 : decode cX6_sum 34 = .ok (.iconst 0, 1) := by decide +kernel
theorem dX6_sum_35 : decode cX6_sum 35 = .ok (.iaload, 1) := by decide +kernel
theorem dX6_sum_36 : decode cX6_sum 36 = .ok (.i2l, 1) := by decide +kernel
theorem dX6_sum_37 : decode cX6_sum 37 = .ok (.ladd, 1) := by decide +kernel
theorem dX6_sum_38 : decode cX6_sum 38 = .ok (.lmul, 1) := by decide +kernel
theorem dX6_sum_39 : decode cX6_sum 39 = .ok (.aload_n 0, 1) := by decide +kernel
theorem dX6_sum_40 : decode cX6_sum 40 = .ok (.getfield 15, 3) := by decide +kernel
theorem dX6_sum_43 : decode cX6_sum 43 = .ok (.iload_n 3, 1) := by decide +kernel
theorem dX6_sum_44 : decode cX6_sum 44 = .ok (.iaload, 1) := by decide +kernel
theorem dX6_sum_45 : decode cX6_sum 45 = .ok (.i2l, 1) := by decide +kernel
theorem dX6_sum_46 : decode cX6_sum 46 = .ok (.ladd, 1) := by decide +kernel
theorem dX6_sum_47 : decode cX6_sum 47 = .ok (.lmul, 1) := by decide +kernel
theorem dX6_sum_48 : decode cX6_sum 48 = .ok (.aload_n 0, 1) := by decide +kernel
theorem dX6_sum_49 : decode cX6_sum 49 = .ok (.iload_n 3, 1) := by decide +kernel
theorem dX6_sum_50 : decode cX6_sum 50 = .ok (.invokevirtual 80, 3) := by decide +kernel
theorem dX6_sum_53 : decode cX6_sum 53 = .ok (.i2l, 1) := by decide +kernel
theorem dX6_sum_54 : decode cX6_sum 54 = .ok (.ladd, 1) := by decide +kernel
theorem dX6_sum_55 : decode cX6_sum 55 = .ok (.lstore_n 1, 1) := by decide +kernel
theorem dX6_sum_56 : decode cX6_sum 56 = .ok (.iinc 3 1, 3) := by decide +kernel
theorem dX6_sum_59 : decode cX6_sum 59 = .ok (.goto (-51), 3) := by decide +kernel
theorem dX6_sum_62 : decode cX6_sum 62 = .ok (.ldc2_w 125, 3) := by decide +kernel
theorem dX6_sum_65 : decode cX6_sum 65 = .ok (.ldc2_w 125, 3) := by decide +kernel
theorem dX6_sum_68 : decode cX6_sum 68 = .ok (.lload_n 1, 1) := by decide +kernel
theorem dX6_sum_69 : decode cX6_sum 69 = .ok (.lmul, 1) := by decide +kernel
theorem dX6_sum_70 : decode cX6_sum 70 = .ok (.aload_n 0, 1) := by decide +kernel
theorem dX6_sum_71 : decode cX6_sum 71 = .ok (.iconst (-1), 1) := by decide +kernel
theorem dX6_sum_72 : decode cX6_sum 72 = .ok (.invokevirtual 80, 3) := by decide +kernel
theorem dX6_sum_75 : decode cX6_sum 75 = .ok (.i2l, 1) := by decide +kernel
theorem dX6_sum_76 : decode cX6_sum 76 = .ok (.ladd, 1) := by decide +kernel
theorem dX6_sum_77 : decode cX6_sum 77 = .ok (.lmul, 1) := by decide +kernel
theorem dX6_sum_78 : decode cX6_sum 78 = .ok (.aload_n 0, 1) := by decide +kernel
theorem dX6_sum_79 : decode cX6_sum 79 = .ok (.iconst (-1), 1) := by decide +kernel
theorem dX6_sum_80 : decode cX6_sum 80 = .ok (.invokevirtual 80, 3) := by decide +kernel
theorem dX6_sum_83 : decode cX6_sum 83 = .ok (.ifCond .ge 7, 3) := by decide +kernel
theorem dX6_sum_86 : decode cX6_sum 86 = .ok (.iconst 0, 1) := by decide +kernel
theorem dX6_sum_87 : decode cX6_sum 87 = .ok (.goto 7, 3) := by decide +kernel
theorem dX6_sum_90 : decode cX6_sum 90 = .ok (.aload_n 0, 1) := by decide +kernel
theorem dX6_sum_91 : decode cX6_sum 91 = .ok (.getfield 42, 3) := by decide +kernel
theorem dX6_sum_94 : decode cX6_sum 94 = .ok (.i2l, 1) := by decide +kernel
theorem dX6_sum_95 : decode cX6_sum 95 = .ok (.ladd, 1) := by decide +kernel
theorem dX6_sum_96 : decode cX6_sum 96 = .ok (.lstore_n 1, 1) := by decide +kernel
theorem dX6_sum_97 : decode cX6_sum 97 = .ok (.aload_n 0, 1) := by decide +kernel
theorem dX6_sum_98 : decode cX6_sum 98 = .ok (.getfield 20, 3) := by decide +kernel
theorem dX6_sum_101 : decode cX6_sum 101 = .ok (.astore_n 3, 1) := by decide +kernel
theorem dX6_sum_102 : decode cX6_sum 102 = .ok (.aload_n 3, 1) := by decide +kernel
theorem dX6_sum_103 : decode cX6_sum 103 = .ok (.arraylength, 1) := by decide +kernel
theorem dX6_sum_104 : decode cX6_sum 104 = .ok (.istore 4, 2) := by decide +kernel
theorem dX6_sum_106 : decode cX6_sum 106 = .ok (.iconst 0, 1) := by decide +kernel
theorem dX6_sum_107 : decode cX6_sum 107 = .ok (.istore 5, 2) := by decide +kernel
theorem dX6_sum_109 : decode cX6_sum 109 = .ok (.iload 5, 2) := by decide +kernel
theorem dX6_sum_111 : decode cX6_sum 111 = .ok (.iload 4, 2) := by decide +kernel
theorem dX6_sum_113 : decode cX6_sum 113 = .ok (.if_icmp .ge 50, 3) := by decide +kernel
theorem dX6_sum_116 : decode cX6_sum 116 = .ok (.aload_n 3, 1) := by decide +kernel
theorem dX6_sum_117 : decode cX6_sum 117 = .ok (.iload 5, 2) := by decide +kernel
theorem dX6_sum_119 : decode cX6_sum 119 = .ok (.aaload, 1) := by decide +kernel
theorem dX6_sum_120 : decode cX6_sum 120 = .ok (.astore 6, 2) := by decide +kernel
theorem dX6_sum_122 : decode cX6_sum 122 = .ok (.ldc2_w 125, 3) := by decide +kernel
theorem dX6_sum_125 : decode cX6_sum 125 = .ok (.ldc2_w 125, 3) := by decide +kernel
theorem dX6_sum_128 : decode cX6_sum 128 = .ok (.ldc2_w 125, 3) := by decide +kernel
theorem dX6_sum_131 : decode cX6_sum 131 = .ok (.lload_n 1, 1) := by decide +kernel
theorem dX6_sum_132 : decode cX6_sum 132 = .ok (.lmul, 1) := by decide +kernel
theorem dX6_sum_133 : decode cX6_sum 133 = .ok (.aload 6, 2) := by decide +kernel
theorem dX6_sum_135 : decode cX6_sum 135 = .ok (.getfield 84, 3) := by decide +kernel
theorem dX6_sum_138 : decode cX6_sum 138 = .ok (.i2l, 1) := by decide +kernel
theorem dX6_sum_139 : decode cX6_sum 139 = .ok (.ladd, 1) := by decide +kernel
theorem dX6_sum_140 : decode cX6_sum 140 = .ok (.lmul, 1) := by decide +kernel
theorem dX6_sum_141 : decode cX6_sum 141 = .ok (.aload 6, 2) := by decide +kernel
theorem dX6_sum_143 : decode cX6_sum 143 = .ok (.getfield 87, 3) := by decide +kernel
theorem dX6_sum_146 : decode cX6_sum 146 = .ok (.i2l, 1) := by decide +kernel
theorem dX6_sum_147 : decode cX6_sum 147 = .ok (.ladd, 1) := by decide +kernel
theorem dX6_sum_148 : decode cX6_sum 148 = .ok (.lmul, 1) := by decide +kernel
theorem dX6_sum_149 : decode cX6_sum 149 = .ok (.aload 6, 2) := by decide +kernel
theorem dX6_sum_151 : decode cX6_sum 151 = .ok (.getfield 77, 3) := by decide +kernel
theorem dX6_sum_154 : decode cX6_sum 154 = .ok (.i2l, 1) := by decide +kernel
theorem dX6_sum_155 : decode cX6_sum 155 = .ok (.ladd, 1) := by decide +kernel
theorem dX6_sum_156 : decode cX6_sum 156 = .ok (.lstore_n 1, 1) := by decide +kernel
theorem dX6_sum_157 : decode cX6_sum 157 = .ok (.iinc 5 1, 3) := by decide +kernel
theorem dX6_sum_160 : decode cX6_sum 160 = .ok (.goto (-51), 3) := by decide +kernel
theorem dX6_sum_163 : decode cX6_sum 163 = .ok (.iconst 2, 1) := by decide +kernel
theorem dX6_sum_164 : decode cX6_sum 164 = .ok (.istore_n 3, 1) := by decide +kernel
theorem dX6_sum_165 : decode cX6_sum 165 = .ok (.iload_n 3, 1) := by decide +kernel
theorem dX6_sum_166 : decode cX6_sum 166 = .ok (.bipush 20, 2) := by decide +kernel
theorem dX6_sum_168 : decode cX6_sum 168 = .ok (.if_icmp .ge 55, 3) := by decide +kernel
theorem dX6_sum_171 : decode cX6_sum 171 = .ok (.aload_n 0, 1) := by decide +kernel
theorem dX6_sum_172 : decode cX6_sum 172 = .ok (.getfield 28, 3) := by decide +kernel
theorem dX6_sum_175 : decode cX6_sum 175 = .ok (.iload_n 3, 1) := by decide +kernel
theorem dX6_sum_176 : decode cX6_sum 176 = .ok (.aaload, 1) := by decide +kernel
theorem dX6_sum_177 : decode cX6_sum 177 = .ok (.astore 4, 2) := by decide +kernel
theorem dX6_sum_179 : decode cX6_sum 179 = .ok (.aload 4, 2) := by decide +kernel
theorem dX6_sum_181 : decode cX6_sum 181 = .ok (.arraylength, 1) := by decide +kernel
theorem dX6_sum_182 : decode cX6_sum 182 = .ok (.istore 5, 2) := by decide +kernel
theorem dX6_sum_184 : decode cX6_sum 184 = .ok (.iconst 0, 1) := by decide +kernel
theorem dX6_sum_185 : decode cX6_sum 185 = .ok (.istore 6, 2) := by decide +kernel
theorem dX6_sum_187 : decode cX6_sum 187 = .ok (.iload 6, 2) := by decide +kernel
theorem dX6_sum_189 : decode cX6_sum 189 = .ok (.iload 5, 2) := by decide +kernel
theorem dX6_sum_191 : decode cX6_sum 191 = .ok (.if_icmp .ge 26, 3) := by decide +kernel
theorem dX6_sum_194 : decode cX6_sum 194 = .ok (.aload 4, 2) := by decide +kernel
theorem dX6_sum_196 : decode cX6_sum 196 = .ok (.iload 6, 2) := by decide +kernel
theorem dX6_sum_198 : decode cX6_sum 198 = .ok (.iaload, 1) := by decide +kernel
theorem dX6_sum_199 : decode cX6_sum 199 = .ok (.istore 7, 2) := by decide +kernel
theorem dX6_sum_201 : decode cX6_sum 201 = .ok (.ldc2_w 125, 3) := by decide +kernel
theorem dX6_sum_204 : decode cX6_sum 204 = .ok (.lload_n 1, 1) := by decide +kernel
theorem dX6_sum_205 : decode cX6_sum 205 = .ok (.lmul, 1) := by decide +kernel
theorem dX6_sum_206 : decode cX6_sum 206 = .ok (.iload 7, 2) := by decide +kernel
theorem dX6_sum_208 : decode cX6_sum 208 = .ok (.i2l, 1) := by decide +kernel
theorem dX6_sum_209 : decode cX6_sum 209 = .ok (.ladd, 1) := by decide +kernel
theorem dX6_sum_210 : decode cX6_sum 210 = .ok (.lstore_n 1, 1) := by decide +kernel
theorem dX6_sum_211 : decode cX6_sum 211 = .ok (.iinc 6 1, 3) := by decide +kernel
theorem dX6_sum_214 : decode cX6_sum 214 = .ok (.goto (-27), 3) := by decide +kernel
theorem dX6_sum_217 : decode cX6_sum 217 = .ok (.iinc 3 1, 3) := by decide +kernel
theorem dX6_sum_220 : decode cX6_sum 220 = .ok (.goto (-55), 3) := by decide +kernel
theorem dX6_sum_223 : decode cX6_sum 223 = .ok (.lload_n 1, 1) := by decide +kernel
theorem dX6_sum_224 : decode cX6_sum 224 = .ok (.lreturn, 1) := by decide +kernel
theorem dX7_init_0 : decode cX7_init 0 = .ok (.aload_n 0, 1) := by decide +kernel
theorem dX7_init_1 : decode cX7_init 1 = .ok (.invokespecial 1, 3) := by decide +kernel
theorem dX7_init_4 : decode cX7_init 4 = .ok (.return_, 1) := by decide +kernel
theorem dX7_random_0 : decode cX7_random 0 = .ok (.new 7, 3) := by decide +kernel
theorem dX7_random_3 : decode cX7_random 3 = .ok (.dup, 1) := by decide +kernel
theorem dX7_random_4 : decode cX7_random 4 = .ok (.invokespecial 9, 3) := by decide +kernel
theorem dX7_random_7 : decode cX7_random 7 = .ok (.astore_n 2, 1) := by decide +kernel
theorem dX7_random_8 : decode cX7_random 8 = .ok (.aload_n 2, 1) := by decide +kernel
theorem dX7_random_9 : decode cX7_random 9 = .ok (.iload_n 1, 1) := by decide +kernel
theorem dX7_random_10 : decode cX7_random 10 = .ok (.ifCond .ne 11, 3) := by decide +kernel
theorem dX7_random_13 : decode cX7_random 13 = .ok (.aload_n 0, 1) := by decide +kernel
theorem dX7_random_14 : decode cX7_random 14 = .ok (.iconst 2, 1) := by decide +kernel
theorem dX7_random_15 : decode cX7_random 15 = .ok (.invokevirtual 10, 3) := by decide +kernel
theorem dX7_random_18 : decode cX7_random 18 = .ok (.goto 9, 3) := by decide +kernel
theorem dX7_random_21 : decode cX7_random 21 = .ok (.aload_n 0, 1) := by decide +kernel
theorem dX7_random_22 : decode cX7_random 22 = .ok (.bipush 6, 2) := by decide +kernel
theorem dX7_random_24 : decode cX7_random 24 = .ok (.invokevirtual 10, 3) := by decide +kernel
theorem dX7_random_27 : decode cX7_random 27 = .ok (.putfield 16, 3) := by decide +kernel
theorem dX7_random_30 : decode cX7_random 30 = .ok (.aload_n 2, 1) := by decide +kernel
theorem dX7_random_31 : decode cX7_random 31 = .ok (.aload_n 2, 1) := by decide +kernel
theorem dX7_random_32 : decode cX7_random 32 = .ok (.getfield 16, 3) := by decide +kernel
theorem dX7_random_35 : decode cX7_random 35 = .ok (.ifCond .ne 26, 3) := by decide +kernel
theorem dX7_random_38 : decode cX7_random 38 = .ok (.aload_n 0, 1) := by decide +kernel
theorem dX7_random_39 : decode cX7_random 39 = .ok (.aload_n 0, 1) := by decide +kernel
theorem dX7_random_40 : decode cX7_random 40 = .ok (.iconst 2, 1) := by decide +kernel
theorem dX7_random_41 : decode cX7_random 41 = .ok (.invokevirtual 10, 3) := by decide +kernel
theorem dX7_random_44 : decode cX7_random 44 = .ok (.ifCond .ne 9, 3) := by decide +kernel
theorem dX7_random_47 : decode cX7_random 47 = .ok (.sipush 300, 3) := by decide +kernel
theorem dX7_random_50 : decode cX7_random 50 = .ok (.goto 5, 3) := by decide +kernel
theorem dX7_random_53 : decode cX7_random 53 = .ok (.bipush 20, 2) := by decide +kernel
theorem dX7_random_55 : decode cX7_random 55 = .ok (.invokevirtual 10, 3) := by decide +kernel
theorem dX7_random_58 : decode cX7_random 58 = .ok (.goto 8, 3) := by decide +kernel
theorem dX7_random_61 : decode cX7_random 61 = .ok (.aload_n 0, 1) := by decide +kernel
theorem dX7_random_62 : decode cX7_random 62 = .ok (.iconst 3, 1) := by decide +kernel
theorem dX7_random_63 : decode cX7_random 63 = .ok (.invokevirtual 10, 3) := by decide +kernel
theorem dX7_random_66 : decode cX7_random 66 = .ok (.putfield 20, 3) := by decide +kernel
theorem dX7_random_69 : decode cX7_random 69 = .ok (.aload_n 2, 1) := by decide +kernel
theorem dX7_random_70 : decode cX7_random 70 = .ok (.getfield 16, 3) := by decide +kernel
theorem dX7_random_73 : decode cX7_random 73 = .ok (.iconst 1, 1) := by decide +kernel
theorem dX7_random_74 : decode cX7_random 74 = .ok (.if_icmp .le 25, 3) := by decide +kernel
theorem dX7_random_77 : decode cX7_random 77 = .ok (.aload_n 2, 1) := by decide +kernel
theorem dX7_random_78 : decode cX7_random 78 = .ok (.aload_n 0, 1) := by decide +kernel
theorem dX7_random_79 : decode cX7_random 79 = .ok (.iload_n 1, 1) := by decide +kernel
theorem dX7_random_80 : decode cX7_random 80 = .ok (.iconst 1, 1) := by decide +kernel
theorem dX7_random_81 : decode cX7_random 81 = .ok (.isub, 1) := by decide +kernel
theorem dX7_random_82 : decode cX7_random 82 = .ok (.invokestatic 23, 3) := by decide +kernel
theorem dX7_random_85 : decode cX7_random 85 = .ok (.putfield 27, 3) := by decide +kernel
theorem dX7_random_88 : decode cX7_random 88 = .ok (.aload_n 2, 1) := by decide +kernel
theorem dX7_random_89 : decode cX7_random 89 = .ok (.aload_n 0, 1) := by decide +kernel
theorem dX7_random_90 : decode cX7_random 90 = .ok (.iload_n 1, 1) := by decide +kernel
theorem dX7_random_91 : decode cX7_random 91 = .ok (.iconst 1, 1) := by decide +kernel
theorem dX7_random_92 : decode cX7_random 92 = .ok (.isub, 1) := by decide +kernel
theorem dX7_random_93 : decode cX7_random 93 = .ok (.invokestatic 23, 3) := by decide +kernel
theorem dX7_random_96 : decode cX7_random 96 = .ok (.putfield 31, 3) := by decide +kernel
theorem dX7_random_99 : decode cX7_random 99 = .ok (.aload_n 2, 1) := by decide +kernel
theorem dX7_random_100 : decode cX7_random 100 = .ok (.areturn, 1) := by decide +kernel
theorem dX7_text_0 : decode cX7_text 0 = .ok (.aload_n 0, 1) := by decide +kernel
theorem dX7_text_1 : decode cX7_text 1 = .ok (.getfield 16, 3) := by decide +kernel
theorem dX7_text_4 : decode cX7_text 4 = .ok (.ifCond .ne 26, 3) := by decide +kernel
theorem dX7_text_7 : decode cX7_text 7 = .ok (.new 34, 3) := by decide +kernel
theorem dX7_text_10 : decode cX7_text 10 = .ok (.dup, 1) := by decide +kernel
theorem dX7_text_11 : decode cX7_text 11 = .ok (.invokespecial 36, 3) := by decide +kernel
theorem dX7_text_14 : decode cX7_text 14 = .ok (.ldc 37, 2) := by decide +kernel
theorem dX7_text_16 : decode cX7_text 16 = .ok (.invokevirtual 39, 3) := by decide +kernel
theorem dX7_text_19 : decode cX7_text 19 = .ok (.aload_n 0, 1) := by decide +kernel
theorem dX7_text_20 : decode cX7_text 20 = .ok (.getfield 20, 3) := by decide +kernel
theorem dX7_text_23 : decode cX7_text 23 = .ok (.invokevirtual 43, 3) := by decide +kernel
theorem dX7_text_26 : decode cX7_text 26 = .ok (.invokevirtual 46, 3) := by decide +kernel
theorem dX7_text_29 : decode cX7_text 29 = .ok (.areturn, 1) := by decide +kernel
theorem dX7_text_30 : decode cX7_text 30 = .ok (.aload_n 0, 1) := by decide +kernel
theorem dX7_text_31 : decode cX7_text 31 = .ok (.getfield 16, 3) := by decide +kernel
theorem dX7_text_34 : decode cX7_text 34 = .ok (.iconst 1, 1) := by decide +kernel
theorem dX7_text_35 : decode cX7_text 35 = .ok (.if_icmp .ne 12, 3) := by decide +kernel
theorem dX7_text_38 : decode cX7_text 38 = .ok (.getstatic 50, 3) := by decide +kernel
theorem dX7_text_41 : decode cX7_text 41 = .ok (.aload_n 0, 1) := by decide +kernel
theorem dX7_text_42 : decode cX7_text 42 = .ok (.getfield 20, 3) := by decide +kernel
theorem dX7_text_45 : decode cX7_text 45 = .ok (.aaload, 1) := by decide +kernel
theorem dX7_text_46 : decode cX7_text 46 = .ok (.areturn, 1) := by decide +kernel
theorem dX7_text_47 : decode cX7_text 47 = .ok (.aload_n 0, 1) := by decide +kernel
theorem dX7_text_48 : decode cX7_text 48 = .ok (.getfield 16, 3) := by decide +kernel
theorem dX7_text_51 : decode cX7_text 51 = .ok (.iconst 4, 1) := by decide +kernel
theorem dX7_text_52 : decode cX7_text 52 = .ok (.if_icmp .ge 7, 3) := by decide +kernel
theorem dX7_text_55 : decode cX7_text 55 = .ok (.iconst 1, 1) := by decide +kernel
theorem dX7_text_56 : decode cX7_text 56 = .ok (.goto 4, 3) := by decide +kernel
theorem dX7_text_59 : decode cX7_text 59 = .ok (.iconst 2, 1) := by decide +kernel
theorem dX7_text_60 : decode cX7_text 60 = .ok (.istore_n 2, 1) := by decide +kernel
theorem dX7_text_61 : decode cX7_text 61 = .ok (.new 34, 3) := by decide +kernel
theorem dX7_text_64 : decode cX7_text 64 = .ok (.dup, 1) := by decide +kernel
theorem dX7_text_65 : decode cX7_text 65 = .ok (.invokespecial 36, 3) := by decide +kernel
theorem dX7_text_68 : decode cX7_text 68 = .ok (.aload_n 0, 1) := by decide +kernel
theorem dX7_text_69 : decode cX7_text 69 = .ok (.getfield 27, 3) := by decide +kernel
theorem dX7_text_72 : decode cX7_text 72 = .ok (.iload_n 2, 1) := by decide +kernel
theorem dX7_text_73 : decode cX7_text 73 = .ok (.invokevirtual 56, 3) := by decide +kernel
theorem dX7_text_76 : decode cX7_text 76 = .ok (.invokevirtual 39, 3) := by decide +kernel
theorem dX7_text_79 : decode cX7_text 79 = .ok (.aload_n 0, 1) := by decide +kernel
theorem dX7_text_80 : decode cX7_text 80 = .ok (.getfield 16, 3) := by decide +kernel
theorem dX7_text_83 : decode cX7_text 83 = .ok (.iconst 2, 1) := by decide +kernel
theorem dX7_text_84 : decode cX7_text 84 = .ok (.if_icmp .ne 8, 3) := by decide +kernel
theorem dX7_text_87 : decode cX7_text 87 = .ok (.ldc 60, 2) := by decide +kernel
theorem dX7_text_89 : decode cX7_text 89 = .ok (.goto 31, 3) := by decide +kernel
theorem dX7_text_92 : decode cX7_text 92 = .ok (.aload_n 0, 1) := by decide +kernel
theorem dX7_text_93 : decode cX7_text 93 = .ok (.getfield 16, 3) := by decide +kernel
theorem dX7_text_96 : decode cX7_text 96 = .ok (.iconst 3, 1) := by decide +kernel
theorem dX7_text_97 : decode cX7_text 97 = .ok (.if_icmp .ne 8, 3) := by decide +kernel
theorem dX7_text_100 : decode cX7_text 100 = .ok (.ldc 62, 2) := by decide +kernel
theorem dX7_text_102 : decode cX7_text 102 = .ok (.goto 18, 3) := by decide +kernel
theorem dX7_text_105 : decode cX7_text 105 = .ok (.aload_n 0, 1) := by decide +kernel
theorem dX7_text_106 : decode cX7_text 106 = .ok (.getfield 16, 3) := by decide +kernel
theorem dX7_text_109 : decode cX7_text 109 = .ok (.iconst 4, 1) := by decide +kernel
theorem dX7_text_110 : decode cX7_text 110 = .ok (.if_icmp .ne 8, 3) := by decide +kernel
theorem dX7_text_113 : decode cX7_text 113 = .ok (.ldc 64, 2) := by decide +kernel
theorem dX7_text_115 : decode cX7_text 115 = .ok (.goto 5, 3) := by decide +kernel
theorem dX7_text_118 : decode cX7_text 118 = .ok (.ldc 66, 2) := by decide +kernel
theorem dX7_text_120 : decode cX7_text 120 = .ok (.invokevirtual 39, 3) := by decide +kernel
theorem dX7_text_123 : decode cX7_text 123 = .ok (.aload_n 0, 1) := by decide +kernel
theorem dX7_text_124 : decode cX7_text 124 = .ok (.getfield 31, 3) := by decide +kernel
theorem dX7_text_127 : decode cX7_text 127 = .ok (.iload_n 2, 1) := by decide +kernel
theorem dX7_text_128 : decode cX7_text 128 = .ok (.iconst 1, 1) := by decide +kernel
theorem dX7_text_129 : decode cX7_text 129 = .ok (.iadd, 1) := by decide +kernel
theorem dX7_text_130 : decode cX7_text 130 = .ok (.invokevirtual 56, 3) := by decide +kernel
theorem dX7_text_133 : decode cX7_text 133 = .ok (.invokevirtual 39, 3) := by decide +kernel
theorem dX7_text_136 : decode cX7_text 136 = .ok (.invokevirtual 46, 3) := by decide +kernel
theorem dX7_text_139 : decode cX7_text 139 = .ok (.astore_n 3, 1) := by decide +kernel
theorem dX7_text_140 : decode cX7_text 140 = .ok (.iload_n 2, 1) := by decide +kernel
theorem dX7_text_141 : decode cX7_text 141 = .ok (.iload_n 1, 1) := by decide +kernel
theorem dX7_text_142 : decode cX7_text 142 = .ok (.if_icmp .ge 30, 3) := by decide +kernel
theorem dX7_text_145 : decode cX7_text 145 = .ok (.new 34, 3) := by decide +kernel
theorem dX7_text_148 : decode cX7_text 148 = .ok (.dup, 1) := by decide +kernel
theorem dX7_text_149 : decode cX7_text 149 = .ok (.invokespecial 36, 3) := by decide +kernel
theorem dX7_text_152 : decode cX7_text 152 = .ok (.ldc 68, 2) := by decide +kernel
theorem dX7_text_154 : decode cX7_text 154 = .ok (.invokevirtual 39, 3) := by decide +kernel
theorem dX7_text_157 : decode cX7_text 157 = .ok (.aload_n 3, 1) := by decide +kernel
theorem dX7_text_158 : decode cX7_text 158 = .ok (.invokevirtual 39, 3) := by decide +kernel
theorem dX7_text_161 : decode cX7_text 161 = .ok (.ldc 70, 2) := by decide +kernel
theorem dX7_text_163 : decode cX7_text 163 = .ok (.invokevirtual 39, 3) := by decide +kernel
theorem dX7_text_166 : decode cX7_text 166 = .ok (.invokevirtual 46, 3) := by decide +kernel
theorem dX7_text_169 : decode cX7_text 169 = .ok (.goto 4, 3) := by decide +kernel
theorem dX7_text_172 : decode cX7_text 172 = .ok (.aload_n 3, 1) := by decide +kernel
theorem dX7_text_173 : decode cX7_text 173 = .ok (.areturn, 1) := by decide +kernel
theorem dX7_value_0 : decode cX7_value 0 = .ok (.aload_n 0, 1) := by decide +kernel
theorem dX7_value_1 : decode cX7_value 1 = .ok (.getfield 16, 3) := by decide +kernel
theorem dX7_value_4 : decode cX7_value 4 = .ok (.iconst 2, 1) := by decide +kernel
theorem dX7_value_5 : decode cX7_value 5 = .ok (.if_icmp .ge 25, 3) := by decide +kernel
theorem dX7_value_8 : decode cX7_value 8 = .ok (.aload_n 0, 1) := by decide +kernel
theorem dX7_value_9 : decode cX7_value 9 = .ok (.getfield 16, 3) := by decide +kernel
theorem dX7_value_12 : decode cX7_value 12 = .ok (.ifCond .ne 11, 3) := by decide +kernel
theorem dX7_value_15 : decode cX7_value 15 = .ok (.aload_n 0, 1) := by decide +kernel
theorem dX7_value_16 : decode cX7_value 16 = .ok (.getfield 20, 3) := by decide +kernel
theorem dX7_value_19 : decode cX7_value 19 = .ok (.i2l, 1) := by decide +kernel
theorem dX7_value_20 : decode cX7_value 20 = .ok (.goto 9, 3) := by decide +kernel
theorem dX7_value_23 : decode cX7_value 23 = .ok (.aload_n 1, 1) := by decide +kernel
theorem dX7_value_24 : decode cX7_value 24 = .ok (.aload_n 0, 1) := by decide +kernel
theorem dX7_value_25 : decode cX7_value 25 = .ok (.getfield 20, 3) := by decide +kernel
theorem dX7_value_28 : decode cX7_value 28 = .ok (.laload, 1) := by decide +kernel
theorem dX7_value_29 : decode cX7_value 29 = .ok (.lreturn, 1) := by decide +kernel
theorem dX7_value_30 : decode cX7_value 30 = .ok (.aload_n 0, 1) := by decide +kernel
theorem dX7_value_31 : decode cX7_value 31 = .ok (.getfield 27, 3) := by decide +kernel
theorem dX7_value_34 : decode cX7_value 34 = .ok (.aload_n 1, 1) := by decide +kernel
theorem dX7_value_35 : decode cX7_value 35 = .ok (.invokevirtual 72, 3) := by decide +kernel
theorem dX7_value_38 : decode cX7_value 38 = .ok (.lstore_n 2, 1) := by decide +kernel
theorem dX7_value_39 : decode cX7_value 39 = .ok (.aload_n 0, 1) := by decide +kernel
theorem dX7_value_40 : decode cX7_value 40 = .ok (.getfield 31, 3) := by decide +kernel
theorem dX7_value_43 : decode cX7_value 43 = .ok (.aload_n 1, 1) := by decide +kernel
theorem dX7_value_44 : decode cX7_value 44 = .ok (.invokevirtual 72, 3) := by decide +kernel
theorem dX7_value_47 : decode cX7_value 47 = .ok (.lstore 4, 2) := by decide +kernel
theorem dX7_value_49 : decode cX7_value 49 = .ok (.aload_n 0, 1) := by decide +kernel
theorem dX7_value_50 : decode cX7_value 50 = .ok (.getfield 16, 3) := by decide +kernel
theorem dX7_value_53 : decode cX7_value 53 = .ok (.iconst 2, 1) := by decide +kernel
theorem dX7_value_54 : decode cX7_value 54 = .ok (.if_icmp .ne 10, 3) := by decide +kernel
theorem dX7_value_57 : decode cX7_value 57 = .ok (.lload_n 2, 1) := by decide +kernel
theorem dX7_value_58 : decode cX7_value 58 = .ok (.lload 4, 2) := by decide +kernel
theorem dX7_value_60 : decode cX7_value 60 = .ok (.ladd, 1) := by decide +kernel
theorem dX7_value_61 : decode cX7_value 61 = .ok (.goto 48, 3) := by decide +kernel
theorem dX7_value_64 : decode cX7_value 64 = .ok (.aload_n 0, 1) := by decide +kernel
theorem dX7_value_65 : decode cX7_value 65 = .ok (.getfield 16, 3) := by decide +kernel
theorem dX7_value_68 : decode cX7_value 68 = .ok (.iconst 3, 1) := by decide +kernel
theorem dX7_value_69 : decode cX7_value 69 = .ok (.if_icmp .ne 10, 3) := by decide +kernel
theorem dX7_value_72 : decode cX7_value 72 = .ok (.lload_n 2, 1) := by decide +kernel
theorem dX7_value_73 : decode cX7_value 73 = .ok (.lload 4, 2) := by decide +kernel
theorem dX7_value_75 : decode cX7_value 75 = .ok (.lsub, 1) := by decide +kernel
theorem dX7_value_76 : decode cX7_value 76 = .ok (.goto 33, 3) := by decide +kernel
theorem dX7_value_79 : decode cX7_value 79 = .ok (.aload_n 0, 1) := by decide +kernel
theorem dX7_value_80 : decode cX7_value 80 = .ok (.getfield 16, 3) := by decide +kernel
theorem dX7_value_83 : decode cX7_value 83 = .ok (.iconst 4, 1) := by decide +kernel
theorem dX7_value_84 : decode cX7_value 84 = .ok (.if_icmp .ne 10, 3) := by decide +kernel
theorem dX7_value_87 : decode cX7_value 87 = .ok (.lload_n 2, 1) := by decide +kernel
theorem dX7_value_88 : decode cX7_value 88 = .ok (.lload 4, 2) := by decide +kernel
theorem dX7_value_90 : decode cX7_value 90 = .ok (.lmul, 1) := by decide +kernel
theorem dX7_value_91 : decode cX7_value 91 = .ok (.goto 18, 3) := by decide +kernel
theorem dX7_value_94 : decode cX7_value 94 = .ok (.lload 4, 2) := by decide +kernel
theorem dX7_value_96 : decode cX7_value 96 = .ok (.lconst 0, 1) := by decide +kernel
theorem dX7_value_97 : decode cX7_value 97 = .ok (.lcmp, 1) := by decide +kernel
theorem dX7_value_98 : decode cX7_value 98 = .ok (.ifCond .ne 7, 3) := by decide +kernel
theorem dX7_value_101 : decode cX7_value 101 = .ok (.lconst 0, 1) := by decide +kernel
theorem dX7_value_102 : decode cX7_value 102 = .ok (.goto 7, 3) := by decide +kernel
theorem dX7_value_105 : decode cX7_value 105 = .ok (.lload_n 2, 1) := by decide +kernel
theorem dX7_value_106 : decode cX7_value 106 = .ok (.lload 4, 2) := by decide +kernel
theorem dX7_value_108 : decode cX7_value 108 = .ok (.ldiv, 1) := by decide +kernel
theorem dX7_value_109 : decode cX7_value 109 = .ok (.lstore 6, 2) := by decide +kernel
theorem dX7_value_111 : decode cX7_value 111 = .ok (.ldc2_w 76, 3) := by decide +kernel
theorem dX7_value_114 : decode cX7_value 114 = .ok (.ldc2_w 78, 3) := by decide +kernel
theorem dX7_value_117 : decode cX7_value 117 = .ok (.lload 6, 2) := by decide +kernel
theorem dX7_value_119 : decode cX7_value 119 = .ok (.invokestatic 80, 3) := by decide +kernel
theorem dX7_value_122 : decode cX7_value 122 = .ok (.invokestatic 86, 3) := by decide +kernel
theorem dX7_value_125 : decode cX7_value 125 = .ok (.lreturn, 1) := by decide +kernel
theorem dX8_init_0 : decode cX8_init 0 = .ok (.aload_n 0, 1) := by decide +kernel
theorem dX8_init_1 : decode cX8_init 1 = .ok (.invokespecial 1, 3) := by decide +kernel
theorem dX8_init_4 : decode cX8_init 4 = .ok (.aload_n 0, 1) := by decide +kernel
theorem dX8_init_5 : decode cX8_init 5 = .ok (.iload_n 1, 1) := by decide +kernel
theorem dX8_init_6 : decode cX8_init 6 = .ok (.putfield 7, 3) := by decide +kernel
theorem dX8_init_9 : decode cX8_init 9 = .ok (.return_, 1) := by decide +kernel
theorem dX8_below_0 : decode cX8_below 0 = .ok (.aload_n 0, 1) := by decide +kernel
theorem dX8_below_1 : decode cX8_below 1 = .ok (.ldc 13, 2) := by decide +kernel
theorem dX8_below_3 : decode cX8_below 3 = .ok (.aload_n 0, 1) := by decide +kernel
theorem dX8_below_4 : decode cX8_below 4 = .ok (.getfield 7, 3) := by decide +kernel
theorem dX8_below_7 : decode cX8_below 7 = .ok (.imul, 1) := by decide +kernel
theorem dX8_below_8 : decode cX8_below 8 = .ok (.sipush 12345, 3) := by decide +kernel
theorem dX8_below_11 : decode cX8_below 11 = .ok (.iadd, 1) := by decide +kernel
theorem dX8_below_12 : decode cX8_below 12 = .ok (.putfield 7, 3) := by decide +kernel
theorem dX8_below_15 : decode cX8_below 15 = .ok (.aload_n 0, 1) := by decide +kernel
theorem dX8_below_16 : decode cX8_below 16 = .ok (.getfield 7, 3) := by decide +kernel
theorem dX8_below_19 : decode cX8_below 19 = .ok (.bipush 16, 2) := by decide +kernel
theorem dX8_below_21 : decode cX8_below 21 = .ok (.iushr, 1) := by decide +kernel
theorem dX8_below_22 : decode cX8_below 22 = .ok (.iload_n 1, 1) := by decide +kernel
theorem dX8_below_23 : decode cX8_below 23 = .ok (.irem, 1) := by decide +kernel
theorem dX8_below_24 : decode cX8_below 24 = .ok (.ireturn, 1) := by decide +kernel
theorem dX9_init_0 : decode cX9_init 0 = .ok (.aload_n 0, 1) := by decide +kernel
theorem dX9_init_1 : decode cX9_init 1 = .ok (.invokespecial 1, 3) := by decide +kernel
theorem dX9_init_4 : decode cX9_init 4 = .ok (.aload_n 0, 1) := by decide +kernel
theorem dX9_init_5 : decode cX9_init 5 = .ok (.bipush 20, 2) := by decide +kernel
theorem dX9_init_7 : decode cX9_init 7 = .ok (.putfield 7, 3) := by decide +kernel
theorem dX9_init_10 : decode cX9_init 10 = .ok (.aload_n 0, 1) := by decide +kernel
theorem dX9_init_11 : decode cX9_init 11 = .ok (.bipush (-2), 2) := by decide +kernel
theorem dX9_init_13 : decode cX9_init 13 = .ok (.putfield 13, 3) := by decide +kernel
theorem dX9_init_16 : decode cX9_init 16 = .ok (.aload_n 0, 1) := by decide +kernel
theorem dX9_init_17 : decode cX9_init 17 = .ok (.iload_n 1, 1) := by decide +kernel
theorem dX9_init_18 : decode cX9_init 18 = .ok (.putfield 16, 3) := by decide +kernel
theorem dX9_init_21 : decode cX9_init 21 = .ok (.return_, 1) := by decide +kernel
theorem dX9_copy_0 : decode cX9_copy 0 = .ok (.new 8, 3) := by decide +kernel
theorem dX9_copy_3 : decode cX9_copy 3 = .ok (.dup, 1) := by decide +kernel
theorem dX9_copy_4 : decode cX9_copy 4 = .ok (.aload_n 0, 1) := by decide +kernel
theorem dX9_copy_5 : decode cX9_copy 5 = .ok (.getfield 16, 3) := by decide +kernel
theorem dX9_copy_8 : decode cX9_copy 8 = .ok (.invokespecial 19, 3) := by decide +kernel
theorem dX9_copy_11 : decode cX9_copy 11 = .ok (.astore_n 1, 1) := by decide +kernel
theorem dX9_copy_12 : decode cX9_copy 12 = .ok (.aload_n 1, 1) := by decide +kernel
theorem dX9_copy_13 : decode cX9_copy 13 = .ok (.aload_n 0, 1) := by decide +kernel
theorem dX9_copy_14 : decode cX9_copy 14 = .ok (.getfield 7, 3) := by decide +kernel
theorem dX9_copy_17 : decode cX9_copy 17 = .ok (.putfield 7, 3) := by decide +kernel
theorem dX9_copy_20 : decode cX9_copy 20 = .ok (.aload_n 1, 1) := by decide +kernel
theorem dX9_copy_21 : decode cX9_copy 21 = .ok (.aload_n 0, 1) := by decide +kernel
theorem dX9_copy_22 : decode cX9_copy 22 = .ok (.getfield 22, 3) := by decide +kernel
theorem dX9_copy_25 : decode cX9_copy 25 = .ok (.putfield 22, 3) := by decide +kernel
theorem dX9_copy_28 : decode cX9_copy 28 = .ok (.aload_n 1, 1) := by decide +kernel
theorem dX9_copy_29 : decode cX9_copy 29 = .ok (.aload_n 0, 1) := by decide +kernel
theorem dX9_copy_30 : decode cX9_copy 30 = .ok (.getfield 13, 3) := by decide +kernel
theorem dX9_copy_33 : decode cX9_copy 33 = .ok (.putfield 13, 3) := by decide +kernel
theorem dX9_copy_36 : decode cX9_copy 36 = .ok (.aload_n 1, 1) := by decide +kernel
theorem dX9_copy_37 : decode cX9_copy 37 = .ok (.areturn, 1) := by decide +kernel
theorem dJ5_init_d00df_0 : decode cJ5_init_d00df 0 = .ok (.aload_n 0, 1) := by decide +kernel
theorem dJ5_init_d00df_1 : decode cJ5_init_d00df 1 = .ok (.invokespecial 3, 3) := by decide +kernel
theorem dJ5_init_d00df_4 : decode cJ5_init_d00df 4 = .ok (.getstatic 18, 3) := by decide +kernel
theorem dJ5_init_d00df_7 : decode cJ5_init_d00df 7 = .ok (.ifCond .eq 18, 3) := by decide +kernel
theorem dJ5_init_d00df_10 : decode cJ5_init_d00df 10 = .ok (.aload_n 0, 1) := by decide +kernel
theorem dJ5_init_d00df_11 : decode cJ5_init_d00df 11 = .ok (.iload_n 1, 1) := by decide +kernel
theorem dJ5_init_d00df_12 : decode cJ5_init_d00df 12 = .ok (.newarray .byte, 2) := by decide +kernel
theorem dJ5_init_d00df_14 : decode cJ5_init_d00df 14 = .ok (.putfield 15, 3) := by decide +kernel
theorem dJ5_init_d00df_17 : decode cJ5_init_d00df 17 = .ok (.aload_n 0, 1) := by decide +kernel
theorem dJ5_init_d00df_18 : decode cJ5_init_d00df 18 = .ok (.iconst 0, 1) := by decide +kernel
theorem dJ5_init_d00df_19 : decode cJ5_init_d00df 19 = .ok (.putfield 22, 3) := by decide +kernel
theorem dJ5_init_d00df_22 : decode cJ5_init_d00df 22 = .ok (.goto 16, 3) := by decide +kernel
theorem dJ5_init_d00df_25 : decode cJ5_init_d00df 25 = .ok (.aload_n 0, 1) := by decide +kernel
theorem dJ5_init_d00df_26 : decode cJ5_init_d00df 26 = .ok (.iload_n 1, 1) := by decide +kernel
theorem dJ5_init_d00df_27 : decode cJ5_init_d00df 27 = .ok (.invokestatic 26, 3) := by decide +kernel
theorem dJ5_init_d00df_30 : decode cJ5_init_d00df 30 = .ok (.putfield 15, 3) := by decide +kernel
theorem dJ5_init_d00df_33 : decode cJ5_init_d00df 33 = .ok (.aload_n 0, 1) := by decide +kernel
theorem dJ5_init_d00df_34 : decode cJ5_init_d00df 34 = .ok (.iconst 1, 1) := by decide +kernel
theorem dJ5_init_d00df_35 : decode cJ5_init_d00df 35 = .ok (.putfield 22, 3) := by decide +kernel
theorem dJ5_init_d00df_38 : decode cJ5_init_d00df 38 = .ok (.return_, 1) := by decide +kernel
theorem dJ5_length_8abf5_0 : decode cJ5_length_8abf5 0 = .ok (.aload_n 0, 1) := by decide +kernel
theorem dJ5_length_8abf5_1 : decode cJ5_length_8abf5 1 = .ok (.getfield 79, 3) := by decide +kernel
theorem dJ5_length_8abf5_4 : decode cJ5_length_8abf5 4 = .ok (.ireturn, 1) := by decide +kernel
theorem dJ5_ensureCapacityInternal_d00df_0 : decode cJ5_ensureCapacityInternal_d00df 0 = .ok (.aload_n 0, 1) := by decide +kernel
theorem dJ5_ensureCapacityInternal_d00df_1 : decode cJ5_ensureCapacityInternal_d00df 1 = .ok (.getfield 15, 3) := by decide +kernel
theorem dJ5_ensureCapacityInternal_d00df_4 : decode cJ5_ensureCapacityInternal_d00df 4 = .ok (.arraylength, 1) := by decide +kernel
theorem dJ5_ensureCapacityInternal_d00df_5 : decode cJ5_ensureCapacityInternal_d00df 5 = .ok (.aload_n 0, 1) := by decide +kernel
theorem dJ5_ensureCapacityInternal_d00df_6 : decode cJ5_ensureCapacityInternal_d00df 6 = .ok (.getfield 22, 3) := by decide +kernel
theorem dJ5_ensureCapacityInternal_d00df_9 : decode cJ5_ensureCapacityInternal_d00df 9 = .ok (.ishr, 1) := by decide +kernel
theorem dJ5_ensureCapacityInternal_d00df_10 : decode cJ5_ensureCapacityInternal_d00df 10 = .ok (.istore_n 2, 1) := by decide +kernel
theorem dJ5_ensureCapacityInternal_d00df_11 : decode cJ5_ensureCapacityInternal_d00df 11 = .ok (.iload_n 1, 1) := by decide +kernel
theorem dJ5_ensureCapacityInternal_d00df_12 : decode cJ5_ensureCapacityInternal_d00df 12 = .ok (.iload_n 2, 1) := by decide +kernel
theorem dJ5_ensureCapacityInternal_d00df_13 : decode cJ5_ensureCapacityInternal_d00df 13 = .ok (.isub, 1) := by decide +kernel
theorem dJ5_ensureCapacityInternal_d00df_14 : decode cJ5_ensureCapacityInternal_d00df 14 = .ok (.ifCond .le 24, 3) := by decide +kernel
theorem dJ5_ensureCapacityInternal_d00df_17 : decode cJ5_ensureCapacityInternal_d00df 17 = .ok (.aload_n 0, 1) := by decide +kernel
theorem dJ5_ensureCapacityInternal_d00df_18 : decode cJ5_ensureCapacityInternal_d00df 18 = .ok (.aload_n 0, 1) := by decide +kernel
theorem dJ5_ensureCapacityInternal_d00df_19 : decode cJ5_ensureCapacityInternal_d00df 19 = .ok (.getfield 15, 3) := by decide +kernel
theorem dJ5_ensureCapacityInternal_d00df_22 : decode cJ5_ensureCapacityInternal_d00df 22 = .ok (.aload_n 0, 1) := by decide +kernel
theorem dJ5_ensureCapacityInternal_d00df_23 : decode cJ5_ensureCapacityInternal_d00df 23 = .ok (.iload_n 1, 1) := by decide +kernel
theorem dJ5_ensureCapacityInternal_d00df_24 : decode cJ5_ensureCapacityInternal_d00df 24 = .ok (.invokevirtual 104, 3) := by decide +kernel
theorem dJ5_ensureCapacityInternal_d00df_27 : decode cJ5_ensureCapacityInternal_d00df 27 = .ok (.aload_n 0, 1) := by decide +kernel
theorem dJ5_ensureCapacityInternal_d00df_28 : decode cJ5_ensureCapacityInternal_d00df 28 = .ok (.getfield 22, 3) := by decide +kernel
theorem dJ5_ensureCapacityInternal_d00df_31 : decode cJ5_ensureCapacityInternal_d00df 31 = .ok (.ishl, 1) := by decide +kernel
theorem dJ5_ensureCapacityInternal_d00df_32 : decode cJ5_ensureCapacityInternal_d00df 32 = .ok (.invokestatic 108, 3) := by decide +kernel
theorem dJ5_ensureCapacityInternal_d00df_35 : decode cJ5_ensureCapacityInternal_d00df 35 = .ok (.putfield 15, 3) := by decide +kernel
theorem dJ5_ensureCapacityInternal_d00df_38 : decode cJ5_ensureCapacityInternal_d00df 38 = .ok (.return_, 1) := by decide +kernel
theorem dJ5_newCapacity_0f7a4_0 : decode cJ5_newCapacity_0f7a4 0 = .ok (.aload_n 0, 1) := by decide +kernel
theorem dJ5_newCapacity_0f7a4_1 : decode cJ5_newCapacity_0f7a4 1 = .ok (.getfield 15, 3) := by decide +kernel
theorem dJ5_newCapacity_0f7a4_4 : decode cJ5_newCapacity_0f7a4 4 = .ok (.arraylength, 1) := by decide +kernel
theorem dJ5_newCapacity_0f7a4_5 : decode cJ5_newCapacity_0f7a4 5 = .ok (.istore_n 2, 1) := by decide +kernel
theorem dJ5_newCapacity_0f7a4_6 : decode cJ5_newCapacity_0f7a4 6 = .ok (.iload_n 1, 1) := by decide +kernel
theorem dJ5_newCapacity_0f7a4_7 : decode cJ5_newCapacity_0f7a4 7 = .ok (.aload_n 0, 1) := by decide +kernel
theorem dJ5_newCapacity_0f7a4_8 : decode cJ5_newCapacity_0f7a4 8 = .ok (.getfield 22, 3) := by decide +kernel
theorem dJ5_newCapacity_0f7a4_11 : decode cJ5_newCapacity_0f7a4 11 = .ok (.ishl, 1) := by decide +kernel
theorem dJ5_newCapacity_0f7a4_12 : decode cJ5_newCapacity_0f7a4 12 = .ok (.istore_n 3, 1) := by decide +kernel
theorem dJ5_newCapacity_0f7a4_13 : decode cJ5_newCapacity_0f7a4 13 = .ok (.iload_n 3, 1) := by decide +kernel
theorem dJ5_newCapacity_0f7a4_14 : decode cJ5_newCapacity_0f7a4 14 = .ok (.iload_n 2, 1) := by decide +kernel
theorem dJ5_newCapacity_0f7a4_15 : decode cJ5_newCapacity_0f7a4 15 = .ok (.isub, 1) := by decide +kernel
theorem dJ5_newCapacity_0f7a4_16 : decode cJ5_newCapacity_0f7a4 16 = .ok (.istore 4, 2) := by decide +kernel
theorem dJ5_newCapacity_0f7a4_18 : decode cJ5_newCapacity_0f7a4 18 = .ok (.iload_n 2, 1) := by decide +kernel
theorem dJ5_newCapacity_0f7a4_19 : decode cJ5_newCapacity_0f7a4 19 = .ok (.iload 4, 2) := by decide +kernel
theorem dJ5_newCapacity_0f7a4_21 : decode cJ5_newCapacity_0f7a4 21 = .ok (.iload_n 2, 1) := by decide +kernel
theorem dJ5_newCapacity_0f7a4_22 : decode cJ5_newCapacity_0f7a4 22 = .ok (.iconst 2, 1) := by decide +kernel
theorem dJ5_newCapacity_0f7a4_23 : decode cJ5_newCapacity_0f7a4 23 = .ok (.aload_n 0, 1) := by decide +kernel
theorem dJ5_newCapacity_0f7a4_24 : decode cJ5_newCapacity_0f7a4 24 = .ok (.getfield 22, 3) := by decide +kernel
theorem dJ5_newCapacity_0f7a4_27 : decode cJ5_newCapacity_0f7a4 27 = .ok (.ishl, 1) := by decide +kernel
theorem dJ5_newCapacity_0f7a4_28 : decode cJ5_newCapacity_0f7a4 28 = .ok (.iadd, 1) := by decide +kernel
theorem dJ5_newCapacity_0f7a4_29 : decode cJ5_newCapacity_0f7a4 29 = .ok (.invokestatic 114, 3) := by decide +kernel
theorem dJ5_newCapacity_0f7a4_32 : decode cJ5_newCapacity_0f7a4 32 = .ok (.istore 5, 2) := by decide +kernel
theorem dJ5_newCapacity_0f7a4_34 : decode cJ5_newCapacity_0f7a4 34 = .ok (.iload 5, 2) := by decide +kernel
theorem dJ5_newCapacity_0f7a4_36 : decode cJ5_newCapacity_0f7a4 36 = .ok (.ldc 39, 2) := by decide +kernel
theorem dJ5_newCapacity_0f7a4_38 : decode cJ5_newCapacity_0f7a4 38 = .ok (.if_icmp .ne 13, 3) := by decide +kernel
theorem dJ5_newCapacity_0f7a4_41 : decode cJ5_newCapacity_0f7a4 41 = .ok (.new 120, 3) := by decide +kernel
theorem dJ5_newCapacity_0f7a4_44 : decode cJ5_newCapacity_0f7a4 44 = .ok (.dup, 1) := by decide +kernel
theorem dJ5_newCapacity_0f7a4_45 : decode cJ5_newCapacity_0f7a4 45 = .ok (.ldc 122, 2) := by decide +kernel
theorem dJ5_newCapacity_0f7a4_47 : decode cJ5_newCapacity_0f7a4 47 = .ok (.invokespecial 124, 3) := by decide +kernel
theorem dJ5_newCapacity_0f7a4_50 : decode cJ5_newCapacity_0f7a4 50 = .ok (.athrow, 1) := by decide +kernel
theorem dJ5_newCapacity_0f7a4_51 : decode cJ5_newCapacity_0f7a4 51 = .ok (.iload 5, 2) := by decide +kernel
theorem dJ5_newCapacity_0f7a4_53 : decode cJ5_newCapacity_0f7a4 53 = .ok (.aload_n 0, 1) := by decide +kernel
theorem dJ5_newCapacity_0f7a4_54 : decode cJ5_newCapacity_0f7a4 54 = .ok (.getfield 22, 3) := by decide +kernel
theorem dJ5_newCapacity_0f7a4_57 : decode cJ5_newCapacity_0f7a4 57 = .ok (.ishr, 1) := by decide +kernel
theorem dJ5_newCapacity_0f7a4_58 : decode cJ5_newCapacity_0f7a4 58 = .ok (.ireturn, 1) := by decide +kernel
theorem dJ5_append_cf1ce_0 : decode cJ5_append_cf1ce 0 = .ok (.aload_n 1, 1) := by decide +kernel
theorem dJ5_append_cf1ce_1 : decode cJ5_append_cf1ce 1 = .ok (.ifnonnull 8, 3) := by decide +kernel
theorem dJ5_append_cf1ce_4 : decode cJ5_append_cf1ce 4 = .ok (.aload_n 0, 1) := by decide +kernel
theorem dJ5_append_cf1ce_5 : decode cJ5_append_cf1ce 5 = .ok (.invokevirtual 204, 3) := by decide +kernel
theorem dJ5_append_cf1ce_8 : decode cJ5_append_cf1ce 8 = .ok (.areturn, 1) := by decide +kernel
theorem dJ5_append_cf1ce_9 : decode cJ5_append_cf1ce 9 = .ok (.aload_n 1, 1) := by decide +kernel
theorem dJ5_append_cf1ce_10 : decode cJ5_append_cf1ce 10 = .ok (.invokevirtual 32, 3) := by decide +kernel
theorem dJ5_append_cf1ce_13 : decode cJ5_append_cf1ce 13 = .ok (.istore_n 2, 1) := by decide +kernel
theorem dJ5_append_cf1ce_14 : decode cJ5_append_cf1ce 14 = .ok (.aload_n 0, 1) := by decide +kernel
theorem dJ5_append_cf1ce_15 : decode cJ5_append_cf1ce 15 = .ok (.aload_n 0, 1) := by decide +kernel
theorem dJ5_append_cf1ce_16 : decode cJ5_append_cf1ce 16 = .ok (.getfield 79, 3) := by decide +kernel
theorem dJ5_append_cf1ce_19 : decode cJ5_append_cf1ce 19 = .ok (.iload_n 2, 1) := by decide +kernel
theorem dJ5_append_cf1ce_20 : decode cJ5_append_cf1ce 20 = .ok (.iadd, 1) := by decide +kernel
theorem dJ5_append_cf1ce_21 : decode cJ5_append_cf1ce 21 = .ok (.invokevirtual 100, 3) := by decide +kernel
theorem dJ5_append_cf1ce_24 : decode cJ5_append_cf1ce 24 = .ok (.aload_n 0, 1) := by decide +kernel
theorem dJ5_append_cf1ce_25 : decode cJ5_append_cf1ce 25 = .ok (.aload_n 0, 1) := by decide +kernel
theorem dJ5_append_cf1ce_26 : decode cJ5_append_cf1ce 26 = .ok (.getfield 79, 3) := by decide +kernel
theorem dJ5_append_cf1ce_29 : decode cJ5_append_cf1ce 29 = .ok (.aload_n 1, 1) := by decide +kernel
theorem dJ5_append_cf1ce_30 : decode cJ5_append_cf1ce 30 = .ok (.invokevirtual 208, 3) := by decide +kernel
theorem dJ5_append_cf1ce_33 : decode cJ5_append_cf1ce 33 = .ok (.aload_n 0, 1) := by decide +kernel
theorem dJ5_append_cf1ce_34 : decode cJ5_append_cf1ce 34 = .ok (.dup, 1) := by decide +kernel
theorem dJ5_append_cf1ce_35 : decode cJ5_append_cf1ce 35 = .ok (.getfield 79, 3) := by decide +kernel
theorem dJ5_append_cf1ce_38 : decode cJ5_append_cf1ce 38 = .ok (.iload_n 2, 1) := by decide +kernel
theorem dJ5_append_cf1ce_39 : decode cJ5_append_cf1ce 39 = .ok (.iadd, 1) := by decide +kernel
theorem dJ5_append_cf1ce_40 : decode cJ5_append_cf1ce 40 = .ok (.putfield 79, 3) := by decide +kernel
theorem dJ5_append_cf1ce_43 : decode cJ5_append_cf1ce 43 = .ok (.aload_n 0, 1) := by decide +kernel
theorem dJ5_append_cf1ce_44 : decode cJ5_append_cf1ce 44 = .ok (.areturn, 1) := by decide +kernel
theorem dJ5_append_c97b9_0 : decode cJ5_append_c97b9 0 = .ok (.aload_n 0, 1) := by decide +kernel
theorem dJ5_append_c97b9_1 : decode cJ5_append_c97b9 1 = .ok (.getfield 79, 3) := by decide +kernel
theorem dJ5_append_c97b9_4 : decode cJ5_append_c97b9 4 = .ok (.istore_n 2, 1) := by decide +kernel
theorem dJ5_append_c97b9_5 : decode cJ5_append_c97b9 5 = .ok (.iload_n 2, 1) := by decide +kernel
theorem dJ5_append_c97b9_6 : decode cJ5_append_c97b9 6 = .ok (.iload_n 1, 1) := by decide +kernel
theorem dJ5_append_c97b9_7 : decode cJ5_append_c97b9 7 = .ok (.invokestatic 245, 3) := by decide +kernel
theorem dJ5_append_c97b9_10 : decode cJ5_append_c97b9 10 = .ok (.iadd, 1) := by decide +kernel
theorem dJ5_append_c97b9_11 : decode cJ5_append_c97b9 11 = .ok (.istore_n 3, 1) := by decide +kernel
theorem dJ5_append_c97b9_12 : decode cJ5_append_c97b9 12 = .ok (.aload_n 0, 1) := by decide +kernel
theorem dJ5_append_c97b9_13 : decode cJ5_append_c97b9 13 = .ok (.iload_n 3, 1) := by decide +kernel
theorem dJ5_append_c97b9_14 : decode cJ5_append_c97b9 14 = .ok (.invokevirtual 100, 3) := by decide +kernel
theorem dJ5_append_c97b9_17 : decode cJ5_append_c97b9 17 = .ok (.aload_n 0, 1) := by decide +kernel
theorem dJ5_append_c97b9_18 : decode cJ5_append_c97b9 18 = .ok (.invokevirtual 83, 3) := by decide +kernel
theorem dJ5_append_c97b9_21 : decode cJ5_append_c97b9 21 = .ok (.ifCond .eq 16, 3) := by decide +kernel
theorem dJ5_append_c97b9_24 : decode cJ5_append_c97b9 24 = .ok (.iload_n 1, 1) := by decide +kernel
theorem dJ5_append_c97b9_25 : decode cJ5_append_c97b9 25 = .ok (.iload_n 3, 1) := by decide +kernel
theorem dJ5_append_c97b9_26 : decode cJ5_append_c97b9 26 = .ok (.aload_n 0, 1) := by decide +kernel
theorem dJ5_append_c97b9_27 : decode cJ5_append_c97b9 27 = .ok (.getfield 15, 3) := by decide +kernel
theorem dJ5_append_c97b9_30 : decode cJ5_append_c97b9 30 = .ok (.invokestatic 248, 3) := by decide +kernel
theorem dJ5_append_c97b9_33 : decode cJ5_append_c97b9 33 = .ok (.pop, 1) := by decide +kernel
theorem dJ5_append_c97b9_34 : decode cJ5_append_c97b9 34 = .ok (.goto 14, 3) := by decide +kernel
theorem dJ5_append_c97b9_37 : decode cJ5_append_c97b9 37 = .ok (.iload_n 1, 1) := by decide +kernel
theorem dJ5_append_c97b9_38 : decode cJ5_append_c97b9 38 = .ok (.iload_n 2, 1) := by decide +kernel
theorem dJ5_append_c97b9_39 : decode cJ5_append_c97b9 39 = .ok (.iload_n 3, 1) := by decide +kernel
theorem dJ5_append_c97b9_40 : decode cJ5_append_c97b9 40 = .ok (.aload_n 0, 1) := by decide +kernel
theorem dJ5_append_c97b9_41 : decode cJ5_append_c97b9 41 = .ok (.getfield 15, 3) := by decide +kernel
theorem dJ5_append_c97b9_44 : decode cJ5_append_c97b9 44 = .ok (.invokestatic 251, 3) := by decide +kernel
theorem dJ5_append_c97b9_47 : decode cJ5_append_c97b9 47 = .ok (.pop, 1) := by decide +kernel
theorem dJ5_append_c97b9_48 : decode cJ5_append_c97b9 48 = .ok (.aload_n 0, 1) := by decide +kernel
theorem dJ5_append_c97b9_49 : decode cJ5_append_c97b9 49 = .ok (.iload_n 3, 1) := by decide +kernel
theorem dJ5_append_c97b9_50 : decode cJ5_append_c97b9 50 = .ok (.putfield 79, 3) := by decide +kernel
theorem dJ5_append_c97b9_53 : decode cJ5_append_c97b9 53 = .ok (.aload_n 0, 1) := by decide +kernel
theorem dJ5_append_c97b9_54 : decode cJ5_append_c97b9 54 = .ok (.areturn, 1) := by decide +kernel
theorem dJ5_getValue_6d5f1_0 : decode cJ5_getValue_6d5f1 0 = .ok (.aload_n 0, 1) := by decide +kernel
theorem dJ5_getValue_6d5f1_1 : decode cJ5_getValue_6d5f1 1 = .ok (.getfield 15, 3) := by decide +kernel
theorem dJ5_getValue_6d5f1_4 : decode cJ5_getValue_6d5f1 4 = .ok (.areturn, 1) := by decide +kernel
theorem dJ5_isLatin1_aae02_0 : decode cJ5_isLatin1_aae02 0 = .ok (.getstatic 18, 3) := by decide +kernel
theorem dJ5_isLatin1_aae02_3 : decode cJ5_isLatin1_aae02 3 = .ok (.ifCond .eq 14, 3) := by decide +kernel
theorem dJ5_isLatin1_aae02_6 : decode cJ5_isLatin1_aae02 6 = .ok (.aload_n 0, 1) := by decide +kernel
theorem dJ5_isLatin1_aae02_7 : decode cJ5_isLatin1_aae02 7 = .ok (.getfield 22, 3) := by decide +kernel
theorem dJ5_isLatin1_aae02_10 : decode cJ5_isLatin1_aae02 10 = .ok (.ifCond .ne 7, 3) := by decide +kernel
theorem dJ5_isLatin1_aae02_13 : decode cJ5_isLatin1_aae02 13 = .ok (.iconst 1, 1) := by decide +kernel
theorem dJ5_isLatin1_aae02_14 : decode cJ5_isLatin1_aae02 14 = .ok (.goto 4, 3) := by decide +kernel
theorem dJ5_isLatin1_aae02_17 : decode cJ5_isLatin1_aae02 17 = .ok (.iconst 0, 1) := by decide +kernel
theorem dJ5_isLatin1_aae02_18 : decode cJ5_isLatin1_aae02 18 = .ok (.ireturn, 1) := by decide +kernel
theorem dJ5_inflateIfNeededFor_a7421_0 : decode cJ5_inflateIfNeededFor_a7421 0 = .ok (.getstatic 18, 3) := by decide +kernel
theorem dJ5_inflateIfNeededFor_a7421_3 : decode cJ5_inflateIfNeededFor_a7421 3 = .ok (.ifCond .eq 18, 3) := by decide +kernel
theorem dJ5_inflateIfNeededFor_a7421_6 : decode cJ5_inflateIfNeededFor_a7421 6 = .ok (.aload_n 0, 1) := by decide +kernel
theorem dJ5_inflateIfNeededFor_a7421_7 : decode cJ5_inflateIfNeededFor_a7421 7 = .ok (.getfield 22, 3) := by decide +kernel
theorem dJ5_inflateIfNeededFor_a7421_10 : decode cJ5_inflateIfNeededFor_a7421 10 = .ok (.aload_n 1, 1) := by decide +kernel
theorem dJ5_inflateIfNeededFor_a7421_11 : decode cJ5_inflateIfNeededFor_a7421 11 = .ok (.invokevirtual 40, 3) := by decide +kernel
theorem dJ5_inflateIfNeededFor_a7421_14 : decode cJ5_inflateIfNeededFor_a7421 14 = .ok (.if_icmp .eq 7, 3) := by decide +kernel
theorem dJ5_inflateIfNeededFor_a7421_17 : decode cJ5_inflateIfNeededFor_a7421 17 = .ok (.aload_n 0, 1) := by decide +kernel
theorem dJ5_inflateIfNeededFor_a7421_18 : decode cJ5_inflateIfNeededFor_a7421 18 = .ok (.invokevirtual 195, 3) := by decide +kernel
theorem dJ5_inflateIfNeededFor_a7421_21 : decode cJ5_inflateIfNeededFor_a7421 21 = .ok (.return_, 1) := by decide +kernel
theorem dJ5_putStringAt_47b60_0 : decode cJ5_putStringAt_47b60 0 = .ok (.aload_n 0, 1) := by decide +kernel
theorem dJ5_putStringAt_47b60_1 : decode cJ5_putStringAt_47b60 1 = .ok (.aload_n 2, 1) := by decide +kernel
theorem dJ5_putStringAt_47b60_2 : decode cJ5_putStringAt_47b60 2 = .ok (.invokevirtual 397, 3) := by decide +kernel
theorem dJ5_putStringAt_47b60_5 : decode cJ5_putStringAt_47b60 5 = .ok (.aload_n 2, 1) := by decide +kernel
theorem dJ5_putStringAt_47b60_6 : decode cJ5_putStringAt_47b60 6 = .ok (.aload_n 0, 1) := by decide +kernel
theorem dJ5_putStringAt_47b60_7 : decode cJ5_putStringAt_47b60 7 = .ok (.getfield 15, 3) := by decide +kernel
theorem dJ5_putStringAt_47b60_10 : decode cJ5_putStringAt_47b60 10 = .ok (.iload_n 1, 1) := by decide +kernel
theorem dJ5_putStringAt_47b60_11 : decode cJ5_putStringAt_47b60 11 = .ok (.aload_n 0, 1) := by decide +kernel
theorem dJ5_putStringAt_47b60_12 : decode cJ5_putStringAt_47b60 12 = .ok (.getfield 22, 3) := by decide +kernel
theorem dJ5_putStringAt_47b60_15 : decode cJ5_putStringAt_47b60 15 = .ok (.invokevirtual 399, 3) := by decide +kernel
theorem dJ5_putStringAt_47b60_18 : decode cJ5_putStringAt_47b60 18 = .ok (.return_, 1) := by decide +kernel
theorem dJ6_getChars_ba4f3_0 : decode cJ6_getChars_ba4f3 0 = .ok (.iload_n 1, 1) := by decide +kernel
theorem dJ6_getChars_ba4f3_1 : decode cJ6_getChars_ba4f3 1 = .ok (.istore 5, 2) := by decide +kernel
theorem dJ6_getChars_ba4f3_3 : decode cJ6_getChars_ba4f3 3 = .ok (.iload_n 0, 1) := by decide +kernel
theorem dJ6_getChars_ba4f3_4 : decode cJ6_getChars_ba4f3 4 = .ok (.ifCond .ge 7, 3) := by decide +kernel
theorem dJ6_getChars_ba4f3_7 : decode cJ6_getChars_ba4f3 7 = .ok (.iconst 1, 1) := by decide +kernel
theorem dJ6_getChars_ba4f3_8 : decode cJ6_getChars_ba4f3 8 = .ok (.goto 4, 3) := by decide +kernel
theorem dJ6_getChars_ba4f3_11 : decode cJ6_getChars_ba4f3 11 = .ok (.iconst 0, 1) := by decide +kernel
theorem dJ6_getChars_ba4f3_12 : decode cJ6_getChars_ba4f3 12 = .ok (.istore 6, 2) := by decide +kernel
theorem dJ6_getChars_ba4f3_14 : decode cJ6_getChars_ba4f3 14 = .ok (.iload 6, 2) := by decide +kernel
theorem dJ6_getChars_ba4f3_16 : decode cJ6_getChars_ba4f3 16 = .ok (.ifCond .ne 6, 3) := by decide +kernel
theorem dJ6_getChars_ba4f3_19 : decode cJ6_getChars_ba4f3 19 = .ok (.iload_n 0, 1) := by decide +kernel
theorem dJ6_getChars_ba4f3_20 : decode cJ6_getChars_ba4f3 20 = .ok (.ineg, 1) := by decide +kernel
theorem dJ6_getChars_ba4f3_21 : decode cJ6_getChars_ba4f3 21 = .ok (.istore_n 0, 1) := by decide +kernel
theorem dJ6_getChars_ba4f3_22 : decode cJ6_getChars_ba4f3 22 = .ok (.iload_n 0, 1) := by decide +kernel
theorem dJ6_getChars_ba4f3_23 : decode cJ6_getChars_ba4f3 23 = .ok (.bipush (-100), 2) := by decide +kernel
theorem dJ6_getChars_ba4f3_25 : decode cJ6_getChars_ba4f3 25 = .ok (.if_icmp .gt 47, 3) := by decide +kernel
theorem dJ6_getChars_ba4f3_28 : decode cJ6_getChars_ba4f3 28 = .ok (.iload_n 0, 1) := by decide +kernel
theorem dJ6_getChars_ba4f3_29 : decode cJ6_getChars_ba4f3 29 = .ok (.bipush 100, 2) := by decide +kernel
theorem dJ6_getChars_ba4f3_31 : decode cJ6_getChars_ba4f3 31 = .ok (.idiv, 1) := by decide +kernel
theorem dJ6_getChars_ba4f3_32 : decode cJ6_getChars_ba4f3 32 = .ok (.istore_n 3, 1) := by decide +kernel
theorem dJ6_getChars_ba4f3_33 : decode cJ6_getChars_ba4f3 33 = .ok (.iload_n 3, 1) := by decide +kernel
theorem dJ6_getChars_ba4f3_34 : decode cJ6_getChars_ba4f3 34 = .ok (.bipush 100, 2) := by decide +kernel
theorem dJ6_getChars_ba4f3_36 : decode cJ6_getChars_ba4f3 36 = .ok (.imul, 1) := by decide +kernel
theorem dJ6_getChars_ba4f3_37 : decode cJ6_getChars_ba4f3 37 = .ok (.iload_n 0, 1) := by decide +kernel
theorem dJ6_getChars_ba4f3_38 : decode cJ6_getChars_ba4f3 38 = .ok (.isub, 1) := by decide +kernel
theorem dJ6_getChars_ba4f3_39 : decode cJ6_getChars_ba4f3 39 = .ok (.istore 4, 2) := by decide +kernel
theorem dJ6_getChars_ba4f3_41 : decode cJ6_getChars_ba4f3 41 = .ok (.iload_n 3, 1) := by decide +kernel
theorem dJ6_getChars_ba4f3_42 : decode cJ6_getChars_ba4f3 42 = .ok (.istore_n 0, 1) := by decide +kernel
theorem dJ6_getChars_ba4f3_43 : decode cJ6_getChars_ba4f3 43 = .ok (.aload_n 2, 1) := by decide +kernel
theorem dJ6_getChars_ba4f3_44 : decode cJ6_getChars_ba4f3 44 = .ok (.iinc 5 (-1), 3) := by decide +kernel
theorem dJ6_getChars_ba4f3_47 : decode cJ6_getChars_ba4f3 47 = .ok (.iload 5, 2) := by decide +kernel
theorem dJ6_getChars_ba4f3_49 : decode cJ6_getChars_ba4f3 49 = .ok (.getstatic 83, 3) := by decide +kernel
theorem dJ6_getChars_ba4f3_52 : decode cJ6_getChars_ba4f3 52 = .ok (.iload 4, 2) := by decide +kernel
theorem dJ6_getChars_ba4f3_54 : decode cJ6_getChars_ba4f3 54 = .ok (.baload, 1) := by decide +kernel
theorem dJ6_getChars_ba4f3_55 : decode cJ6_getChars_ba4f3 55 = .ok (.bastore, 1) := by decide +kernel
theorem dJ6_getChars_ba4f3_56 : decode cJ6_getChars_ba4f3 56 = .ok (.aload_n 2, 1) := by decide +kernel
theorem dJ6_getChars_ba4f3_57 : decode cJ6_getChars_ba4f3 57 = .ok (.iinc 5 (-1), 3) := by decide +kernel
theorem dJ6_getChars_ba4f3_60 : decode cJ6_getChars_ba4f3 60 = .ok (.iload 5, 2) := by decide +kernel
theorem dJ6_getChars_ba4f3_62 : decode cJ6_getChars_ba4f3 62 = .ok (.getstatic 87, 3) := by decide +kernel
theorem dJ6_getChars_ba4f3_65 : decode cJ6_getChars_ba4f3 65 = .ok (.iload 4, 2) := by decide +kernel
theorem dJ6_getChars_ba4f3_67 : decode cJ6_getChars_ba4f3 67 = .ok (.baload, 1) := by decide +kernel
theorem dJ6_getChars_ba4f3_68 : decode cJ6_getChars_ba4f3 68 = .ok (.bastore, 1) := by decide +kernel
theorem dJ6_getChars_ba4f3_69 : decode cJ6_getChars_ba4f3 69 = .ok (.goto (-47), 3) := by decide +kernel
theorem dJ6_getChars_ba4f3_72 : decode cJ6_getChars_ba4f3 72 = .ok (.aload_n 2, 1) := by decide +kernel
theorem dJ6_getChars_ba4f3_73 : decode cJ6_getChars_ba4f3 73 = .ok (.iinc 5 (-1), 3) := by decide +kernel
theorem dJ6_getChars_ba4f3_76 : decode cJ6_getChars_ba4f3 76 = .ok (.iload 5, 2) := by decide +kernel
theorem dJ6_getChars_ba4f3_78 : decode cJ6_getChars_ba4f3 78 = .ok (.getstatic 83, 3) := by decide +kernel
theorem dJ6_getChars_ba4f3_81 : decode cJ6_getChars_ba4f3 81 = .ok (.iload_n 0, 1) := by decide +kernel
theorem dJ6_getChars_ba4f3_82 : decode cJ6_getChars_ba4f3 82 = .ok (.ineg, 1) := by decide +kernel
theorem dJ6_getChars_ba4f3_83 : decode cJ6_getChars_ba4f3 83 = .ok (.baload, 1) := by decide +kernel
theorem dJ6_getChars_ba4f3_84 : decode cJ6_getChars_ba4f3 84 = .ok (.bastore, 1) := by decide +kernel
theorem dJ6_getChars_ba4f3_85 : decode cJ6_getChars_ba4f3 85 = .ok (.iload_n 0, 1) := by decide +kernel
theorem dJ6_getChars_ba4f3_86 : decode cJ6_getChars_ba4f3 86 = .ok (.bipush (-9), 2) := by decide +kernel
theorem dJ6_getChars_ba4f3_88 : decode cJ6_getChars_ba4f3 88 = .ok (.if_icmp .ge 16, 3) := by decide +kernel
theorem dJ6_getChars_ba4f3_91 : decode cJ6_getChars_ba4f3 91 = .ok (.aload_n 2, 1) := by decide +kernel
theorem dJ6_getChars_ba4f3_92 : decode cJ6_getChars_ba4f3 92 = .ok (.iinc 5 (-1), 3) := by decide +kernel
theorem dJ6_getChars_ba4f3_95 : decode cJ6_getChars_ba4f3 95 = .ok (.iload 5, 2) := by decide +kernel
theorem dJ6_getChars_ba4f3_97 : decode cJ6_getChars_ba4f3 97 = .ok (.getstatic 87, 3) := by decide +kernel
theorem dJ6_getChars_ba4f3_100 : decode cJ6_getChars_ba4f3 100 = .ok (.iload_n 0, 1) := by decide +kernel
theorem dJ6_getChars_ba4f3_101 : decode cJ6_getChars_ba4f3 101 = .ok (.ineg, 1) := by decide +kernel
theorem dJ6_getChars_ba4f3_102 : decode cJ6_getChars_ba4f3 102 = .ok (.baload, 1) := by decide +kernel
theorem dJ6_getChars_ba4f3_103 : decode cJ6_getChars_ba4f3 103 = .ok (.bastore, 1) := by decide +kernel
theorem dJ6_getChars_ba4f3_104 : decode cJ6_getChars_ba4f3 104 = .ok (.iload 6, 2) := by decide +kernel
theorem dJ6_getChars_ba4f3_106 : decode cJ6_getChars_ba4f3 106 = .ok (.ifCond .eq 12, 3) := by decide +kernel
theorem dJ6_getChars_ba4f3_109 : decode cJ6_getChars_ba4f3 109 = .ok (.aload_n 2, 1) := by decide +kernel
theorem dJ6_getChars_ba4f3_110 : decode cJ6_getChars_ba4f3 110 = .ok (.iinc 5 (-1), 3) := by decide +kernel
theorem dJ6_getChars_ba4f3_113 : decode cJ6_getChars_ba4f3 113 = .ok (.iload 5, 2) := by decide +kernel
theorem dJ6_getChars_ba4f3_115 : decode cJ6_getChars_ba4f3 115 = .ok (.bipush 45, 2) := by decide +kernel
theorem dJ6_getChars_ba4f3_117 : decode cJ6_getChars_ba4f3 117 = .ok (.bastore, 1) := by decide +kernel
theorem dJ6_getChars_ba4f3_118 : decode cJ6_getChars_ba4f3 118 = .ok (.iload 5, 2) := by decide +kernel
theorem dJ6_getChars_ba4f3_120 : decode cJ6_getChars_ba4f3 120 = .ok (.ireturn, 1) := by decide +kernel
theorem dJ6_stringSize_0f7a4_0 : decode cJ6_stringSize_0f7a4 0 = .ok (.iconst 1, 1) := by decide +kernel
theorem dJ6_stringSize_0f7a4_1 : decode cJ6_stringSize_0f7a4 1 = .ok (.istore_n 1, 1) := by decide +kernel
theorem dJ6_stringSize_0f7a4_2 : decode cJ6_stringSize_0f7a4 2 = .ok (.iload_n 0, 1) := by decide +kernel
theorem dJ6_stringSize_0f7a4_3 : decode cJ6_stringSize_0f7a4 3 = .ok (.ifCond .lt 8, 3) := by decide +kernel
theorem dJ6_stringSize_0f7a4_6 : decode cJ6_stringSize_0f7a4 6 = .ok (.iconst 0, 1) := by decide +kernel
theorem dJ6_stringSize_0f7a4_7 : decode cJ6_stringSize_0f7a4 7 = .ok (.istore_n 1, 1) := by decide +kernel
theorem dJ6_stringSize_0f7a4_8 : decode cJ6_stringSize_0f7a4 8 = .ok (.iload_n 0, 1) := by decide +kernel
theorem dJ6_stringSize_0f7a4_9 : decode cJ6_stringSize_0f7a4 9 = .ok (.ineg, 1) := by decide +kernel
theorem dJ6_stringSize_0f7a4_10 : decode cJ6_stringSize_0f7a4 10 = .ok (.istore_n 0, 1) := by decide +kernel
theorem dJ6_stringSize_0f7a4_11 : decode cJ6_stringSize_0f7a4 11 = .ok (.bipush (-10), 2) := by decide +kernel
theorem dJ6_stringSize_0f7a4_13 : decode cJ6_stringSize_0f7a4 13 = .ok (.istore_n 2, 1) := by decide +kernel
theorem dJ6_stringSize_0f7a4_14 : decode cJ6_stringSize_0f7a4 14 = .ok (.iconst 1, 1) := by decide +kernel
theorem dJ6_stringSize_0f7a4_15 : decode cJ6_stringSize_0f7a4 15 = .ok (.istore_n 3, 1) := by decide +kernel
theorem dJ6_stringSize_0f7a4_16 : decode cJ6_stringSize_0f7a4 16 = .ok (.iload_n 3, 1) := by decide +kernel
theorem dJ6_stringSize_0f7a4_17 : decode cJ6_stringSize_0f7a4 17 = .ok (.bipush 10, 2) := by decide +kernel
theorem dJ6_stringSize_0f7a4_19 : decode cJ6_stringSize_0f7a4 19 = .ok (.if_icmp .ge 23, 3) := by decide +kernel
theorem dJ6_stringSize_0f7a4_22 : decode cJ6_stringSize_0f7a4 22 = .ok (.iload_n 0, 1) := by decide +kernel
theorem dJ6_stringSize_0f7a4_23 : decode cJ6_stringSize_0f7a4 23 = .ok (.iload_n 2, 1) := by decide +kernel
theorem dJ6_stringSize_0f7a4_24 : decode cJ6_stringSize_0f7a4 24 = .ok (.if_icmp .le 7, 3) := by decide +kernel
theorem dJ6_stringSize_0f7a4_27 : decode cJ6_stringSize_0f7a4 27 = .ok (.iload_n 3, 1) := by decide +kernel
theorem dJ6_stringSize_0f7a4_28 : decode cJ6_stringSize_0f7a4 28 = .ok (.iload_n 1, 1) := by decide +kernel
theorem dJ6_stringSize_0f7a4_29 : decode cJ6_stringSize_0f7a4 29 = .ok (.iadd, 1) := by decide +kernel
theorem dJ6_stringSize_0f7a4_30 : decode cJ6_stringSize_0f7a4 30 = .ok (.ireturn, 1) := by decide +kernel
theorem dJ6_stringSize_0f7a4_31 : decode cJ6_stringSize_0f7a4 31 = .ok (.bipush 10, 2) := by decide +kernel
theorem dJ6_stringSize_0f7a4_33 : decode cJ6_stringSize_0f7a4 33 = .ok (.iload_n 2, 1) := by decide +kernel
theorem dJ6_stringSize_0f7a4_34 : decode cJ6_stringSize_0f7a4 34 = .ok (.imul, 1) := by decide +kernel
theorem dJ6_stringSize_0f7a4_35 : decode cJ6_stringSize_0f7a4 35 = .ok (.istore_n 2, 1) := by decide +kernel
theorem dJ6_stringSize_0f7a4_36 : decode cJ6_stringSize_0f7a4 36 = .ok (.iinc 3 1, 3) := by decide +kernel
theorem dJ6_stringSize_0f7a4_39 : decode cJ6_stringSize_0f7a4 39 = .ok (.goto (-23), 3) := by decide +kernel
theorem dJ6_stringSize_0f7a4_42 : decode cJ6_stringSize_0f7a4 42 = .ok (.bipush 10, 2) := by decide +kernel
theorem dJ6_stringSize_0f7a4_44 : decode cJ6_stringSize_0f7a4 44 = .ok (.iload_n 1, 1) := by decide +kernel
theorem dJ6_stringSize_0f7a4_45 : decode cJ6_stringSize_0f7a4 45 = .ok (.iadd, 1) := by decide +kernel
theorem dJ6_stringSize_0f7a4_46 : decode cJ6_stringSize_0f7a4 46 = .ok (.ireturn, 1) := by decide +kernel
theorem dJ0_init_81219_0 : decode cJ0_init_81219 0 = .ok (.aload_n 0, 1) := by decide +kernel
theorem dJ0_init_81219_1 : decode cJ0_init_81219 1 = .ok (.aload_n 1, 1) := by decide +kernel
theorem dJ0_init_81219_2 : decode cJ0_init_81219 2 = .ok (.aconst_null, 1) := by decide +kernel
theorem dJ0_init_81219_3 : decode cJ0_init_81219 3 = .ok (.invokespecial 489, 3) := by decide +kernel
theorem dJ0_init_81219_6 : decode cJ0_init_81219 6 = .ok (.return_, 1) := by decide +kernel
theorem dJ0_length_8abf5_0 : decode cJ0_length_8abf5 0 = .ok (.aload_n 0, 1) := by decide +kernel
theorem dJ0_length_8abf5_1 : decode cJ0_length_8abf5 1 = .ok (.getfield 9, 3) := by decide +kernel
theorem dJ0_length_8abf5_4 : decode cJ0_length_8abf5 4 = .ok (.arraylength, 1) := by decide +kernel
theorem dJ0_length_8abf5_5 : decode cJ0_length_8abf5 5 = .ok (.aload_n 0, 1) := by decide +kernel
theorem dJ0_length_8abf5_6 : decode cJ0_length_8abf5 6 = .ok (.invokevirtual 335, 3) := by decide +kernel
theorem dJ0_length_8abf5_9 : decode cJ0_length_8abf5 9 = .ok (.ishr, 1) := by decide +kernel
theorem dJ0_length_8abf5_10 : decode cJ0_length_8abf5 10 = .ok (.ireturn, 1) := by decide +kernel
theorem dJ0_charAt_5068e_0 : decode cJ0_charAt_5068e 0 = .ok (.aload_n 0, 1) := by decide +kernel
theorem dJ0_charAt_5068e_1 : decode cJ0_charAt_5068e 1 = .ok (.invokevirtual 492, 3) := by decide +kernel
theorem dJ0_charAt_5068e_4 : decode cJ0_charAt_5068e 4 = .ok (.ifCond .eq 12, 3) := by decide +kernel
theorem dJ0_charAt_5068e_7 : decode cJ0_charAt_5068e 7 = .ok (.aload_n 0, 1) := by decide +kernel
theorem dJ0_charAt_5068e_8 : decode cJ0_charAt_5068e 8 = .ok (.getfield 9, 3) := by decide +kernel
theorem dJ0_charAt_5068e_11 : decode cJ0_charAt_5068e 11 = .ok (.iload_n 1, 1) := by decide +kernel
theorem dJ0_charAt_5068e_12 : decode cJ0_charAt_5068e 12 = .ok (.invokestatic 495, 3) := by decide +kernel
theorem dJ0_charAt_5068e_15 : decode cJ0_charAt_5068e 15 = .ok (.ireturn, 1) := by decide +kernel
theorem dJ0_charAt_5068e_16 : decode cJ0_charAt_5068e 16 = .ok (.aload_n 0, 1) := by decide +kernel
theorem dJ0_charAt_5068e_17 : decode cJ0_charAt_5068e 17 = .ok (.getfield 9, 3) := by decide +kernel
theorem dJ0_charAt_5068e_20 : decode cJ0_charAt_5068e 20 = .ok (.iload_n 1, 1) := by decide +kernel
theorem dJ0_charAt_5068e_21 : decode cJ0_charAt_5068e 21 = .ok (.invokestatic 498, 3) := by decide +kernel
theorem dJ0_charAt_5068e_24 : decode cJ0_charAt_5068e 24 = .ok (.ireturn, 1) := by decide +kernel
theorem dJ0_getBytes_840e7_0 : decode cJ0_getBytes_840e7 0 = .ok (.aload_n 0, 1) := by decide +kernel
theorem dJ0_getBytes_840e7_1 : decode cJ0_getBytes_840e7 1 = .ok (.invokevirtual 335, 3) := by decide +kernel
theorem dJ0_getBytes_840e7_4 : decode cJ0_getBytes_840e7 4 = .ok (.iload_n 3, 1) := by decide +kernel
theorem dJ0_getBytes_840e7_5 : decode cJ0_getBytes_840e7 5 = .ok (.if_icmp .ne 23, 3) := by decide +kernel
theorem dJ0_getBytes_840e7_8 : decode cJ0_getBytes_840e7 8 = .ok (.aload_n 0, 1) := by decide +kernel
theorem dJ0_getBytes_840e7_9 : decode cJ0_getBytes_840e7 9 = .ok (.getfield 9, 3) := by decide +kernel
theorem dJ0_getBytes_840e7_12 : decode cJ0_getBytes_840e7 12 = .ok (.iconst 0, 1) := by decide +kernel
theorem dJ0_getBytes_840e7_13 : decode cJ0_getBytes_840e7 13 = .ok (.aload_n 1, 1) := by decide +kernel
theorem dJ0_getBytes_840e7_14 : decode cJ0_getBytes_840e7 14 = .ok (.iload_n 2, 1) := by decide +kernel
theorem dJ0_getBytes_840e7_15 : decode cJ0_getBytes_840e7 15 = .ok (.iload_n 3, 1) := by decide +kernel
theorem dJ0_getBytes_840e7_16 : decode cJ0_getBytes_840e7 16 = .ok (.ishl, 1) := by decide +kernel
theorem dJ0_getBytes_840e7_17 : decode cJ0_getBytes_840e7 17 = .ok (.aload_n 0, 1) := by decide +kernel
theorem dJ0_getBytes_840e7_18 : decode cJ0_getBytes_840e7 18 = .ok (.getfield 9, 3) := by decide +kernel
theorem dJ0_getBytes_840e7_21 : decode cJ0_getBytes_840e7 21 = .ok (.arraylength, 1) := by decide +kernel
theorem dJ0_getBytes_840e7_22 : decode cJ0_getBytes_840e7 22 = .ok (.invokestatic 212, 3) := by decide +kernel
theorem dJ0_getBytes_840e7_25 : decode cJ0_getBytes_840e7 25 = .ok (.goto 18, 3) := by decide +kernel
theorem dJ0_getBytes_840e7_28 : decode cJ0_getBytes_840e7 28 = .ok (.aload_n 0, 1) := by decide +kernel
theorem dJ0_getBytes_840e7_29 : decode cJ0_getBytes_840e7 29 = .ok (.getfield 9, 3) := by decide +kernel
theorem dJ0_getBytes_840e7_32 : decode cJ0_getBytes_840e7 32 = .ok (.iconst 0, 1) := by decide +kernel
theorem dJ0_getBytes_840e7_33 : decode cJ0_getBytes_840e7 33 = .ok (.aload_n 1, 1) := by decide +kernel
theorem dJ0_getBytes_840e7_34 : decode cJ0_getBytes_840e7 34 = .ok (.iload_n 2, 1) := by decide +kernel
theorem dJ0_getBytes_840e7_35 : decode cJ0_getBytes_840e7 35 = .ok (.aload_n 0, 1) := by decide +kernel
theorem dJ0_getBytes_840e7_36 : decode cJ0_getBytes_840e7 36 = .ok (.getfield 9, 3) := by decide +kernel
theorem dJ0_getBytes_840e7_39 : decode cJ0_getBytes_840e7 39 = .ok (.arraylength, 1) := by decide +kernel
theorem dJ0_getBytes_840e7_40 : decode cJ0_getBytes_840e7 40 = .ok (.invokestatic 106, 3) := by decide +kernel
theorem dJ0_getBytes_840e7_43 : decode cJ0_getBytes_840e7 43 = .ok (.return_, 1) := by decide +kernel
theorem dJ0_init_db425_0 : decode cJ0_init_db425 0 = .ok (.aload_n 0, 1) := by decide +kernel
theorem dJ0_init_db425_1 : decode cJ0_init_db425 1 = .ok (.invokespecial 1, 3) := by decide +kernel
theorem dJ0_init_db425_4 : decode cJ0_init_db425 4 = .ok (.aload_n 1, 1) := by decide +kernel
theorem dJ0_init_db425_5 : decode cJ0_init_db425 5 = .ok (.invokevirtual 552, 3) := by decide +kernel
theorem dJ0_init_db425_8 : decode cJ0_init_db425 8 = .ok (.astore_n 3, 1) := by decide +kernel
theorem dJ0_init_db425_9 : decode cJ0_init_db425 9 = .ok (.aload_n 1, 1) := by decide +kernel
theorem dJ0_init_db425_10 : decode cJ0_init_db425 10 = .ok (.invokevirtual 549, 3) := by decide +kernel
theorem dJ0_init_db425_13 : decode cJ0_init_db425 13 = .ok (.istore 4, 2) := by decide +kernel
theorem dJ0_init_db425_15 : decode cJ0_init_db425 15 = .ok (.aload_n 1, 1) := by decide +kernel
theorem dJ0_init_db425_16 : decode cJ0_init_db425 16 = .ok (.invokevirtual 1047, 3) := by decide +kernel
theorem dJ0_init_db425_19 : decode cJ0_init_db425 19 = .ok (.ifCond .eq 22, 3) := by decide +kernel
theorem dJ0_init_db425_22 : decode cJ0_init_db425 22 = .ok (.aload_n 0, 1) := by decide +kernel
theorem dJ0_init_db425_23 : decode cJ0_init_db425 23 = .ok (.iconst 0, 1) := by decide +kernel
theorem dJ0_init_db425_24 : decode cJ0_init_db425 24 = .ok (.putfield 15, 3) := by decide +kernel
theorem dJ0_init_db425_27 : decode cJ0_init_db425 27 = .ok (.aload_n 0, 1) := by decide +kernel
theorem dJ0_init_db425_28 : decode cJ0_init_db425 28 = .ok (.aload_n 3, 1) := by decide +kernel
theorem dJ0_init_db425_29 : decode cJ0_init_db425 29 = .ok (.iconst 0, 1) := by decide +kernel
theorem dJ0_init_db425_30 : decode cJ0_init_db425 30 = .ok (.iload 4, 2) := by decide +kernel
theorem dJ0_init_db425_32 : decode cJ0_init_db425 32 = .ok (.invokestatic 54, 3) := by decide +kernel
theorem dJ0_init_db425_35 : decode cJ0_init_db425 35 = .ok (.putfield 9, 3) := by decide +kernel
theorem dJ0_init_db425_38 : decode cJ0_init_db425 38 = .ok (.goto 59, 3) := by decide +kernel
theorem dJ0_init_db425_41 : decode cJ0_init_db425 41 = .ok (.getstatic 38, 3) := by decide +kernel
theorem dJ0_init_db425_44 : decode cJ0_init_db425 44 = .ok (.ifCond .eq 35, 3) := by decide +kernel
theorem dJ0_init_db425_47 : decode cJ0_init_db425 47 = .ok (.aload_n 1, 1) := by decide +kernel
theorem dJ0_init_db425_48 : decode cJ0_init_db425 48 = .ok (.getfield 1048, 3) := by decide +kernel
theorem dJ0_init_db425_51 : decode cJ0_init_db425 51 = .ok (.ifCond .eq 28, 3) := by decide +kernel
theorem dJ0_init_db425_54 : decode cJ0_init_db425 54 = .ok (.aload_n 0, 1) := by decide +kernel
theorem dJ0_init_db425_55 : decode cJ0_init_db425 55 = .ok (.aload_n 3, 1) := by decide +kernel
theorem dJ0_init_db425_56 : decode cJ0_init_db425 56 = .ok (.iconst 0, 1) := by decide +kernel
theorem dJ0_init_db425_57 : decode cJ0_init_db425 57 = .ok (.iload 4, 2) := by decide +kernel
theorem dJ0_init_db425_59 : decode cJ0_init_db425 59 = .ok (.invokestatic 1051, 3) := by decide +kernel
theorem dJ0_init_db425_62 : decode cJ0_init_db425 62 = .ok (.putfield 9, 3) := by decide +kernel
theorem dJ0_init_db425_65 : decode cJ0_init_db425 65 = .ok (.aload_n 0, 1) := by decide +kernel
theorem dJ0_init_db425_66 : decode cJ0_init_db425 66 = .ok (.aload_n 0, 1) := by decide +kernel
theorem dJ0_init_db425_67 : decode cJ0_init_db425 67 = .ok (.getfield 9, 3) := by decide +kernel
theorem dJ0_init_db425_70 : decode cJ0_init_db425 70 = .ok (.iload 4, 2) := by decide +kernel
theorem dJ0_init_db425_72 : decode cJ0_init_db425 72 = .ok (.invokestatic 47, 3) := by decide +kernel
theorem dJ0_init_db425_75 : decode cJ0_init_db425 75 = .ok (.putfield 15, 3) := by decide +kernel
theorem dJ0_init_db425_78 : decode cJ0_init_db425 78 = .ok (.return_, 1) := by decide +kernel
theorem dJ0_init_db425_79 : decode cJ0_init_db425 79 = .ok (.aload_n 0, 1) := by decide +kernel
theorem dJ0_init_db425_80 : decode cJ0_init_db425 80 = .ok (.iconst 1, 1) := by decide +kernel
theorem dJ0_init_db425_81 : decode cJ0_init_db425 81 = .ok (.putfield 15, 3) := by decide +kernel
theorem dJ0_init_db425_84 : decode cJ0_init_db425 84 = .ok (.aload_n 0, 1) := by decide +kernel
theorem dJ0_init_db425_85 : decode cJ0_init_db425 85 = .ok (.aload_n 3, 1) := by decide +kernel
theorem dJ0_init_db425_86 : decode cJ0_init_db425 86 = .ok (.iconst 0, 1) := by decide +kernel
theorem dJ0_init_db425_87 : decode cJ0_init_db425 87 = .ok (.iload 4, 2) := by decide +kernel
theorem dJ0_init_db425_89 : decode cJ0_init_db425 89 = .ok (.iconst 1, 1) := by decide +kernel
theorem dJ0_init_db425_90 : decode cJ0_init_db425 90 = .ok (.ishl, 1) := by decide +kernel
theorem dJ0_init_db425_91 : decode cJ0_init_db425 91 = .ok (.invokestatic 54, 3) := by decide +kernel
theorem dJ0_init_db425_94 : decode cJ0_init_db425 94 = .ok (.putfield 9, 3) := by decide +kernel
theorem dJ0_init_db425_97 : decode cJ0_init_db425 97 = .ok (.return_, 1) := by decide +kernel
theorem dJ0_coder_7d493_0 : decode cJ0_coder_7d493 0 = .ok (.getstatic 38, 3) := by decide +kernel
theorem dJ0_coder_7d493_3 : decode cJ0_coder_7d493 3 = .ok (.ifCond .eq 10, 3) := by decide +kernel
theorem dJ0_coder_7d493_6 : decode cJ0_coder_7d493 6 = .ok (.aload_n 0, 1) := by decide +kernel
theorem dJ0_coder_7d493_7 : decode cJ0_coder_7d493 7 = .ok (.getfield 15, 3) := by decide +kernel
theorem dJ0_coder_7d493_10 : decode cJ0_coder_7d493 10 = .ok (.goto 4, 3) := by decide +kernel
theorem dJ0_coder_7d493_13 : decode cJ0_coder_7d493 13 = .ok (.iconst 1, 1) := by decide +kernel
theorem dJ0_coder_7d493_14 : decode cJ0_coder_7d493 14 = .ok (.ireturn, 1) := by decide +kernel
theorem dJ0_isLatin1_aae02_0 : decode cJ0_isLatin1_aae02 0 = .ok (.getstatic 38, 3) := by decide +kernel
theorem dJ0_isLatin1_aae02_3 : decode cJ0_isLatin1_aae02 3 = .ok (.ifCond .eq 14, 3) := by decide +kernel
theorem dJ0_isLatin1_aae02_6 : decode cJ0_isLatin1_aae02 6 = .ok (.aload_n 0, 1) := by decide +kernel
theorem dJ0_isLatin1_aae02_7 : decode cJ0_isLatin1_aae02 7 = .ok (.getfield 15, 3) := by decide +kernel
theorem dJ0_isLatin1_aae02_10 : decode cJ0_isLatin1_aae02 10 = .ok (.ifCond .ne 7, 3) := by decide +kernel
theorem dJ0_isLatin1_aae02_13 : decode cJ0_isLatin1_aae02 13 = .ok (.iconst 1, 1) := by decide +kernel
theorem dJ0_isLatin1_aae02_14 : decode cJ0_isLatin1_aae02 14 = .ok (.goto 4, 3) := by decide +kernel
theorem dJ0_isLatin1_aae02_17 : decode cJ0_isLatin1_aae02 17 = .ok (.iconst 0, 1) := by decide +kernel
theorem dJ0_isLatin1_aae02_18 : decode cJ0_isLatin1_aae02 18 = .ok (.ireturn, 1) := by decide +kernel
theorem dJ0_checkIndex_df160_0 : decode cJ0_checkIndex_df160 0 = .ok (.iload_n 0, 1) := by decide +kernel
theorem dJ0_checkIndex_df160_1 : decode cJ0_checkIndex_df160 1 = .ok (.iload_n 1, 1) := by decide +kernel
theorem dJ0_checkIndex_df160_2 : decode cJ0_checkIndex_df160 2 = .ok (.getstatic 1053, 3) := by decide +kernel
theorem dJ0_checkIndex_df160_5 : decode cJ0_checkIndex_df160 5 = .ok (.invokestatic 1059, 3) := by decide +kernel
theorem dJ0_checkIndex_df160_8 : decode cJ0_checkIndex_df160 8 = .ok (.pop, 1) := by decide +kernel
theorem dJ0_checkIndex_df160_9 : decode cJ0_checkIndex_df160 9 = .ok (.return_, 1) := by decide +kernel
theorem dJ4_init_da8c8_0 : decode cJ4_init_da8c8 0 = .ok (.aload_n 0, 1) := by decide +kernel
theorem dJ4_init_da8c8_1 : decode cJ4_init_da8c8 1 = .ok (.bipush 16, 2) := by decide +kernel
theorem dJ4_init_da8c8_3 : decode cJ4_init_da8c8 3 = .ok (.invokespecial 1, 3) := by decide +kernel
theorem dJ4_init_da8c8_6 : decode cJ4_init_da8c8 6 = .ok (.return_, 1) := by decide +kernel
theorem dJ4_append_15ec4_0 : decode cJ4_append_15ec4 0 = .ok (.aload_n 0, 1) := by decide +kernel
theorem dJ4_append_15ec4_1 : decode cJ4_append_15ec4 1 = .ok (.aload_n 1, 1) := by decide +kernel
theorem dJ4_append_15ec4_2 : decode cJ4_append_15ec4 2 = .ok (.invokespecial 29, 3) := by decide +kernel
theorem dJ4_append_15ec4_5 : decode cJ4_append_15ec4 5 = .ok (.pop, 1) := by decide +kernel
theorem dJ4_append_15ec4_6 : decode cJ4_append_15ec4 6 = .ok (.aload_n 0, 1) := by decide +kernel
theorem dJ4_append_15ec4_7 : decode cJ4_append_15ec4 7 = .ok (.areturn, 1) := by decide +kernel
theorem dJ4_append_bf812_0 : decode cJ4_append_bf812 0 = .ok (.aload_n 0, 1) := by decide +kernel
theorem dJ4_append_bf812_1 : decode cJ4_append_bf812 1 = .ok (.iload_n 1, 1) := by decide +kernel
theorem dJ4_append_bf812_2 : decode cJ4_append_bf812 2 = .ok (.invokespecial 53, 3) := by decide +kernel
theorem dJ4_append_bf812_5 : decode cJ4_append_bf812 5 = .ok (.pop, 1) := by decide +kernel
theorem dJ4_append_bf812_6 : decode cJ4_append_bf812 6 = .ok (.aload_n 0, 1) := by decide +kernel
theorem dJ4_append_bf812_7 : decode cJ4_append_bf812 7 = .ok (.areturn, 1) := by decide +kernel
theorem dJ4_toString_0e30d_0 : decode cJ4_toString_0e30d 0 = .ok (.new 18, 3) := by decide +kernel
theorem dJ4_toString_0e30d_3 : decode cJ4_toString_0e30d 3 = .ok (.dup, 1) := by decide +kernel
theorem dJ4_toString_0e30d_4 : decode cJ4_toString_0e30d 4 = .ok (.aload_n 0, 1) := by decide +kernel
theorem dJ4_toString_0e30d_5 : decode cJ4_toString_0e30d 5 = .ok (.invokespecial 137, 3) := by decide +kernel
theorem dJ4_toString_0e30d_8 : decode cJ4_toString_0e30d 8 = .ok (.areturn, 1) := by decide +kernel
theorem dJ4_length_8abf5_0 : decode cJ4_length_8abf5 0 = .ok (.aload_n 0, 1) := by decide +kernel
theorem dJ4_length_8abf5_1 : decode cJ4_length_8abf5 1 = .ok (.invokespecial 343, 3) := by decide +kernel
theorem dJ4_length_8abf5_4 : decode cJ4_length_8abf5 4 = .ok (.ireturn, 1) := by decide +kernel
theorem dJ1_charAt_3b067_0 : decode cJ1_charAt_3b067 0 = .ok (.iload_n 1, 1) := by decide +kernel
theorem dJ1_charAt_3b067_1 : decode cJ1_charAt_3b067 1 = .ok (.aload_n 0, 1) := by decide +kernel
theorem dJ1_charAt_3b067_2 : decode cJ1_charAt_3b067 2 = .ok (.arraylength, 1) := by decide +kernel
theorem dJ1_charAt_3b067_3 : decode cJ1_charAt_3b067 3 = .ok (.invokestatic 9, 3) := by decide +kernel
theorem dJ1_charAt_3b067_6 : decode cJ1_charAt_3b067 6 = .ok (.aload_n 0, 1) := by decide +kernel
theorem dJ1_charAt_3b067_7 : decode cJ1_charAt_3b067 7 = .ok (.iload_n 1, 1) := by decide +kernel
theorem dJ1_charAt_3b067_8 : decode cJ1_charAt_3b067 8 = .ok (.baload, 1) := by decide +kernel
theorem dJ1_charAt_3b067_9 : decode cJ1_charAt_3b067 9 = .ok (.sipush 255, 3) := by decide +kernel
theorem dJ1_charAt_3b067_12 : decode cJ1_charAt_3b067 12 = .ok (.iand, 1) := by decide +kernel
theorem dJ1_charAt_3b067_13 : decode cJ1_charAt_3b067 13 = .ok (.i2c, 1) := by decide +kernel
theorem dJ1_charAt_3b067_14 : decode cJ1_charAt_3b067 14 = .ok (.ireturn, 1) := by decide +kernel
theorem dJ7_copyOf_9075b_0 : decode cJ7_copyOf_9075b 0 = .ok (.iload_n 1, 1) := by decide +kernel
theorem dJ7_copyOf_9075b_1 : decode cJ7_copyOf_9075b 1 = .ok (.aload_n 0, 1) := by decide +kernel
theorem dJ7_copyOf_9075b_2 : decode cJ7_copyOf_9075b 2 = .ok (.arraylength, 1) := by decide +kernel
theorem dJ7_copyOf_9075b_3 : decode cJ7_copyOf_9075b 3 = .ok (.if_icmp .ne 11, 3) := by decide +kernel
theorem dJ7_copyOf_9075b_6 : decode cJ7_copyOf_9075b 6 = .ok (.aload_n 0, 1) := by decide +kernel
theorem dJ7_copyOf_9075b_7 : decode cJ7_copyOf_9075b 7 = .ok (.invokevirtual 310, 3) := by decide +kernel
theorem dJ7_copyOf_9075b_10 : decode cJ7_copyOf_9075b 10 = .ok (.checkcast 311, 3) := by decide +kernel
theorem dJ7_copyOf_9075b_13 : decode cJ7_copyOf_9075b 13 = .ok (.areturn, 1) := by decide +kernel
theorem dJ7_copyOf_9075b_14 : decode cJ7_copyOf_9075b 14 = .ok (.iload_n 1, 1) := by decide +kernel
theorem dJ7_copyOf_9075b_15 : decode cJ7_copyOf_9075b 15 = .ok (.newarray .byte, 2) := by decide +kernel
theorem dJ7_copyOf_9075b_17 : decode cJ7_copyOf_9075b 17 = .ok (.astore_n 2, 1) := by decide +kernel
theorem dJ7_copyOf_9075b_18 : decode cJ7_copyOf_9075b 18 = .ok (.aload_n 0, 1) := by decide +kernel
theorem dJ7_copyOf_9075b_19 : decode cJ7_copyOf_9075b 19 = .ok (.iconst 0, 1) := by decide +kernel
theorem dJ7_copyOf_9075b_20 : decode cJ7_copyOf_9075b 20 = .ok (.aload_n 2, 1) := by decide +kernel
theorem dJ7_copyOf_9075b_21 : decode cJ7_copyOf_9075b 21 = .ok (.iconst 0, 1) := by decide +kernel
theorem dJ7_copyOf_9075b_22 : decode cJ7_copyOf_9075b 22 = .ok (.aload_n 0, 1) := by decide +kernel
theorem dJ7_copyOf_9075b_23 : decode cJ7_copyOf_9075b 23 = .ok (.arraylength, 1) := by decide +kernel
theorem dJ7_copyOf_9075b_24 : decode cJ7_copyOf_9075b 24 = .ok (.iload_n 1, 1) := by decide +kernel
theorem dJ7_copyOf_9075b_25 : decode cJ7_copyOf_9075b 25 = .ok (.invokestatic 304, 3) := by decide +kernel
theorem dJ7_copyOf_9075b_28 : decode cJ7_copyOf_9075b 28 = .ok (.invokestatic 150, 3) := by decide +kernel
theorem dJ7_copyOf_9075b_31 : decode cJ7_copyOf_9075b 31 = .ok (.aload_n 2, 1) := by decide +kernel
theorem dJ7_copyOf_9075b_32 : decode cJ7_copyOf_9075b 32 = .ok (.areturn, 1) := by decide +kernel
theorem dJ7_checkLength_df160_0 : decode cJ7_checkLength_df160 0 = .ok (.iload_n 1, 1) := by decide +kernel
theorem dJ7_checkLength_df160_1 : decode cJ7_checkLength_df160 1 = .ok (.iload_n 0, 1) := by decide +kernel
theorem dJ7_checkLength_df160_2 : decode cJ7_checkLength_df160 2 = .ok (.if_icmp .ge 35, 3) := by decide +kernel
theorem dJ7_checkLength_df160_5 : decode cJ7_checkLength_df160 5 = .ok (.new 43, 3) := by decide +kernel
theorem dJ7_checkLength_df160_8 : decode cJ7_checkLength_df160 8 = .ok (.dup, 1) := by decide +kernel
theorem dJ7_checkLength_df160_9 : decode cJ7_checkLength_df160 9 = .ok (.new 45, 3) := by decide +kernel
theorem dJ7_checkLength_df160_12 : decode cJ7_checkLength_df160 12 = .ok (.dup, 1) := by decide +kernel
theorem dJ7_checkLength_df160_13 : decode cJ7_checkLength_df160 13 = .ok (.invokespecial 47, 3) := by decide +kernel
theorem dJ7_checkLength_df160_16 : decode cJ7_checkLength_df160 16 = .ok (.iload_n 0, 1) := by decide +kernel
theorem dJ7_checkLength_df160_17 : decode cJ7_checkLength_df160 17 = .ok (.invokevirtual 54, 3) := by decide +kernel
theorem dJ7_checkLength_df160_20 : decode cJ7_checkLength_df160 20 = .ok (.ldc_w 337, 3) := by decide +kernel
theorem dJ7_checkLength_df160_23 : decode cJ7_checkLength_df160 23 = .ok (.invokevirtual 50, 3) := by decide +kernel
theorem dJ7_checkLength_df160_26 : decode cJ7_checkLength_df160 26 = .ok (.iload_n 1, 1) := by decide +kernel
theorem dJ7_checkLength_df160_27 : decode cJ7_checkLength_df160 27 = .ok (.invokevirtual 54, 3) := by decide +kernel
theorem dJ7_checkLength_df160_30 : decode cJ7_checkLength_df160 30 = .ok (.invokevirtual 61, 3) := by decide +kernel
theorem dJ7_checkLength_df160_33 : decode cJ7_checkLength_df160 33 = .ok (.invokespecial 65, 3) := by decide +kernel
theorem dJ7_checkLength_df160_36 : decode cJ7_checkLength_df160 36 = .ok (.athrow, 1) := by decide +kernel
theorem dJ7_checkLength_df160_37 : decode cJ7_checkLength_df160 37 = .ok (.return_, 1) := by decide +kernel
theorem dJ7_copyOfRange_39247_0 : decode cJ7_copyOfRange_39247 0 = .ok (.iload_n 1, 1) := by decide +kernel
theorem dJ7_copyOfRange_39247_1 : decode cJ7_copyOfRange_39247 1 = .ok (.ifCond .ne 9, 3) := by decide +kernel
theorem dJ7_copyOfRange_39247_4 : decode cJ7_copyOfRange_39247 4 = .ok (.iload_n 2, 1) := by decide +kernel
theorem dJ7_copyOfRange_39247_5 : decode cJ7_copyOfRange_39247 5 = .ok (.aload_n 0, 1) := by decide +kernel
theorem dJ7_copyOfRange_39247_6 : decode cJ7_copyOfRange_39247 6 = .ok (.arraylength, 1) := by decide +kernel
theorem dJ7_copyOfRange_39247_7 : decode cJ7_copyOfRange_39247 7 = .ok (.if_icmp .eq 10, 3) := by decide +kernel
theorem dJ7_copyOfRange_39247_10 : decode cJ7_copyOfRange_39247 10 = .ok (.aload_n 0, 1) := by decide +kernel
theorem dJ7_copyOfRange_39247_11 : decode cJ7_copyOfRange_39247 11 = .ok (.iload_n 1, 1) := by decide +kernel
theorem dJ7_copyOfRange_39247_12 : decode cJ7_copyOfRange_39247 12 = .ok (.iload_n 2, 1) := by decide +kernel
theorem dJ7_copyOfRange_39247_13 : decode cJ7_copyOfRange_39247 13 = .ok (.invokestatic 339, 3) := by decide +kernel
theorem dJ7_copyOfRange_39247_16 : decode cJ7_copyOfRange_39247 16 = .ok (.areturn, 1) := by decide +kernel
theorem dJ7_copyOfRange_39247_17 : decode cJ7_copyOfRange_39247 17 = .ok (.aload_n 0, 1) := by decide +kernel
theorem dJ7_copyOfRange_39247_18 : decode cJ7_copyOfRange_39247 18 = .ok (.invokevirtual 310, 3) := by decide +kernel
theorem dJ7_copyOfRange_39247_21 : decode cJ7_copyOfRange_39247 21 = .ok (.checkcast 311, 3) := by decide +kernel
theorem dJ7_copyOfRange_39247_24 : decode cJ7_copyOfRange_39247 24 = .ok (.areturn, 1) := by decide +kernel
theorem dJ7_copyOfRangeByte_39247_0 : decode cJ7_copyOfRangeByte_39247 0 = .ok (.iload_n 1, 1) := by decide +kernel
theorem dJ7_copyOfRangeByte_39247_1 : decode cJ7_copyOfRangeByte_39247 1 = .ok (.iload_n 2, 1) := by decide +kernel
theorem dJ7_copyOfRangeByte_39247_2 : decode cJ7_copyOfRangeByte_39247 2 = .ok (.invokestatic 343, 3) := by decide +kernel
theorem dJ7_copyOfRangeByte_39247_5 : decode cJ7_copyOfRangeByte_39247 5 = .ok (.iload_n 2, 1) := by decide +kernel
theorem dJ7_copyOfRangeByte_39247_6 : decode cJ7_copyOfRangeByte_39247 6 = .ok (.iload_n 1, 1) := by decide +kernel
theorem dJ7_copyOfRangeByte_39247_7 : decode cJ7_copyOfRangeByte_39247 7 = .ok (.isub, 1) := by decide +kernel
theorem dJ7_copyOfRangeByte_39247_8 : decode cJ7_copyOfRangeByte_39247 8 = .ok (.istore_n 3, 1) := by decide +kernel
theorem dJ7_copyOfRangeByte_39247_9 : decode cJ7_copyOfRangeByte_39247 9 = .ok (.iload_n 3, 1) := by decide +kernel
theorem dJ7_copyOfRangeByte_39247_10 : decode cJ7_copyOfRangeByte_39247 10 = .ok (.newarray .byte, 2) := by decide +kernel
theorem dJ7_copyOfRangeByte_39247_12 : decode cJ7_copyOfRangeByte_39247 12 = .ok (.astore 4, 2) := by decide +kernel
theorem dJ7_copyOfRangeByte_39247_14 : decode cJ7_copyOfRangeByte_39247 14 = .ok (.aload_n 0, 1) := by decide +kernel
theorem dJ7_copyOfRangeByte_39247_15 : decode cJ7_copyOfRangeByte_39247 15 = .ok (.iload_n 1, 1) := by decide +kernel
theorem dJ7_copyOfRangeByte_39247_16 : decode cJ7_copyOfRangeByte_39247 16 = .ok (.aload 4, 2) := by decide +kernel
theorem dJ7_copyOfRangeByte_39247_18 : decode cJ7_copyOfRangeByte_39247 18 = .ok (.iconst 0, 1) := by decide +kernel
theorem dJ7_copyOfRangeByte_39247_19 : decode cJ7_copyOfRangeByte_39247 19 = .ok (.aload_n 0, 1) := by decide +kernel
theorem dJ7_copyOfRangeByte_39247_20 : decode cJ7_copyOfRangeByte_39247 20 = .ok (.arraylength, 1) := by decide +kernel
theorem dJ7_copyOfRangeByte_39247_21 : decode cJ7_copyOfRangeByte_39247 21 = .ok (.iload_n 1, 1) := by decide +kernel
theorem dJ7_copyOfRangeByte_39247_22 : decode cJ7_copyOfRangeByte_39247 22 = .ok (.isub, 1) := by decide +kernel
theorem dJ7_copyOfRangeByte_39247_23 : decode cJ7_copyOfRangeByte_39247 23 = .ok (.iload_n 3, 1) := by decide +kernel
theorem dJ7_copyOfRangeByte_39247_24 : decode cJ7_copyOfRangeByte_39247 24 = .ok (.invokestatic 304, 3) := by decide +kernel
theorem dJ7_copyOfRangeByte_39247_27 : decode cJ7_copyOfRangeByte_39247 27 = .ok (.invokestatic 150, 3) := by decide +kernel
theorem dJ7_copyOfRangeByte_39247_30 : decode cJ7_copyOfRangeByte_39247 30 = .ok (.aload 4, 2) := by decide +kernel
theorem dJ7_copyOfRangeByte_39247_32 : decode cJ7_copyOfRangeByte_39247 32 = .ok (.areturn, 1) := by decide +kernel
theorem dJ8_newLength_cabcc_0 : decode cJ8_newLength_cabcc 0 = .ok (.iload_n 0, 1) := by decide +kernel
theorem dJ8_newLength_cabcc_1 : decode cJ8_newLength_cabcc 1 = .ok (.iload_n 1, 1) := by decide +kernel
theorem dJ8_newLength_cabcc_2 : decode cJ8_newLength_cabcc 2 = .ok (.iload_n 2, 1) := by decide +kernel
theorem dJ8_newLength_cabcc_3 : decode cJ8_newLength_cabcc 3 = .ok (.invokestatic 194, 3) := by decide +kernel
theorem dJ8_newLength_cabcc_6 : decode cJ8_newLength_cabcc 6 = .ok (.iadd, 1) := by decide +kernel
theorem dJ8_newLength_cabcc_7 : decode cJ8_newLength_cabcc 7 = .ok (.istore_n 3, 1) := by decide +kernel
theorem dJ8_newLength_cabcc_8 : decode cJ8_newLength_cabcc 8 = .ok (.iconst 0, 1) := by decide +kernel
theorem dJ8_newLength_cabcc_9 : decode cJ8_newLength_cabcc 9 = .ok (.iload_n 3, 1) := by decide +kernel
theorem dJ8_newLength_cabcc_10 : decode cJ8_newLength_cabcc 10 = .ok (.if_icmp .ge 11, 3) := by decide +kernel
theorem dJ8_newLength_cabcc_13 : decode cJ8_newLength_cabcc 13 = .ok (.iload_n 3, 1) := by decide +kernel
theorem dJ8_newLength_cabcc_14 : decode cJ8_newLength_cabcc 14 = .ok (.ldc 200, 2) := by decide +kernel
theorem dJ8_newLength_cabcc_16 : decode cJ8_newLength_cabcc 16 = .ok (.if_icmp .gt 5, 3) := by decide +kernel
theorem dJ8_newLength_cabcc_19 : decode cJ8_newLength_cabcc 19 = .ok (.iload_n 3, 1) := by decide +kernel
theorem dJ8_newLength_cabcc_20 : decode cJ8_newLength_cabcc 20 = .ok (.ireturn, 1) := by decide +kernel
theorem dJ8_newLength_cabcc_21 : decode cJ8_newLength_cabcc 21 = .ok (.iload_n 0, 1) := by decide +kernel
theorem dJ8_newLength_cabcc_22 : decode cJ8_newLength_cabcc 22 = .ok (.iload_n 1, 1) := by decide +kernel
theorem dJ8_newLength_cabcc_23 : decode cJ8_newLength_cabcc 23 = .ok (.invokestatic 201, 3) := by decide +kernel
theorem dJ8_newLength_cabcc_26 : decode cJ8_newLength_cabcc 26 = .ok (.ireturn, 1) := by decide +kernel
theorem dJ3_checkIndex_8e157_0 : decode cJ3_checkIndex_8e157 0 = .ok (.iload_n 0, 1) := by decide +kernel
theorem dJ3_checkIndex_8e157_1 : decode cJ3_checkIndex_8e157 1 = .ok (.ifCond .lt 8, 3) := by decide +kernel
theorem dJ3_checkIndex_8e157_4 : decode cJ3_checkIndex_8e157 4 = .ok (.iload_n 0, 1) := by decide +kernel
theorem dJ3_checkIndex_8e157_5 : decode cJ3_checkIndex_8e157 5 = .ok (.iload_n 1, 1) := by decide +kernel
theorem dJ3_checkIndex_8e157_6 : decode cJ3_checkIndex_8e157 6 = .ok (.if_icmp .lt 10, 3) := by decide +kernel
theorem dJ3_checkIndex_8e157_9 : decode cJ3_checkIndex_8e157 9 = .ok (.aload_n 2, 1) := by decide +kernel
theorem dJ3_checkIndex_8e157_10 : decode cJ3_checkIndex_8e157 10 = .ok (.iload_n 0, 1) := by decide +kernel
theorem dJ3_checkIndex_8e157_11 : decode cJ3_checkIndex_8e157 11 = .ok (.iload_n 1, 1) := by decide +kernel
theorem dJ3_checkIndex_8e157_12 : decode cJ3_checkIndex_8e157 12 = .ok (.invokestatic 95, 3) := by decide +kernel
theorem dJ3_checkIndex_8e157_15 : decode cJ3_checkIndex_8e157 15 = .ok (.athrow, 1) := by decide +kernel
theorem dJ3_checkIndex_8e157_16 : decode cJ3_checkIndex_8e157 16 = .ok (.iload_n 0, 1) := by decide +kernel
theorem dJ3_checkIndex_8e157_17 : decode cJ3_checkIndex_8e157 17 = .ok (.ireturn, 1) := by decide +kernel
theorem dL_put_0 : decode cL_put 0 = .ok (.aload_n 1, 1) := by decide +kernel
theorem dL_put_1 : decode cL_put 1 = .ok (.iconst 1, 1) := by decide +kernel
theorem dL_put_2 : decode cL_put 2 = .ok (.aload_n 1, 1) := by decide +kernel
theorem dL_put_3 : decode cL_put 3 = .ok (.iconst 0, 1) := by decide +kernel
theorem dL_put_4 : decode cL_put 4 = .ok (.iaload, 1) := by decide +kernel
theorem dL_put_5 : decode cL_put 5 = .ok (.bipush 20, 2) := by decide +kernel
theorem dL_put_7 : decode cL_put 7 = .ok (.irem, 1) := by decide +kernel
theorem dL_put_8 : decode cL_put 8 = .ok (.iconst 4, 1) := by decide +kernel
theorem dL_put_9 : decode cL_put 9 = .ok (.idiv, 1) := by decide +kernel
theorem dL_put_10 : decode cL_put 10 = .ok (.iadd, 1) := by decide +kernel
theorem dL_put_11 : decode cL_put 11 = .ok (.dup2, 1) := by decide +kernel
theorem dL_put_12 : decode cL_put 12 = .ok (.iaload, 1) := by decide +kernel
theorem dL_put_13 : decode cL_put 13 = .ok (.iload_n 2, 1) := by decide +kernel
theorem dL_put_14 : decode cL_put 14 = .ok (.bipush 24, 2) := by decide +kernel
theorem dL_put_16 : decode cL_put 16 = .ok (.bipush 8, 2) := by decide +kernel
theorem dL_put_18 : decode cL_put 18 = .ok (.aload_n 1, 1) := by decide +kernel
theorem dL_put_19 : decode cL_put 19 = .ok (.iconst 0, 1) := by decide +kernel
theorem dL_put_20 : decode cL_put 20 = .ok (.iaload, 1) := by decide +kernel
theorem dL_put_21 : decode cL_put 21 = .ok (.iconst 4, 1) := by decide +kernel
theorem dL_put_22 : decode cL_put 22 = .ok (.irem, 1) := by decide +kernel
theorem dL_put_23 : decode cL_put 23 = .ok (.imul, 1) := by decide +kernel
theorem dL_put_24 : decode cL_put 24 = .ok (.isub, 1) := by decide +kernel
theorem dL_put_25 : decode cL_put 25 = .ok (.ishl, 1) := by decide +kernel
theorem dL_put_26 : decode cL_put 26 = .ok (.ior, 1) := by decide +kernel
theorem dL_put_27 : decode cL_put 27 = .ok (.iastore, 1) := by decide +kernel
theorem dL_put_28 : decode cL_put 28 = .ok (.aload_n 1, 1) := by decide +kernel
theorem dL_put_29 : decode cL_put 29 = .ok (.iconst 0, 1) := by decide +kernel
theorem dL_put_30 : decode cL_put 30 = .ok (.dup2, 1) := by decide +kernel
theorem dL_put_31 : decode cL_put 31 = .ok (.iaload, 1) := by decide +kernel
theorem dL_put_32 : decode cL_put 32 = .ok (.iconst 1, 1) := by decide +kernel
theorem dL_put_33 : decode cL_put 33 = .ok (.iadd, 1) := by decide +kernel
theorem dL_put_34 : decode cL_put 34 = .ok (.iastore, 1) := by decide +kernel
theorem dL_put_35 : decode cL_put 35 = .ok (.aload_n 1, 1) := by decide +kernel
theorem dL_put_36 : decode cL_put 36 = .ok (.iconst 0, 1) := by decide +kernel
theorem dL_put_37 : decode cL_put 37 = .ok (.iaload, 1) := by decide +kernel
theorem dL_put_38 : decode cL_put 38 = .ok (.bipush 20, 2) := by decide +kernel
theorem dL_put_40 : decode cL_put 40 = .ok (.irem, 1) := by decide +kernel
theorem dL_put_41 : decode cL_put 41 = .ok (.ifCond .ne 8, 3) := by decide +kernel
theorem dL_put_44 : decode cL_put 44 = .ok (.aload_n 0, 1) := by decide +kernel
theorem dL_put_45 : decode cL_put 45 = .ok (.aload_n 1, 1) := by decide +kernel
theorem dL_put_46 : decode cL_put 46 = .ok (.invokestatic 7, 3) := by decide +kernel
theorem dL_put_49 : decode cL_put 49 = .ok (.return_, 1) := by decide +kernel
theorem dL_flush_0 : decode cL_flush 0 = .ok (.aload_n 0, 1) := by decide +kernel
theorem dL_flush_1 : decode cL_flush 1 = .ok (.aload_n 1, 1) := by decide +kernel
theorem dL_flush_2 : decode cL_flush 2 = .ok (.iconst 1, 1) := by decide +kernel
theorem dL_flush_3 : decode cL_flush 3 = .ok (.iaload, 1) := by decide +kernel
theorem dL_flush_4 : decode cL_flush 4 = .ok (.aload_n 1, 1) := by decide +kernel
theorem dL_flush_5 : decode cL_flush 5 = .ok (.iconst 2, 1) := by decide +kernel
theorem dL_flush_6 : decode cL_flush 6 = .ok (.iaload, 1) := by decide +kernel
theorem dL_flush_7 : decode cL_flush 7 = .ok (.aload_n 1, 1) := by decide +kernel
theorem dL_flush_8 : decode cL_flush 8 = .ok (.iconst 3, 1) := by decide +kernel
theorem dL_flush_9 : decode cL_flush 9 = .ok (.iaload, 1) := by decide +kernel
theorem dL_flush_10 : decode cL_flush 10 = .ok (.aload_n 1, 1) := by decide +kernel
theorem dL_flush_11 : decode cL_flush 11 = .ok (.iconst 4, 1) := by decide +kernel
theorem dL_flush_12 : decode cL_flush 12 = .ok (.iaload, 1) := by decide +kernel
theorem dL_flush_13 : decode cL_flush 13 = .ok (.aload_n 1, 1) := by decide +kernel
theorem dL_flush_14 : decode cL_flush 14 = .ok (.iconst 5, 1) := by decide +kernel
theorem dL_flush_15 : decode cL_flush 15 = .ok (.iaload, 1) := by decide +kernel
theorem dL_flush_16 : decode cL_flush 16 = .ok (.invokevirtual 13, 3) := by decide +kernel
theorem dL_flush_19 : decode cL_flush 19 = .ok (.pop, 1) := by decide +kernel
theorem dL_flush_20 : decode cL_flush 20 = .ok (.iconst 1, 1) := by decide +kernel
theorem dL_flush_21 : decode cL_flush 21 = .ok (.istore_n 2, 1) := by decide +kernel
theorem dL_flush_22 : decode cL_flush 22 = .ok (.iload_n 2, 1) := by decide +kernel
theorem dL_flush_23 : decode cL_flush 23 = .ok (.bipush 6, 2) := by decide +kernel
theorem dL_flush_25 : decode cL_flush 25 = .ok (.if_icmp .ge 13, 3) := by decide +kernel
theorem dL_flush_28 : decode cL_flush 28 = .ok (.aload_n 1, 1) := by decide +kernel
theorem dL_flush_29 : decode cL_flush 29 = .ok (.iload_n 2, 1) := by decide +kernel
theorem dL_flush_30 : decode cL_flush 30 = .ok (.iconst 0, 1) := by decide +kernel
theorem dL_flush_31 : decode cL_flush 31 = .ok (.iastore, 1) := by decide +kernel
theorem dL_flush_32 : decode cL_flush 32 = .ok (.iinc 2 1, 3) := by decide +kernel
theorem dL_flush_35 : decode cL_flush 35 = .ok (.goto (-13), 3) := by decide +kernel
theorem dL_flush_38 : decode cL_flush 38 = .ok (.return_, 1) := by decide +kernel
theorem dL_loadText_0 : decode cL_loadText 0 = .ok (.aload_n 1, 1) := by decide +kernel
theorem dL_loadText_1 : decode cL_loadText 1 = .ok (.iconst 0, 1) := by decide +kernel
theorem dL_loadText_2 : decode cL_loadText 2 = .ok (.iaload, 1) := by decide +kernel
theorem dL_loadText_3 : decode cL_loadText 3 = .ok (.istore_n 2, 1) := by decide +kernel
theorem dL_loadText_4 : decode cL_loadText 4 = .ok (.iload_n 2, 1) := by decide +kernel
theorem dL_loadText_5 : decode cL_loadText 5 = .ok (.bipush 20, 2) := by decide +kernel
theorem dL_loadText_7 : decode cL_loadText 7 = .ok (.irem, 1) := by decide +kernel
theorem dL_loadText_8 : decode cL_loadText 8 = .ok (.ifCond .le 8, 3) := by decide +kernel
theorem dL_loadText_11 : decode cL_loadText 11 = .ok (.aload_n 0, 1) := by decide +kernel
theorem dL_loadText_12 : decode cL_loadText 12 = .ok (.aload_n 1, 1) := by decide +kernel
theorem dL_loadText_13 : decode cL_loadText 13 = .ok (.invokestatic 7, 3) := by decide +kernel
theorem dL_loadText_16 : decode cL_loadText 16 = .ok (.aload_n 1, 1) := by decide +kernel
theorem dL_loadText_17 : decode cL_loadText 17 = .ok (.iconst 0, 1) := by decide +kernel
theorem dL_loadText_18 : decode cL_loadText 18 = .ok (.iconst 0, 1) := by decide +kernel
theorem dL_loadText_19 : decode cL_loadText 19 = .ok (.iastore, 1) := by decide +kernel
theorem dL_loadText_20 : decode cL_loadText 20 = .ok (.aload_n 0, 1) := by decide +kernel
theorem dL_loadText_21 : decode cL_loadText 21 = .ok (.iload_n 2, 1) := by decide +kernel
theorem dL_loadText_22 : decode cL_loadText 22 = .ok (.invokestatic 19, 3) := by decide +kernel
theorem dL_loadText_25 : decode cL_loadText 25 = .ok (.ireturn, 1) := by decide +kernel
theorem dL_write_0 : decode cL_write 0 = .ok (.iconst 0, 1) := by decide +kernel
theorem dL_write_1 : decode cL_write 1 = .ok (.istore_n 3, 1) := by decide +kernel
theorem dL_write_2 : decode cL_write 2 = .ok (.iload_n 3, 1) := by decide +kernel
theorem dL_write_3 : decode cL_write 3 = .ok (.aload_n 2, 1) := by decide +kernel
theorem dL_write_4 : decode cL_write 4 = .ok (.invokevirtual 23, 3) := by decide +kernel
theorem dL_write_7 : decode cL_write 7 = .ok (.if_icmp .ge 19, 3) := by decide +kernel
theorem dL_write_10 : decode cL_write 10 = .ok (.aload_n 0, 1) := by decide +kernel
theorem dL_write_11 : decode cL_write 11 = .ok (.aload_n 1, 1) := by decide +kernel
theorem dL_write_12 : decode cL_write 12 = .ok (.aload_n 2, 1) := by decide +kernel
theorem dL_write_13 : decode cL_write 13 = .ok (.iload_n 3, 1) := by decide +kernel
theorem dL_write_14 : decode cL_write 14 = .ok (.invokevirtual 29, 3) := by decide +kernel
theorem dL_write_17 : decode cL_write 17 = .ok (.invokestatic 33, 3) := by decide +kernel
theorem dL_write_20 : decode cL_write 20 = .ok (.iinc 3 1, 3) := by decide +kernel
theorem dL_write_23 : decode cL_write 23 = .ok (.goto (-21), 3) := by decide +kernel
theorem dL_write_26 : decode cL_write 26 = .ok (.return_, 1) := by decide +kernel
theorem dL_writeNumber_0 : decode cL_writeNumber 0 = .ok (.iconst 1, 1) := by decide +kernel
theorem dL_writeNumber_1 : decode cL_writeNumber 1 = .ok (.istore_n 3, 1) := by decide +kernel
theorem dL_writeNumber_2 : decode cL_writeNumber 2 = .ok (.iload_n 3, 1) := by decide +kernel
theorem dL_writeNumber_3 : decode cL_writeNumber 3 = .ok (.iload_n 2, 1) := by decide +kernel
theorem dL_writeNumber_4 : decode cL_writeNumber 4 = .ok (.bipush 10, 2) := by decide +kernel
theorem dL_writeNumber_6 : decode cL_writeNumber 6 = .ok (.idiv, 1) := by decide +kernel
theorem dL_writeNumber_7 : decode cL_writeNumber 7 = .ok (.if_icmp .gt 11, 3) := by decide +kernel
theorem dL_writeNumber_10 : decode cL_writeNumber 10 = .ok (.iload_n 3, 1) := by decide +kernel
theorem dL_writeNumber_11 : decode cL_writeNumber 11 = .ok (.bipush 10, 2) := by decide +kernel
theorem dL_writeNumber_13 : decode cL_writeNumber 13 = .ok (.imul, 1) := by decide +kernel
theorem dL_writeNumber_14 : decode cL_writeNumber 14 = .ok (.istore_n 3, 1) := by decide +kernel
theorem dL_writeNumber_15 : decode cL_writeNumber 15 = .ok (.goto (-13), 3) := by decide +kernel
theorem dL_writeNumber_18 : decode cL_writeNumber 18 = .ok (.iload_n 3, 1) := by decide +kernel
theorem dL_writeNumber_19 : decode cL_writeNumber 19 = .ok (.ifCond .le 25, 3) := by decide +kernel
theorem dL_writeNumber_22 : decode cL_writeNumber 22 = .ok (.aload_n 0, 1) := by decide +kernel
theorem dL_writeNumber_23 : decode cL_writeNumber 23 = .ok (.aload_n 1, 1) := by decide +kernel
theorem dL_writeNumber_24 : decode cL_writeNumber 24 = .ok (.bipush 48, 2) := by decide +kernel
theorem dL_writeNumber_26 : decode cL_writeNumber 26 = .ok (.iload_n 2, 1) := by decide +kernel
theorem dL_writeNumber_27 : decode cL_writeNumber 27 = .ok (.iload_n 3, 1) := by decide +kernel
theorem dL_writeNumber_28 : decode cL_writeNumber 28 = .ok (.idiv, 1) := by decide +kernel
theorem dL_writeNumber_29 : decode cL_writeNumber 29 = .ok (.bipush 10, 2) := by decide +kernel
theorem dL_writeNumber_31 : decode cL_writeNumber 31 = .ok (.irem, 1) := by decide +kernel
theorem dL_writeNumber_32 : decode cL_writeNumber 32 = .ok (.iadd, 1) := by decide +kernel
theorem dL_writeNumber_33 : decode cL_writeNumber 33 = .ok (.invokestatic 33, 3) := by decide +kernel
theorem dL_writeNumber_36 : decode cL_writeNumber 36 = .ok (.iload_n 3, 1) := by decide +kernel
theorem dL_writeNumber_37 : decode cL_writeNumber 37 = .ok (.bipush 10, 2) := by decide +kernel
theorem dL_writeNumber_39 : decode cL_writeNumber 39 = .ok (.idiv, 1) := by decide +kernel
theorem dL_writeNumber_40 : decode cL_writeNumber 40 = .ok (.istore_n 3, 1) := by decide +kernel
theorem dL_writeNumber_41 : decode cL_writeNumber 41 = .ok (.goto (-23), 3) := by decide +kernel
theorem dL_writeNumber_44 : decode cL_writeNumber 44 = .ok (.return_, 1) := by decide +kernel
theorem dL_load_0 : decode cL_load 0 = .ok (.aload_n 0, 1) := by decide +kernel
theorem dL_load_1 : decode cL_load 1 = .ok (.iload_n 1, 1) := by decide +kernel
theorem dL_load_2 : decode cL_load 2 = .ok (.invokevirtual 37, 3) := by decide +kernel
theorem dL_load_5 : decode cL_load 5 = .ok (.ireturn, 1) := by decide +kernel
theorem dL_load_6 : decode cL_load 6 = .ok (.astore_n 2, 1) := by decide +kernel
theorem dL_load_7 : decode cL_load 7 = .ok (.ldc 42, 2) := by decide +kernel
theorem dL_load_9 : decode cL_load 9 = .ok (.ireturn, 1) := by decide +kernel
theorem dL_zone_0 : decode cL_zone 0 = .ok (.aload_n 0, 1) := by decide +kernel
theorem dL_zone_1 : decode cL_zone 1 = .ok (.iload_n 1, 1) := by decide +kernel
theorem dL_zone_2 : decode cL_zone 2 = .ok (.iload_n 2, 1) := by decide +kernel
theorem dL_zone_3 : decode cL_zone 3 = .ok (.invokevirtual 43, 3) := by decide +kernel
theorem dL_zone_6 : decode cL_zone 6 = .ok (.ireturn, 1) := by decide +kernel
theorem dL_zone_7 : decode cL_zone 7 = .ok (.astore_n 3, 1) := by decide +kernel
theorem dL_zone_8 : decode cL_zone 8 = .ok (.ldc 49, 2) := by decide +kernel
theorem dL_zone_10 : decode cL_zone 10 = .ok (.ireturn, 1) := by decide +kernel
theorem dL_zone_11 : decode cL_zone 11 = .ok (.astore_n 3, 1) := by decide +kernel
theorem dL_zone_12 : decode cL_zone 12 = .ok (.ldc 42, 2) := by decide +kernel
theorem dL_zone_14 : decode cL_zone 14 = .ok (.ireturn, 1) := by decide +kernel
theorem dL_thickness_0 : decode cL_thickness 0 = .ok (.aload_n 0, 1) := by decide +kernel
theorem dL_thickness_1 : decode cL_thickness 1 = .ok (.iload_n 1, 1) := by decide +kernel
theorem dL_thickness_2 : decode cL_thickness 2 = .ok (.invokevirtual 50, 3) := by decide +kernel
theorem dL_thickness_5 : decode cL_thickness 5 = .ok (.ireturn, 1) := by decide +kernel
theorem dL_thickness_6 : decode cL_thickness 6 = .ok (.astore_n 2, 1) := by decide +kernel
theorem dL_thickness_7 : decode cL_thickness 7 = .ok (.ldc 49, 2) := by decide +kernel
theorem dL_thickness_9 : decode cL_thickness 9 = .ok (.ireturn, 1) := by decide +kernel
theorem dL_temperature_0 : decode cL_temperature 0 = .ok (.aload_n 0, 1) := by decide +kernel
theorem dL_temperature_1 : decode cL_temperature 1 = .ok (.iload_n 1, 1) := by decide +kernel
theorem dL_temperature_2 : decode cL_temperature 2 = .ok (.invokevirtual 53, 3) := by decide +kernel
theorem dL_temperature_5 : decode cL_temperature 5 = .ok (.ireturn, 1) := by decide +kernel
theorem dL_temperature_6 : decode cL_temperature 6 = .ok (.astore_n 2, 1) := by decide +kernel
theorem dL_temperature_7 : decode cL_temperature 7 = .ok (.ldc 49, 2) := by decide +kernel
theorem dL_temperature_9 : decode cL_temperature 9 = .ok (.ireturn, 1) := by decide +kernel
theorem dL_state_0 : decode cL_state 0 = .ok (.aload_n 0, 1) := by decide +kernel
theorem dL_state_1 : decode cL_state 1 = .ok (.iload_n 1, 1) := by decide +kernel
theorem dL_state_2 : decode cL_state 2 = .ok (.invokevirtual 56, 3) := by decide +kernel
theorem dL_state_5 : decode cL_state 5 = .ok (.ireturn, 1) := by decide +kernel
theorem dL_state_6 : decode cL_state 6 = .ok (.astore_n 2, 1) := by decide +kernel
theorem dL_state_7 : decode cL_state 7 = .ok (.ldc 49, 2) := by decide +kernel
theorem dL_state_9 : decode cL_state 9 = .ok (.ireturn, 1) := by decide +kernel
theorem dL_count_0 : decode cL_count 0 = .ok (.aload_n 0, 1) := by decide +kernel
theorem dL_count_1 : decode cL_count 1 = .ok (.iload_n 1, 1) := by decide +kernel
theorem dL_count_2 : decode cL_count 2 = .ok (.invokevirtual 59, 3) := by decide +kernel
theorem dL_count_5 : decode cL_count 5 = .ok (.ireturn, 1) := by decide +kernel
theorem dL_count_6 : decode cL_count 6 = .ok (.astore_n 2, 1) := by decide +kernel
theorem dL_count_7 : decode cL_count 7 = .ok (.ldc 42, 2) := by decide +kernel
theorem dL_count_9 : decode cL_count 9 = .ok (.ireturn, 1) := by decide +kernel
theorem dL_learned_0 : decode cL_learned 0 = .ok (.aload_n 0, 1) := by decide +kernel
theorem dL_learned_1 : decode cL_learned 1 = .ok (.iload_n 1, 1) := by decide +kernel
theorem dL_learned_2 : decode cL_learned 2 = .ok (.iload_n 2, 1) := by decide +kernel
theorem dL_learned_3 : decode cL_learned 3 = .ok (.invokevirtual 62, 3) := by decide +kernel
theorem dL_learned_6 : decode cL_learned 6 = .ok (.ireturn, 1) := by decide +kernel
theorem dL_learned_7 : decode cL_learned 7 = .ok (.astore_n 3, 1) := by decide +kernel
theorem dL_learned_8 : decode cL_learned 8 = .ok (.ldc 42, 2) := by decide +kernel
theorem dL_learned_10 : decode cL_learned 10 = .ok (.ireturn, 1) := by decide +kernel
theorem dL_guard_0 : decode cL_guard 0 = .ok (.aload_n 0, 1) := by decide +kernel
theorem dL_guard_1 : decode cL_guard 1 = .ok (.iload_n 1, 1) := by decide +kernel
theorem dL_guard_2 : decode cL_guard 2 = .ok (.invokevirtual 71, 3) := by decide +kernel
theorem dL_guard_5 : decode cL_guard 5 = .ok (.ireturn, 1) := by decide +kernel
theorem dL_guard_6 : decode cL_guard 6 = .ok (.astore_n 2, 1) := by decide +kernel
theorem dL_guard_7 : decode cL_guard 7 = .ok (.ldc 42, 2) := by decide +kernel
theorem dL_guard_9 : decode cL_guard 9 = .ok (.ireturn, 1) := by decide +kernel
theorem dL_finishTime_0 : decode cL_finishTime 0 = .ok (.aload_n 0, 1) := by decide +kernel
theorem dL_finishTime_1 : decode cL_finishTime 1 = .ok (.iload_n 1, 1) := by decide +kernel
theorem dL_finishTime_2 : decode cL_finishTime 2 = .ok (.invokevirtual 74, 3) := by decide +kernel
theorem dL_finishTime_5 : decode cL_finishTime 5 = .ok (.ireturn, 1) := by decide +kernel
theorem dL_finishTime_6 : decode cL_finishTime 6 = .ok (.astore_n 2, 1) := by decide +kernel
theorem dL_finishTime_7 : decode cL_finishTime 7 = .ok (.ldc 42, 2) := by decide +kernel
theorem dL_finishTime_9 : decode cL_finishTime 9 = .ok (.ireturn, 1) := by decide +kernel
theorem dL_stateAfter_0 : decode cL_stateAfter 0 = .ok (.aload_n 0, 1) := by decide +kernel
theorem dL_stateAfter_1 : decode cL_stateAfter 1 = .ok (.iload_n 1, 1) := by decide +kernel
theorem dL_stateAfter_2 : decode cL_stateAfter 2 = .ok (.iload_n 2, 1) := by decide +kernel
theorem dL_stateAfter_3 : decode cL_stateAfter 3 = .ok (.invokevirtual 77, 3) := by decide +kernel
theorem dL_stateAfter_6 : decode cL_stateAfter 6 = .ok (.ireturn, 1) := by decide +kernel
theorem dL_stateAfter_7 : decode cL_stateAfter 7 = .ok (.astore_n 3, 1) := by decide +kernel
theorem dL_stateAfter_8 : decode cL_stateAfter 8 = .ok (.ldc 49, 2) := by decide +kernel
theorem dL_stateAfter_10 : decode cL_stateAfter 10 = .ok (.ireturn, 1) := by decide +kernel
theorem dL_stateAfter_11 : decode cL_stateAfter 11 = .ok (.astore_n 3, 1) := by decide +kernel
theorem dL_stateAfter_12 : decode cL_stateAfter 12 = .ok (.ldc 42, 2) := by decide +kernel
theorem dL_stateAfter_14 : decode cL_stateAfter 14 = .ok (.ireturn, 1) := by decide +kernel
theorem dL_add_0 : decode cL_add 0 = .ok (.aload_n 0, 1) := by decide +kernel
theorem dL_add_1 : decode cL_add 1 = .ok (.iload_n 1, 1) := by decide +kernel
theorem dL_add_2 : decode cL_add 2 = .ok (.iload_n 2, 1) := by decide +kernel
theorem dL_add_3 : decode cL_add 3 = .ok (.invokevirtual 80, 3) := by decide +kernel
theorem dL_add_6 : decode cL_add 6 = .ok (.ireturn, 1) := by decide +kernel
theorem dL_add_7 : decode cL_add 7 = .ok (.astore_n 3, 1) := by decide +kernel
theorem dL_add_8 : decode cL_add 8 = .ok (.ldc 42, 2) := by decide +kernel
theorem dL_add_10 : decode cL_add 10 = .ok (.ireturn, 1) := by decide +kernel
theorem dL_add_11 : decode cL_add 11 = .ok (.astore_n 3, 1) := by decide +kernel
theorem dL_add_12 : decode cL_add 12 = .ok (.ldc 85, 2) := by decide +kernel
theorem dL_add_14 : decode cL_add 14 = .ok (.ireturn, 1) := by decide +kernel
theorem dL_run_0 : decode cL_run 0 = .ok (.aload_n 0, 1) := by decide +kernel
theorem dL_run_1 : decode cL_run 1 = .ok (.iload_n 1, 1) := by decide +kernel
theorem dL_run_2 : decode cL_run 2 = .ok (.invokevirtual 86, 3) := by decide +kernel
theorem dL_run_5 : decode cL_run 5 = .ok (.ireturn, 1) := by decide +kernel
theorem dL_run_6 : decode cL_run 6 = .ok (.astore_n 2, 1) := by decide +kernel
theorem dL_run_7 : decode cL_run 7 = .ok (.ldc 42, 2) := by decide +kernel
theorem dL_run_9 : decode cL_run 9 = .ok (.ireturn, 1) := by decide +kernel
theorem dL_run_10 : decode cL_run 10 = .ok (.astore_n 2, 1) := by decide +kernel
theorem dL_run_11 : decode cL_run 11 = .ok (.ldc 85, 2) := by decide +kernel
theorem dL_run_13 : decode cL_run 13 = .ok (.ireturn, 1) := by decide +kernel
theorem dL_setPoint_0 : decode cL_setPoint 0 = .ok (.aload_n 0, 1) := by decide +kernel
theorem dL_setPoint_1 : decode cL_setPoint 1 = .ok (.iload_n 1, 1) := by decide +kernel
theorem dL_setPoint_2 : decode cL_setPoint 2 = .ok (.iload_n 2, 1) := by decide +kernel
theorem dL_setPoint_3 : decode cL_setPoint 3 = .ok (.invokevirtual 89, 3) := by decide +kernel
theorem dL_setPoint_6 : decode cL_setPoint 6 = .ok (.ireturn, 1) := by decide +kernel
theorem dL_setPoint_7 : decode cL_setPoint 7 = .ok (.astore_n 3, 1) := by decide +kernel
theorem dL_setPoint_8 : decode cL_setPoint 8 = .ok (.ldc 49, 2) := by decide +kernel
theorem dL_setPoint_10 : decode cL_setPoint 10 = .ok (.ireturn, 1) := by decide +kernel
theorem dL_setPoint_11 : decode cL_setPoint 11 = .ok (.astore_n 3, 1) := by decide +kernel
theorem dL_setPoint_12 : decode cL_setPoint 12 = .ok (.ldc 42, 2) := by decide +kernel
theorem dL_setPoint_14 : decode cL_setPoint 14 = .ok (.ireturn, 1) := by decide +kernel
theorem dL_setCorrection_0 : decode cL_setCorrection 0 = .ok (.aload_n 0, 1) := by decide +kernel
theorem dL_setCorrection_1 : decode cL_setCorrection 1 = .ok (.iload_n 1, 1) := by decide +kernel
theorem dL_setCorrection_2 : decode cL_setCorrection 2 = .ok (.iload_n 2, 1) := by decide +kernel
theorem dL_setCorrection_3 : decode cL_setCorrection 3 = .ok (.invokevirtual 92, 3) := by decide +kernel
theorem dL_setCorrection_6 : decode cL_setCorrection 6 = .ok (.ireturn, 1) := by decide +kernel
theorem dL_setCorrection_7 : decode cL_setCorrection 7 = .ok (.astore_n 3, 1) := by decide +kernel
theorem dL_setCorrection_8 : decode cL_setCorrection 8 = .ok (.ldc 42, 2) := by decide +kernel
theorem dL_setCorrection_10 : decode cL_setCorrection 10 = .ok (.ireturn, 1) := by decide +kernel
theorem dL_setCorrection_11 : decode cL_setCorrection 11 = .ok (.astore_n 3, 1) := by decide +kernel
theorem dL_setCorrection_12 : decode cL_setCorrection 12 = .ok (.ldc 85, 2) := by decide +kernel
theorem dL_setCorrection_14 : decode cL_setCorrection 14 = .ok (.ireturn, 1) := by decide +kernel
theorem dL_scrap_0 : decode cL_scrap 0 = .ok (.aload_n 0, 1) := by decide +kernel
theorem dL_scrap_1 : decode cL_scrap 1 = .ok (.iload_n 1, 1) := by decide +kernel
theorem dL_scrap_2 : decode cL_scrap 2 = .ok (.invokevirtual 95, 3) := by decide +kernel
theorem dL_scrap_5 : decode cL_scrap 5 = .ok (.ireturn, 1) := by decide +kernel
theorem dL_scrap_6 : decode cL_scrap 6 = .ok (.astore_n 2, 1) := by decide +kernel
theorem dL_scrap_7 : decode cL_scrap 7 = .ok (.ldc 49, 2) := by decide +kernel
theorem dL_scrap_9 : decode cL_scrap 9 = .ok (.ireturn, 1) := by decide +kernel
theorem dL_scrap_10 : decode cL_scrap 10 = .ok (.astore_n 2, 1) := by decide +kernel
theorem dL_scrap_11 : decode cL_scrap 11 = .ok (.ldc 85, 2) := by decide +kernel
theorem dL_scrap_13 : decode cL_scrap 13 = .ok (.ireturn, 1) := by decide +kernel
theorem dL_with_0 : decode cL_with 0 = .ok (.aload_n 0, 1) := by decide +kernel
theorem dL_with_1 : decode cL_with 1 = .ok (.arraylength, 1) := by decide +kernel
theorem dL_with_2 : decode cL_with 2 = .ok (.iconst 1, 1) := by decide +kernel
theorem dL_with_3 : decode cL_with 3 = .ok (.iadd, 1) := by decide +kernel
theorem dL_with_4 : decode cL_with 4 = .ok (.anewarray 98, 3) := by decide +kernel
theorem dL_with_7 : decode cL_with 7 = .ok (.astore_n 2, 1) := by decide +kernel
theorem dL_with_8 : decode cL_with 8 = .ok (.iconst 0, 1) := by decide +kernel
theorem dL_with_9 : decode cL_with 9 = .ok (.istore_n 3, 1) := by decide +kernel
theorem dL_with_10 : decode cL_with 10 = .ok (.iload_n 3, 1) := by decide +kernel
theorem dL_with_11 : decode cL_with 11 = .ok (.aload_n 0, 1) := by decide +kernel
theorem dL_with_12 : decode cL_with 12 = .ok (.arraylength, 1) := by decide +kernel
theorem dL_with_13 : decode cL_with 13 = .ok (.if_icmp .ge 15, 3) := by decide +kernel
theorem dL_with_16 : decode cL_with 16 = .ok (.aload_n 2, 1) := by decide +kernel
theorem dL_with_17 : decode cL_with 17 = .ok (.iload_n 3, 1) := by decide +kernel
theorem dL_with_18 : decode cL_with 18 = .ok (.aload_n 0, 1) := by decide +kernel
theorem dL_with_19 : decode cL_with 19 = .ok (.iload_n 3, 1) := by decide +kernel
theorem dL_with_20 : decode cL_with 20 = .ok (.aaload, 1) := by decide +kernel
theorem dL_with_21 : decode cL_with 21 = .ok (.aastore, 1) := by decide +kernel
theorem dL_with_22 : decode cL_with 22 = .ok (.iinc 3 1, 3) := by decide +kernel
theorem dL_with_25 : decode cL_with 25 = .ok (.goto (-15), 3) := by decide +kernel
theorem dL_with_28 : decode cL_with 28 = .ok (.aload_n 2, 1) := by decide +kernel
theorem dL_with_29 : decode cL_with 29 = .ok (.aload_n 0, 1) := by decide +kernel
theorem dL_with_30 : decode cL_with 30 = .ok (.arraylength, 1) := by decide +kernel
theorem dL_with_31 : decode cL_with 31 = .ok (.aload_n 1, 1) := by decide +kernel
theorem dL_with_32 : decode cL_with 32 = .ok (.aastore, 1) := by decide +kernel
theorem dL_with_33 : decode cL_with 33 = .ok (.aload_n 2, 1) := by decide +kernel
theorem dL_with_34 : decode cL_with 34 = .ok (.areturn, 1) := by decide +kernel
theorem dL_writeNumbers_0 : decode cL_writeNumbers 0 = .ok (.aload_n 0, 1) := by decide +kernel
theorem dL_writeNumbers_1 : decode cL_writeNumbers 1 = .ok (.aload_n 1, 1) := by decide +kernel
theorem dL_writeNumbers_2 : decode cL_writeNumbers 2 = .ok (.aload_n 2, 1) := by decide +kernel
theorem dL_writeNumbers_3 : decode cL_writeNumbers 3 = .ok (.invokestatic 100, 3) := by decide +kernel
theorem dL_writeNumbers_6 : decode cL_writeNumbers 6 = .ok (.aload_n 3, 1) := by decide +kernel
theorem dL_writeNumbers_7 : decode cL_writeNumbers 7 = .ok (.astore 4, 2) := by decide +kernel
theorem dL_writeNumbers_9 : decode cL_writeNumbers 9 = .ok (.aload 4, 2) := by decide +kernel
theorem dL_writeNumbers_11 : decode cL_writeNumbers 11 = .ok (.arraylength, 1) := by decide +kernel
theorem dL_writeNumbers_12 : decode cL_writeNumbers 12 = .ok (.istore 5, 2) := by decide +kernel
theorem dL_writeNumbers_14 : decode cL_writeNumbers 14 = .ok (.iconst 0, 1) := by decide +kernel
theorem dL_writeNumbers_15 : decode cL_writeNumbers 15 = .ok (.istore 6, 2) := by decide +kernel
theorem dL_writeNumbers_17 : decode cL_writeNumbers 17 = .ok (.iload 6, 2) := by decide +kernel
theorem dL_writeNumbers_19 : decode cL_writeNumbers 19 = .ok (.iload 5, 2) := by decide +kernel
theorem dL_writeNumbers_21 : decode cL_writeNumbers 21 = .ok (.if_icmp .ge 30, 3) := by decide +kernel
theorem dL_writeNumbers_24 : decode cL_writeNumbers 24 = .ok (.aload 4, 2) := by decide +kernel
theorem dL_writeNumbers_26 : decode cL_writeNumbers 26 = .ok (.iload 6, 2) := by decide +kernel
theorem dL_writeNumbers_28 : decode cL_writeNumbers 28 = .ok (.iaload, 1) := by decide +kernel
theorem dL_writeNumbers_29 : decode cL_writeNumbers 29 = .ok (.istore 7, 2) := by decide +kernel
theorem dL_writeNumbers_31 : decode cL_writeNumbers 31 = .ok (.aload_n 0, 1) := by decide +kernel
theorem dL_writeNumbers_32 : decode cL_writeNumbers 32 = .ok (.aload_n 1, 1) := by decide +kernel
theorem dL_writeNumbers_33 : decode cL_writeNumbers 33 = .ok (.ldc 104, 2) := by decide +kernel
theorem dL_writeNumbers_35 : decode cL_writeNumbers 35 = .ok (.invokestatic 100, 3) := by decide +kernel
theorem dL_writeNumbers_38 : decode cL_writeNumbers 38 = .ok (.aload_n 0, 1) := by decide +kernel
theorem dL_writeNumbers_39 : decode cL_writeNumbers 39 = .ok (.aload_n 1, 1) := by decide +kernel
theorem dL_writeNumbers_40 : decode cL_writeNumbers 40 = .ok (.iload 7, 2) := by decide +kernel
theorem dL_writeNumbers_42 : decode cL_writeNumbers 42 = .ok (.invokestatic 106, 3) := by decide +kernel
theorem dL_writeNumbers_45 : decode cL_writeNumbers 45 = .ok (.iinc 6 1, 3) := by decide +kernel
theorem dL_writeNumbers_48 : decode cL_writeNumbers 48 = .ok (.goto (-31), 3) := by decide +kernel
theorem dL_writeNumbers_51 : decode cL_writeNumbers 51 = .ok (.aload_n 0, 1) := by decide +kernel
theorem dL_writeNumbers_52 : decode cL_writeNumbers 52 = .ok (.aload_n 1, 1) := by decide +kernel
theorem dL_writeNumbers_53 : decode cL_writeNumbers 53 = .ok (.ldc 109, 2) := by decide +kernel
theorem dL_writeNumbers_55 : decode cL_writeNumbers 55 = .ok (.invokestatic 100, 3) := by decide +kernel
theorem dL_writeNumbers_58 : decode cL_writeNumbers 58 = .ok (.return_, 1) := by decide +kernel
theorem dL_randomLine_0 : decode cL_randomLine 0 = .ok (.new 111, 3) := by decide +kernel
theorem dL_randomLine_3 : decode cL_randomLine 3 = .ok (.dup, 1) := by decide +kernel
theorem dL_randomLine_4 : decode cL_randomLine 4 = .ok (.invokespecial 113, 3) := by decide +kernel
theorem dL_randomLine_7 : decode cL_randomLine 7 = .ok (.astore_n 3, 1) := by decide +kernel
theorem dL_randomLine_8 : decode cL_randomLine 8 = .ok (.aload_n 3, 1) := by decide +kernel
theorem dL_randomLine_9 : decode cL_randomLine 9 = .ok (.iconst 1, 1) := by decide +kernel
theorem dL_randomLine_10 : decode cL_randomLine 10 = .ok (.aload_n 2, 1) := by decide +kernel
theorem dL_randomLine_11 : decode cL_randomLine 11 = .ok (.iconst 3, 1) := by decide +kernel
theorem dL_randomLine_12 : decode cL_randomLine 12 = .ok (.invokevirtual 114, 3) := by decide +kernel
theorem dL_randomLine_15 : decode cL_randomLine 15 = .ok (.iadd, 1) := by decide +kernel
theorem dL_randomLine_16 : decode cL_randomLine 16 = .ok (.putfield 119, 3) := by decide +kernel
theorem dL_randomLine_19 : decode cL_randomLine 19 = .ok (.aload_n 3, 1) := by decide +kernel
theorem dL_randomLine_20 : decode cL_randomLine 20 = .ok (.aload_n 2, 1) := by decide +kernel
theorem dL_randomLine_21 : decode cL_randomLine 21 = .ok (.bipush 21, 2) := by decide +kernel
theorem dL_randomLine_23 : decode cL_randomLine 23 = .ok (.invokevirtual 114, 3) := by decide +kernel
theorem dL_randomLine_26 : decode cL_randomLine 26 = .ok (.putfield 123, 3) := by decide +kernel
theorem dL_randomLine_29 : decode cL_randomLine 29 = .ok (.aload_n 0, 1) := by decide +kernel
theorem dL_randomLine_30 : decode cL_randomLine 30 = .ok (.aload_n 1, 1) := by decide +kernel
theorem dL_randomLine_31 : decode cL_randomLine 31 = .ok (.ldc 126, 2) := by decide +kernel
theorem dL_randomLine_33 : decode cL_randomLine 33 = .ok (.iconst 2, 1) := by decide +kernel
theorem dL_randomLine_34 : decode cL_randomLine 34 = .ok (.newarray .int, 2) := by decide +kernel
theorem dL_randomLine_36 : decode cL_randomLine 36 = .ok (.dup, 1) := by decide +kernel
theorem dL_randomLine_37 : decode cL_randomLine 37 = .ok (.iconst 0, 1) := by decide +kernel
theorem dL_randomLine_38 : decode cL_randomLine 38 = .ok (.aload_n 3, 1) := by decide +kernel
theorem dL_randomLine_39 : decode cL_randomLine 39 = .ok (.getfield 119, 3) := by decide +kernel
theorem dL_randomLine_42 : decode cL_randomLine 42 = .ok (.iastore, 1) := by decide +kernel
theorem dL_randomLine_43 : decode cL_randomLine 43 = .ok (.dup, 1) := by decide +kernel
theorem dL_randomLine_44 : decode cL_randomLine 44 = .ok (.iconst 1, 1) := by decide +kernel
theorem dL_randomLine_45 : decode cL_randomLine 45 = .ok (.aload_n 3, 1) := by decide +kernel
theorem dL_randomLine_46 : decode cL_randomLine 46 = .ok (.getfield 123, 3) := by decide +kernel
theorem dL_randomLine_49 : decode cL_randomLine 49 = .ok (.iastore, 1) := by decide +kernel
theorem dL_randomLine_50 : decode cL_randomLine 50 = .ok (.invokestatic 128, 3) := by decide +kernel
theorem dL_randomLine_53 : decode cL_randomLine 53 = .ok (.iconst 1, 1) := by decide +kernel
theorem dL_randomLine_54 : decode cL_randomLine 54 = .ok (.aload_n 2, 1) := by decide +kernel
theorem dL_randomLine_55 : decode cL_randomLine 55 = .ok (.iconst 4, 1) := by decide +kernel
theorem dL_randomLine_56 : decode cL_randomLine 56 = .ok (.invokevirtual 114, 3) := by decide +kernel
theorem dL_randomLine_59 : decode cL_randomLine 59 = .ok (.iadd, 1) := by decide +kernel
theorem dL_randomLine_60 : decode cL_randomLine 60 = .ok (.istore 4, 2) := by decide +kernel
theorem dL_randomLine_62 : decode cL_randomLine 62 = .ok (.aload_n 3, 1) := by decide +kernel
theorem dL_randomLine_63 : decode cL_randomLine 63 = .ok (.iload 4, 2) := by decide +kernel
theorem dL_randomLine_65 : decode cL_randomLine 65 = .ok (.newarray .int, 2) := by decide +kernel
theorem dL_randomLine_67 : decode cL_randomLine 67 = .ok (.putfield 132, 3) := by decide +kernel
theorem dL_randomLine_70 : decode cL_randomLine 70 = .ok (.iconst 0, 1) := by decide +kernel
theorem dL_randomLine_71 : decode cL_randomLine 71 = .ok (.istore 5, 2) := by decide +kernel
theorem dL_randomLine_73 : decode cL_randomLine 73 = .ok (.iload 5, 2) := by decide +kernel
theorem dL_randomLine_75 : decode cL_randomLine 75 = .ok (.iload 4, 2) := by decide +kernel
theorem dL_randomLine_77 : decode cL_randomLine 77 = .ok (.if_icmp .ge 165, 3) := by decide +kernel
theorem dL_randomLine_80 : decode cL_randomLine 80 = .ok (.sipush 300, 3) := by decide +kernel
theorem dL_randomLine_83 : decode cL_randomLine 83 = .ok (.sipush 600, 3) := by decide +kernel
theorem dL_randomLine_86 : decode cL_randomLine 86 = .ok (.iload 4, 2) := by decide +kernel
theorem dL_randomLine_88 : decode cL_randomLine 88 = .ok (.idiv, 1) := by decide +kernel
theorem dL_randomLine_89 : decode cL_randomLine 89 = .ok (.iload 5, 2) := by decide +kernel
theorem dL_randomLine_91 : decode cL_randomLine 91 = .ok (.imul, 1) := by decide +kernel
theorem dL_randomLine_92 : decode cL_randomLine 92 = .ok (.iadd, 1) := by decide +kernel
theorem dL_randomLine_93 : decode cL_randomLine 93 = .ok (.aload_n 2, 1) := by decide +kernel
theorem dL_randomLine_94 : decode cL_randomLine 94 = .ok (.bipush 100, 2) := by decide +kernel
theorem dL_randomLine_96 : decode cL_randomLine 96 = .ok (.invokevirtual 114, 3) := by decide +kernel
theorem dL_randomLine_99 : decode cL_randomLine 99 = .ok (.iadd, 1) := by decide +kernel
theorem dL_randomLine_100 : decode cL_randomLine 100 = .ok (.istore 6, 2) := by decide +kernel
theorem dL_randomLine_102 : decode cL_randomLine 102 = .ok (.bipush 20, 2) := by decide +kernel
theorem dL_randomLine_104 : decode cL_randomLine 104 = .ok (.sipush 900, 3) := by decide +kernel
theorem dL_randomLine_107 : decode cL_randomLine 107 = .ok (.iload 6, 2) := by decide +kernel
theorem dL_randomLine_109 : decode cL_randomLine 109 = .ok (.bipush 20, 2) := by decide +kernel
theorem dL_randomLine_111 : decode cL_randomLine 111 = .ok (.isub, 1) := by decide +kernel
theorem dL_randomLine_112 : decode cL_randomLine 112 = .ok (.aload_n 2, 1) := by decide +kernel
theorem dL_randomLine_113 : decode cL_randomLine 113 = .ok (.bipush 120, 2) := by decide +kernel
theorem dL_randomLine_115 : decode cL_randomLine 115 = .ok (.invokevirtual 114, 3) := by decide +kernel
theorem dL_randomLine_118 : decode cL_randomLine 118 = .ok (.isub, 1) := by decide +kernel
theorem dL_randomLine_119 : decode cL_randomLine 119 = .ok (.invokestatic 135, 3) := by decide +kernel
theorem dL_randomLine_122 : decode cL_randomLine 122 = .ok (.invokestatic 140, 3) := by decide +kernel
theorem dL_randomLine_125 : decode cL_randomLine 125 = .ok (.istore 7, 2) := by decide +kernel
theorem dL_randomLine_127 : decode cL_randomLine 127 = .ok (.iconst 5, 1) := by decide +kernel
theorem dL_randomLine_128 : decode cL_randomLine 128 = .ok (.newarray .int, 2) := by decide +kernel
theorem dL_randomLine_130 : decode cL_randomLine 130 = .ok (.dup, 1) := by decide +kernel
theorem dL_randomLine_131 : decode cL_randomLine 131 = .ok (.iconst 0, 1) := by decide +kernel
theorem dL_randomLine_132 : decode cL_randomLine 132 = .ok (.sipush 900, 3) := by decide +kernel
theorem dL_randomLine_135 : decode cL_randomLine 135 = .ok (.iload 6, 2) := by decide +kernel
theorem dL_randomLine_137 : decode cL_randomLine 137 = .ok (.invokestatic 135, 3) := by decide +kernel
theorem dL_randomLine_140 : decode cL_randomLine 140 = .ok (.iastore, 1) := by decide +kernel
theorem dL_randomLine_141 : decode cL_randomLine 141 = .ok (.dup, 1) := by decide +kernel
theorem dL_randomLine_142 : decode cL_randomLine 142 = .ok (.iconst 1, 1) := by decide +kernel
theorem dL_randomLine_143 : decode cL_randomLine 143 = .ok (.iconst 1, 1) := by decide +kernel
theorem dL_randomLine_144 : decode cL_randomLine 144 = .ok (.aload_n 2, 1) := by decide +kernel
theorem dL_randomLine_145 : decode cL_randomLine 145 = .ok (.bipush 99, 2) := by decide +kernel
theorem dL_randomLine_147 : decode cL_randomLine 147 = .ok (.invokevirtual 114, 3) := by decide +kernel
theorem dL_randomLine_150 : decode cL_randomLine 150 = .ok (.iadd, 1) := by decide +kernel
theorem dL_randomLine_151 : decode cL_randomLine 151 = .ok (.iastore, 1) := by decide +kernel
theorem dL_randomLine_152 : decode cL_randomLine 152 = .ok (.dup, 1) := by decide +kernel
theorem dL_randomLine_153 : decode cL_randomLine 153 = .ok (.iconst 2, 1) := by decide +kernel
theorem dL_randomLine_154 : decode cL_randomLine 154 = .ok (.iconst 1, 1) := by decide +kernel
theorem dL_randomLine_155 : decode cL_randomLine 155 = .ok (.aload_n 2, 1) := by decide +kernel
theorem dL_randomLine_156 : decode cL_randomLine 156 = .ok (.aload_n 2, 1) := by decide +kernel
theorem dL_randomLine_157 : decode cL_randomLine 157 = .ok (.iconst 2, 1) := by decide +kernel
theorem dL_randomLine_158 : decode cL_randomLine 158 = .ok (.invokevirtual 114, 3) := by decide +kernel
theorem dL_randomLine_161 : decode cL_randomLine 161 = .ok (.ifCond .ne 9, 3) := by decide +kernel
theorem dL_randomLine_164 : decode cL_randomLine 164 = .ok (.sipush 999, 3) := by decide +kernel
theorem dL_randomLine_167 : decode cL_randomLine 167 = .ok (.goto 5, 3) := by decide +kernel
theorem dL_randomLine_170 : decode cL_randomLine 170 = .ok (.bipush 30, 2) := by decide +kernel
theorem dL_randomLine_172 : decode cL_randomLine 172 = .ok (.invokevirtual 114, 3) := by decide +kernel
theorem dL_randomLine_175 : decode cL_randomLine 175 = .ok (.iadd, 1) := by decide +kernel
theorem dL_randomLine_176 : decode cL_randomLine 176 = .ok (.iastore, 1) := by decide +kernel
theorem dL_randomLine_177 : decode cL_randomLine 177 = .ok (.dup, 1) := by decide +kernel
theorem dL_randomLine_178 : decode cL_randomLine 178 = .ok (.iconst 3, 1) := by decide +kernel
theorem dL_randomLine_179 : decode cL_randomLine 179 = .ok (.iload 7, 2) := by decide +kernel
theorem dL_randomLine_181 : decode cL_randomLine 181 = .ok (.iastore, 1) := by decide +kernel
theorem dL_randomLine_182 : decode cL_randomLine 182 = .ok (.dup, 1) := by decide +kernel
theorem dL_randomLine_183 : decode cL_randomLine 183 = .ok (.iconst 4, 1) := by decide +kernel
theorem dL_randomLine_184 : decode cL_randomLine 184 = .ok (.sipush 900, 3) := by decide +kernel
theorem dL_randomLine_187 : decode cL_randomLine 187 = .ok (.iload 7, 2) := by decide +kernel
theorem dL_randomLine_189 : decode cL_randomLine 189 = .ok (.aload_n 2, 1) := by decide +kernel
theorem dL_randomLine_190 : decode cL_randomLine 190 = .ok (.sipush 150, 3) := by decide +kernel
theorem dL_randomLine_193 : decode cL_randomLine 193 = .ok (.invokevirtual 114, 3) := by decide +kernel
theorem dL_randomLine_196 : decode cL_randomLine 196 = .ok (.iadd, 1) := by decide +kernel
theorem dL_randomLine_197 : decode cL_randomLine 197 = .ok (.invokestatic 135, 3) := by decide +kernel
theorem dL_randomLine_200 : decode cL_randomLine 200 = .ok (.iastore, 1) := by decide +kernel
theorem dL_randomLine_201 : decode cL_randomLine 201 = .ok (.astore 8, 2) := by decide +kernel
theorem dL_randomLine_203 : decode cL_randomLine 203 = .ok (.aload_n 3, 1) := by decide +kernel
theorem dL_randomLine_204 : decode cL_randomLine 204 = .ok (.aload_n 3, 1) := by decide +kernel
theorem dL_randomLine_205 : decode cL_randomLine 205 = .ok (.getfield 143, 3) := by decide +kernel
theorem dL_randomLine_208 : decode cL_randomLine 208 = .ok (.aload 8, 2) := by decide +kernel
theorem dL_randomLine_210 : decode cL_randomLine 210 = .ok (.invokestatic 147, 3) := by decide +kernel
theorem dL_randomLine_213 : decode cL_randomLine 213 = .ok (.putfield 143, 3) := by decide +kernel
theorem dL_randomLine_216 : decode cL_randomLine 216 = .ok (.aload_n 3, 1) := by decide +kernel
theorem dL_randomLine_217 : decode cL_randomLine 217 = .ok (.getfield 132, 3) := by decide +kernel
theorem dL_randomLine_220 : decode cL_randomLine 220 = .ok (.iload 5, 2) := by decide +kernel
theorem dL_randomLine_222 : decode cL_randomLine 222 = .ok (.aload 8, 2) := by decide +kernel
theorem dL_randomLine_224 : decode cL_randomLine 224 = .ok (.iconst 0, 1) := by decide +kernel
theorem dL_randomLine_225 : decode cL_randomLine 225 = .ok (.iaload, 1) := by decide +kernel
theorem dL_randomLine_226 : decode cL_randomLine 226 = .ok (.iastore, 1) := by decide +kernel
theorem dL_randomLine_227 : decode cL_randomLine 227 = .ok (.aload_n 0, 1) := by decide +kernel
theorem dL_randomLine_228 : decode cL_randomLine 228 = .ok (.aload_n 1, 1) := by decide +kernel
theorem dL_randomLine_229 : decode cL_randomLine 229 = .ok (.ldc 151, 2) := by decide +kernel
theorem dL_randomLine_231 : decode cL_randomLine 231 = .ok (.aload 8, 2) := by decide +kernel
theorem dL_randomLine_233 : decode cL_randomLine 233 = .ok (.invokestatic 128, 3) := by decide +kernel
theorem dL_randomLine_236 : decode cL_randomLine 236 = .ok (.iinc 5 1, 3) := by decide +kernel
theorem dL_randomLine_239 : decode cL_randomLine 239 = .ok (.goto (-166), 3) := by decide +kernel
theorem dL_randomLine_242 : decode cL_randomLine 242 = .ok (.aload_n 2, 1) := by decide +kernel
theorem dL_randomLine_243 : decode cL_randomLine 243 = .ok (.bipush 8, 2) := by decide +kernel
theorem dL_randomLine_245 : decode cL_randomLine 245 = .ok (.invokevirtual 114, 3) := by decide +kernel
theorem dL_randomLine_248 : decode cL_randomLine 248 = .ok (.istore 5, 2) := by decide +kernel
theorem dL_randomLine_250 : decode cL_randomLine 250 = .ok (.iload 5, 2) := by decide +kernel
theorem dL_randomLine_252 : decode cL_randomLine 252 = .ok (.ifCond .le 98, 3) := by decide +kernel
theorem dL_randomLine_255 : decode cL_randomLine 255 = .ok (.iconst 2, 1) := by decide +kernel
theorem dL_randomLine_256 : decode cL_randomLine 256 = .ok (.aload_n 2, 1) := by decide +kernel
theorem dL_randomLine_257 : decode cL_randomLine 257 = .ok (.bipush 18, 2) := by decide +kernel
theorem dL_randomLine_259 : decode cL_randomLine 259 = .ok (.invokevirtual 114, 3) := by decide +kernel
theorem dL_randomLine_262 : decode cL_randomLine 262 = .ok (.iadd, 1) := by decide +kernel
theorem dL_randomLine_263 : decode cL_randomLine 263 = .ok (.istore 6, 2) := by decide +kernel
theorem dL_randomLine_265 : decode cL_randomLine 265 = .ok (.sipush 300, 3) := by decide +kernel
theorem dL_randomLine_268 : decode cL_randomLine 268 = .ok (.aload_n 2, 1) := by decide +kernel
theorem dL_randomLine_269 : decode cL_randomLine 269 = .ok (.sipush 500, 3) := by decide +kernel
theorem dL_randomLine_272 : decode cL_randomLine 272 = .ok (.invokevirtual 114, 3) := by decide +kernel
theorem dL_randomLine_275 : decode cL_randomLine 275 = .ok (.iadd, 1) := by decide +kernel
theorem dL_randomLine_276 : decode cL_randomLine 276 = .ok (.istore 7, 2) := by decide +kernel
theorem dL_randomLine_278 : decode cL_randomLine 278 = .ok (.aload_n 3, 1) := by decide +kernel
theorem dL_randomLine_279 : decode cL_randomLine 279 = .ok (.getfield 153, 3) := by decide +kernel
theorem dL_randomLine_282 : decode cL_randomLine 282 = .ok (.iload 6, 2) := by decide +kernel
theorem dL_randomLine_284 : decode cL_randomLine 284 = .ok (.iconst 2, 1) := by decide +kernel
theorem dL_randomLine_285 : decode cL_randomLine 285 = .ok (.newarray .int, 2) := by decide +kernel
theorem dL_randomLine_287 : decode cL_randomLine 287 = .ok (.dup, 1) := by decide +kernel
theorem dL_randomLine_288 : decode cL_randomLine 288 = .ok (.iconst 0, 1) := by decide +kernel
theorem dL_randomLine_289 : decode cL_randomLine 289 = .ok (.iload 7, 2) := by decide +kernel
theorem dL_randomLine_291 : decode cL_randomLine 291 = .ok (.iastore, 1) := by decide +kernel
theorem dL_randomLine_292 : decode cL_randomLine 292 = .ok (.dup, 1) := by decide +kernel
theorem dL_randomLine_293 : decode cL_randomLine 293 = .ok (.iconst 1, 1) := by decide +kernel
theorem dL_randomLine_294 : decode cL_randomLine 294 = .ok (.iload 7, 2) := by decide +kernel
theorem dL_randomLine_296 : decode cL_randomLine 296 = .ok (.aload_n 2, 1) := by decide +kernel
theorem dL_randomLine_297 : decode cL_randomLine 297 = .ok (.bipush 100, 2) := by decide +kernel
theorem dL_randomLine_299 : decode cL_randomLine 299 = .ok (.invokevirtual 114, 3) := by decide +kernel
theorem dL_randomLine_302 : decode cL_randomLine 302 = .ok (.iadd, 1) := by decide +kernel
theorem dL_randomLine_303 : decode cL_randomLine 303 = .ok (.iastore, 1) := by decide +kernel
theorem dL_randomLine_304 : decode cL_randomLine 304 = .ok (.aastore, 1) := by decide +kernel
theorem dL_randomLine_305 : decode cL_randomLine 305 = .ok (.aload_n 0, 1) := by decide +kernel
theorem dL_randomLine_306 : decode cL_randomLine 306 = .ok (.aload_n 1, 1) := by decide +kernel
theorem dL_randomLine_307 : decode cL_randomLine 307 = .ok (.ldc 156, 2) := by decide +kernel
theorem dL_randomLine_309 : decode cL_randomLine 309 = .ok (.iconst 3, 1) := by decide +kernel
theorem dL_randomLine_310 : decode cL_randomLine 310 = .ok (.newarray .int, 2) := by decide +kernel
theorem dL_randomLine_312 : decode cL_randomLine 312 = .ok (.dup, 1) := by decide +kernel
theorem dL_randomLine_313 : decode cL_randomLine 313 = .ok (.iconst 0, 1) := by decide +kernel
theorem dL_randomLine_314 : decode cL_randomLine 314 = .ok (.iload 6, 2) := by decide +kernel
theorem dL_randomLine_316 : decode cL_randomLine 316 = .ok (.iastore, 1) := by decide +kernel
theorem dL_randomLine_317 : decode cL_randomLine 317 = .ok (.dup, 1) := by decide +kernel
theorem dL_randomLine_318 : decode cL_randomLine 318 = .ok (.iconst 1, 1) := by decide +kernel
theorem dL_randomLine_319 : decode cL_randomLine 319 = .ok (.aload_n 3, 1) := by decide +kernel
theorem dL_randomLine_320 : decode cL_randomLine 320 = .ok (.getfield 153, 3) := by decide +kernel
theorem dL_randomLine_323 : decode cL_randomLine 323 = .ok (.iload 6, 2) := by decide +kernel
theorem dL_randomLine_325 : decode cL_randomLine 325 = .ok (.aaload, 1) := by decide +kernel
theorem dL_randomLine_326 : decode cL_randomLine 326 = .ok (.iconst 0, 1) := by decide +kernel
theorem dL_randomLine_327 : decode cL_randomLine 327 = .ok (.iaload, 1) := by decide +kernel
theorem dL_randomLine_328 : decode cL_randomLine 328 = .ok (.iastore, 1) := by decide +kernel
theorem dL_randomLine_329 : decode cL_randomLine 329 = .ok (.dup, 1) := by decide +kernel
theorem dL_randomLine_330 : decode cL_randomLine 330 = .ok (.iconst 2, 1) := by decide +kernel
theorem dL_randomLine_331 : decode cL_randomLine 331 = .ok (.aload_n 3, 1) := by decide +kernel
theorem dL_randomLine_332 : decode cL_randomLine 332 = .ok (.getfield 153, 3) := by decide +kernel
theorem dL_randomLine_335 : decode cL_randomLine 335 = .ok (.iload 6, 2) := by decide +kernel
theorem dL_randomLine_337 : decode cL_randomLine 337 = .ok (.aaload, 1) := by decide +kernel
theorem dL_randomLine_338 : decode cL_randomLine 338 = .ok (.iconst 1, 1) := by decide +kernel
theorem dL_randomLine_339 : decode cL_randomLine 339 = .ok (.iaload, 1) := by decide +kernel
theorem dL_randomLine_340 : decode cL_randomLine 340 = .ok (.iastore, 1) := by decide +kernel
theorem dL_randomLine_341 : decode cL_randomLine 341 = .ok (.invokestatic 128, 3) := by decide +kernel
theorem dL_randomLine_344 : decode cL_randomLine 344 = .ok (.iinc 5 (-1), 3) := by decide +kernel
theorem dL_randomLine_347 : decode cL_randomLine 347 = .ok (.goto (-97), 3) := by decide +kernel
theorem dL_randomLine_350 : decode cL_randomLine 350 = .ok (.aload_n 2, 1) := by decide +kernel
theorem dL_randomLine_351 : decode cL_randomLine 351 = .ok (.iconst 2, 1) := by decide +kernel
theorem dL_randomLine_352 : decode cL_randomLine 352 = .ok (.invokevirtual 114, 3) := by decide +kernel
theorem dL_randomLine_355 : decode cL_randomLine 355 = .ok (.ifCond .ne 43, 3) := by decide +kernel
theorem dL_randomLine_358 : decode cL_randomLine 358 = .ok (.aload_n 3, 1) := by decide +kernel
theorem dL_randomLine_359 : decode cL_randomLine 359 = .ok (.aload_n 2, 1) := by decide +kernel
theorem dL_randomLine_360 : decode cL_randomLine 360 = .ok (.aload_n 2, 1) := by decide +kernel
theorem dL_randomLine_361 : decode cL_randomLine 361 = .ok (.iconst 3, 1) := by decide +kernel
theorem dL_randomLine_362 : decode cL_randomLine 362 = .ok (.invokevirtual 114, 3) := by decide +kernel
theorem dL_randomLine_365 : decode cL_randomLine 365 = .ok (.invokestatic 158, 3) := by decide +kernel
theorem dL_randomLine_368 : decode cL_randomLine 368 = .ok (.putfield 164, 3) := by decide +kernel
theorem dL_randomLine_371 : decode cL_randomLine 371 = .ok (.aload_n 0, 1) := by decide +kernel
theorem dL_randomLine_372 : decode cL_randomLine 372 = .ok (.aload_n 1, 1) := by decide +kernel
theorem dL_randomLine_373 : decode cL_randomLine 373 = .ok (.ldc 168, 2) := by decide +kernel
theorem dL_randomLine_375 : decode cL_randomLine 375 = .ok (.invokestatic 100, 3) := by decide +kernel
theorem dL_randomLine_378 : decode cL_randomLine 378 = .ok (.aload_n 0, 1) := by decide +kernel
theorem dL_randomLine_379 : decode cL_randomLine 379 = .ok (.aload_n 1, 1) := by decide +kernel
theorem dL_randomLine_380 : decode cL_randomLine 380 = .ok (.aload_n 3, 1) := by decide +kernel
theorem dL_randomLine_381 : decode cL_randomLine 381 = .ok (.getfield 164, 3) := by decide +kernel
theorem dL_randomLine_384 : decode cL_randomLine 384 = .ok (.iconst 0, 1) := by decide +kernel
theorem dL_randomLine_385 : decode cL_randomLine 385 = .ok (.invokevirtual 170, 3) := by decide +kernel
theorem dL_randomLine_388 : decode cL_randomLine 388 = .ok (.invokestatic 100, 3) := by decide +kernel
theorem dL_randomLine_391 : decode cL_randomLine 391 = .ok (.aload_n 0, 1) := by decide +kernel
theorem dL_randomLine_392 : decode cL_randomLine 392 = .ok (.aload_n 1, 1) := by decide +kernel
theorem dL_randomLine_393 : decode cL_randomLine 393 = .ok (.ldc 109, 2) := by decide +kernel
theorem dL_randomLine_395 : decode cL_randomLine 395 = .ok (.invokestatic 100, 3) := by decide +kernel
theorem dL_randomLine_398 : decode cL_randomLine 398 = .ok (.aload_n 0, 1) := by decide +kernel
theorem dL_randomLine_399 : decode cL_randomLine 399 = .ok (.aload_n 1, 1) := by decide +kernel
theorem dL_randomLine_400 : decode cL_randomLine 400 = .ok (.invokestatic 174, 3) := by decide +kernel
theorem dL_randomLine_403 : decode cL_randomLine 403 = .ok (.iload 4, 2) := by decide +kernel
theorem dL_randomLine_405 : decode cL_randomLine 405 = .ok (.if_icmp .ne 7, 3) := by decide +kernel
theorem dL_randomLine_408 : decode cL_randomLine 408 = .ok (.aload_n 3, 1) := by decide +kernel
theorem dL_randomLine_409 : decode cL_randomLine 409 = .ok (.goto 4, 3) := by decide +kernel
theorem dL_randomLine_412 : decode cL_randomLine 412 = .ok (.aconst_null, 1) := by decide +kernel
theorem dL_randomLine_413 : decode cL_randomLine 413 = .ok (.areturn, 1) := by decide +kernel
theorem dL_agrees_0 : decode cL_agrees 0 = .ok (.aload_n 0, 1) := by decide +kernel
theorem dL_agrees_1 : decode cL_agrees 1 = .ok (.invokevirtual 178, 3) := by decide +kernel
theorem dL_agrees_4 : decode cL_agrees 4 = .ok (.aload_n 1, 1) := by decide +kernel
theorem dL_agrees_5 : decode cL_agrees 5 = .ok (.getfield 143, 3) := by decide +kernel
theorem dL_agrees_8 : decode cL_agrees 8 = .ok (.arraylength, 1) := by decide +kernel
theorem dL_agrees_9 : decode cL_agrees 9 = .ok (.if_icmp .ne 77, 3) := by decide +kernel
theorem dL_agrees_12 : decode cL_agrees 12 = .ok (.aload_n 0, 1) := by decide +kernel
theorem dL_agrees_13 : decode cL_agrees 13 = .ok (.invokevirtual 181, 3) := by decide +kernel
theorem dL_agrees_16 : decode cL_agrees 16 = .ok (.aload_n 1, 1) := by decide +kernel
theorem dL_agrees_17 : decode cL_agrees 17 = .ok (.getfield 184, 3) := by decide +kernel
theorem dL_agrees_20 : decode cL_agrees 20 = .ok (.arraylength, 1) := by decide +kernel
theorem dL_agrees_21 : decode cL_agrees 21 = .ok (.if_icmp .ne 65, 3) := by decide +kernel
theorem dL_agrees_24 : decode cL_agrees 24 = .ok (.aload_n 0, 1) := by decide +kernel
theorem dL_agrees_25 : decode cL_agrees 25 = .ok (.invokevirtual 188, 3) := by decide +kernel
theorem dL_agrees_28 : decode cL_agrees 28 = .ok (.aload_n 1, 1) := by decide +kernel
theorem dL_agrees_29 : decode cL_agrees 29 = .ok (.getfield 191, 3) := by decide +kernel
theorem dL_agrees_32 : decode cL_agrees 32 = .ok (.if_icmp .ne 54, 3) := by decide +kernel
theorem dL_agrees_35 : decode cL_agrees 35 = .ok (.aload_n 0, 1) := by decide +kernel
theorem dL_agrees_36 : decode cL_agrees 36 = .ok (.invokevirtual 193, 3) := by decide +kernel
theorem dL_agrees_39 : decode cL_agrees 39 = .ok (.aload_n 1, 1) := by decide +kernel
theorem dL_agrees_40 : decode cL_agrees 40 = .ok (.iconst (-1), 1) := by decide +kernel
theorem dL_agrees_41 : decode cL_agrees 41 = .ok (.invokevirtual 196, 3) := by decide +kernel
theorem dL_agrees_44 : decode cL_agrees 44 = .ok (.if_icmp .ne 42, 3) := by decide +kernel
theorem dL_agrees_47 : decode cL_agrees 47 = .ok (.aload_n 0, 1) := by decide +kernel
theorem dL_agrees_48 : decode cL_agrees 48 = .ok (.invokevirtual 199, 3) := by decide +kernel
theorem dL_agrees_51 : decode cL_agrees 51 = .ok (.aload_n 1, 1) := by decide +kernel
theorem dL_agrees_52 : decode cL_agrees 52 = .ok (.iconst (-1), 1) := by decide +kernel
theorem dL_agrees_53 : decode cL_agrees 53 = .ok (.invokevirtual 196, 3) := by decide +kernel
theorem dL_agrees_56 : decode cL_agrees 56 = .ok (.ifCond .ge 7, 3) := by decide +kernel
theorem dL_agrees_59 : decode cL_agrees 59 = .ok (.iconst 0, 1) := by decide +kernel
theorem dL_agrees_60 : decode cL_agrees 60 = .ok (.goto 7, 3) := by decide +kernel
theorem dL_agrees_63 : decode cL_agrees 63 = .ok (.aload_n 1, 1) := by decide +kernel
theorem dL_agrees_64 : decode cL_agrees 64 = .ok (.getfield 202, 3) := by decide +kernel
theorem dL_agrees_67 : decode cL_agrees 67 = .ok (.if_icmp .ne 19, 3) := by decide +kernel
theorem dL_agrees_70 : decode cL_agrees 70 = .ok (.aload_n 0, 1) := by decide +kernel
theorem dL_agrees_71 : decode cL_agrees 71 = .ok (.invokevirtual 205, 3) := by decide +kernel
theorem dL_agrees_74 : decode cL_agrees 74 = .ok (.aload_n 1, 1) := by decide +kernel
theorem dL_agrees_75 : decode cL_agrees 75 = .ok (.invokevirtual 209, 3) := by decide +kernel
theorem dL_agrees_78 : decode cL_agrees 78 = .ok (.lcmp, 1) := by decide +kernel
theorem dL_agrees_79 : decode cL_agrees 79 = .ok (.ifCond .ne 7, 3) := by decide +kernel
theorem dL_agrees_82 : decode cL_agrees 82 = .ok (.iconst 1, 1) := by decide +kernel
theorem dL_agrees_83 : decode cL_agrees 83 = .ok (.goto 4, 3) := by decide +kernel
theorem dL_agrees_86 : decode cL_agrees 86 = .ok (.iconst 0, 1) := by decide +kernel
theorem dL_agrees_87 : decode cL_agrees 87 = .ok (.istore_n 2, 1) := by decide +kernel
theorem dL_agrees_88 : decode cL_agrees 88 = .ok (.iconst 0, 1) := by decide +kernel
theorem dL_agrees_89 : decode cL_agrees 89 = .ok (.istore_n 3, 1) := by decide +kernel
theorem dL_agrees_90 : decode cL_agrees 90 = .ok (.iload_n 3, 1) := by decide +kernel
theorem dL_agrees_91 : decode cL_agrees 91 = .ok (.aload_n 1, 1) := by decide +kernel
theorem dL_agrees_92 : decode cL_agrees 92 = .ok (.getfield 143, 3) := by decide +kernel
theorem dL_agrees_95 : decode cL_agrees 95 = .ok (.arraylength, 1) := by decide +kernel
theorem dL_agrees_96 : decode cL_agrees 96 = .ok (.if_icmp .ge 66, 3) := by decide +kernel
theorem dL_agrees_99 : decode cL_agrees 99 = .ok (.iload_n 2, 1) := by decide +kernel
theorem dL_agrees_100 : decode cL_agrees 100 = .ok (.ifCond .eq 62, 3) := by decide +kernel
theorem dL_agrees_103 : decode cL_agrees 103 = .ok (.aload_n 0, 1) := by decide +kernel
theorem dL_agrees_104 : decode cL_agrees 104 = .ok (.iload_n 3, 1) := by decide +kernel
theorem dL_agrees_105 : decode cL_agrees 105 = .ok (.iconst 0, 1) := by decide +kernel
theorem dL_agrees_106 : decode cL_agrees 106 = .ok (.invokestatic 212, 3) := by decide +kernel
theorem dL_agrees_109 : decode cL_agrees 109 = .ok (.aload_n 1, 1) := by decide +kernel
theorem dL_agrees_110 : decode cL_agrees 110 = .ok (.getfield 143, 3) := by decide +kernel
theorem dL_agrees_113 : decode cL_agrees 113 = .ok (.iload_n 3, 1) := by decide +kernel
theorem dL_agrees_114 : decode cL_agrees 114 = .ok (.aaload, 1) := by decide +kernel
theorem dL_agrees_115 : decode cL_agrees 115 = .ok (.iconst 0, 1) := by decide +kernel
theorem dL_agrees_116 : decode cL_agrees 116 = .ok (.iaload, 1) := by decide +kernel
theorem dL_agrees_117 : decode cL_agrees 117 = .ok (.if_icmp .ne 37, 3) := by decide +kernel
theorem dL_agrees_120 : decode cL_agrees 120 = .ok (.aload_n 0, 1) := by decide +kernel
theorem dL_agrees_121 : decode cL_agrees 121 = .ok (.iload_n 3, 1) := by decide +kernel
theorem dL_agrees_122 : decode cL_agrees 122 = .ok (.iconst 5, 1) := by decide +kernel
theorem dL_agrees_123 : decode cL_agrees 123 = .ok (.invokestatic 212, 3) := by decide +kernel
theorem dL_agrees_126 : decode cL_agrees 126 = .ok (.aload_n 1, 1) := by decide +kernel
theorem dL_agrees_127 : decode cL_agrees 127 = .ok (.getfield 132, 3) := by decide +kernel
theorem dL_agrees_130 : decode cL_agrees 130 = .ok (.iload_n 3, 1) := by decide +kernel
theorem dL_agrees_131 : decode cL_agrees 131 = .ok (.iaload, 1) := by decide +kernel
theorem dL_agrees_132 : decode cL_agrees 132 = .ok (.if_icmp .ne 22, 3) := by decide +kernel
theorem dL_agrees_135 : decode cL_agrees 135 = .ok (.aload_n 0, 1) := by decide +kernel
theorem dL_agrees_136 : decode cL_agrees 136 = .ok (.iload_n 3, 1) := by decide +kernel
theorem dL_agrees_137 : decode cL_agrees 137 = .ok (.bipush 6, 2) := by decide +kernel
theorem dL_agrees_139 : decode cL_agrees 139 = .ok (.invokestatic 212, 3) := by decide +kernel
theorem dL_agrees_142 : decode cL_agrees 142 = .ok (.aload_n 1, 1) := by decide +kernel
theorem dL_agrees_143 : decode cL_agrees 143 = .ok (.iload_n 3, 1) := by decide +kernel
theorem dL_agrees_144 : decode cL_agrees 144 = .ok (.invokevirtual 196, 3) := by decide +kernel
theorem dL_agrees_147 : decode cL_agrees 147 = .ok (.if_icmp .ne 7, 3) := by decide +kernel
theorem dL_agrees_150 : decode cL_agrees 150 = .ok (.iconst 1, 1) := by decide +kernel
theorem dL_agrees_151 : decode cL_agrees 151 = .ok (.goto 4, 3) := by decide +kernel
theorem dL_agrees_154 : decode cL_agrees 154 = .ok (.iconst 0, 1) := by decide +kernel
theorem dL_agrees_155 : decode cL_agrees 155 = .ok (.istore_n 2, 1) := by decide +kernel
theorem dL_agrees_156 : decode cL_agrees 156 = .ok (.iinc 3 1, 3) := by decide +kernel
theorem dL_agrees_159 : decode cL_agrees 159 = .ok (.goto (-69), 3) := by decide +kernel
theorem dL_agrees_162 : decode cL_agrees 162 = .ok (.iconst 0, 1) := by decide +kernel
theorem dL_agrees_163 : decode cL_agrees 163 = .ok (.istore_n 3, 1) := by decide +kernel
theorem dL_agrees_164 : decode cL_agrees 164 = .ok (.iload_n 3, 1) := by decide +kernel
theorem dL_agrees_165 : decode cL_agrees 165 = .ok (.aload_n 1, 1) := by decide +kernel
theorem dL_agrees_166 : decode cL_agrees 166 = .ok (.getfield 184, 3) := by decide +kernel
theorem dL_agrees_169 : decode cL_agrees 169 = .ok (.arraylength, 1) := by decide +kernel
theorem dL_agrees_170 : decode cL_agrees 170 = .ok (.if_icmp .ge 70, 3) := by decide +kernel
theorem dL_agrees_173 : decode cL_agrees 173 = .ok (.iload_n 2, 1) := by decide +kernel
theorem dL_agrees_174 : decode cL_agrees 174 = .ok (.ifCond .eq 66, 3) := by decide +kernel
theorem dL_agrees_177 : decode cL_agrees 177 = .ok (.aload_n 0, 1) := by decide +kernel
theorem dL_agrees_178 : decode cL_agrees 178 = .ok (.iload_n 3, 1) := by decide +kernel
theorem dL_agrees_179 : decode cL_agrees 179 = .ok (.invokestatic 215, 3) := by decide +kernel
theorem dL_agrees_182 : decode cL_agrees 182 = .ok (.aload_n 1, 1) := by decide +kernel
theorem dL_agrees_183 : decode cL_agrees 183 = .ok (.getfield 184, 3) := by decide +kernel
theorem dL_agrees_186 : decode cL_agrees 186 = .ok (.iload_n 3, 1) := by decide +kernel
theorem dL_agrees_187 : decode cL_agrees 187 = .ok (.aaload, 1) := by decide +kernel
theorem dL_agrees_188 : decode cL_agrees 188 = .ok (.getfield 217, 3) := by decide +kernel
theorem dL_agrees_191 : decode cL_agrees 191 = .ok (.if_icmp .ne 41, 3) := by decide +kernel
theorem dL_agrees_194 : decode cL_agrees 194 = .ok (.aload_n 0, 1) := by decide +kernel
theorem dL_agrees_195 : decode cL_agrees 195 = .ok (.iload_n 3, 1) := by decide +kernel
theorem dL_agrees_196 : decode cL_agrees 196 = .ok (.invokestatic 221, 3) := by decide +kernel
theorem dL_agrees_199 : decode cL_agrees 199 = .ok (.aload_n 1, 1) := by decide +kernel
theorem dL_agrees_200 : decode cL_agrees 200 = .ok (.getfield 184, 3) := by decide +kernel
theorem dL_agrees_203 : decode cL_agrees 203 = .ok (.iload_n 3, 1) := by decide +kernel
theorem dL_agrees_204 : decode cL_agrees 204 = .ok (.aaload, 1) := by decide +kernel
theorem dL_agrees_205 : decode cL_agrees 205 = .ok (.getfield 223, 3) := by decide +kernel
theorem dL_agrees_208 : decode cL_agrees 208 = .ok (.if_icmp .ne 24, 3) := by decide +kernel
theorem dL_agrees_211 : decode cL_agrees 211 = .ok (.aload_n 0, 1) := by decide +kernel
theorem dL_agrees_212 : decode cL_agrees 212 = .ok (.iload_n 3, 1) := by decide +kernel
theorem dL_agrees_213 : decode cL_agrees 213 = .ok (.invokestatic 226, 3) := by decide +kernel
theorem dL_agrees_216 : decode cL_agrees 216 = .ok (.aload_n 1, 1) := by decide +kernel
theorem dL_agrees_217 : decode cL_agrees 217 = .ok (.getfield 184, 3) := by decide +kernel
theorem dL_agrees_220 : decode cL_agrees 220 = .ok (.iload_n 3, 1) := by decide +kernel
theorem dL_agrees_221 : decode cL_agrees 221 = .ok (.aaload, 1) := by decide +kernel
theorem dL_agrees_222 : decode cL_agrees 222 = .ok (.getfield 228, 3) := by decide +kernel
theorem dL_agrees_225 : decode cL_agrees 225 = .ok (.if_icmp .ne 7, 3) := by decide +kernel
theorem dL_agrees_228 : decode cL_agrees 228 = .ok (.iconst 1, 1) := by decide +kernel
theorem dL_agrees_229 : decode cL_agrees 229 = .ok (.goto 4, 3) := by decide +kernel
theorem dL_agrees_232 : decode cL_agrees 232 = .ok (.iconst 0, 1) := by decide +kernel
theorem dL_agrees_233 : decode cL_agrees 233 = .ok (.istore_n 2, 1) := by decide +kernel
theorem dL_agrees_234 : decode cL_agrees 234 = .ok (.iinc 3 1, 3) := by decide +kernel
theorem dL_agrees_237 : decode cL_agrees 237 = .ok (.goto (-73), 3) := by decide +kernel
theorem dL_agrees_240 : decode cL_agrees 240 = .ok (.iconst 0, 1) := by decide +kernel
theorem dL_agrees_241 : decode cL_agrees 241 = .ok (.istore_n 3, 1) := by decide +kernel
theorem dL_agrees_242 : decode cL_agrees 242 = .ok (.iload_n 3, 1) := by decide +kernel
theorem dL_agrees_243 : decode cL_agrees 243 = .ok (.bipush 6, 2) := by decide +kernel
theorem dL_agrees_245 : decode cL_agrees 245 = .ok (.if_icmp .ge 32, 3) := by decide +kernel
theorem dL_agrees_248 : decode cL_agrees 248 = .ok (.iload_n 2, 1) := by decide +kernel
theorem dL_agrees_249 : decode cL_agrees 249 = .ok (.ifCond .eq 28, 3) := by decide +kernel
theorem dL_agrees_252 : decode cL_agrees 252 = .ok (.aload_n 0, 1) := by decide +kernel
theorem dL_agrees_253 : decode cL_agrees 253 = .ok (.iload_n 3, 1) := by decide +kernel
theorem dL_agrees_254 : decode cL_agrees 254 = .ok (.invokestatic 230, 3) := by decide +kernel
theorem dL_agrees_257 : decode cL_agrees 257 = .ok (.aload_n 1, 1) := by decide +kernel
theorem dL_agrees_258 : decode cL_agrees 258 = .ok (.iload_n 3, 1) := by decide +kernel
theorem dL_agrees_259 : decode cL_agrees 259 = .ok (.invokevirtual 232, 3) := by decide +kernel
theorem dL_agrees_262 : decode cL_agrees 262 = .ok (.if_icmp .ne 7, 3) := by decide +kernel
theorem dL_agrees_265 : decode cL_agrees 265 = .ok (.iconst 1, 1) := by decide +kernel
theorem dL_agrees_266 : decode cL_agrees 266 = .ok (.goto 4, 3) := by decide +kernel
theorem dL_agrees_269 : decode cL_agrees 269 = .ok (.iconst 0, 1) := by decide +kernel
theorem dL_agrees_270 : decode cL_agrees 270 = .ok (.istore_n 2, 1) := by decide +kernel
theorem dL_agrees_271 : decode cL_agrees 271 = .ok (.iinc 3 1, 3) := by decide +kernel
theorem dL_agrees_274 : decode cL_agrees 274 = .ok (.goto (-32), 3) := by decide +kernel
theorem dL_agrees_277 : decode cL_agrees 277 = .ok (.iload_n 2, 1) := by decide +kernel
theorem dL_agrees_278 : decode cL_agrees 278 = .ok (.ifCond .eq 36, 3) := by decide +kernel
theorem dL_agrees_281 : decode cL_agrees 281 = .ok (.aload_n 0, 1) := by decide +kernel
theorem dL_agrees_282 : decode cL_agrees 282 = .ok (.aload_n 1, 1) := by decide +kernel
theorem dL_agrees_283 : decode cL_agrees 283 = .ok (.getfield 143, 3) := by decide +kernel
theorem dL_agrees_286 : decode cL_agrees 286 = .ok (.arraylength, 1) := by decide +kernel
theorem dL_agrees_287 : decode cL_agrees 287 = .ok (.iconst 0, 1) := by decide +kernel
theorem dL_agrees_288 : decode cL_agrees 288 = .ok (.invokestatic 212, 3) := by decide +kernel
theorem dL_agrees_291 : decode cL_agrees 291 = .ok (.ldc 49, 2) := by decide +kernel
theorem dL_agrees_293 : decode cL_agrees 293 = .ok (.if_icmp .ne 21, 3) := by decide +kernel
theorem dL_agrees_296 : decode cL_agrees 296 = .ok (.aload_n 0, 1) := by decide +kernel
theorem dL_agrees_297 : decode cL_agrees 297 = .ok (.aload_n 1, 1) := by decide +kernel
theorem dL_agrees_298 : decode cL_agrees 298 = .ok (.getfield 184, 3) := by decide +kernel
theorem dL_agrees_301 : decode cL_agrees 301 = .ok (.arraylength, 1) := by decide +kernel
theorem dL_agrees_302 : decode cL_agrees 302 = .ok (.invokestatic 226, 3) := by decide +kernel
theorem dL_agrees_305 : decode cL_agrees 305 = .ok (.ldc 49, 2) := by decide +kernel
theorem dL_agrees_307 : decode cL_agrees 307 = .ok (.if_icmp .ne 7, 3) := by decide +kernel
theorem dL_agrees_310 : decode cL_agrees 310 = .ok (.iconst 1, 1) := by decide +kernel
theorem dL_agrees_311 : decode cL_agrees 311 = .ok (.goto 4, 3) := by decide +kernel
theorem dL_agrees_314 : decode cL_agrees 314 = .ok (.iconst 0, 1) := by decide +kernel
theorem dL_agrees_315 : decode cL_agrees 315 = .ok (.ireturn, 1) := by decide +kernel
theorem dL_law_0 : decode cL_law 0 = .ok (.iconst 1, 1) := by decide +kernel
theorem dL_law_1 : decode cL_law 1 = .ok (.istore_n 1, 1) := by decide +kernel
theorem dL_law_2 : decode cL_law 2 = .ok (.iconst 0, 1) := by decide +kernel
theorem dL_law_3 : decode cL_law 3 = .ok (.istore_n 2, 1) := by decide +kernel
theorem dL_law_4 : decode cL_law 4 = .ok (.iload_n 2, 1) := by decide +kernel
theorem dL_law_5 : decode cL_law 5 = .ok (.aload_n 0, 1) := by decide +kernel
theorem dL_law_6 : decode cL_law 6 = .ok (.arraylength, 1) := by decide +kernel
theorem dL_law_7 : decode cL_law 7 = .ok (.if_icmp .ge 1122, 3) := by decide +kernel
theorem dL_law_10 : decode cL_law 10 = .ok (.iload_n 2, 1) := by decide +kernel
theorem dL_law_11 : decode cL_law 11 = .ok (.iconst 2, 1) := by decide +kernel
theorem dL_law_12 : decode cL_law 12 = .ok (.if_icmp .ge 1117, 3) := by decide +kernel
theorem dL_law_15 : decode cL_law 15 = .ok (.iload_n 1, 1) := by decide +kernel
theorem dL_law_16 : decode cL_law 16 = .ok (.ifCond .eq 1113, 3) := by decide +kernel
theorem dL_law_19 : decode cL_law 19 = .ok (.new 14, 3) := by decide +kernel
theorem dL_law_22 : decode cL_law 22 = .ok (.dup, 1) := by decide +kernel
theorem dL_law_23 : decode cL_law 23 = .ok (.invokespecial 233, 3) := by decide +kernel
theorem dL_law_26 : decode cL_law 26 = .ok (.astore_n 3, 1) := by decide +kernel
theorem dL_law_27 : decode cL_law 27 = .ok (.bipush 8, 2) := by decide +kernel
theorem dL_law_29 : decode cL_law 29 = .ok (.newarray .int, 2) := by decide +kernel
theorem dL_law_31 : decode cL_law 31 = .ok (.astore 4, 2) := by decide +kernel
theorem dL_law_33 : decode cL_law 33 = .ok (.new 115, 3) := by decide +kernel
theorem dL_law_36 : decode cL_law 36 = .ok (.dup, 1) := by decide +kernel
theorem dL_law_37 : decode cL_law 37 = .ok (.aload_n 0, 1) := by decide +kernel
theorem dL_law_38 : decode cL_law 38 = .ok (.iload_n 2, 1) := by decide +kernel
theorem dL_law_39 : decode cL_law 39 = .ok (.iaload, 1) := by decide +kernel
theorem dL_law_40 : decode cL_law 40 = .ok (.invokespecial 234, 3) := by decide +kernel
theorem dL_law_43 : decode cL_law 43 = .ok (.astore 5, 2) := by decide +kernel
theorem dL_law_45 : decode cL_law 45 = .ok (.aload_n 3, 1) := by decide +kernel
theorem dL_law_46 : decode cL_law 46 = .ok (.new 111, 3) := by decide +kernel
