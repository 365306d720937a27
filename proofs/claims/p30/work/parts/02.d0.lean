theorem dX0_init_0 : decode cX0_init 0 = .ok (.aload_n 0, 1) := by decide +kernel
theorem dX0_init_1 : decode cX0_init 1 = .ok (.invokespecial 1, 3) := by decide +kernel
theorem dX0_init_4 : decode cX0_init 4 = .ok (.iload_n 2, 1) := by decide +kernel
theorem dX0_init_5 : decode cX0_init 5 = .ok (.iconst 0, 1) := by decide +kernel
theorem dX0_init_6 : decode cX0_init 6 = .ok (.aload_n 1, 1) := by decide +kernel
theorem dX0_init_7 : decode cX0_init 7 = .ok (.arraylength, 1) := by decide +kernel
theorem dX0_init_8 : decode cX0_init 8 = .ok (.invokestatic 7, 3) := by decide +kernel
theorem dX0_init_11 : decode cX0_init 11 = .ok (.istore_n 3, 1) := by decide +kernel
theorem dX0_init_12 : decode cX0_init 12 = .ok (.aload_n 0, 1) := by decide +kernel
theorem dX0_init_13 : decode cX0_init 13 = .ok (.iload_n 3, 1) := by decide +kernel
theorem dX0_init_14 : decode cX0_init 14 = .ok (.newarray .int, 2) := by decide +kernel
theorem dX0_init_16 : decode cX0_init 16 = .ok (.putfield 13, 3) := by decide +kernel
theorem dX0_init_19 : decode cX0_init 19 = .ok (.aload_n 1, 1) := by decide +kernel
theorem dX0_init_20 : decode cX0_init 20 = .ok (.iconst 0, 1) := by decide +kernel
theorem dX0_init_21 : decode cX0_init 21 = .ok (.aload_n 0, 1) := by decide +kernel
theorem dX0_init_22 : decode cX0_init 22 = .ok (.getfield 13, 3) := by decide +kernel
theorem dX0_init_25 : decode cX0_init 25 = .ok (.iconst 0, 1) := by decide +kernel
theorem dX0_init_26 : decode cX0_init 26 = .ok (.iload_n 3, 1) := by decide +kernel
theorem dX0_init_27 : decode cX0_init 27 = .ok (.invokestatic 19, 3) := by decide +kernel
theorem dX0_init_30 : decode cX0_init 30 = .ok (.aload_n 0, 1) := by decide +kernel
theorem dX0_init_31 : decode cX0_init 31 = .ok (.bipush 11, 2) := by decide +kernel
theorem dX0_init_33 : decode cX0_init 33 = .ok (.newarray .int, 2) := by decide +kernel
theorem dX0_init_35 : decode cX0_init 35 = .ok (.putfield 25, 3) := by decide +kernel
theorem dX0_init_38 : decode cX0_init 38 = .ok (.return_, 1) := by decide +kernel
theorem dX0_valueFor_0 : decode cX0_valueFor 0 = .ok (.iconst 0, 1) := by decide +kernel
theorem dX0_valueFor_1 : decode cX0_valueFor 1 = .ok (.istore 4, 2) := by decide +kernel
theorem dX0_valueFor_3 : decode cX0_valueFor 3 = .ok (.iconst 0, 1) := by decide +kernel
theorem dX0_valueFor_4 : decode cX0_valueFor 4 = .ok (.istore 5, 2) := by decide +kernel
theorem dX0_valueFor_6 : decode cX0_valueFor 6 = .ok (.iload 5, 2) := by decide +kernel
theorem dX0_valueFor_8 : decode cX0_valueFor 8 = .ok (.aload_n 0, 1) := by decide +kernel
theorem dX0_valueFor_9 : decode cX0_valueFor 9 = .ok (.getfield 13, 3) := by decide +kernel
theorem dX0_valueFor_12 : decode cX0_valueFor 12 = .ok (.arraylength, 1) := by decide +kernel
theorem dX0_valueFor_13 : decode cX0_valueFor 13 = .ok (.if_icmp .ge 122, 3) := by decide +kernel
theorem dX0_valueFor_16 : decode cX0_valueFor 16 = .ok (.aload_n 0, 1) := by decide +kernel
theorem dX0_valueFor_17 : decode cX0_valueFor 17 = .ok (.getfield 13, 3) := by decide +kernel
theorem dX0_valueFor_20 : decode cX0_valueFor 20 = .ok (.iload 5, 2) := by decide +kernel
theorem dX0_valueFor_22 : decode cX0_valueFor 22 = .ok (.iaload, 1) := by decide +kernel
theorem dX0_valueFor_23 : decode cX0_valueFor 23 = .ok (.istore 6, 2) := by decide +kernel
theorem dX0_valueFor_25 : decode cX0_valueFor 25 = .ok (.iload 6, 2) := by decide +kernel
theorem dX0_valueFor_27 : decode cX0_valueFor 27 = .ok (.ifCond .ge 52, 3) := by decide +kernel
theorem dX0_valueFor_30 : decode cX0_valueFor 30 = .ok (.iload 6, 2) := by decide +kernel
theorem dX0_valueFor_32 : decode cX0_valueFor 32 = .ok (.bipush (-4), 2) := by decide +kernel
theorem dX0_valueFor_34 : decode cX0_valueFor 34 = .ok (.if_icmp .lt 45, 3) := by decide +kernel
theorem dX0_valueFor_37 : decode cX0_valueFor 37 = .ok (.iload 4, 2) := by decide +kernel
theorem dX0_valueFor_39 : decode cX0_valueFor 39 = .ok (.iconst 2, 1) := by decide +kernel
theorem dX0_valueFor_40 : decode cX0_valueFor 40 = .ok (.if_icmp .lt 89, 3) := by decide +kernel
theorem dX0_valueFor_43 : decode cX0_valueFor 43 = .ok (.iinc 4 (-1), 3) := by decide +kernel
theorem dX0_valueFor_46 : decode cX0_valueFor 46 = .ok (.aload_n 0, 1) := by decide +kernel
theorem dX0_valueFor_47 : decode cX0_valueFor 47 = .ok (.getfield 25, 3) := by decide +kernel
theorem dX0_valueFor_50 : decode cX0_valueFor 50 = .ok (.iload 4, 2) := by decide +kernel
theorem dX0_valueFor_52 : decode cX0_valueFor 52 = .ok (.iconst 1, 1) := by decide +kernel
theorem dX0_valueFor_53 : decode cX0_valueFor 53 = .ok (.isub, 1) := by decide +kernel
theorem dX0_valueFor_54 : decode cX0_valueFor 54 = .ok (.iload 6, 2) := by decide +kernel
theorem dX0_valueFor_56 : decode cX0_valueFor 56 = .ok (.aload_n 0, 1) := by decide +kernel
theorem dX0_valueFor_57 : decode cX0_valueFor 57 = .ok (.getfield 25, 3) := by decide +kernel
theorem dX0_valueFor_60 : decode cX0_valueFor 60 = .ok (.iload 4, 2) := by decide +kernel
theorem dX0_valueFor_62 : decode cX0_valueFor 62 = .ok (.iconst 1, 1) := by decide +kernel
theorem dX0_valueFor_63 : decode cX0_valueFor 63 = .ok (.isub, 1) := by decide +kernel
theorem dX0_valueFor_64 : decode cX0_valueFor 64 = .ok (.iaload, 1) := by decide +kernel
theorem dX0_valueFor_65 : decode cX0_valueFor 65 = .ok (.aload_n 0, 1) := by decide +kernel
theorem dX0_valueFor_66 : decode cX0_valueFor 66 = .ok (.getfield 25, 3) := by decide +kernel
theorem dX0_valueFor_69 : decode cX0_valueFor 69 = .ok (.iload 4, 2) := by decide +kernel
theorem dX0_valueFor_71 : decode cX0_valueFor 71 = .ok (.iaload, 1) := by decide +kernel
theorem dX0_valueFor_72 : decode cX0_valueFor 72 = .ok (.invokestatic 28, 3) := by decide +kernel
theorem dX0_valueFor_75 : decode cX0_valueFor 75 = .ok (.iastore, 1) := by decide +kernel
theorem dX0_valueFor_76 : decode cX0_valueFor 76 = .ok (.goto 53, 3) := by decide +kernel
theorem dX0_valueFor_79 : decode cX0_valueFor 79 = .ok (.iload 4, 2) := by decide +kernel
theorem dX0_valueFor_81 : decode cX0_valueFor 81 = .ok (.bipush 11, 2) := by decide +kernel
theorem dX0_valueFor_83 : decode cX0_valueFor 83 = .ok (.if_icmp .ge 46, 3) := by decide +kernel
theorem dX0_valueFor_86 : decode cX0_valueFor 86 = .ok (.aload_n 0, 1) := by decide +kernel
theorem dX0_valueFor_87 : decode cX0_valueFor 87 = .ok (.getfield 25, 3) := by decide +kernel
theorem dX0_valueFor_90 : decode cX0_valueFor 90 = .ok (.iload 4, 2) := by decide +kernel
theorem dX0_valueFor_92 : decode cX0_valueFor 92 = .ok (.iload 6, 2) := by decide +kernel
theorem dX0_valueFor_94 : decode cX0_valueFor 94 = .ok (.ifCond .lt 8, 3) := by decide +kernel
theorem dX0_valueFor_97 : decode cX0_valueFor 97 = .ok (.iload 6, 2) := by decide +kernel
theorem dX0_valueFor_99 : decode cX0_valueFor 99 = .ok (.goto 26, 3) := by decide +kernel
theorem dX0_valueFor_102 : decode cX0_valueFor 102 = .ok (.iload 6, 2) := by decide +kernel
theorem dX0_valueFor_104 : decode cX0_valueFor 104 = .ok (.bipush (-5), 2) := by decide +kernel
theorem dX0_valueFor_106 : decode cX0_valueFor 106 = .ok (.if_icmp .ne 7, 3) := by decide +kernel
theorem dX0_valueFor_109 : decode cX0_valueFor 109 = .ok (.iload_n 1, 1) := by decide +kernel
theorem dX0_valueFor_110 : decode cX0_valueFor 110 = .ok (.goto 15, 3) := by decide +kernel
theorem dX0_valueFor_113 : decode cX0_valueFor 113 = .ok (.iload 6, 2) := by decide +kernel
theorem dX0_valueFor_115 : decode cX0_valueFor 115 = .ok (.bipush (-6), 2) := by decide +kernel
theorem dX0_valueFor_117 : decode cX0_valueFor 117 = .ok (.if_icmp .ne 7, 3) := by decide +kernel
theorem dX0_valueFor_120 : decode cX0_valueFor 120 = .ok (.iload_n 2, 1) := by decide +kernel
theorem dX0_valueFor_121 : decode cX0_valueFor 121 = .ok (.goto 4, 3) := by decide +kernel
theorem dX0_valueFor_124 : decode cX0_valueFor 124 = .ok (.iload_n 3, 1) := by decide +kernel
theorem dX0_valueFor_125 : decode cX0_valueFor 125 = .ok (.iastore, 1) := by decide +kernel
theorem dX0_valueFor_126 : decode cX0_valueFor 126 = .ok (.iinc 4 1, 3) := by decide +kernel
theorem dX0_valueFor_129 : decode cX0_valueFor 129 = .ok (.iinc 5 1, 3) := by decide +kernel
theorem dX0_valueFor_132 : decode cX0_valueFor 132 = .ok (.goto (-126), 3) := by decide +kernel
theorem dX0_valueFor_135 : decode cX0_valueFor 135 = .ok (.aload_n 0, 1) := by decide +kernel
theorem dX0_valueFor_136 : decode cX0_valueFor 136 = .ok (.getfield 25, 3) := by decide +kernel
theorem dX0_valueFor_139 : decode cX0_valueFor 139 = .ok (.iconst 0, 1) := by decide +kernel
theorem dX0_valueFor_140 : decode cX0_valueFor 140 = .ok (.iaload, 1) := by decide +kernel
theorem dX0_valueFor_141 : decode cX0_valueFor 141 = .ok (.ireturn, 1) := by decide +kernel
theorem dX0_result_0 : decode cX0_result 0 = .ok (.lconst 0, 1) := by decide +kernel
theorem dX0_result_1 : decode cX0_result 1 = .ok (.lstore_n 3, 1) := by decide +kernel
theorem dX0_result_2 : decode cX0_result 2 = .ok (.iload_n 0, 1) := by decide +kernel
theorem dX0_result_3 : decode cX0_result 3 = .ok (.tableswitch 52 (-3) (-1) #[43, 34, 25], 25) := by decide +kernel
theorem dX0_result_28 : decode cX0_result 28 = .ok (.iload_n 1, 1) := by decide +kernel
theorem dX0_result_29 : decode cX0_result 29 = .ok (.i2l, 1) := by decide +kernel
theorem dX0_result_30 : decode cX0_result 30 = .ok (.iload_n 2, 1) := by decide +kernel
theorem dX0_result_31 : decode cX0_result 31 = .ok (.i2l, 1) := by decide +kernel
theorem dX0_result_32 : decode cX0_result 32 = .ok (.ladd, 1) := by decide +kernel
theorem dX0_result_33 : decode cX0_result 33 = .ok (.lstore_n 3, 1) := by decide +kernel
theorem dX0_result_34 : decode cX0_result 34 = .ok (.goto 35, 3) := by decide +kernel
theorem dX0_result_37 : decode cX0_result 37 = .ok (.iload_n 1, 1) := by decide +kernel
theorem dX0_result_38 : decode cX0_result 38 = .ok (.i2l, 1) := by decide +kernel
theorem dX0_result_39 : decode cX0_result 39 = .ok (.iload_n 2, 1) := by decide +kernel
theorem dX0_result_40 : decode cX0_result 40 = .ok (.i2l, 1) := by decide +kernel
theorem dX0_result_41 : decode cX0_result 41 = .ok (.lsub, 1) := by decide +kernel
theorem dX0_result_42 : decode cX0_result 42 = .ok (.lstore_n 3, 1) := by decide +kernel
theorem dX0_result_43 : decode cX0_result 43 = .ok (.goto 26, 3) := by decide +kernel
theorem dX0_result_46 : decode cX0_result 46 = .ok (.iload_n 1, 1) := by decide +kernel
theorem dX0_result_47 : decode cX0_result 47 = .ok (.i2l, 1) := by decide +kernel
theorem dX0_result_48 : decode cX0_result 48 = .ok (.iload_n 2, 1) := by decide +kernel
theorem dX0_result_49 : decode cX0_result 49 = .ok (.i2l, 1) := by decide +kernel
theorem dX0_result_50 : decode cX0_result 50 = .ok (.lmul, 1) := by decide +kernel
theorem dX0_result_51 : decode cX0_result 51 = .ok (.lstore_n 3, 1) := by decide +kernel
theorem dX0_result_52 : decode cX0_result 52 = .ok (.goto 17, 3) := by decide +kernel
theorem dX0_result_55 : decode cX0_result 55 = .ok (.iload_n 2, 1) := by decide +kernel
theorem dX0_result_56 : decode cX0_result 56 = .ok (.ifCond .ne 7, 3) := by decide +kernel
theorem dX0_result_59 : decode cX0_result 59 = .ok (.lconst 0, 1) := by decide +kernel
theorem dX0_result_60 : decode cX0_result 60 = .ok (.goto 8, 3) := by decide +kernel
theorem dX0_result_63 : decode cX0_result 63 = .ok (.iload_n 1, 1) := by decide +kernel
theorem dX0_result_64 : decode cX0_result 64 = .ok (.i2l, 1) := by decide +kernel
theorem dX0_result_65 : decode cX0_result 65 = .ok (.iload_n 2, 1) := by decide +kernel
theorem dX0_result_66 : decode cX0_result 66 = .ok (.i2l, 1) := by decide +kernel
theorem dX0_result_67 : decode cX0_result 67 = .ok (.ldiv, 1) := by decide +kernel
theorem dX0_result_68 : decode cX0_result 68 = .ok (.lstore_n 3, 1) := by decide +kernel
theorem dX0_result_69 : decode cX0_result 69 = .ok (.lload_n 3, 1) := by decide +kernel
theorem dX0_result_70 : decode cX0_result 70 = .ok (.ldc2_w 31, 3) := by decide +kernel
theorem dX0_result_73 : decode cX0_result 73 = .ok (.lcmp, 1) := by decide +kernel
theorem dX0_result_74 : decode cX0_result 74 = .ok (.ifCond .ge 8, 3) := by decide +kernel
theorem dX0_result_77 : decode cX0_result 77 = .ok (.ldc 33, 2) := by decide +kernel
theorem dX0_result_79 : decode cX0_result 79 = .ok (.goto 18, 3) := by decide +kernel
theorem dX0_result_82 : decode cX0_result 82 = .ok (.lload_n 3, 1) := by decide +kernel
theorem dX0_result_83 : decode cX0_result 83 = .ok (.ldc2_w 34, 3) := by decide +kernel
theorem dX0_result_86 : decode cX0_result 86 = .ok (.lcmp, 1) := by decide +kernel
theorem dX0_result_87 : decode cX0_result 87 = .ok (.ifCond .le 8, 3) := by decide +kernel
theorem dX0_result_90 : decode cX0_result 90 = .ok (.ldc 36, 2) := by decide +kernel
theorem dX0_result_92 : decode cX0_result 92 = .ok (.goto 5, 3) := by decide +kernel
theorem dX0_result_95 : decode cX0_result 95 = .ok (.lload_n 3, 1) := by decide +kernel
theorem dX0_result_96 : decode cX0_result 96 = .ok (.l2i, 1) := by decide +kernel
theorem dX0_result_97 : decode cX0_result 97 = .ok (.ireturn, 1) := by decide +kernel
theorem dX1_init_0 : decode cX1_init 0 = .ok (.aload_n 0, 1) := by decide +kernel
theorem dX1_init_1 : decode cX1_init 1 = .ok (.invokespecial 3, 3) := by decide +kernel
theorem dX1_init_4 : decode cX1_init 4 = .ok (.aload_n 0, 1) := by decide +kernel
theorem dX1_init_5 : decode cX1_init 5 = .ok (.bipush 8, 2) := by decide +kernel
theorem dX1_init_7 : decode cX1_init 7 = .ok (.anewarray 9, 3) := by decide +kernel
theorem dX1_init_10 : decode cX1_init 10 = .ok (.putfield 11, 3) := by decide +kernel
theorem dX1_init_13 : decode cX1_init 13 = .ok (.iconst 0, 1) := by decide +kernel
theorem dX1_init_14 : decode cX1_init 14 = .ok (.istore_n 2, 1) := by decide +kernel
theorem dX1_init_15 : decode cX1_init 15 = .ok (.iload_n 2, 1) := by decide +kernel
theorem dX1_init_16 : decode cX1_init 16 = .ok (.bipush 8, 2) := by decide +kernel
theorem dX1_init_18 : decode cX1_init 18 = .ok (.if_icmp .ge 23, 3) := by decide +kernel
theorem dX1_init_21 : decode cX1_init 21 = .ok (.aload_n 0, 1) := by decide +kernel
theorem dX1_init_22 : decode cX1_init 22 = .ok (.getfield 11, 3) := by decide +kernel
theorem dX1_init_25 : decode cX1_init 25 = .ok (.iload_n 2, 1) := by decide +kernel
theorem dX1_init_26 : decode cX1_init 26 = .ok (.new 9, 3) := by decide +kernel
theorem dX1_init_29 : decode cX1_init 29 = .ok (.dup, 1) := by decide +kernel
theorem dX1_init_30 : decode cX1_init 30 = .ok (.aload_n 1, 1) := by decide +kernel
theorem dX1_init_31 : decode cX1_init 31 = .ok (.invokespecial 17, 3) := by decide +kernel
theorem dX1_init_34 : decode cX1_init 34 = .ok (.aastore, 1) := by decide +kernel
theorem dX1_init_35 : decode cX1_init 35 = .ok (.iinc 2 1, 3) := by decide +kernel
theorem dX1_init_38 : decode cX1_init 38 = .ok (.goto (-23), 3) := by decide +kernel
theorem dX1_init_41 : decode cX1_init 41 = .ok (.return_, 1) := by decide +kernel
theorem dX1_remember_0 : decode cX1_remember 0 = .ok (.aload_n 0, 1) := by decide +kernel
theorem dX1_remember_1 : decode cX1_remember 1 = .ok (.getfield 11, 3) := by decide +kernel
theorem dX1_remember_4 : decode cX1_remember 4 = .ok (.aload_n 0, 1) := by decide +kernel
theorem dX1_remember_5 : decode cX1_remember 5 = .ok (.getfield 20, 3) := by decide +kernel
theorem dX1_remember_8 : decode cX1_remember 8 = .ok (.aaload, 1) := by decide +kernel
theorem dX1_remember_9 : decode cX1_remember 9 = .ok (.aload_n 1, 1) := by decide +kernel
theorem dX1_remember_10 : decode cX1_remember 10 = .ok (.invokevirtual 24, 3) := by decide +kernel
theorem dX1_remember_13 : decode cX1_remember 13 = .ok (.aload_n 0, 1) := by decide +kernel
theorem dX1_remember_14 : decode cX1_remember 14 = .ok (.aload_n 0, 1) := by decide +kernel
theorem dX1_remember_15 : decode cX1_remember 15 = .ok (.getfield 20, 3) := by decide +kernel
theorem dX1_remember_18 : decode cX1_remember 18 = .ok (.iconst 1, 1) := by decide +kernel
theorem dX1_remember_19 : decode cX1_remember 19 = .ok (.iadd, 1) := by decide +kernel
theorem dX1_remember_20 : decode cX1_remember 20 = .ok (.bipush 8, 2) := by decide +kernel
theorem dX1_remember_22 : decode cX1_remember 22 = .ok (.irem, 1) := by decide +kernel
theorem dX1_remember_23 : decode cX1_remember 23 = .ok (.putfield 20, 3) := by decide +kernel
theorem dX1_remember_26 : decode cX1_remember 26 = .ok (.aload_n 0, 1) := by decide +kernel
theorem dX1_remember_27 : decode cX1_remember 27 = .ok (.aload_n 0, 1) := by decide +kernel
theorem dX1_remember_28 : decode cX1_remember 28 = .ok (.getfield 28, 3) := by decide +kernel
theorem dX1_remember_31 : decode cX1_remember 31 = .ok (.iconst 1, 1) := by decide +kernel
theorem dX1_remember_32 : decode cX1_remember 32 = .ok (.iadd, 1) := by decide +kernel
theorem dX1_remember_33 : decode cX1_remember 33 = .ok (.bipush 8, 2) := by decide +kernel
theorem dX1_remember_35 : decode cX1_remember 35 = .ok (.invokestatic 31, 3) := by decide +kernel
theorem dX1_remember_38 : decode cX1_remember 38 = .ok (.putfield 28, 3) := by decide +kernel
theorem dX1_remember_41 : decode cX1_remember 41 = .ok (.return_, 1) := by decide +kernel
theorem dX1_restoreLatest_0 : decode cX1_restoreLatest 0 = .ok (.aload_n 0, 1) := by decide +kernel
theorem dX1_restoreLatest_1 : decode cX1_restoreLatest 1 = .ok (.getfield 28, 3) := by decide +kernel
theorem dX1_restoreLatest_4 : decode cX1_restoreLatest 4 = .ok (.ifCond .ne 5, 3) := by decide +kernel
theorem dX1_restoreLatest_7 : decode cX1_restoreLatest 7 = .ok (.iconst (-1), 1) := by decide +kernel
theorem dX1_restoreLatest_8 : decode cX1_restoreLatest 8 = .ok (.ireturn, 1) := by decide +kernel
theorem dX1_restoreLatest_9 : decode cX1_restoreLatest 9 = .ok (.aload_n 0, 1) := by decide +kernel
theorem dX1_restoreLatest_10 : decode cX1_restoreLatest 10 = .ok (.aload_n 0, 1) := by decide +kernel
theorem dX1_restoreLatest_11 : decode cX1_restoreLatest 11 = .ok (.getfield 20, 3) := by decide +kernel
theorem dX1_restoreLatest_14 : decode cX1_restoreLatest 14 = .ok (.bipush 8, 2) := by decide +kernel
theorem dX1_restoreLatest_16 : decode cX1_restoreLatest 16 = .ok (.iadd, 1) := by decide +kernel
theorem dX1_restoreLatest_17 : decode cX1_restoreLatest 17 = .ok (.iconst 1, 1) := by decide +kernel
theorem dX1_restoreLatest_18 : decode cX1_restoreLatest 18 = .ok (.isub, 1) := by decide +kernel
theorem dX1_restoreLatest_19 : decode cX1_restoreLatest 19 = .ok (.bipush 8, 2) := by decide +kernel
theorem dX1_restoreLatest_21 : decode cX1_restoreLatest 21 = .ok (.irem, 1) := by decide +kernel
theorem dX1_restoreLatest_22 : decode cX1_restoreLatest 22 = .ok (.putfield 20, 3) := by decide +kernel
theorem dX1_restoreLatest_25 : decode cX1_restoreLatest 25 = .ok (.aload_n 1, 1) := by decide +kernel
theorem dX1_restoreLatest_26 : decode cX1_restoreLatest 26 = .ok (.aload_n 0, 1) := by decide +kernel
theorem dX1_restoreLatest_27 : decode cX1_restoreLatest 27 = .ok (.getfield 11, 3) := by decide +kernel
theorem dX1_restoreLatest_30 : decode cX1_restoreLatest 30 = .ok (.aload_n 0, 1) := by decide +kernel
theorem dX1_restoreLatest_31 : decode cX1_restoreLatest 31 = .ok (.getfield 20, 3) := by decide +kernel
theorem dX1_restoreLatest_34 : decode cX1_restoreLatest 34 = .ok (.aaload, 1) := by decide +kernel
theorem dX1_restoreLatest_35 : decode cX1_restoreLatest 35 = .ok (.invokevirtual 24, 3) := by decide +kernel
theorem dX1_restoreLatest_38 : decode cX1_restoreLatest 38 = .ok (.aload_n 0, 1) := by decide +kernel
theorem dX1_restoreLatest_39 : decode cX1_restoreLatest 39 = .ok (.dup, 1) := by decide +kernel
theorem dX1_restoreLatest_40 : decode cX1_restoreLatest 40 = .ok (.getfield 28, 3) := by decide +kernel
theorem dX1_restoreLatest_43 : decode cX1_restoreLatest 43 = .ok (.iconst 1, 1) := by decide +kernel
theorem dX1_restoreLatest_44 : decode cX1_restoreLatest 44 = .ok (.isub, 1) := by decide +kernel
theorem dX1_restoreLatest_45 : decode cX1_restoreLatest 45 = .ok (.putfield 28, 3) := by decide +kernel
theorem dX1_restoreLatest_48 : decode cX1_restoreLatest 48 = .ok (.aload_n 0, 1) := by decide +kernel
theorem dX1_restoreLatest_49 : decode cX1_restoreLatest 49 = .ok (.getfield 28, 3) := by decide +kernel
theorem dX1_restoreLatest_52 : decode cX1_restoreLatest 52 = .ok (.ireturn, 1) := by decide +kernel
theorem dX2_init_0 : decode cX2_init 0 = .ok (.aload_n 0, 1) := by decide +kernel
theorem dX2_init_1 : decode cX2_init 1 = .ok (.invokespecial 3, 3) := by decide +kernel
theorem dX2_init_4 : decode cX2_init 4 = .ok (.aload_n 0, 1) := by decide +kernel
theorem dX2_init_5 : decode cX2_init 5 = .ok (.aload_n 1, 1) := by decide +kernel
theorem dX2_init_6 : decode cX2_init 6 = .ok (.putfield 9, 3) := by decide +kernel
theorem dX2_init_9 : decode cX2_init 9 = .ok (.aload_n 0, 1) := by decide +kernel
theorem dX2_init_10 : decode cX2_init 10 = .ok (.iconst (-1), 1) := by decide +kernel
theorem dX2_init_11 : decode cX2_init 11 = .ok (.putfield 15, 3) := by decide +kernel
theorem dX2_init_14 : decode cX2_init 14 = .ok (.aload_n 0, 1) := by decide +kernel
theorem dX2_init_15 : decode cX2_init 15 = .ok (.bipush 6, 2) := by decide +kernel
theorem dX2_init_17 : decode cX2_init 17 = .ok (.newarray .int, 2) := by decide +kernel
theorem dX2_init_19 : decode cX2_init 19 = .ok (.putfield 19, 3) := by decide +kernel
theorem dX2_init_22 : decode cX2_init 22 = .ok (.aload_n 0, 1) := by decide +kernel
theorem dX2_init_23 : decode cX2_init 23 = .ok (.bipush 6, 2) := by decide +kernel
theorem dX2_init_25 : decode cX2_init 25 = .ok (.newarray .int, 2) := by decide +kernel
theorem dX2_init_27 : decode cX2_init 27 = .ok (.putfield 23, 3) := by decide +kernel
theorem dX2_init_30 : decode cX2_init 30 = .ok (.aload_n 0, 1) := by decide +kernel
theorem dX2_init_31 : decode cX2_init 31 = .ok (.bipush 6, 2) := by decide +kernel
theorem dX2_init_33 : decode cX2_init 33 = .ok (.newarray .int, 2) := by decide +kernel
theorem dX2_init_35 : decode cX2_init 35 = .ok (.putfield 26, 3) := by decide +kernel
theorem dX2_init_38 : decode cX2_init 38 = .ok (.aload_n 0, 1) := by decide +kernel
theorem dX2_init_39 : decode cX2_init 39 = .ok (.bipush 20, 2) := by decide +kernel
theorem dX2_init_41 : decode cX2_init 41 = .ok (.newarray .int, 2) := by decide +kernel
theorem dX2_init_43 : decode cX2_init 43 = .ok (.putfield 29, 3) := by decide +kernel
theorem dX2_init_46 : decode cX2_init 46 = .ok (.aload_n 0, 1) := by decide +kernel
theorem dX2_init_47 : decode cX2_init 47 = .ok (.bipush 20, 2) := by decide +kernel
theorem dX2_init_49 : decode cX2_init 49 = .ok (.newarray .int, 2) := by decide +kernel
theorem dX2_init_51 : decode cX2_init 51 = .ok (.putfield 32, 3) := by decide +kernel
theorem dX2_init_54 : decode cX2_init 54 = .ok (.aload_n 0, 1) := by decide +kernel
theorem dX2_init_55 : decode cX2_init 55 = .ok (.bipush 20, 2) := by decide +kernel
theorem dX2_init_57 : decode cX2_init 57 = .ok (.newarray .int, 2) := by decide +kernel
theorem dX2_init_59 : decode cX2_init 59 = .ok (.putfield 35, 3) := by decide +kernel
theorem dX2_init_62 : decode cX2_init 62 = .ok (.aload_n 0, 1) := by decide +kernel
theorem dX2_init_63 : decode cX2_init 63 = .ok (.bipush 20, 2) := by decide +kernel
theorem dX2_init_65 : decode cX2_init 65 = .ok (.newarray .int, 2) := by decide +kernel
theorem dX2_init_67 : decode cX2_init 67 = .ok (.putfield 38, 3) := by decide +kernel
theorem dX2_init_70 : decode cX2_init 70 = .ok (.aload_n 0, 1) := by decide +kernel
theorem dX2_init_71 : decode cX2_init 71 = .ok (.bipush 20, 2) := by decide +kernel
theorem dX2_init_73 : decode cX2_init 73 = .ok (.newarray .int, 2) := by decide +kernel
theorem dX2_init_75 : decode cX2_init 75 = .ok (.putfield 41, 3) := by decide +kernel
theorem dX2_init_78 : decode cX2_init 78 = .ok (.aload_n 0, 1) := by decide +kernel
theorem dX2_init_79 : decode cX2_init 79 = .ok (.bipush 20, 2) := by decide +kernel
theorem dX2_init_81 : decode cX2_init 81 = .ok (.newarray .int, 2) := by decide +kernel
theorem dX2_init_83 : decode cX2_init 83 = .ok (.putfield 44, 3) := by decide +kernel
theorem dX2_init_86 : decode cX2_init 86 = .ok (.aload_n 0, 1) := by decide +kernel
theorem dX2_init_87 : decode cX2_init 87 = .ok (.bipush 20, 2) := by decide +kernel
theorem dX2_init_89 : decode cX2_init 89 = .ok (.newarray .int, 2) := by decide +kernel
theorem dX2_init_91 : decode cX2_init 91 = .ok (.putfield 47, 3) := by decide +kernel
theorem dX2_init_94 : decode cX2_init 94 = .ok (.return_, 1) := by decide +kernel
theorem dX2_exists_0 : decode cX2_exists 0 = .ok (.aload_n 0, 1) := by decide +kernel
theorem dX2_exists_1 : decode cX2_exists 1 = .ok (.getfield 9, 3) := by decide +kernel
theorem dX2_exists_4 : decode cX2_exists 4 = .ok (.getfield 50, 3) := by decide +kernel
theorem dX2_exists_7 : decode cX2_exists 7 = .ok (.ifCond .le 7, 3) := by decide +kernel
theorem dX2_exists_10 : decode cX2_exists 10 = .ok (.iconst 1, 1) := by decide +kernel
theorem dX2_exists_11 : decode cX2_exists 11 = .ok (.goto 4, 3) := by decide +kernel
theorem dX2_exists_14 : decode cX2_exists 14 = .ok (.iconst 0, 1) := by decide +kernel
theorem dX2_exists_15 : decode cX2_exists 15 = .ok (.ireturn, 1) := by decide +kernel
theorem dX2_isSheet_0 : decode cX2_isSheet 0 = .ok (.iload_n 1, 1) := by decide +kernel
theorem dX2_isSheet_1 : decode cX2_isSheet 1 = .ok (.ifCond .lt 15, 3) := by decide +kernel
theorem dX2_isSheet_4 : decode cX2_isSheet 4 = .ok (.iload_n 1, 1) := by decide +kernel
theorem dX2_isSheet_5 : decode cX2_isSheet 5 = .ok (.aload_n 0, 1) := by decide +kernel
theorem dX2_isSheet_6 : decode cX2_isSheet 6 = .ok (.getfield 55, 3) := by decide +kernel
theorem dX2_isSheet_9 : decode cX2_isSheet 9 = .ok (.if_icmp .ge 7, 3) := by decide +kernel
theorem dX2_isSheet_12 : decode cX2_isSheet 12 = .ok (.iconst 1, 1) := by decide +kernel
theorem dX2_isSheet_13 : decode cX2_isSheet 13 = .ok (.goto 4, 3) := by decide +kernel
theorem dX2_isSheet_16 : decode cX2_isSheet 16 = .ok (.iconst 0, 1) := by decide +kernel
theorem dX2_isSheet_17 : decode cX2_isSheet 17 = .ok (.ireturn, 1) := by decide +kernel
theorem dX2_startWith_0 : decode cX2_startWith 0 = .ok (.aload_n 0, 1) := by decide +kernel
theorem dX2_startWith_1 : decode cX2_startWith 1 = .ok (.aload_n 1, 1) := by decide +kernel
theorem dX2_startWith_2 : decode cX2_startWith 2 = .ok (.putfield 9, 3) := by decide +kernel
theorem dX2_startWith_5 : decode cX2_startWith 5 = .ok (.aload_n 0, 1) := by decide +kernel
theorem dX2_startWith_6 : decode cX2_startWith 6 = .ok (.iconst 0, 1) := by decide +kernel
theorem dX2_startWith_7 : decode cX2_startWith 7 = .ok (.putfield 58, 3) := by decide +kernel
theorem dX2_startWith_10 : decode cX2_startWith 10 = .ok (.aload_n 0, 1) := by decide +kernel
theorem dX2_startWith_11 : decode cX2_startWith 11 = .ok (.iconst 0, 1) := by decide +kernel
theorem dX2_startWith_12 : decode cX2_startWith 12 = .ok (.putfield 55, 3) := by decide +kernel
theorem dX2_startWith_15 : decode cX2_startWith 15 = .ok (.aload_n 0, 1) := by decide +kernel
theorem dX2_startWith_16 : decode cX2_startWith 16 = .ok (.invokevirtual 61, 3) := by decide +kernel
theorem dX2_startWith_19 : decode cX2_startWith 19 = .ok (.iconst 0, 1) := by decide +kernel
theorem dX2_startWith_20 : decode cX2_startWith 20 = .ok (.istore_n 2, 1) := by decide +kernel
theorem dX2_startWith_21 : decode cX2_startWith 21 = .ok (.iload_n 2, 1) := by decide +kernel
theorem dX2_startWith_22 : decode cX2_startWith 22 = .ok (.bipush 6, 2) := by decide +kernel
theorem dX2_startWith_24 : decode cX2_startWith 24 = .ok (.if_icmp .ge 33, 3) := by decide +kernel
theorem dX2_startWith_27 : decode cX2_startWith 27 = .ok (.aload_n 0, 1) := by decide +kernel
theorem dX2_startWith_28 : decode cX2_startWith 28 = .ok (.getfield 19, 3) := by decide +kernel
theorem dX2_startWith_31 : decode cX2_startWith 31 = .ok (.iload_n 2, 1) := by decide +kernel
theorem dX2_startWith_32 : decode cX2_startWith 32 = .ok (.aload_n 1, 1) := by decide +kernel
theorem dX2_startWith_33 : decode cX2_startWith 33 = .ok (.getfield 64, 3) := by decide +kernel
theorem dX2_startWith_36 : decode cX2_startWith 36 = .ok (.iload_n 2, 1) := by decide +kernel
theorem dX2_startWith_37 : decode cX2_startWith 37 = .ok (.iaload, 1) := by decide +kernel
theorem dX2_startWith_38 : decode cX2_startWith 38 = .ok (.iastore, 1) := by decide +kernel
theorem dX2_startWith_39 : decode cX2_startWith 39 = .ok (.aload_n 0, 1) := by decide +kernel
theorem dX2_startWith_40 : decode cX2_startWith 40 = .ok (.getfield 23, 3) := by decide +kernel
theorem dX2_startWith_43 : decode cX2_startWith 43 = .ok (.iload_n 2, 1) := by decide +kernel
theorem dX2_startWith_44 : decode cX2_startWith 44 = .ok (.aload_n 1, 1) := by decide +kernel
theorem dX2_startWith_45 : decode cX2_startWith 45 = .ok (.getfield 64, 3) := by decide +kernel
theorem dX2_startWith_48 : decode cX2_startWith 48 = .ok (.iload_n 2, 1) := by decide +kernel
theorem dX2_startWith_49 : decode cX2_startWith 49 = .ok (.iaload, 1) := by decide +kernel
theorem dX2_startWith_50 : decode cX2_startWith 50 = .ok (.iastore, 1) := by decide +kernel
theorem dX2_startWith_51 : decode cX2_startWith 51 = .ok (.iinc 2 1, 3) := by decide +kernel
theorem dX2_startWith_54 : decode cX2_startWith 54 = .ok (.goto (-33), 3) := by decide +kernel
theorem dX2_startWith_57 : decode cX2_startWith 57 = .ok (.iconst 0, 1) := by decide +kernel
theorem dX2_startWith_58 : decode cX2_startWith 58 = .ok (.istore_n 2, 1) := by decide +kernel
theorem dX2_startWith_59 : decode cX2_startWith 59 = .ok (.iload_n 2, 1) := by decide +kernel
theorem dX2_startWith_60 : decode cX2_startWith 60 = .ok (.bipush 20, 2) := by decide +kernel
theorem dX2_startWith_62 : decode cX2_startWith 62 = .ok (.if_icmp .ge 37, 3) := by decide +kernel
theorem dX2_startWith_65 : decode cX2_startWith 65 = .ok (.aload_n 0, 1) := by decide +kernel
theorem dX2_startWith_66 : decode cX2_startWith 66 = .ok (.getfield 38, 3) := by decide +kernel
theorem dX2_startWith_69 : decode cX2_startWith 69 = .ok (.iload_n 2, 1) := by decide +kernel
theorem dX2_startWith_70 : decode cX2_startWith 70 = .ok (.iconst 0, 1) := by decide +kernel
theorem dX2_startWith_71 : decode cX2_startWith 71 = .ok (.iastore, 1) := by decide +kernel
theorem dX2_startWith_72 : decode cX2_startWith 72 = .ok (.aload_n 0, 1) := by decide +kernel
theorem dX2_startWith_73 : decode cX2_startWith 73 = .ok (.getfield 41, 3) := by decide +kernel
theorem dX2_startWith_76 : decode cX2_startWith 76 = .ok (.iload_n 2, 1) := by decide +kernel
theorem dX2_startWith_77 : decode cX2_startWith 77 = .ok (.iconst 0, 1) := by decide +kernel
theorem dX2_startWith_78 : decode cX2_startWith 78 = .ok (.iastore, 1) := by decide +kernel
theorem dX2_startWith_79 : decode cX2_startWith 79 = .ok (.aload_n 0, 1) := by decide +kernel
theorem dX2_startWith_80 : decode cX2_startWith 80 = .ok (.getfield 44, 3) := by decide +kernel
theorem dX2_startWith_83 : decode cX2_startWith 83 = .ok (.iload_n 2, 1) := by decide +kernel
theorem dX2_startWith_84 : decode cX2_startWith 84 = .ok (.iconst 0, 1) := by decide +kernel
theorem dX2_startWith_85 : decode cX2_startWith 85 = .ok (.iastore, 1) := by decide +kernel
theorem dX2_startWith_86 : decode cX2_startWith 86 = .ok (.aload_n 0, 1) := by decide +kernel
theorem dX2_startWith_87 : decode cX2_startWith 87 = .ok (.getfield 47, 3) := by decide +kernel
theorem dX2_startWith_90 : decode cX2_startWith 90 = .ok (.iload_n 2, 1) := by decide +kernel
theorem dX2_startWith_91 : decode cX2_startWith 91 = .ok (.iconst 0, 1) := by decide +kernel
theorem dX2_startWith_92 : decode cX2_startWith 92 = .ok (.iastore, 1) := by decide +kernel
theorem dX2_startWith_93 : decode cX2_startWith 93 = .ok (.iinc 2 1, 3) := by decide +kernel
theorem dX2_startWith_96 : decode cX2_startWith 96 = .ok (.goto (-37), 3) := by decide +kernel
theorem dX2_startWith_99 : decode cX2_startWith 99 = .ok (.return_, 1) := by decide +kernel
theorem dX2_standReady_0 : decode cX2_standReady 0 = .ok (.aload_n 0, 1) := by decide +kernel
theorem dX2_standReady_1 : decode cX2_standReady 1 = .ok (.iconst (-1), 1) := by decide +kernel
theorem dX2_standReady_2 : decode cX2_standReady 2 = .ok (.putfield 15, 3) := by decide +kernel
theorem dX2_standReady_5 : decode cX2_standReady 5 = .ok (.aload_n 0, 1) := by decide +kernel
theorem dX2_standReady_6 : decode cX2_standReady 6 = .ok (.iconst 0, 1) := by decide +kernel
theorem dX2_standReady_7 : decode cX2_standReady 7 = .ok (.putfield 65, 3) := by decide +kernel
theorem dX2_standReady_10 : decode cX2_standReady 10 = .ok (.iconst 0, 1) := by decide +kernel
theorem dX2_standReady_11 : decode cX2_standReady 11 = .ok (.istore_n 1, 1) := by decide +kernel
theorem dX2_standReady_12 : decode cX2_standReady 12 = .ok (.iload_n 1, 1) := by decide +kernel
theorem dX2_standReady_13 : decode cX2_standReady 13 = .ok (.bipush 6, 2) := by decide +kernel
theorem dX2_standReady_15 : decode cX2_standReady 15 = .ok (.if_icmp .ge 16, 3) := by decide +kernel
theorem dX2_standReady_18 : decode cX2_standReady 18 = .ok (.aload_n 0, 1) := by decide +kernel
theorem dX2_standReady_19 : decode cX2_standReady 19 = .ok (.getfield 26, 3) := by decide +kernel
theorem dX2_standReady_22 : decode cX2_standReady 22 = .ok (.iload_n 1, 1) := by decide +kernel
theorem dX2_standReady_23 : decode cX2_standReady 23 = .ok (.iconst (-1), 1) := by decide +kernel
theorem dX2_standReady_24 : decode cX2_standReady 24 = .ok (.iastore, 1) := by decide +kernel
theorem dX2_standReady_25 : decode cX2_standReady 25 = .ok (.iinc 1 1, 3) := by decide +kernel
theorem dX2_standReady_28 : decode cX2_standReady 28 = .ok (.goto (-16), 3) := by decide +kernel
theorem dX2_standReady_31 : decode cX2_standReady 31 = .ok (.return_, 1) := by decide +kernel
theorem dX2_holdOnly_0 : decode cX2_holdOnly 0 = .ok (.aload_n 0, 1) := by decide +kernel
theorem dX2_holdOnly_1 : decode cX2_holdOnly 1 = .ok (.invokevirtual 61, 3) := by decide +kernel
theorem dX2_holdOnly_4 : decode cX2_holdOnly 4 = .ok (.iconst 0, 1) := by decide +kernel
theorem dX2_holdOnly_5 : decode cX2_holdOnly 5 = .ok (.istore_n 2, 1) := by decide +kernel
theorem dX2_holdOnly_6 : decode cX2_holdOnly 6 = .ok (.iload_n 2, 1) := by decide +kernel
theorem dX2_holdOnly_7 : decode cX2_holdOnly 7 = .ok (.bipush 6, 2) := by decide +kernel
theorem dX2_holdOnly_9 : decode cX2_holdOnly 9 = .ok (.if_icmp .ge 21, 3) := by decide +kernel
theorem dX2_holdOnly_12 : decode cX2_holdOnly 12 = .ok (.aload_n 0, 1) := by decide +kernel
theorem dX2_holdOnly_13 : decode cX2_holdOnly 13 = .ok (.getfield 23, 3) := by decide +kernel
theorem dX2_holdOnly_16 : decode cX2_holdOnly 16 = .ok (.iload_n 2, 1) := by decide +kernel
theorem dX2_holdOnly_17 : decode cX2_holdOnly 17 = .ok (.aload_n 0, 1) := by decide +kernel
theorem dX2_holdOnly_18 : decode cX2_holdOnly 18 = .ok (.getfield 19, 3) := by decide +kernel
theorem dX2_holdOnly_21 : decode cX2_holdOnly 21 = .ok (.iload_n 2, 1) := by decide +kernel
theorem dX2_holdOnly_22 : decode cX2_holdOnly 22 = .ok (.iaload, 1) := by decide +kernel
theorem dX2_holdOnly_23 : decode cX2_holdOnly 23 = .ok (.iastore, 1) := by decide +kernel
theorem dX2_holdOnly_24 : decode cX2_holdOnly 24 = .ok (.iinc 2 1, 3) := by decide +kernel
theorem dX2_holdOnly_27 : decode cX2_holdOnly 27 = .ok (.goto (-21), 3) := by decide +kernel
theorem dX2_holdOnly_30 : decode cX2_holdOnly 30 = .ok (.aload_n 0, 1) := by decide +kernel
theorem dX2_holdOnly_31 : decode cX2_holdOnly 31 = .ok (.iconst 0, 1) := by decide +kernel
theorem dX2_holdOnly_32 : decode cX2_holdOnly 32 = .ok (.putfield 55, 3) := by decide +kernel
theorem dX2_holdOnly_35 : decode cX2_holdOnly 35 = .ok (.aload_n 0, 1) := by decide +kernel
theorem dX2_holdOnly_36 : decode cX2_holdOnly 36 = .ok (.iload_n 1, 1) := by decide +kernel
theorem dX2_holdOnly_37 : decode cX2_holdOnly 37 = .ok (.invokevirtual 68, 3) := by decide +kernel
theorem dX2_holdOnly_40 : decode cX2_holdOnly 40 = .ok (.pop, 1) := by decide +kernel
theorem dX2_holdOnly_41 : decode cX2_holdOnly 41 = .ok (.return_, 1) := by decide +kernel
theorem dX2_putSheet_0 : decode cX2_putSheet 0 = .ok (.aload_n 0, 1) := by decide +kernel
theorem dX2_putSheet_1 : decode cX2_putSheet 1 = .ok (.getfield 55, 3) := by decide +kernel
theorem dX2_putSheet_4 : decode cX2_putSheet 4 = .ok (.bipush 20, 2) := by decide +kernel
theorem dX2_putSheet_6 : decode cX2_putSheet 6 = .ok (.if_icmp .lt 5, 3) := by decide +kernel
theorem dX2_putSheet_9 : decode cX2_putSheet 9 = .ok (.iconst (-1), 1) := by decide +kernel
theorem dX2_putSheet_10 : decode cX2_putSheet 10 = .ok (.ireturn, 1) := by decide +kernel
theorem dX2_putSheet_11 : decode cX2_putSheet 11 = .ok (.aload_n 0, 1) := by decide +kernel
theorem dX2_putSheet_12 : decode cX2_putSheet 12 = .ok (.getfield 55, 3) := by decide +kernel
theorem dX2_putSheet_15 : decode cX2_putSheet 15 = .ok (.istore_n 2, 1) := by decide +kernel
theorem dX2_putSheet_16 : decode cX2_putSheet 16 = .ok (.aload_n 0, 1) := by decide +kernel
theorem dX2_putSheet_17 : decode cX2_putSheet 17 = .ok (.getfield 29, 3) := by decide +kernel
theorem dX2_putSheet_20 : decode cX2_putSheet 20 = .ok (.iload_n 2, 1) := by decide +kernel
theorem dX2_putSheet_21 : decode cX2_putSheet 21 = .ok (.iload_n 1, 1) := by decide +kernel
theorem dX2_putSheet_22 : decode cX2_putSheet 22 = .ok (.iastore, 1) := by decide +kernel
theorem dX2_putSheet_23 : decode cX2_putSheet 23 = .ok (.aload_n 0, 1) := by decide +kernel
theorem dX2_putSheet_24 : decode cX2_putSheet 24 = .ok (.getfield 32, 3) := by decide +kernel
theorem dX2_putSheet_27 : decode cX2_putSheet 27 = .ok (.iload_n 2, 1) := by decide +kernel
theorem dX2_putSheet_28 : decode cX2_putSheet 28 = .ok (.bipush 20, 2) := by decide +kernel
theorem dX2_putSheet_30 : decode cX2_putSheet 30 = .ok (.iastore, 1) := by decide +kernel
theorem dX2_putSheet_31 : decode cX2_putSheet 31 = .ok (.aload_n 0, 1) := by decide +kernel
theorem dX2_putSheet_32 : decode cX2_putSheet 32 = .ok (.getfield 35, 3) := by decide +kernel
theorem dX2_putSheet_35 : decode cX2_putSheet 35 = .ok (.iload_n 2, 1) := by decide +kernel
theorem dX2_putSheet_36 : decode cX2_putSheet 36 = .ok (.iconst 0, 1) := by decide +kernel
theorem dX2_putSheet_37 : decode cX2_putSheet 37 = .ok (.iastore, 1) := by decide +kernel
theorem dX2_putSheet_38 : decode cX2_putSheet 38 = .ok (.aload_n 0, 1) := by decide +kernel
theorem dX2_putSheet_39 : decode cX2_putSheet 39 = .ok (.dup, 1) := by decide +kernel
theorem dX2_putSheet_40 : decode cX2_putSheet 40 = .ok (.getfield 55, 3) := by decide +kernel
theorem dX2_putSheet_43 : decode cX2_putSheet 43 = .ok (.iconst 1, 1) := by decide +kernel
theorem dX2_putSheet_44 : decode cX2_putSheet 44 = .ok (.iadd, 1) := by decide +kernel
theorem dX2_putSheet_45 : decode cX2_putSheet 45 = .ok (.putfield 55, 3) := by decide +kernel
theorem dX2_putSheet_48 : decode cX2_putSheet 48 = .ok (.iload_n 2, 1) := by decide +kernel
theorem dX2_putSheet_49 : decode cX2_putSheet 49 = .ok (.ireturn, 1) := by decide +kernel
theorem dX2_copyFrom_0 : decode cX2_copyFrom 0 = .ok (.aload_n 0, 1) := by decide +kernel
theorem dX2_copyFrom_1 : decode cX2_copyFrom 1 = .ok (.aload_n 1, 1) := by decide +kernel
theorem dX2_copyFrom_2 : decode cX2_copyFrom 2 = .ok (.getfield 9, 3) := by decide +kernel
theorem dX2_copyFrom_5 : decode cX2_copyFrom 5 = .ok (.putfield 9, 3) := by decide +kernel
theorem dX2_copyFrom_8 : decode cX2_copyFrom 8 = .ok (.aload_n 0, 1) := by decide +kernel
theorem dX2_copyFrom_9 : decode cX2_copyFrom 9 = .ok (.aload_n 1, 1) := by decide +kernel
theorem dX2_copyFrom_10 : decode cX2_copyFrom 10 = .ok (.getfield 58, 3) := by decide +kernel
theorem dX2_copyFrom_13 : decode cX2_copyFrom 13 = .ok (.putfield 58, 3) := by decide +kernel
theorem dX2_copyFrom_16 : decode cX2_copyFrom 16 = .ok (.aload_n 0, 1) := by decide +kernel
theorem dX2_copyFrom_17 : decode cX2_copyFrom 17 = .ok (.aload_n 1, 1) := by decide +kernel
theorem dX2_copyFrom_18 : decode cX2_copyFrom 18 = .ok (.getfield 55, 3) := by decide +kernel
theorem dX2_copyFrom_21 : decode cX2_copyFrom 21 = .ok (.putfield 55, 3) := by decide +kernel
theorem dX2_copyFrom_24 : decode cX2_copyFrom 24 = .ok (.aload_n 0, 1) := by decide +kernel
theorem dX2_copyFrom_25 : decode cX2_copyFrom 25 = .ok (.aload_n 1, 1) := by decide +kernel
theorem dX2_copyFrom_26 : decode cX2_copyFrom 26 = .ok (.getfield 15, 3) := by decide +kernel
theorem dX2_copyFrom_29 : decode cX2_copyFrom 29 = .ok (.putfield 15, 3) := by decide +kernel
theorem dX2_copyFrom_32 : decode cX2_copyFrom 32 = .ok (.aload_n 0, 1) := by decide +kernel
theorem dX2_copyFrom_33 : decode cX2_copyFrom 33 = .ok (.aload_n 1, 1) := by decide +kernel
theorem dX2_copyFrom_34 : decode cX2_copyFrom 34 = .ok (.getfield 65, 3) := by decide +kernel
theorem dX2_copyFrom_37 : decode cX2_copyFrom 37 = .ok (.putfield 65, 3) := by decide +kernel
theorem dX2_copyFrom_40 : decode cX2_copyFrom 40 = .ok (.aload_n 1, 1) := by decide +kernel
theorem dX2_copyFrom_41 : decode cX2_copyFrom 41 = .ok (.getfield 19, 3) := by decide +kernel
theorem dX2_copyFrom_44 : decode cX2_copyFrom 44 = .ok (.iconst 0, 1) := by decide +kernel
theorem dX2_copyFrom_45 : decode cX2_copyFrom 45 = .ok (.aload_n 0, 1) := by decide +kernel
theorem dX2_copyFrom_46 : decode cX2_copyFrom 46 = .ok (.getfield 19, 3) := by decide +kernel
theorem dX2_copyFrom_49 : decode cX2_copyFrom 49 = .ok (.iconst 0, 1) := by decide +kernel
theorem dX2_copyFrom_50 : decode cX2_copyFrom 50 = .ok (.bipush 6, 2) := by decide +kernel
theorem dX2_copyFrom_52 : decode cX2_copyFrom 52 = .ok (.invokestatic 72, 3) := by decide +kernel
theorem dX2_copyFrom_55 : decode cX2_copyFrom 55 = .ok (.aload_n 1, 1) := by decide +kernel
theorem dX2_copyFrom_56 : decode cX2_copyFrom 56 = .ok (.getfield 23, 3) := by decide +kernel
theorem dX2_copyFrom_59 : decode cX2_copyFrom 59 = .ok (.iconst 0, 1) := by decide +kernel
theorem dX2_copyFrom_60 : decode cX2_copyFrom 60 = .ok (.aload_n 0, 1) := by decide +kernel
theorem dX2_copyFrom_61 : decode cX2_copyFrom 61 = .ok (.getfield 23, 3) := by decide +kernel
theorem dX2_copyFrom_64 : decode cX2_copyFrom 64 = .ok (.iconst 0, 1) := by decide +kernel
theorem dX2_copyFrom_65 : decode cX2_copyFrom 65 = .ok (.bipush 6, 2) := by decide +kernel
theorem dX2_copyFrom_67 : decode cX2_copyFrom 67 = .ok (.invokestatic 72, 3) := by decide +kernel
theorem dX2_copyFrom_70 : decode cX2_copyFrom 70 = .ok (.aload_n 1, 1) := by decide +kernel
theorem dX2_copyFrom_71 : decode cX2_copyFrom 71 = .ok (.getfield 26, 3) := by decide +kernel
theorem dX2_copyFrom_74 : decode cX2_copyFrom 74 = .ok (.iconst 0, 1) := by decide +kernel
theorem dX2_copyFrom_75 : decode cX2_copyFrom 75 = .ok (.aload_n 0, 1) := by decide +kernel
theorem dX2_copyFrom_76 : decode cX2_copyFrom 76 = .ok (.getfield 26, 3) := by decide +kernel
theorem dX2_copyFrom_79 : decode cX2_copyFrom 79 = .ok (.iconst 0, 1) := by decide +kernel
theorem dX2_copyFrom_80 : decode cX2_copyFrom 80 = .ok (.bipush 6, 2) := by decide +kernel
theorem dX2_copyFrom_82 : decode cX2_copyFrom 82 = .ok (.invokestatic 72, 3) := by decide +kernel
theorem dX2_copyFrom_85 : decode cX2_copyFrom 85 = .ok (.aload_n 1, 1) := by decide +kernel
theorem dX2_copyFrom_86 : decode cX2_copyFrom 86 = .ok (.getfield 29, 3) := by decide +kernel
theorem dX2_copyFrom_89 : decode cX2_copyFrom 89 = .ok (.iconst 0, 1) := by decide +kernel
theorem dX2_copyFrom_90 : decode cX2_copyFrom 90 = .ok (.aload_n 0, 1) := by decide +kernel
theorem dX2_copyFrom_91 : decode cX2_copyFrom 91 = .ok (.getfield 29, 3) := by decide +kernel
theorem dX2_copyFrom_94 : decode cX2_copyFrom 94 = .ok (.iconst 0, 1) := by decide +kernel
theorem dX2_copyFrom_95 : decode cX2_copyFrom 95 = .ok (.bipush 20, 2) := by decide +kernel
theorem dX2_copyFrom_97 : decode cX2_copyFrom 97 = .ok (.invokestatic 72, 3) := by decide +kernel
theorem dX2_copyFrom_100 : decode cX2_copyFrom 100 = .ok (.aload_n 1, 1) := by decide +kernel
theorem dX2_copyFrom_101 : decode cX2_copyFrom 101 = .ok (.getfield 32, 3) := by decide +kernel
theorem dX2_copyFrom_104 : decode cX2_copyFrom 104 = .ok (.iconst 0, 1) := by decide +kernel
theorem dX2_copyFrom_105 : decode cX2_copyFrom 105 = .ok (.aload_n 0, 1) := by decide +kernel
theorem dX2_copyFrom_106 : decode cX2_copyFrom 106 = .ok (.getfield 32, 3) := by decide +kernel
theorem dX2_copyFrom_109 : decode cX2_copyFrom 109 = .ok (.iconst 0, 1) := by decide +kernel
theorem dX2_copyFrom_110 : decode cX2_copyFrom 110 = .ok (.bipush 20, 2) := by decide +kernel
theorem dX2_copyFrom_112 : decode cX2_copyFrom 112 = .ok (.invokestatic 72, 3) := by decide +kernel
theorem dX2_copyFrom_115 : decode cX2_copyFrom 115 = .ok (.aload_n 1, 1) := by decide +kernel
theorem dX2_copyFrom_116 : decode cX2_copyFrom 116 = .ok (.getfield 35, 3) := by decide +kernel
theorem dX2_copyFrom_119 : decode cX2_copyFrom 119 = .ok (.iconst 0, 1) := by decide +kernel
theorem dX2_copyFrom_120 : decode cX2_copyFrom 120 = .ok (.aload_n 0, 1) := by decide +kernel
theorem dX2_copyFrom_121 : decode cX2_copyFrom 121 = .ok (.getfield 35, 3) := by decide +kernel
theorem dX2_copyFrom_124 : decode cX2_copyFrom 124 = .ok (.iconst 0, 1) := by decide +kernel
theorem dX2_copyFrom_125 : decode cX2_copyFrom 125 = .ok (.bipush 20, 2) := by decide +kernel
theorem dX2_copyFrom_127 : decode cX2_copyFrom 127 = .ok (.invokestatic 72, 3) := by decide +kernel
theorem dX2_copyFrom_130 : decode cX2_copyFrom 130 = .ok (.aload_n 1, 1) := by decide +kernel
theorem dX2_copyFrom_131 : decode cX2_copyFrom 131 = .ok (.getfield 38, 3) := by decide +kernel
theorem dX2_copyFrom_134 : decode cX2_copyFrom 134 = .ok (.iconst 0, 1) := by decide +kernel
theorem dX2_copyFrom_135 : decode cX2_copyFrom 135 = .ok (.aload_n 0, 1) := by decide +kernel
theorem dX2_copyFrom_136 : decode cX2_copyFrom 136 = .ok (.getfield 38, 3) := by decide +kernel
theorem dX2_copyFrom_139 : decode cX2_copyFrom 139 = .ok (.iconst 0, 1) := by decide +kernel
theorem dX2_copyFrom_140 : decode cX2_copyFrom 140 = .ok (.bipush 20, 2) := by decide +kernel
theorem dX2_copyFrom_142 : decode cX2_copyFrom 142 = .ok (.invokestatic 72, 3) := by decide +kernel
theorem dX2_copyFrom_145 : decode cX2_copyFrom 145 = .ok (.aload_n 1, 1) := by decide +kernel
theorem dX2_copyFrom_146 : decode cX2_copyFrom 146 = .ok (.getfield 41, 3) := by decide +kernel
theorem dX2_copyFrom_149 : decode cX2_copyFrom 149 = .ok (.iconst 0, 1) := by decide +kernel
theorem dX2_copyFrom_150 : decode cX2_copyFrom 150 = .ok (.aload_n 0, 1) := by decide +kernel
theorem dX2_copyFrom_151 : decode cX2_copyFrom 151 = .ok (.getfield 41, 3) := by decide +kernel
theorem dX2_copyFrom_154 : decode cX2_copyFrom 154 = .ok (.iconst 0, 1) := by decide +kernel
theorem dX2_copyFrom_155 : decode cX2_copyFrom 155 = .ok (.bipush 20, 2) := by decide +kernel
theorem dX2_copyFrom_157 : decode cX2_copyFrom 157 = .ok (.invokestatic 72, 3) := by decide +kernel
theorem dX2_copyFrom_160 : decode cX2_copyFrom 160 = .ok (.aload_n 1, 1) := by decide +kernel
theorem dX2_copyFrom_161 : decode cX2_copyFrom 161 = .ok (.getfield 44, 3) := by decide +kernel
theorem dX2_copyFrom_164 : decode cX2_copyFrom 164 = .ok (.iconst 0, 1) := by decide +kernel
theorem dX2_copyFrom_165 : decode cX2_copyFrom 165 = .ok (.aload_n 0, 1) := by decide +kernel
theorem dX2_copyFrom_166 : decode cX2_copyFrom 166 = .ok (.getfield 44, 3) := by decide +kernel
theorem dX2_copyFrom_169 : decode cX2_copyFrom 169 = .ok (.iconst 0, 1) := by decide +kernel
theorem dX2_copyFrom_170 : decode cX2_copyFrom 170 = .ok (.bipush 20, 2) := by decide +kernel
theorem dX2_copyFrom_172 : decode cX2_copyFrom 172 = .ok (.invokestatic 72, 3) := by decide +kernel
theorem dX2_copyFrom_175 : decode cX2_copyFrom 175 = .ok (.aload_n 1, 1) := by decide +kernel
theorem dX2_copyFrom_176 : decode cX2_copyFrom 176 = .ok (.getfield 47, 3) := by decide +kernel
theorem dX2_copyFrom_179 : decode cX2_copyFrom 179 = .ok (.iconst 0, 1) := by decide +kernel
theorem dX2_copyFrom_180 : decode cX2_copyFrom 180 = .ok (.aload_n 0, 1) := by decide +kernel
theorem dX2_copyFrom_181 : decode cX2_copyFrom 181 = .ok (.getfield 47, 3) := by decide +kernel
theorem dX2_copyFrom_184 : decode cX2_copyFrom 184 = .ok (.iconst 0, 1) := by decide +kernel
theorem dX2_copyFrom_185 : decode cX2_copyFrom 185 = .ok (.bipush 20, 2) := by decide +kernel
theorem dX2_copyFrom_187 : decode cX2_copyFrom 187 = .ok (.invokestatic 72, 3) := by decide +kernel
theorem dX2_copyFrom_190 : decode cX2_copyFrom 190 = .ok (.return_, 1) := by decide +kernel
theorem dX2_sheetsIn_0 : decode cX2_sheetsIn 0 = .ok (.iconst 0, 1) := by decide +kernel
theorem dX2_sheetsIn_1 : decode cX2_sheetsIn 1 = .ok (.istore_n 2, 1) := by decide +kernel
theorem dX2_sheetsIn_2 : decode cX2_sheetsIn 2 = .ok (.iconst 0, 1) := by decide +kernel
theorem dX2_sheetsIn_3 : decode cX2_sheetsIn 3 = .ok (.istore_n 3, 1) := by decide +kernel
theorem dX2_sheetsIn_4 : decode cX2_sheetsIn 4 = .ok (.iload_n 3, 1) := by decide +kernel
theorem dX2_sheetsIn_5 : decode cX2_sheetsIn 5 = .ok (.aload_n 0, 1) := by decide +kernel
theorem dX2_sheetsIn_6 : decode cX2_sheetsIn 6 = .ok (.getfield 55, 3) := by decide +kernel
theorem dX2_sheetsIn_9 : decode cX2_sheetsIn 9 = .ok (.if_icmp .ge 22, 3) := by decide +kernel
theorem dX2_sheetsIn_12 : decode cX2_sheetsIn 12 = .ok (.aload_n 0, 1) := by decide +kernel
theorem dX2_sheetsIn_13 : decode cX2_sheetsIn 13 = .ok (.getfield 35, 3) := by decide +kernel
theorem dX2_sheetsIn_16 : decode cX2_sheetsIn 16 = .ok (.iload_n 3, 1) := by decide +kernel
theorem dX2_sheetsIn_17 : decode cX2_sheetsIn 17 = .ok (.iaload, 1) := by decide +kernel
theorem dX2_sheetsIn_18 : decode cX2_sheetsIn 18 = .ok (.iload_n 1, 1) := by decide +kernel
theorem dX2_sheetsIn_19 : decode cX2_sheetsIn 19 = .ok (.if_icmp .ne 6, 3) := by decide +kernel
theorem dX2_sheetsIn_22 : decode cX2_sheetsIn 22 = .ok (.iinc 2 1, 3) := by decide +kernel
theorem dX2_sheetsIn_25 : decode cX2_sheetsIn 25 = .ok (.iinc 3 1, 3) := by decide +kernel
theorem dX2_sheetsIn_28 : decode cX2_sheetsIn 28 = .ok (.goto (-24), 3) := by decide +kernel
theorem dX2_sheetsIn_31 : decode cX2_sheetsIn 31 = .ok (.iload_n 2, 1) := by decide +kernel
theorem dX2_sheetsIn_32 : decode cX2_sheetsIn 32 = .ok (.ireturn, 1) := by decide +kernel
theorem dX2_isFinished_0 : decode cX2_isFinished 0 = .ok (.iconst 0, 1) := by decide +kernel
theorem dX2_isFinished_1 : decode cX2_isFinished 1 = .ok (.istore_n 1, 1) := by decide +kernel
theorem dX2_isFinished_2 : decode cX2_isFinished 2 = .ok (.iload_n 1, 1) := by decide +kernel
theorem dX2_isFinished_3 : decode cX2_isFinished 3 = .ok (.aload_n 0, 1) := by decide +kernel
theorem dX2_isFinished_4 : decode cX2_isFinished 4 = .ok (.getfield 55, 3) := by decide +kernel
theorem dX2_isFinished_7 : decode cX2_isFinished 7 = .ok (.if_icmp .ge 40, 3) := by decide +kernel
theorem dX2_isFinished_10 : decode cX2_isFinished 10 = .ok (.aload_n 0, 1) := by decide +kernel
theorem dX2_isFinished_11 : decode cX2_isFinished 11 = .ok (.getfield 35, 3) := by decide +kernel
theorem dX2_isFinished_14 : decode cX2_isFinished 14 = .ok (.iload_n 1, 1) := by decide +kernel
theorem dX2_isFinished_15 : decode cX2_isFinished 15 = .ok (.iaload, 1) := by decide +kernel
theorem dX2_isFinished_16 : decode cX2_isFinished 16 = .ok (.ifCond .eq 23, 3) := by decide +kernel
theorem dX2_isFinished_19 : decode cX2_isFinished 19 = .ok (.aload_n 0, 1) := by decide +kernel
theorem dX2_isFinished_20 : decode cX2_isFinished 20 = .ok (.getfield 35, 3) := by decide +kernel
theorem dX2_isFinished_23 : decode cX2_isFinished 23 = .ok (.iload_n 1, 1) := by decide +kernel
theorem dX2_isFinished_24 : decode cX2_isFinished 24 = .ok (.iaload, 1) := by decide +kernel
theorem dX2_isFinished_25 : decode cX2_isFinished 25 = .ok (.iconst 1, 1) := by decide +kernel
theorem dX2_isFinished_26 : decode cX2_isFinished 26 = .ok (.if_icmp .eq 13, 3) := by decide +kernel
theorem dX2_isFinished_29 : decode cX2_isFinished 29 = .ok (.aload_n 0, 1) := by decide +kernel
theorem dX2_isFinished_30 : decode cX2_isFinished 30 = .ok (.getfield 35, 3) := by decide +kernel
theorem dX2_isFinished_33 : decode cX2_isFinished 33 = .ok (.iload_n 1, 1) := by decide +kernel
theorem dX2_isFinished_34 : decode cX2_isFinished 34 = .ok (.iaload, 1) := by decide +kernel
theorem dX2_isFinished_35 : decode cX2_isFinished 35 = .ok (.iconst 2, 1) := by decide +kernel
theorem dX2_isFinished_36 : decode cX2_isFinished 36 = .ok (.if_icmp .ne 5, 3) := by decide +kernel
theorem dX2_isFinished_39 : decode cX2_isFinished 39 = .ok (.iconst 0, 1) := by decide +kernel
theorem dX2_isFinished_40 : decode cX2_isFinished 40 = .ok (.ireturn, 1) := by decide +kernel
theorem dX2_isFinished_41 : decode cX2_isFinished 41 = .ok (.iinc 1 1, 3) := by decide +kernel
theorem dX2_isFinished_44 : decode cX2_isFinished 44 = .ok (.goto (-42), 3) := by decide +kernel
theorem dX2_isFinished_47 : decode cX2_isFinished 47 = .ok (.iconst 1, 1) := by decide +kernel
theorem dX2_isFinished_48 : decode cX2_isFinished 48 = .ok (.ireturn, 1) := by decide +kernel
theorem dX2_ticksToFinish_0 : decode cX2_ticksToFinish 0 = .ok (.iconst 0, 1) := by decide +kernel
theorem dX2_ticksToFinish_1 : decode cX2_ticksToFinish 1 = .ok (.istore_n 2, 1) := by decide +kernel
theorem dX2_ticksToFinish_2 : decode cX2_ticksToFinish 2 = .ok (.iload_n 2, 1) := by decide +kernel
theorem dX2_ticksToFinish_3 : decode cX2_ticksToFinish 3 = .ok (.iload_n 1, 1) := by decide +kernel
theorem dX2_ticksToFinish_4 : decode cX2_ticksToFinish 4 = .ok (.if_icmp .ge 22, 3) := by decide +kernel
theorem dX2_ticksToFinish_7 : decode cX2_ticksToFinish 7 = .ok (.aload_n 0, 1) := by decide +kernel
theorem dX2_ticksToFinish_8 : decode cX2_ticksToFinish 8 = .ok (.invokevirtual 78, 3) := by decide +kernel
theorem dX2_ticksToFinish_11 : decode cX2_ticksToFinish 11 = .ok (.ifCond .eq 5, 3) := by decide +kernel
theorem dX2_ticksToFinish_14 : decode cX2_ticksToFinish 14 = .ok (.iload_n 2, 1) := by decide +kernel
theorem dX2_ticksToFinish_15 : decode cX2_ticksToFinish 15 = .ok (.ireturn, 1) := by decide +kernel
theorem dX2_ticksToFinish_16 : decode cX2_ticksToFinish 16 = .ok (.aload_n 0, 1) := by decide +kernel
theorem dX2_ticksToFinish_17 : decode cX2_ticksToFinish 17 = .ok (.invokevirtual 82, 3) := by decide +kernel
theorem dX2_ticksToFinish_20 : decode cX2_ticksToFinish 20 = .ok (.iinc 2 1, 3) := by decide +kernel
theorem dX2_ticksToFinish_23 : decode cX2_ticksToFinish 23 = .ok (.goto (-21), 3) := by decide +kernel
theorem dX2_ticksToFinish_26 : decode cX2_ticksToFinish 26 = .ok (.aload_n 0, 1) := by decide +kernel
theorem dX2_ticksToFinish_27 : decode cX2_ticksToFinish 27 = .ok (.invokevirtual 78, 3) := by decide +kernel
theorem dX2_ticksToFinish_30 : decode cX2_ticksToFinish 30 = .ok (.ifCond .eq 7, 3) := by decide +kernel
theorem dX2_ticksToFinish_33 : decode cX2_ticksToFinish 33 = .ok (.iload_n 1, 1) := by decide +kernel
theorem dX2_ticksToFinish_34 : decode cX2_ticksToFinish 34 = .ok (.goto 4, 3) := by decide +kernel
theorem dX2_ticksToFinish_37 : decode cX2_ticksToFinish 37 = .ok (.iconst (-1), 1) := by decide +kernel
theorem dX2_ticksToFinish_38 : decode cX2_ticksToFinish 38 = .ok (.ireturn, 1) := by decide +kernel
theorem dX2_tick_0 : decode cX2_tick 0 = .ok (.aload_n 0, 1) := by decide +kernel
theorem dX2_tick_1 : decode cX2_tick 1 = .ok (.invokevirtual 85, 3) := by decide +kernel
theorem dX2_tick_4 : decode cX2_tick 4 = .ok (.iconst 0, 1) := by decide +kernel
theorem dX2_tick_5 : decode cX2_tick 5 = .ok (.istore_n 1, 1) := by decide +kernel
theorem dX2_tick_6 : decode cX2_tick 6 = .ok (.iload_n 1, 1) := by decide +kernel
theorem dX2_tick_7 : decode cX2_tick 7 = .ok (.aload_n 0, 1) := by decide +kernel
theorem dX2_tick_8 : decode cX2_tick 8 = .ok (.getfield 9, 3) := by decide +kernel
theorem dX2_tick_11 : decode cX2_tick 11 = .ok (.getfield 50, 3) := by decide +kernel
theorem dX2_tick_14 : decode cX2_tick 14 = .ok (.if_icmp .ge 14, 3) := by decide +kernel
theorem dX2_tick_17 : decode cX2_tick 17 = .ok (.aload_n 0, 1) := by decide +kernel
theorem dX2_tick_18 : decode cX2_tick 18 = .ok (.iload_n 1, 1) := by decide +kernel
theorem dX2_tick_19 : decode cX2_tick 19 = .ok (.invokevirtual 88, 3) := by decide +kernel
theorem dX2_tick_22 : decode cX2_tick 22 = .ok (.iinc 1 1, 3) := by decide +kernel
theorem dX2_tick_25 : decode cX2_tick 25 = .ok (.goto (-19), 3) := by decide +kernel
theorem dX2_tick_28 : decode cX2_tick 28 = .ok (.aload_n 0, 1) := by decide +kernel
theorem dX2_tick_29 : decode cX2_tick 29 = .ok (.invokevirtual 92, 3) := by decide +kernel
theorem dX2_tick_32 : decode cX2_tick 32 = .ok (.istore_n 1, 1) := by decide +kernel
theorem dX2_tick_33 : decode cX2_tick 33 = .ok (.iload_n 1, 1) := by decide +kernel
theorem dX2_tick_34 : decode cX2_tick 34 = .ok (.iconst (-1), 1) := by decide +kernel
theorem dX2_tick_35 : decode cX2_tick 35 = .ok (.if_icmp .eq 8, 3) := by decide +kernel
theorem dX2_tick_38 : decode cX2_tick 38 = .ok (.aload_n 0, 1) := by decide +kernel
theorem dX2_tick_39 : decode cX2_tick 39 = .ok (.iload_n 1, 1) := by decide +kernel
theorem dX2_tick_40 : decode cX2_tick 40 = .ok (.invokevirtual 96, 3) := by decide +kernel
theorem dX2_tick_43 : decode cX2_tick 43 = .ok (.aload_n 0, 1) := by decide +kernel
theorem dX2_tick_44 : decode cX2_tick 44 = .ok (.getfield 9, 3) := by decide +kernel
theorem dX2_tick_47 : decode cX2_tick 47 = .ok (.getfield 50, 3) := by decide +kernel
theorem dX2_tick_50 : decode cX2_tick 50 = .ok (.iconst 1, 1) := by decide +kernel
theorem dX2_tick_51 : decode cX2_tick 51 = .ok (.isub, 1) := by decide +kernel
theorem dX2_tick_52 : decode cX2_tick 52 = .ok (.istore_n 2, 1) := by decide +kernel
theorem dX2_tick_53 : decode cX2_tick 53 = .ok (.iload_n 2, 1) := by decide +kernel
theorem dX2_tick_54 : decode cX2_tick 54 = .ok (.ifCond .lt 14, 3) := by decide +kernel
theorem dX2_tick_57 : decode cX2_tick 57 = .ok (.aload_n 0, 1) := by decide +kernel
theorem dX2_tick_58 : decode cX2_tick 58 = .ok (.iload_n 2, 1) := by decide +kernel
theorem dX2_tick_59 : decode cX2_tick 59 = .ok (.invokevirtual 99, 3) := by decide +kernel
theorem dX2_tick_62 : decode cX2_tick 62 = .ok (.iinc 2 (-1), 3) := by decide +kernel
theorem dX2_tick_65 : decode cX2_tick 65 = .ok (.goto (-12), 3) := by decide +kernel
theorem dX2_tick_68 : decode cX2_tick 68 = .ok (.aload_n 0, 1) := by decide +kernel
theorem dX2_tick_69 : decode cX2_tick 69 = .ok (.invokevirtual 102, 3) := by decide +kernel
theorem dX2_tick_72 : decode cX2_tick 72 = .ok (.aload_n 0, 1) := by decide +kernel
theorem dX2_tick_73 : decode cX2_tick 73 = .ok (.dup, 1) := by decide +kernel
theorem dX2_tick_74 : decode cX2_tick 74 = .ok (.getfield 58, 3) := by decide +kernel
theorem dX2_tick_77 : decode cX2_tick 77 = .ok (.iconst 1, 1) := by decide +kernel
theorem dX2_tick_78 : decode cX2_tick 78 = .ok (.iadd, 1) := by decide +kernel
theorem dX2_tick_79 : decode cX2_tick 79 = .ok (.putfield 58, 3) := by decide +kernel
theorem dX2_tick_82 : decode cX2_tick 82 = .ok (.return_, 1) := by decide +kernel
theorem dX2_heatZones_0 : decode cX2_heatZones 0 = .ok (.iconst 0, 1) := by decide +kernel
theorem dX2_heatZones_1 : decode cX2_heatZones 1 = .ok (.istore_n 1, 1) := by decide +kernel
theorem dX2_heatZones_2 : decode cX2_heatZones 2 = .ok (.iload_n 1, 1) := by decide +kernel
theorem dX2_heatZones_3 : decode cX2_heatZones 3 = .ok (.aload_n 0, 1) := by decide +kernel
theorem dX2_heatZones_4 : decode cX2_heatZones 4 = .ok (.getfield 9, 3) := by decide +kernel
theorem dX2_heatZones_7 : decode cX2_heatZones 7 = .ok (.getfield 50, 3) := by decide +kernel
theorem dX2_heatZones_10 : decode cX2_heatZones 10 = .ok (.if_icmp .ge 57, 3) := by decide +kernel
theorem dX2_heatZones_13 : decode cX2_heatZones 13 = .ok (.aload_n 0, 1) := by decide +kernel
theorem dX2_heatZones_14 : decode cX2_heatZones 14 = .ok (.getfield 23, 3) := by decide +kernel
theorem dX2_heatZones_17 : decode cX2_heatZones 17 = .ok (.iload_n 1, 1) := by decide +kernel
theorem dX2_heatZones_18 : decode cX2_heatZones 18 = .ok (.iaload, 1) := by decide +kernel
theorem dX2_heatZones_19 : decode cX2_heatZones 19 = .ok (.aload_n 0, 1) := by decide +kernel
theorem dX2_heatZones_20 : decode cX2_heatZones 20 = .ok (.getfield 19, 3) := by decide +kernel
theorem dX2_heatZones_23 : decode cX2_heatZones 23 = .ok (.iload_n 1, 1) := by decide +kernel
theorem dX2_heatZones_24 : decode cX2_heatZones 24 = .ok (.iaload, 1) := by decide +kernel
theorem dX2_heatZones_25 : decode cX2_heatZones 25 = .ok (.if_icmp .ge 36, 3) := by decide +kernel
theorem dX2_heatZones_28 : decode cX2_heatZones 28 = .ok (.aload_n 0, 1) := by decide +kernel
theorem dX2_heatZones_29 : decode cX2_heatZones 29 = .ok (.getfield 23, 3) := by decide +kernel
theorem dX2_heatZones_32 : decode cX2_heatZones 32 = .ok (.iload_n 1, 1) := by decide +kernel
theorem dX2_heatZones_33 : decode cX2_heatZones 33 = .ok (.iaload, 1) := by decide +kernel
theorem dX2_heatZones_34 : decode cX2_heatZones 34 = .ok (.aload_n 0, 1) := by decide +kernel
theorem dX2_heatZones_35 : decode cX2_heatZones 35 = .ok (.getfield 9, 3) := by decide +kernel
theorem dX2_heatZones_38 : decode cX2_heatZones 38 = .ok (.getfield 105, 3) := by decide +kernel
theorem dX2_heatZones_41 : decode cX2_heatZones 41 = .ok (.iload_n 1, 1) := by decide +kernel
theorem dX2_heatZones_42 : decode cX2_heatZones 42 = .ok (.iaload, 1) := by decide +kernel
theorem dX2_heatZones_43 : decode cX2_heatZones 43 = .ok (.iadd, 1) := by decide +kernel
theorem dX2_heatZones_44 : decode cX2_heatZones 44 = .ok (.istore_n 2, 1) := by decide +kernel
theorem dX2_heatZones_45 : decode cX2_heatZones 45 = .ok (.aload_n 0, 1) := by decide +kernel
theorem dX2_heatZones_46 : decode cX2_heatZones 46 = .ok (.getfield 23, 3) := by decide +kernel
theorem dX2_heatZones_49 : decode cX2_heatZones 49 = .ok (.iload_n 1, 1) := by decide +kernel
theorem dX2_heatZones_50 : decode cX2_heatZones 50 = .ok (.iload_n 2, 1) := by decide +kernel
theorem dX2_heatZones_51 : decode cX2_heatZones 51 = .ok (.aload_n 0, 1) := by decide +kernel
theorem dX2_heatZones_52 : decode cX2_heatZones 52 = .ok (.getfield 19, 3) := by decide +kernel
theorem dX2_heatZones_55 : decode cX2_heatZones 55 = .ok (.iload_n 1, 1) := by decide +kernel
theorem dX2_heatZones_56 : decode cX2_heatZones 56 = .ok (.iaload, 1) := by decide +kernel
theorem dX2_heatZones_57 : decode cX2_heatZones 57 = .ok (.invokestatic 108, 3) := by decide +kernel
theorem dX2_heatZones_60 : decode cX2_heatZones 60 = .ok (.iastore, 1) := by decide +kernel
theorem dX2_heatZones_61 : decode cX2_heatZones 61 = .ok (.iinc 1 1, 3) := by decide +kernel
theorem dX2_heatZones_64 : decode cX2_heatZones 64 = .ok (.goto (-62), 3) := by decide +kernel
theorem dX2_heatZones_67 : decode cX2_heatZones 67 = .ok (.return_, 1) := by decide +kernel
theorem dX2_heatSheetIn_0 : decode cX2_heatSheetIn 0 = .ok (.aload_n 0, 1) := by decide +kernel
theorem dX2_heatSheetIn_1 : decode cX2_heatSheetIn 1 = .ok (.getfield 26, 3) := by decide +kernel
theorem dX2_heatSheetIn_4 : decode cX2_heatSheetIn 4 = .ok (.iload_n 1, 1) := by decide +kernel
theorem dX2_heatSheetIn_5 : decode cX2_heatSheetIn 5 = .ok (.iaload, 1) := by decide +kernel
theorem dX2_heatSheetIn_6 : decode cX2_heatSheetIn 6 = .ok (.istore_n 2, 1) := by decide +kernel
theorem dX2_heatSheetIn_7 : decode cX2_heatSheetIn 7 = .ok (.aload_n 0, 1) := by decide +kernel
theorem dX2_heatSheetIn_8 : decode cX2_heatSheetIn 8 = .ok (.iload_n 2, 1) := by decide +kernel
theorem dX2_heatSheetIn_9 : decode cX2_heatSheetIn 9 = .ok (.invokevirtual 114, 3) := by decide +kernel
theorem dX2_heatSheetIn_12 : decode cX2_heatSheetIn 12 = .ok (.ifCond .ne 4, 3) := by decide +kernel
theorem dX2_heatSheetIn_15 : decode cX2_heatSheetIn 15 = .ok (.return_, 1) := by decide +kernel
theorem dX2_heatSheetIn_16 : decode cX2_heatSheetIn 16 = .ok (.aload_n 0, 1) := by decide +kernel
theorem dX2_heatSheetIn_17 : decode cX2_heatSheetIn 17 = .ok (.getfield 23, 3) := by decide +kernel
theorem dX2_heatSheetIn_20 : decode cX2_heatSheetIn 20 = .ok (.iload_n 1, 1) := by decide +kernel
theorem dX2_heatSheetIn_21 : decode cX2_heatSheetIn 21 = .ok (.iaload, 1) := by decide +kernel
theorem dX2_heatSheetIn_22 : decode cX2_heatSheetIn 22 = .ok (.aload_n 0, 1) := by decide +kernel
theorem dX2_heatSheetIn_23 : decode cX2_heatSheetIn 23 = .ok (.getfield 32, 3) := by decide +kernel
theorem dX2_heatSheetIn_26 : decode cX2_heatSheetIn 26 = .ok (.iload_n 2, 1) := by decide +kernel
theorem dX2_heatSheetIn_27 : decode cX2_heatSheetIn 27 = .ok (.iaload, 1) := by decide +kernel
theorem dX2_heatSheetIn_28 : decode cX2_heatSheetIn 28 = .ok (.isub, 1) := by decide +kernel
theorem dX2_heatSheetIn_29 : decode cX2_heatSheetIn 29 = .ok (.istore_n 3, 1) := by decide +kernel
theorem dX2_heatSheetIn_30 : decode cX2_heatSheetIn 30 = .ok (.iload_n 3, 1) := by decide +kernel
theorem dX2_heatSheetIn_31 : decode cX2_heatSheetIn 31 = .ok (.ifCond .gt 4, 3) := by decide +kernel
theorem dX2_heatSheetIn_34 : decode cX2_heatSheetIn 34 = .ok (.return_, 1) := by decide +kernel
theorem dX2_heatSheetIn_35 : decode cX2_heatSheetIn 35 = .ok (.aload_n 0, 1) := by decide +kernel
theorem dX2_heatSheetIn_36 : decode cX2_heatSheetIn 36 = .ok (.getfield 29, 3) := by decide +kernel
theorem dX2_heatSheetIn_39 : decode cX2_heatSheetIn 39 = .ok (.iload_n 2, 1) := by decide +kernel
theorem dX2_heatSheetIn_40 : decode cX2_heatSheetIn 40 = .ok (.iaload, 1) := by decide +kernel
theorem dX2_heatSheetIn_41 : decode cX2_heatSheetIn 41 = .ok (.istore 4, 2) := by decide +kernel
theorem dX2_heatSheetIn_43 : decode cX2_heatSheetIn 43 = .ok (.aload_n 0, 1) := by decide +kernel
theorem dX2_heatSheetIn_44 : decode cX2_heatSheetIn 44 = .ok (.getfield 9, 3) := by decide +kernel
theorem dX2_heatSheetIn_47 : decode cX2_heatSheetIn 47 = .ok (.getfield 118, 3) := by decide +kernel
theorem dX2_heatSheetIn_50 : decode cX2_heatSheetIn 50 = .ok (.iload 4, 2) := by decide +kernel
theorem dX2_heatSheetIn_52 : decode cX2_heatSheetIn 52 = .ok (.iload_n 1, 1) := by decide +kernel
theorem dX2_heatSheetIn_53 : decode cX2_heatSheetIn 53 = .ok (.iload_n 3, 1) := by decide +kernel
theorem dX2_heatSheetIn_54 : decode cX2_heatSheetIn 54 = .ok (.invokevirtual 122, 3) := by decide +kernel
theorem dX2_heatSheetIn_57 : decode cX2_heatSheetIn 57 = .ok (.iconst 0, 1) := by decide +kernel
theorem dX2_heatSheetIn_58 : decode cX2_heatSheetIn 58 = .ok (.sipush 1000, 3) := by decide +kernel
theorem dX2_heatSheetIn_61 : decode cX2_heatSheetIn 61 = .ok (.invokestatic 128, 3) := by decide +kernel
theorem dX2_heatSheetIn_64 : decode cX2_heatSheetIn 64 = .ok (.istore 5, 2) := by decide +kernel
theorem dX2_heatSheetIn_66 : decode cX2_heatSheetIn 66 = .ok (.iload_n 3, 1) := by decide +kernel
theorem dX2_heatSheetIn_67 : decode cX2_heatSheetIn 67 = .ok (.iload 5, 2) := by decide +kernel
theorem dX2_heatSheetIn_69 : decode cX2_heatSheetIn 69 = .ok (.imul, 1) := by decide +kernel
theorem dX2_heatSheetIn_70 : decode cX2_heatSheetIn 70 = .ok (.sipush 1000, 3) := by decide +kernel
theorem dX2_heatSheetIn_73 : decode cX2_heatSheetIn 73 = .ok (.idiv, 1) := by decide +kernel
theorem dX2_heatSheetIn_74 : decode cX2_heatSheetIn 74 = .ok (.istore 6, 2) := by decide +kernel
theorem dX2_heatSheetIn_76 : decode cX2_heatSheetIn 76 = .ok (.aload_n 0, 1) := by decide +kernel
theorem dX2_heatSheetIn_77 : decode cX2_heatSheetIn 77 = .ok (.getfield 9, 3) := by decide +kernel
theorem dX2_heatSheetIn_80 : decode cX2_heatSheetIn 80 = .ok (.getfield 131, 3) := by decide +kernel
theorem dX2_heatSheetIn_83 : decode cX2_heatSheetIn 83 = .ok (.iload_n 1, 1) := by decide +kernel
theorem dX2_heatSheetIn_84 : decode cX2_heatSheetIn 84 = .ok (.iaload, 1) := by decide +kernel
theorem dX2_heatSheetIn_85 : decode cX2_heatSheetIn 85 = .ok (.istore 7, 2) := by decide +kernel
theorem dX2_heatSheetIn_87 : decode cX2_heatSheetIn 87 = .ok (.iload 7, 2) := by decide +kernel
theorem dX2_heatSheetIn_89 : decode cX2_heatSheetIn 89 = .ok (.ifCond .le 14, 3) := by decide +kernel
theorem dX2_heatSheetIn_92 : decode cX2_heatSheetIn 92 = .ok (.iload 6, 2) := by decide +kernel
theorem dX2_heatSheetIn_94 : decode cX2_heatSheetIn 94 = .ok (.iload 4, 2) := by decide +kernel
theorem dX2_heatSheetIn_96 : decode cX2_heatSheetIn 96 = .ok (.imul, 1) := by decide +kernel
theorem dX2_heatSheetIn_97 : decode cX2_heatSheetIn 97 = .ok (.iload 7, 2) := by decide +kernel
theorem dX2_heatSheetIn_99 : decode cX2_heatSheetIn 99 = .ok (.idiv, 1) := by decide +kernel
theorem dX2_heatSheetIn_100 : decode cX2_heatSheetIn 100 = .ok (.goto 4, 3) := by decide +kernel
theorem dX2_heatSheetIn_103 : decode cX2_heatSheetIn 103 = .ok (.iconst 0, 1) := by decide +kernel
theorem dX2_heatSheetIn_104 : decode cX2_heatSheetIn 104 = .ok (.istore 8, 2) := by decide +kernel
theorem dX2_heatSheetIn_106 : decode cX2_heatSheetIn 106 = .ok (.aload_n 0, 1) := by decide +kernel
theorem dX2_heatSheetIn_107 : decode cX2_heatSheetIn 107 = .ok (.getfield 32, 3) := by decide +kernel
theorem dX2_heatSheetIn_110 : decode cX2_heatSheetIn 110 = .ok (.iload_n 2, 1) := by decide +kernel
theorem dX2_heatSheetIn_111 : decode cX2_heatSheetIn 111 = .ok (.dup2, 1) := by decide +kernel
theorem dX2_heatSheetIn_112 : decode cX2_heatSheetIn 112 = .ok (.iaload, 1) := by decide +kernel
theorem dX2_heatSheetIn_113 : decode cX2_heatSheetIn 113 = .ok (.iload 6, 2) := by decide +kernel
theorem dX2_heatSheetIn_115 : decode cX2_heatSheetIn 115 = .ok (.iadd, 1) := by decide +kernel
theorem dX2_heatSheetIn_116 : decode cX2_heatSheetIn 116 = .ok (.iastore, 1) := by decide +kernel
theorem dX2_heatSheetIn_117 : decode cX2_heatSheetIn 117 = .ok (.aload_n 0, 1) := by decide +kernel
theorem dX2_heatSheetIn_118 : decode cX2_heatSheetIn 118 = .ok (.getfield 23, 3) := by decide +kernel
theorem dX2_heatSheetIn_121 : decode cX2_heatSheetIn 121 = .ok (.iload_n 1, 1) := by decide +kernel
theorem dX2_heatSheetIn_122 : decode cX2_heatSheetIn 122 = .ok (.bipush 20, 2) := by decide +kernel
theorem dX2_heatSheetIn_124 : decode cX2_heatSheetIn 124 = .ok (.aload_n 0, 1) := by decide +kernel
theorem dX2_heatSheetIn_125 : decode cX2_heatSheetIn 125 = .ok (.getfield 23, 3) := by decide +kernel
theorem dX2_heatSheetIn_128 : decode cX2_heatSheetIn 128 = .ok (.iload_n 1, 1) := by decide +kernel
theorem dX2_heatSheetIn_129 : decode cX2_heatSheetIn 129 = .ok (.iaload, 1) := by decide +kernel
theorem dX2_heatSheetIn_130 : decode cX2_heatSheetIn 130 = .ok (.iload 8, 2) := by decide +kernel
theorem dX2_heatSheetIn_132 : decode cX2_heatSheetIn 132 = .ok (.isub, 1) := by decide +kernel
theorem dX2_heatSheetIn_133 : decode cX2_heatSheetIn 133 = .ok (.invokestatic 134, 3) := by decide +kernel
theorem dX2_heatSheetIn_136 : decode cX2_heatSheetIn 136 = .ok (.iastore, 1) := by decide +kernel
theorem dX2_heatSheetIn_137 : decode cX2_heatSheetIn 137 = .ok (.return_, 1) := by decide +kernel
theorem dX2_quench_0 : decode cX2_quench 0 = .ok (.aload_n 0, 1) := by decide +kernel
theorem dX2_quench_1 : decode cX2_quench 1 = .ok (.aload_n 0, 1) := by decide +kernel
theorem dX2_quench_2 : decode cX2_quench 2 = .ok (.getfield 15, 3) := by decide +kernel
theorem dX2_quench_5 : decode cX2_quench 5 = .ok (.invokevirtual 114, 3) := by decide +kernel
theorem dX2_quench_8 : decode cX2_quench 8 = .ok (.ifCond .ne 5, 3) := by decide +kernel
theorem dX2_quench_11 : decode cX2_quench 11 = .ok (.iconst (-1), 1) := by decide +kernel
theorem dX2_quench_12 : decode cX2_quench 12 = .ok (.ireturn, 1) := by decide +kernel
theorem dX2_quench_13 : decode cX2_quench 13 = .ok (.aload_n 0, 1) := by decide +kernel
theorem dX2_quench_14 : decode cX2_quench 14 = .ok (.dup, 1) := by decide +kernel
theorem dX2_quench_15 : decode cX2_quench 15 = .ok (.getfield 65, 3) := by decide +kernel
theorem dX2_quench_18 : decode cX2_quench 18 = .ok (.iconst 1, 1) := by decide +kernel
theorem dX2_quench_19 : decode cX2_quench 19 = .ok (.isub, 1) := by decide +kernel
theorem dX2_quench_20 : decode cX2_quench 20 = .ok (.putfield 65, 3) := by decide +kernel
theorem dX2_quench_23 : decode cX2_quench 23 = .ok (.aload_n 0, 1) := by decide +kernel
theorem dX2_quench_24 : decode cX2_quench 24 = .ok (.getfield 65, 3) := by decide +kernel
theorem dX2_quench_27 : decode cX2_quench 27 = .ok (.ifCond .le 5, 3) := by decide +kernel
theorem dX2_quench_30 : decode cX2_quench 30 = .ok (.iconst (-1), 1) := by decide +kernel
theorem dX2_quench_31 : decode cX2_quench 31 = .ok (.ireturn, 1) := by decide +kernel
theorem dX2_quench_32 : decode cX2_quench 32 = .ok (.aload_n 0, 1) := by decide +kernel
theorem dX2_quench_33 : decode cX2_quench 33 = .ok (.getfield 15, 3) := by decide +kernel
theorem dX2_quench_36 : decode cX2_quench 36 = .ok (.istore_n 1, 1) := by decide +kernel
theorem dX2_quench_37 : decode cX2_quench 37 = .ok (.aload_n 0, 1) := by decide +kernel
theorem dX2_quench_38 : decode cX2_quench 38 = .ok (.iconst (-1), 1) := by decide +kernel
theorem dX2_quench_39 : decode cX2_quench 39 = .ok (.putfield 15, 3) := by decide +kernel
theorem dX2_quench_42 : decode cX2_quench 42 = .ok (.iload_n 1, 1) := by decide +kernel
theorem dX2_quench_43 : decode cX2_quench 43 = .ok (.ireturn, 1) := by decide +kernel
theorem dX2_judge_0 : decode cX2_judge 0 = .ok (.aload_n 0, 1) := by decide +kernel
theorem dX2_judge_1 : decode cX2_judge 1 = .ok (.getfield 29, 3) := by decide +kernel
theorem dX2_judge_4 : decode cX2_judge 4 = .ok (.iload_n 1, 1) := by decide +kernel
theorem dX2_judge_5 : decode cX2_judge 5 = .ok (.iaload, 1) := by decide +kernel
theorem dX2_judge_6 : decode cX2_judge 6 = .ok (.istore_n 2, 1) := by decide +kernel
theorem dX2_judge_7 : decode cX2_judge 7 = .ok (.iload_n 2, 1) := by decide +kernel
theorem dX2_judge_8 : decode cX2_judge 8 = .ok (.invokestatic 137, 3) := by decide +kernel
theorem dX2_judge_11 : decode cX2_judge 11 = .ok (.ifCond .ne 4, 3) := by decide +kernel
theorem dX2_judge_14 : decode cX2_judge 14 = .ok (.return_, 1) := by decide +kernel
theorem dX2_judge_15 : decode cX2_judge 15 = .ok (.aload_n 0, 1) := by decide +kernel
theorem dX2_judge_16 : decode cX2_judge 16 = .ok (.getfield 9, 3) := by decide +kernel
theorem dX2_judge_19 : decode cX2_judge 19 = .ok (.getfield 140, 3) := by decide +kernel
theorem dX2_judge_22 : decode cX2_judge 22 = .ok (.iload_n 2, 1) := by decide +kernel
theorem dX2_judge_23 : decode cX2_judge 23 = .ok (.iaload, 1) := by decide +kernel
theorem dX2_judge_24 : decode cX2_judge 24 = .ok (.istore_n 3, 1) := by decide +kernel
theorem dX2_judge_25 : decode cX2_judge 25 = .ok (.aload_n 0, 1) := by decide +kernel
theorem dX2_judge_26 : decode cX2_judge 26 = .ok (.getfield 9, 3) := by decide +kernel
theorem dX2_judge_29 : decode cX2_judge 29 = .ok (.getfield 143, 3) := by decide +kernel
theorem dX2_judge_32 : decode cX2_judge 32 = .ok (.iload_n 2, 1) := by decide +kernel
theorem dX2_judge_33 : decode cX2_judge 33 = .ok (.iaload, 1) := by decide +kernel
theorem dX2_judge_34 : decode cX2_judge 34 = .ok (.istore 4, 2) := by decide +kernel
theorem dX2_judge_36 : decode cX2_judge 36 = .ok (.aload_n 0, 1) := by decide +kernel
theorem dX2_judge_37 : decode cX2_judge 37 = .ok (.getfield 32, 3) := by decide +kernel
theorem dX2_judge_40 : decode cX2_judge 40 = .ok (.iload_n 1, 1) := by decide +kernel
theorem dX2_judge_41 : decode cX2_judge 41 = .ok (.iaload, 1) := by decide +kernel
theorem dX2_judge_42 : decode cX2_judge 42 = .ok (.istore 5, 2) := by decide +kernel
theorem dX2_judge_44 : decode cX2_judge 44 = .ok (.iload_n 3, 1) := by decide +kernel
theorem dX2_judge_45 : decode cX2_judge 45 = .ok (.iconst (-1), 1) := by decide +kernel
theorem dX2_judge_46 : decode cX2_judge 46 = .ok (.if_icmp .eq 41, 3) := by decide +kernel
theorem dX2_judge_49 : decode cX2_judge 49 = .ok (.iload 5, 2) := by decide +kernel
theorem dX2_judge_51 : decode cX2_judge 51 = .ok (.iload_n 3, 1) := by decide +kernel
theorem dX2_judge_52 : decode cX2_judge 52 = .ok (.if_icmp .ge 35, 3) := by decide +kernel
theorem dX2_judge_55 : decode cX2_judge 55 = .ok (.aload_n 0, 1) := by decide +kernel
theorem dX2_judge_56 : decode cX2_judge 56 = .ok (.getfield 35, 3) := by decide +kernel
theorem dX2_judge_59 : decode cX2_judge 59 = .ok (.iload_n 1, 1) := by decide +kernel
theorem dX2_judge_60 : decode cX2_judge 60 = .ok (.iconst 4, 1) := by decide +kernel
theorem dX2_judge_61 : decode cX2_judge 61 = .ok (.iastore, 1) := by decide +kernel
theorem dX2_judge_62 : decode cX2_judge 62 = .ok (.aload_n 0, 1) := by decide +kernel
theorem dX2_judge_63 : decode cX2_judge 63 = .ok (.getfield 41, 3) := by decide +kernel
theorem dX2_judge_66 : decode cX2_judge 66 = .ok (.iload_n 2, 1) := by decide +kernel
theorem dX2_judge_67 : decode cX2_judge 67 = .ok (.dup2, 1) := by decide +kernel
theorem dX2_judge_68 : decode cX2_judge 68 = .ok (.iaload, 1) := by decide +kernel
theorem dX2_judge_69 : decode cX2_judge 69 = .ok (.iconst 1, 1) := by decide +kernel
theorem dX2_judge_70 : decode cX2_judge 70 = .ok (.iadd, 1) := by decide +kernel
theorem dX2_judge_71 : decode cX2_judge 71 = .ok (.iastore, 1) := by decide +kernel
theorem dX2_judge_72 : decode cX2_judge 72 = .ok (.aload_n 0, 1) := by decide +kernel
theorem dX2_judge_73 : decode cX2_judge 73 = .ok (.iload_n 2, 1) := by decide +kernel
theorem dX2_judge_74 : decode cX2_judge 74 = .ok (.aload_n 0, 1) := by decide +kernel
theorem dX2_judge_75 : decode cX2_judge 75 = .ok (.getfield 9, 3) := by decide +kernel
theorem dX2_judge_78 : decode cX2_judge 78 = .ok (.getfield 146, 3) := by decide +kernel
theorem dX2_judge_81 : decode cX2_judge 81 = .ok (.invokevirtual 149, 3) := by decide +kernel
theorem dX2_judge_84 : decode cX2_judge 84 = .ok (.goto 66, 3) := by decide +kernel
theorem dX2_judge_87 : decode cX2_judge 87 = .ok (.iload 4, 2) := by decide +kernel
theorem dX2_judge_89 : decode cX2_judge 89 = .ok (.iconst (-1), 1) := by decide +kernel
theorem dX2_judge_90 : decode cX2_judge 90 = .ok (.if_icmp .eq 43, 3) := by decide +kernel
theorem dX2_judge_93 : decode cX2_judge 93 = .ok (.iload 5, 2) := by decide +kernel
theorem dX2_judge_95 : decode cX2_judge 95 = .ok (.iload 4, 2) := by decide +kernel
theorem dX2_judge_97 : decode cX2_judge 97 = .ok (.if_icmp .le 36, 3) := by decide +kernel
theorem dX2_judge_100 : decode cX2_judge 100 = .ok (.aload_n 0, 1) := by decide +kernel
theorem dX2_judge_101 : decode cX2_judge 101 = .ok (.getfield 35, 3) := by decide +kernel
theorem dX2_judge_104 : decode cX2_judge 104 = .ok (.iload_n 1, 1) := by decide +kernel
theorem dX2_judge_105 : decode cX2_judge 105 = .ok (.iconst 4, 1) := by decide +kernel
theorem dX2_judge_106 : decode cX2_judge 106 = .ok (.iastore, 1) := by decide +kernel
theorem dX2_judge_107 : decode cX2_judge 107 = .ok (.aload_n 0, 1) := by decide +kernel
theorem dX2_judge_108 : decode cX2_judge 108 = .ok (.getfield 44, 3) := by decide +kernel
theorem dX2_judge_111 : decode cX2_judge 111 = .ok (.iload_n 2, 1) := by decide +kernel
theorem dX2_judge_112 : decode cX2_judge 112 = .ok (.dup2, 1) := by decide +kernel
theorem dX2_judge_113 : decode cX2_judge 113 = .ok (.iaload, 1) := by decide +kernel
theorem dX2_judge_114 : decode cX2_judge 114 = .ok (.iconst 1, 1) := by decide +kernel
theorem dX2_judge_115 : decode cX2_judge 115 = .ok (.iadd, 1) := by decide +kernel
theorem dX2_judge_116 : decode cX2_judge 116 = .ok (.iastore, 1) := by decide +kernel
theorem dX2_judge_117 : decode cX2_judge 117 = .ok (.aload_n 0, 1) := by decide +kernel
theorem dX2_judge_118 : decode cX2_judge 118 = .ok (.iload_n 2, 1) := by decide +kernel
theorem dX2_judge_119 : decode cX2_judge 119 = .ok (.aload_n 0, 1) := by decide +kernel
theorem dX2_judge_120 : decode cX2_judge 120 = .ok (.getfield 9, 3) := by decide +kernel
theorem dX2_judge_123 : decode cX2_judge 123 = .ok (.getfield 146, 3) := by decide +kernel
theorem dX2_judge_126 : decode cX2_judge 126 = .ok (.ineg, 1) := by decide +kernel
theorem dX2_judge_127 : decode cX2_judge 127 = .ok (.invokevirtual 149, 3) := by decide +kernel
theorem dX2_judge_130 : decode cX2_judge 130 = .ok (.goto 20, 3) := by decide +kernel
theorem dX2_judge_133 : decode cX2_judge 133 = .ok (.aload_n 0, 1) := by decide +kernel
theorem dX2_judge_134 : decode cX2_judge 134 = .ok (.getfield 35, 3) := by decide +kernel
theorem dX2_judge_137 : decode cX2_judge 137 = .ok (.iload_n 1, 1) := by decide +kernel
theorem dX2_judge_138 : decode cX2_judge 138 = .ok (.iconst 3, 1) := by decide +kernel
theorem dX2_judge_139 : decode cX2_judge 139 = .ok (.iastore, 1) := by decide +kernel
theorem dX2_judge_140 : decode cX2_judge 140 = .ok (.aload_n 0, 1) := by decide +kernel
theorem dX2_judge_141 : decode cX2_judge 141 = .ok (.getfield 38, 3) := by decide +kernel
theorem dX2_judge_144 : decode cX2_judge 144 = .ok (.iload_n 2, 1) := by decide +kernel
theorem dX2_judge_145 : decode cX2_judge 145 = .ok (.dup2, 1) := by decide +kernel
theorem dX2_judge_146 : decode cX2_judge 146 = .ok (.iaload, 1) := by decide +kernel
theorem dX2_judge_147 : decode cX2_judge 147 = .ok (.iconst 1, 1) := by decide +kernel
theorem dX2_judge_148 : decode cX2_judge 148 = .ok (.iadd, 1) := by decide +kernel
theorem dX2_judge_149 : decode cX2_judge 149 = .ok (.iastore, 1) := by decide +kernel
theorem dX2_judge_150 : decode cX2_judge 150 = .ok (.return_, 1) := by decide +kernel
theorem dX2_learn_0 : decode cX2_learn 0 = .ok (.aload_n 0, 1) := by decide +kernel
theorem dX2_learn_1 : decode cX2_learn 1 = .ok (.getfield 47, 3) := by decide +kernel
theorem dX2_learn_4 : decode cX2_learn 4 = .ok (.iload_n 1, 1) := by decide +kernel
theorem dX2_learn_5 : decode cX2_learn 5 = .ok (.aload_n 0, 1) := by decide +kernel
theorem dX2_learn_6 : decode cX2_learn 6 = .ok (.getfield 47, 3) := by decide +kernel
theorem dX2_learn_9 : decode cX2_learn 9 = .ok (.iload_n 1, 1) := by decide +kernel
theorem dX2_learn_10 : decode cX2_learn 10 = .ok (.iaload, 1) := by decide +kernel
theorem dX2_learn_11 : decode cX2_learn 11 = .ok (.iload_n 2, 1) := by decide +kernel
theorem dX2_learn_12 : decode cX2_learn 12 = .ok (.iadd, 1) := by decide +kernel
theorem dX2_learn_13 : decode cX2_learn 13 = .ok (.bipush (-50), 2) := by decide +kernel
theorem dX2_learn_15 : decode cX2_learn 15 = .ok (.bipush 50, 2) := by decide +kernel
theorem dX2_learn_17 : decode cX2_learn 17 = .ok (.invokestatic 128, 3) := by decide +kernel
theorem dX2_learn_20 : decode cX2_learn 20 = .ok (.iastore, 1) := by decide +kernel
theorem dX2_learn_21 : decode cX2_learn 21 = .ok (.return_, 1) := by decide +kernel
theorem dX2_moveSheetFrom_0 : decode cX2_moveSheetFrom 0 = .ok (.aload_n 0, 1) := by decide +kernel
theorem dX2_moveSheetFrom_1 : decode cX2_moveSheetFrom 1 = .ok (.getfield 26, 3) := by decide +kernel
theorem dX2_moveSheetFrom_4 : decode cX2_moveSheetFrom 4 = .ok (.iload_n 1, 1) := by decide +kernel
theorem dX2_moveSheetFrom_5 : decode cX2_moveSheetFrom 5 = .ok (.iaload, 1) := by decide +kernel
theorem dX2_moveSheetFrom_6 : decode cX2_moveSheetFrom 6 = .ok (.istore_n 2, 1) := by decide +kernel
theorem dX2_moveSheetFrom_7 : decode cX2_moveSheetFrom 7 = .ok (.aload_n 0, 1) := by decide +kernel
theorem dX2_moveSheetFrom_8 : decode cX2_moveSheetFrom 8 = .ok (.iload_n 2, 1) := by decide +kernel
theorem dX2_moveSheetFrom_9 : decode cX2_moveSheetFrom 9 = .ok (.invokevirtual 114, 3) := by decide +kernel
theorem dX2_moveSheetFrom_12 : decode cX2_moveSheetFrom 12 = .ok (.ifCond .ne 4, 3) := by decide +kernel
theorem dX2_moveSheetFrom_15 : decode cX2_moveSheetFrom 15 = .ok (.return_, 1) := by decide +kernel
theorem dX2_moveSheetFrom_16 : decode cX2_moveSheetFrom 16 = .ok (.iload_n 1, 1) := by decide +kernel
theorem dX2_moveSheetFrom_17 : decode cX2_moveSheetFrom 17 = .ok (.aload_n 0, 1) := by decide +kernel
theorem dX2_moveSheetFrom_18 : decode cX2_moveSheetFrom 18 = .ok (.getfield 9, 3) := by decide +kernel
theorem dX2_moveSheetFrom_21 : decode cX2_moveSheetFrom 21 = .ok (.getfield 50, 3) := by decide +kernel
theorem dX2_moveSheetFrom_24 : decode cX2_moveSheetFrom 24 = .ok (.iconst 1, 1) := by decide +kernel
theorem dX2_moveSheetFrom_25 : decode cX2_moveSheetFrom 25 = .ok (.isub, 1) := by decide +kernel
theorem dX2_moveSheetFrom_26 : decode cX2_moveSheetFrom 26 = .ok (.if_icmp .ne 7, 3) := by decide +kernel
theorem dX2_moveSheetFrom_29 : decode cX2_moveSheetFrom 29 = .ok (.iconst 1, 1) := by decide +kernel
theorem dX2_moveSheetFrom_30 : decode cX2_moveSheetFrom 30 = .ok (.goto 4, 3) := by decide +kernel
theorem dX2_moveSheetFrom_33 : decode cX2_moveSheetFrom 33 = .ok (.iconst 0, 1) := by decide +kernel
theorem dX2_moveSheetFrom_34 : decode cX2_moveSheetFrom 34 = .ok (.istore_n 3, 1) := by decide +kernel
theorem dX2_moveSheetFrom_35 : decode cX2_moveSheetFrom 35 = .ok (.iload_n 3, 1) := by decide +kernel
theorem dX2_moveSheetFrom_36 : decode cX2_moveSheetFrom 36 = .ok (.ifCond .eq 16, 3) := by decide +kernel
theorem dX2_moveSheetFrom_39 : decode cX2_moveSheetFrom 39 = .ok (.aload_n 0, 1) := by decide +kernel
theorem dX2_moveSheetFrom_40 : decode cX2_moveSheetFrom 40 = .ok (.aload_n 0, 1) := by decide +kernel
theorem dX2_moveSheetFrom_41 : decode cX2_moveSheetFrom 41 = .ok (.getfield 29, 3) := by decide +kernel
theorem dX2_moveSheetFrom_44 : decode cX2_moveSheetFrom 44 = .ok (.iload_n 2, 1) := by decide +kernel
theorem dX2_moveSheetFrom_45 : decode cX2_moveSheetFrom 45 = .ok (.iaload, 1) := by decide +kernel
theorem dX2_moveSheetFrom_46 : decode cX2_moveSheetFrom 46 = .ok (.invokevirtual 153, 3) := by decide +kernel
theorem dX2_moveSheetFrom_49 : decode cX2_moveSheetFrom 49 = .ok (.goto 4, 3) := by decide +kernel
theorem dX2_moveSheetFrom_52 : decode cX2_moveSheetFrom 52 = .ok (.iconst 0, 1) := by decide +kernel
theorem dX2_moveSheetFrom_53 : decode cX2_moveSheetFrom 53 = .ok (.istore 4, 2) := by decide +kernel
theorem dX2_moveSheetFrom_55 : decode cX2_moveSheetFrom 55 = .ok (.aload_n 0, 1) := by decide +kernel
theorem dX2_moveSheetFrom_56 : decode cX2_moveSheetFrom 56 = .ok (.getfield 32, 3) := by decide +kernel
theorem dX2_moveSheetFrom_59 : decode cX2_moveSheetFrom 59 = .ok (.iload_n 2, 1) := by decide +kernel
theorem dX2_moveSheetFrom_60 : decode cX2_moveSheetFrom 60 = .ok (.iaload, 1) := by decide +kernel
theorem dX2_moveSheetFrom_61 : decode cX2_moveSheetFrom 61 = .ok (.istore 5, 2) := by decide +kernel
theorem dX2_moveSheetFrom_63 : decode cX2_moveSheetFrom 63 = .ok (.iload 5, 2) := by decide +kernel
theorem dX2_moveSheetFrom_65 : decode cX2_moveSheetFrom 65 = .ok (.aload_n 0, 1) := by decide +kernel
theorem dX2_moveSheetFrom_66 : decode cX2_moveSheetFrom 66 = .ok (.getfield 9, 3) := by decide +kernel
theorem dX2_moveSheetFrom_69 : decode cX2_moveSheetFrom 69 = .ok (.getfield 156, 3) := by decide +kernel
theorem dX2_moveSheetFrom_72 : decode cX2_moveSheetFrom 72 = .ok (.iload_n 1, 1) := by decide +kernel
theorem dX2_moveSheetFrom_73 : decode cX2_moveSheetFrom 73 = .ok (.iaload, 1) := by decide +kernel
theorem dX2_moveSheetFrom_74 : decode cX2_moveSheetFrom 74 = .ok (.iload 4, 2) := by decide +kernel
theorem dX2_moveSheetFrom_76 : decode cX2_moveSheetFrom 76 = .ok (.iadd, 1) := by decide +kernel
theorem dX2_moveSheetFrom_77 : decode cX2_moveSheetFrom 77 = .ok (.if_icmp .le 11, 3) := by decide +kernel
theorem dX2_moveSheetFrom_80 : decode cX2_moveSheetFrom 80 = .ok (.aload_n 0, 1) := by decide +kernel
theorem dX2_moveSheetFrom_81 : decode cX2_moveSheetFrom 81 = .ok (.iload_n 2, 1) := by decide +kernel
theorem dX2_moveSheetFrom_82 : decode cX2_moveSheetFrom 82 = .ok (.invokevirtual 159, 3) := by decide +kernel
theorem dX2_moveSheetFrom_85 : decode cX2_moveSheetFrom 85 = .ok (.goto 39, 3) := by decide +kernel
theorem dX2_moveSheetFrom_88 : decode cX2_moveSheetFrom 88 = .ok (.iload 5, 2) := by decide +kernel
theorem dX2_moveSheetFrom_90 : decode cX2_moveSheetFrom 90 = .ok (.aload_n 0, 1) := by decide +kernel
theorem dX2_moveSheetFrom_91 : decode cX2_moveSheetFrom 91 = .ok (.getfield 9, 3) := by decide +kernel
theorem dX2_moveSheetFrom_94 : decode cX2_moveSheetFrom 94 = .ok (.getfield 162, 3) := by decide +kernel
theorem dX2_moveSheetFrom_97 : decode cX2_moveSheetFrom 97 = .ok (.iload_n 1, 1) := by decide +kernel
theorem dX2_moveSheetFrom_98 : decode cX2_moveSheetFrom 98 = .ok (.iaload, 1) := by decide +kernel
theorem dX2_moveSheetFrom_99 : decode cX2_moveSheetFrom 99 = .ok (.iload 4, 2) := by decide +kernel
theorem dX2_moveSheetFrom_101 : decode cX2_moveSheetFrom 101 = .ok (.iadd, 1) := by decide +kernel
theorem dX2_moveSheetFrom_102 : decode cX2_moveSheetFrom 102 = .ok (.if_icmp .lt 22, 3) := by decide +kernel
theorem dX2_moveSheetFrom_105 : decode cX2_moveSheetFrom 105 = .ok (.iload_n 3, 1) := by decide +kernel
theorem dX2_moveSheetFrom_106 : decode cX2_moveSheetFrom 106 = .ok (.ifCond .eq 12, 3) := by decide +kernel
theorem dX2_moveSheetFrom_109 : decode cX2_moveSheetFrom 109 = .ok (.aload_n 0, 1) := by decide +kernel
theorem dX2_moveSheetFrom_110 : decode cX2_moveSheetFrom 110 = .ok (.iload_n 1, 1) := by decide +kernel
theorem dX2_moveSheetFrom_111 : decode cX2_moveSheetFrom 111 = .ok (.iload_n 2, 1) := by decide +kernel
theorem dX2_moveSheetFrom_112 : decode cX2_moveSheetFrom 112 = .ok (.invokevirtual 165, 3) := by decide +kernel
theorem dX2_moveSheetFrom_115 : decode cX2_moveSheetFrom 115 = .ok (.goto 9, 3) := by decide +kernel
theorem dX2_moveSheetFrom_118 : decode cX2_moveSheetFrom 118 = .ok (.aload_n 0, 1) := by decide +kernel
theorem dX2_moveSheetFrom_119 : decode cX2_moveSheetFrom 119 = .ok (.iload_n 1, 1) := by decide +kernel
theorem dX2_moveSheetFrom_120 : decode cX2_moveSheetFrom 120 = .ok (.iload_n 2, 1) := by decide +kernel
theorem dX2_moveSheetFrom_121 : decode cX2_moveSheetFrom 121 = .ok (.invokevirtual 168, 3) := by decide +kernel
theorem dX2_moveSheetFrom_124 : decode cX2_moveSheetFrom 124 = .ok (.return_, 1) := by decide +kernel
theorem dX2_correctionFor_0 : decode cX2_correctionFor 0 = .ok (.iload_n 1, 1) := by decide +kernel
theorem dX2_correctionFor_1 : decode cX2_correctionFor 1 = .ok (.invokestatic 137, 3) := by decide +kernel
theorem dX2_correctionFor_4 : decode cX2_correctionFor 4 = .ok (.ifCond .eq 12, 3) := by decide +kernel
theorem dX2_correctionFor_7 : decode cX2_correctionFor 7 = .ok (.aload_n 0, 1) := by decide +kernel
theorem dX2_correctionFor_8 : decode cX2_correctionFor 8 = .ok (.getfield 47, 3) := by decide +kernel
theorem dX2_correctionFor_11 : decode cX2_correctionFor 11 = .ok (.iload_n 1, 1) := by decide +kernel
theorem dX2_correctionFor_12 : decode cX2_correctionFor 12 = .ok (.iaload, 1) := by decide +kernel
theorem dX2_correctionFor_13 : decode cX2_correctionFor 13 = .ok (.goto 4, 3) := by decide +kernel
theorem dX2_correctionFor_16 : decode cX2_correctionFor 16 = .ok (.iconst 0, 1) := by decide +kernel
theorem dX2_correctionFor_17 : decode cX2_correctionFor 17 = .ok (.ireturn, 1) := by decide +kernel
theorem dX2_moveToQuench_0 : decode cX2_moveToQuench 0 = .ok (.aload_n 0, 1) := by decide +kernel
theorem dX2_moveToQuench_1 : decode cX2_moveToQuench 1 = .ok (.getfield 15, 3) := by decide +kernel
theorem dX2_moveToQuench_4 : decode cX2_moveToQuench 4 = .ok (.iconst (-1), 1) := by decide +kernel
theorem dX2_moveToQuench_5 : decode cX2_moveToQuench 5 = .ok (.if_icmp .ne 40, 3) := by decide +kernel
theorem dX2_moveToQuench_8 : decode cX2_moveToQuench 8 = .ok (.aload_n 0, 1) := by decide +kernel
theorem dX2_moveToQuench_9 : decode cX2_moveToQuench 9 = .ok (.getfield 26, 3) := by decide +kernel
theorem dX2_moveToQuench_12 : decode cX2_moveToQuench 12 = .ok (.iload_n 1, 1) := by decide +kernel
theorem dX2_moveToQuench_13 : decode cX2_moveToQuench 13 = .ok (.iconst (-1), 1) := by decide +kernel
theorem dX2_moveToQuench_14 : decode cX2_moveToQuench 14 = .ok (.iastore, 1) := by decide +kernel
theorem dX2_moveToQuench_15 : decode cX2_moveToQuench 15 = .ok (.aload_n 0, 1) := by decide +kernel
theorem dX2_moveToQuench_16 : decode cX2_moveToQuench 16 = .ok (.iload_n 2, 1) := by decide +kernel
theorem dX2_moveToQuench_17 : decode cX2_moveToQuench 17 = .ok (.putfield 15, 3) := by decide +kernel
theorem dX2_moveToQuench_20 : decode cX2_moveToQuench 20 = .ok (.aload_n 0, 1) := by decide +kernel
theorem dX2_moveToQuench_21 : decode cX2_moveToQuench 21 = .ok (.aload_n 0, 1) := by decide +kernel
theorem dX2_moveToQuench_22 : decode cX2_moveToQuench 22 = .ok (.getfield 29, 3) := by decide +kernel
theorem dX2_moveToQuench_25 : decode cX2_moveToQuench 25 = .ok (.iload_n 2, 1) := by decide +kernel
theorem dX2_moveToQuench_26 : decode cX2_moveToQuench 26 = .ok (.iaload, 1) := by decide +kernel
theorem dX2_moveToQuench_27 : decode cX2_moveToQuench 27 = .ok (.aload_n 0, 1) := by decide +kernel
theorem dX2_moveToQuench_28 : decode cX2_moveToQuench 28 = .ok (.getfield 9, 3) := by decide +kernel
theorem dX2_moveToQuench_31 : decode cX2_moveToQuench 31 = .ok (.getfield 171, 3) := by decide +kernel
theorem dX2_moveToQuench_34 : decode cX2_moveToQuench 34 = .ok (.imul, 1) := by decide +kernel
theorem dX2_moveToQuench_35 : decode cX2_moveToQuench 35 = .ok (.putfield 65, 3) := by decide +kernel
theorem dX2_moveToQuench_38 : decode cX2_moveToQuench 38 = .ok (.aload_n 0, 1) := by decide +kernel
theorem dX2_moveToQuench_39 : decode cX2_moveToQuench 39 = .ok (.getfield 35, 3) := by decide +kernel
theorem dX2_moveToQuench_42 : decode cX2_moveToQuench 42 = .ok (.iload_n 2, 1) := by decide +kernel
theorem dX2_moveToQuench_43 : decode cX2_moveToQuench 43 = .ok (.iconst 2, 1) := by decide +kernel
theorem dX2_moveToQuench_44 : decode cX2_moveToQuench 44 = .ok (.iastore, 1) := by decide +kernel
theorem dX2_moveToQuench_45 : decode cX2_moveToQuench 45 = .ok (.return_, 1) := by decide +kernel
theorem dX2_moveToNext_0 : decode cX2_moveToNext 0 = .ok (.iload_n 1, 1) := by decide +kernel
theorem dX2_moveToNext_1 : decode cX2_moveToNext 1 = .ok (.iconst 1, 1) := by decide +kernel
theorem dX2_moveToNext_2 : decode cX2_moveToNext 2 = .ok (.iadd, 1) := by decide +kernel
theorem dX2_moveToNext_3 : decode cX2_moveToNext 3 = .ok (.istore_n 3, 1) := by decide +kernel
theorem dX2_moveToNext_4 : decode cX2_moveToNext 4 = .ok (.iload_n 3, 1) := by decide +kernel
theorem dX2_moveToNext_5 : decode cX2_moveToNext 5 = .ok (.aload_n 0, 1) := by decide +kernel
theorem dX2_moveToNext_6 : decode cX2_moveToNext 6 = .ok (.getfield 9, 3) := by decide +kernel
theorem dX2_moveToNext_9 : decode cX2_moveToNext 9 = .ok (.getfield 50, 3) := by decide +kernel
theorem dX2_moveToNext_12 : decode cX2_moveToNext 12 = .ok (.if_icmp .ge 27, 3) := by decide +kernel
theorem dX2_moveToNext_15 : decode cX2_moveToNext 15 = .ok (.aload_n 0, 1) := by decide +kernel
theorem dX2_moveToNext_16 : decode cX2_moveToNext 16 = .ok (.getfield 26, 3) := by decide +kernel
theorem dX2_moveToNext_19 : decode cX2_moveToNext 19 = .ok (.iload_n 3, 1) := by decide +kernel
theorem dX2_moveToNext_20 : decode cX2_moveToNext 20 = .ok (.iaload, 1) := by decide +kernel
theorem dX2_moveToNext_21 : decode cX2_moveToNext 21 = .ok (.iconst (-1), 1) := by decide +kernel
theorem dX2_moveToNext_22 : decode cX2_moveToNext 22 = .ok (.if_icmp .ne 17, 3) := by decide +kernel
theorem dX2_moveToNext_25 : decode cX2_moveToNext 25 = .ok (.aload_n 0, 1) := by decide +kernel
theorem dX2_moveToNext_26 : decode cX2_moveToNext 26 = .ok (.getfield 26, 3) := by decide +kernel
theorem dX2_moveToNext_29 : decode cX2_moveToNext 29 = .ok (.iload_n 1, 1) := by decide +kernel
theorem dX2_moveToNext_30 : decode cX2_moveToNext 30 = .ok (.iconst (-1), 1) := by decide +kernel
theorem dX2_moveToNext_31 : decode cX2_moveToNext 31 = .ok (.iastore, 1) := by decide +kernel
theorem dX2_moveToNext_32 : decode cX2_moveToNext 32 = .ok (.aload_n 0, 1) := by decide +kernel
theorem dX2_moveToNext_33 : decode cX2_moveToNext 33 = .ok (.getfield 26, 3) := by decide +kernel
theorem dX2_moveToNext_36 : decode cX2_moveToNext 36 = .ok (.iload_n 3, 1) := by decide +kernel
theorem dX2_moveToNext_37 : decode cX2_moveToNext 37 = .ok (.iload_n 2, 1) := by decide +kernel
theorem dX2_moveToNext_38 : decode cX2_moveToNext 38 = .ok (.iastore, 1) := by decide +kernel
theorem dX2_moveToNext_39 : decode cX2_moveToNext 39 = .ok (.return_, 1) := by decide +kernel
theorem dX2_fillFirstZone_0 : decode cX2_fillFirstZone 0 = .ok (.aload_n 0, 1) := by decide +kernel
theorem dX2_fillFirstZone_1 : decode cX2_fillFirstZone 1 = .ok (.invokevirtual 174, 3) := by decide +kernel
theorem dX2_fillFirstZone_4 : decode cX2_fillFirstZone 4 = .ok (.ifCond .eq 13, 3) := by decide +kernel
theorem dX2_fillFirstZone_7 : decode cX2_fillFirstZone 7 = .ok (.aload_n 0, 1) := by decide +kernel
theorem dX2_fillFirstZone_8 : decode cX2_fillFirstZone 8 = .ok (.getfield 26, 3) := by decide +kernel
theorem dX2_fillFirstZone_11 : decode cX2_fillFirstZone 11 = .ok (.iconst 0, 1) := by decide +kernel
theorem dX2_fillFirstZone_12 : decode cX2_fillFirstZone 12 = .ok (.iaload, 1) := by decide +kernel
theorem dX2_fillFirstZone_13 : decode cX2_fillFirstZone 13 = .ok (.iconst (-1), 1) := by decide +kernel
theorem dX2_fillFirstZone_14 : decode cX2_fillFirstZone 14 = .ok (.if_icmp .eq 4, 3) := by decide +kernel
theorem dX2_fillFirstZone_17 : decode cX2_fillFirstZone 17 = .ok (.return_, 1) := by decide +kernel
theorem dX2_fillFirstZone_18 : decode cX2_fillFirstZone 18 = .ok (.iconst 0, 1) := by decide +kernel
theorem dX2_fillFirstZone_19 : decode cX2_fillFirstZone 19 = .ok (.istore_n 1, 1) := by decide +kernel
theorem dX2_fillFirstZone_20 : decode cX2_fillFirstZone 20 = .ok (.iload_n 1, 1) := by decide +kernel
theorem dX2_fillFirstZone_21 : decode cX2_fillFirstZone 21 = .ok (.aload_n 0, 1) := by decide +kernel
theorem dX2_fillFirstZone_22 : decode cX2_fillFirstZone 22 = .ok (.getfield 55, 3) := by decide +kernel
theorem dX2_fillFirstZone_25 : decode cX2_fillFirstZone 25 = .ok (.if_icmp .ge 33, 3) := by decide +kernel
theorem dX2_fillFirstZone_28 : decode cX2_fillFirstZone 28 = .ok (.aload_n 0, 1) := by decide +kernel
theorem dX2_fillFirstZone_29 : decode cX2_fillFirstZone 29 = .ok (.getfield 35, 3) := by decide +kernel
theorem dX2_fillFirstZone_32 : decode cX2_fillFirstZone 32 = .ok (.iload_n 1, 1) := by decide +kernel
theorem dX2_fillFirstZone_33 : decode cX2_fillFirstZone 33 = .ok (.iaload, 1) := by decide +kernel
theorem dX2_fillFirstZone_34 : decode cX2_fillFirstZone 34 = .ok (.ifCond .ne 18, 3) := by decide +kernel
theorem dX2_fillFirstZone_37 : decode cX2_fillFirstZone 37 = .ok (.aload_n 0, 1) := by decide +kernel
theorem dX2_fillFirstZone_38 : decode cX2_fillFirstZone 38 = .ok (.getfield 35, 3) := by decide +kernel
theorem dX2_fillFirstZone_41 : decode cX2_fillFirstZone 41 = .ok (.iload_n 1, 1) := by decide +kernel
theorem dX2_fillFirstZone_42 : decode cX2_fillFirstZone 42 = .ok (.iconst 1, 1) := by decide +kernel
theorem dX2_fillFirstZone_43 : decode cX2_fillFirstZone 43 = .ok (.iastore, 1) := by decide +kernel
theorem dX2_fillFirstZone_44 : decode cX2_fillFirstZone 44 = .ok (.aload_n 0, 1) := by decide +kernel
theorem dX2_fillFirstZone_45 : decode cX2_fillFirstZone 45 = .ok (.getfield 26, 3) := by decide +kernel
theorem dX2_fillFirstZone_48 : decode cX2_fillFirstZone 48 = .ok (.iconst 0, 1) := by decide +kernel
theorem dX2_fillFirstZone_49 : decode cX2_fillFirstZone 49 = .ok (.iload_n 1, 1) := by decide +kernel
theorem dX2_fillFirstZone_50 : decode cX2_fillFirstZone 50 = .ok (.iastore, 1) := by decide +kernel
theorem dX2_fillFirstZone_51 : decode cX2_fillFirstZone 51 = .ok (.return_, 1) := by decide +kernel
theorem dX2_fillFirstZone_52 : decode cX2_fillFirstZone 52 = .ok (.iinc 1 1, 3) := by decide +kernel
theorem dX2_fillFirstZone_55 : decode cX2_fillFirstZone 55 = .ok (.goto (-35), 3) := by decide +kernel
theorem dX2_fillFirstZone_58 : decode cX2_fillFirstZone 58 = .ok (.return_, 1) := by decide +kernel
theorem dX2_spoil_0 : decode cX2_spoil 0 = .ok (.aload_n 0, 1) := by decide +kernel
theorem dX2_spoil_1 : decode cX2_spoil 1 = .ok (.getfield 35, 3) := by decide +kernel
theorem dX2_spoil_4 : decode cX2_spoil 4 = .ok (.iload_n 1, 1) := by decide +kernel
theorem dX2_spoil_5 : decode cX2_spoil 5 = .ok (.iconst 5, 1) := by decide +kernel
theorem dX2_spoil_6 : decode cX2_spoil 6 = .ok (.iastore, 1) := by decide +kernel
theorem dX2_spoil_7 : decode cX2_spoil 7 = .ok (.iconst 0, 1) := by decide +kernel
theorem dX2_spoil_8 : decode cX2_spoil 8 = .ok (.istore_n 2, 1) := by decide +kernel
theorem dX2_spoil_9 : decode cX2_spoil 9 = .ok (.iload_n 2, 1) := by decide +kernel
theorem dX2_spoil_10 : decode cX2_spoil 10 = .ok (.aload_n 0, 1) := by decide +kernel
theorem dX2_spoil_11 : decode cX2_spoil 11 = .ok (.getfield 9, 3) := by decide +kernel
theorem dX2_spoil_14 : decode cX2_spoil 14 = .ok (.getfield 50, 3) := by decide +kernel
theorem dX2_spoil_17 : decode cX2_spoil 17 = .ok (.if_icmp .ge 26, 3) := by decide +kernel
theorem dX2_spoil_20 : decode cX2_spoil 20 = .ok (.aload_n 0, 1) := by decide +kernel
theorem dX2_spoil_21 : decode cX2_spoil 21 = .ok (.getfield 26, 3) := by decide +kernel
theorem dX2_spoil_24 : decode cX2_spoil 24 = .ok (.iload_n 2, 1) := by decide +kernel
theorem dX2_spoil_25 : decode cX2_spoil 25 = .ok (.iaload, 1) := by decide +kernel
theorem dX2_spoil_26 : decode cX2_spoil 26 = .ok (.iload_n 1, 1) := by decide +kernel
theorem dX2_spoil_27 : decode cX2_spoil 27 = .ok (.if_icmp .ne 10, 3) := by decide +kernel
theorem dX2_spoil_30 : decode cX2_spoil 30 = .ok (.aload_n 0, 1) := by decide +kernel
theorem dX2_spoil_31 : decode cX2_spoil 31 = .ok (.getfield 26, 3) := by decide +kernel
theorem dX2_spoil_34 : decode cX2_spoil 34 = .ok (.iload_n 2, 1) := by decide +kernel
theorem dX2_spoil_35 : decode cX2_spoil 35 = .ok (.iconst (-1), 1) := by decide +kernel
theorem dX2_spoil_36 : decode cX2_spoil 36 = .ok (.iastore, 1) := by decide +kernel
theorem dX2_spoil_37 : decode cX2_spoil 37 = .ok (.iinc 2 1, 3) := by decide +kernel
theorem dX2_spoil_40 : decode cX2_spoil 40 = .ok (.goto (-31), 3) := by decide +kernel
theorem dX2_spoil_43 : decode cX2_spoil 43 = .ok (.return_, 1) := by decide +kernel
theorem dX2_digest_0 : decode cX2_digest 0 = .ok (.aload_n 0, 1) := by decide +kernel
theorem dX2_digest_1 : decode cX2_digest 1 = .ok (.getfield 58, 3) := by decide +kernel
theorem dX2_digest_4 : decode cX2_digest 4 = .ok (.i2l, 1) := by decide +kernel
theorem dX2_digest_5 : decode cX2_digest 5 = .ok (.lstore_n 1, 1) := by decide +kernel
theorem dX2_digest_6 : decode cX2_digest 6 = .ok (.iconst 0, 1) := by decide +kernel
theorem dX2_digest_7 : decode cX2_digest 7 = .ok (.istore_n 3, 1) := by decide +kernel
theorem dX2_digest_8 : decode cX2_digest 8 = .ok (.iload_n 3, 1) := by decide +kernel
theorem dX2_digest_9 : decode cX2_digest 9 = .ok (.aload_n 0, 1) := by decide +kernel
theorem dX2_digest_10 : decode cX2_digest 10 = .ok (.getfield 9, 3) := by decide +kernel
theorem dX2_digest_13 : decode cX2_digest 13 = .ok (.getfield 50, 3) := by decide +kernel
theorem dX2_digest_16 : decode cX2_digest 16 = .ok (.if_icmp .ge 51, 3) := by decide +kernel
theorem dX2_digest_19 : decode cX2_digest 19 = .ok (.ldc2_w 177, 3) := by decide +kernel
theorem dX2_digest_22 : decode cX2_digest 22 = .ok (.lload_n 1, 1) := by decide +kernel
theorem dX2_digest_23 : decode cX2_digest 23 = .ok (.lmul, 1) := by decide +kernel
theorem dX2_digest_24 : decode cX2_digest 24 = .ok (.aload_n 0, 1) := by decide +kernel
theorem dX2_digest_25 : decode cX2_digest 25 = .ok (.getfield 19, 3) := by decide +kernel
theorem dX2_digest_28 : decode cX2_digest 28 = .ok (.iload_n 3, 1) := by decide +kernel
theorem dX2_digest_29 : decode cX2_digest 29 = .ok (.iaload, 1) := by decide +kernel
theorem dX2_digest_30 : decode cX2_digest 30 = .ok (.i2l, 1) := by decide +kernel
theorem dX2_digest_31 : decode cX2_digest 31 = .ok (.ladd, 1) := by decide +kernel
theorem dX2_digest_32 : decode cX2_digest 32 = .ok (.lstore_n 1, 1) := by decide +kernel
theorem dX2_digest_33 : decode cX2_digest 33 = .ok (.ldc2_w 177, 3) := by decide +kernel
theorem dX2_digest_36 : decode cX2_digest 36 = .ok (.lload_n 1, 1) := by decide +kernel
theorem dX2_digest_37 : decode cX2_digest 37 = .ok (.lmul, 1) := by decide +kernel
theorem dX2_digest_38 : decode cX2_digest 38 = .ok (.aload_n 0, 1) := by decide +kernel
theorem dX2_digest_39 : decode cX2_digest 39 = .ok (.getfield 23, 3) := by decide +kernel
theorem dX2_digest_42 : decode cX2_digest 42 = .ok (.iload_n 3, 1) := by decide +kernel
theorem dX2_digest_43 : decode cX2_digest 43 = .ok (.iaload, 1) := by decide +kernel
theorem dX2_digest_44 : decode cX2_digest 44 = .ok (.i2l, 1) := by decide +kernel
theorem dX2_digest_45 : decode cX2_digest 45 = .ok (.ladd, 1) := by decide +kernel
theorem dX2_digest_46 : decode cX2_digest 46 = .ok (.lstore_n 1, 1) := by decide +kernel
theorem dX2_digest_47 : decode cX2_digest 47 = .ok (.ldc2_w 177, 3) := by decide +kernel
theorem dX2_digest_50 : decode cX2_digest 50 = .ok (.lload_n 1, 1) := by decide +kernel
theorem dX2_digest_51 : decode cX2_digest 51 = .ok (.lmul, 1) := by decide +kernel
theorem dX2_digest_52 : decode cX2_digest 52 = .ok (.aload_n 0, 1) := by decide +kernel
theorem dX2_digest_53 : decode cX2_digest 53 = .ok (.getfield 26, 3) := by decide +kernel
theorem dX2_digest_56 : decode cX2_digest 56 = .ok (.iload_n 3, 1) := by decide +kernel
theorem dX2_digest_57 : decode cX2_digest 57 = .ok (.iaload, 1) := by decide +kernel
theorem dX2_digest_58 : decode cX2_digest 58 = .ok (.i2l, 1) := by decide +kernel
theorem dX2_digest_59 : decode cX2_digest 59 = .ok (.ladd, 1) := by decide +kernel
theorem dX2_digest_60 : decode cX2_digest 60 = .ok (.lstore_n 1, 1) := by decide +kernel
theorem dX2_digest_61 : decode cX2_digest 61 = .ok (.iinc 3 1, 3) := by decide +kernel
theorem dX2_digest_64 : decode cX2_digest 64 = .ok (.goto (-56), 3) := by decide +kernel
theorem dX2_digest_67 : decode cX2_digest 67 = .ok (.ldc2_w 177, 3) := by decide +kernel
theorem dX2_digest_70 : decode cX2_digest 70 = .ok (.lload_n 1, 1) := by decide +kernel
theorem dX2_digest_71 : decode cX2_digest 71 = .ok (.lmul, 1) := by decide +kernel
theorem dX2_digest_72 : decode cX2_digest 72 = .ok (.aload_n 0, 1) := by decide +kernel
theorem dX2_digest_73 : decode cX2_digest 73 = .ok (.getfield 15, 3) := by decide +kernel
theorem dX2_digest_76 : decode cX2_digest 76 = .ok (.i2l, 1) := by decide +kernel
theorem dX2_digest_77 : decode cX2_digest 77 = .ok (.ladd, 1) := by decide +kernel
theorem dX2_digest_78 : decode cX2_digest 78 = .ok (.lstore_n 1, 1) := by decide +kernel
theorem dX2_digest_79 : decode cX2_digest 79 = .ok (.ldc2_w 177, 3) := by decide +kernel
theorem dX2_digest_82 : decode cX2_digest 82 = .ok (.lload_n 1, 1) := by decide +kernel
theorem dX2_digest_83 : decode cX2_digest 83 = .ok (.lmul, 1) := by decide +kernel
theorem dX2_digest_84 : decode cX2_digest 84 = .ok (.aload_n 0, 1) := by decide +kernel
theorem dX2_digest_85 : decode cX2_digest 85 = .ok (.getfield 65, 3) := by decide +kernel
theorem dX2_digest_88 : decode cX2_digest 88 = .ok (.i2l, 1) := by decide +kernel
theorem dX2_digest_89 : decode cX2_digest 89 = .ok (.ladd, 1) := by decide +kernel
theorem dX2_digest_90 : decode cX2_digest 90 = .ok (.lstore_n 1, 1) := by decide +kernel
theorem dX2_digest_91 : decode cX2_digest 91 = .ok (.iconst 0, 1) := by decide +kernel
theorem dX2_digest_92 : decode cX2_digest 92 = .ok (.istore_n 3, 1) := by decide +kernel
theorem dX2_digest_93 : decode cX2_digest 93 = .ok (.iload_n 3, 1) := by decide +kernel
theorem dX2_digest_94 : decode cX2_digest 94 = .ok (.aload_n 0, 1) := by decide +kernel
theorem dX2_digest_95 : decode cX2_digest 95 = .ok (.getfield 55, 3) := by decide +kernel
theorem dX2_digest_98 : decode cX2_digest 98 = .ok (.if_icmp .ge 51, 3) := by decide +kernel
theorem dX2_digest_101 : decode cX2_digest 101 = .ok (.ldc2_w 177, 3) := by decide +kernel
theorem dX2_digest_104 : decode cX2_digest 104 = .ok (.lload_n 1, 1) := by decide +kernel
theorem dX2_digest_105 : decode cX2_digest 105 = .ok (.lmul, 1) := by decide +kernel
theorem dX2_digest_106 : decode cX2_digest 106 = .ok (.aload_n 0, 1) := by decide +kernel
theorem dX2_digest_107 : decode cX2_digest 107 = .ok (.getfield 29, 3) := by decide +kernel
theorem dX2_digest_110 : decode cX2_digest 110 = .ok (.iload_n 3, 1) := by decide +kernel
theorem dX2_digest_111 : decode cX2_digest 111 = .ok (.iaload, 1) := by decide +kernel
theorem dX2_digest_112 : decode cX2_digest 112 = .ok (.i2l, 1) := by decide +kernel
theorem dX2_digest_113 : decode cX2_digest 113 = .ok (.ladd, 1) := by decide +kernel
theorem dX2_digest_114 : decode cX2_digest 114 = .ok (.lstore_n 1, 1) := by decide +kernel
theorem dX2_digest_115 : decode cX2_digest 115 = .ok (.ldc2_w 177, 3) := by decide +kernel
theorem dX2_digest_118 : decode cX2_digest 118 = .ok (.lload_n 1, 1) := by decide +kernel
theorem dX2_digest_119 : decode cX2_digest 119 = .ok (.lmul, 1) := by decide +kernel
theorem dX2_digest_120 : decode cX2_digest 120 = .ok (.aload_n 0, 1) := by decide +kernel
theorem dX2_digest_121 : decode cX2_digest 121 = .ok (.getfield 32, 3) := by decide +kernel
theorem dX2_digest_124 : decode cX2_digest 124 = .ok (.iload_n 3, 1) := by decide +kernel
theorem dX2_digest_125 : decode cX2_digest 125 = .ok (.iaload, 1) := by decide +kernel
theorem dX2_digest_126 : decode cX2_digest 126 = .ok (.i2l, 1) := by decide +kernel
theorem dX2_digest_127 : decode cX2_digest 127 = .ok (.ladd, 1) := by decide +kernel
theorem dX2_digest_128 : decode cX2_digest 128 = .ok (.lstore_n 1, 1) := by decide +kernel
theorem dX2_digest_129 : decode cX2_digest 129 = .ok (.ldc2_w 177, 3) := by decide +kernel
theorem dX2_digest_132 : decode cX2_digest 132 = .ok (.lload_n 1, 1) := by decide +kernel
theorem dX2_digest_133 : decode cX2_digest 133 = .ok (.lmul, 1) := by decide +kernel
theorem dX2_digest_134 : decode cX2_digest 134 = .ok (.aload_n 0, 1) := by decide +kernel
theorem dX2_digest_135 : decode cX2_digest 135 = .ok (.getfield 35, 3) := by decide +kernel
theorem dX2_digest_138 : decode cX2_digest 138 = .ok (.iload_n 3, 1) := by decide +kernel
theorem dX2_digest_139 : decode cX2_digest 139 = .ok (.iaload, 1) := by decide +kernel
theorem dX2_digest_140 : decode cX2_digest 140 = .ok (.i2l, 1) := by decide +kernel
theorem dX2_digest_141 : decode cX2_digest 141 = .ok (.ladd, 1) := by decide +kernel
theorem dX2_digest_142 : decode cX2_digest 142 = .ok (.lstore_n 1, 1) := by decide +kernel
theorem dX2_digest_143 : decode cX2_digest 143 = .ok (.iinc 3 1, 3) := by decide +kernel
theorem dX2_digest_146 : decode cX2_digest 146 = .ok (.goto (-53), 3) := by decide +kernel
theorem dX2_digest_149 : decode cX2_digest 149 = .ok (.iconst 2, 1) := by decide +kernel
theorem dX2_digest_150 : decode cX2_digest 150 = .ok (.istore_n 3, 1) := by decide +kernel
theorem dX2_digest_151 : decode cX2_digest 151 = .ok (.iload_n 3, 1) := by decide +kernel
theorem dX2_digest_152 : decode cX2_digest 152 = .ok (.bipush 19, 2) := by decide +kernel
theorem dX2_digest_154 : decode cX2_digest 154 = .ok (.if_icmp .gt 65, 3) := by decide +kernel
theorem dX2_digest_157 : decode cX2_digest 157 = .ok (.ldc2_w 177, 3) := by decide +kernel
theorem dX2_digest_160 : decode cX2_digest 160 = .ok (.lload_n 1, 1) := by decide +kernel
theorem dX2_digest_161 : decode cX2_digest 161 = .ok (.lmul, 1) := by decide +kernel
theorem dX2_digest_162 : decode cX2_digest 162 = .ok (.aload_n 0, 1) := by decide +kernel
theorem dX2_digest_163 : decode cX2_digest 163 = .ok (.getfield 38, 3) := by decide +kernel
theorem dX2_digest_166 : decode cX2_digest 166 = .ok (.iload_n 3, 1) := by decide +kernel
theorem dX2_digest_167 : decode cX2_digest 167 = .ok (.iaload, 1) := by decide +kernel
theorem dX2_digest_168 : decode cX2_digest 168 = .ok (.i2l, 1) := by decide +kernel
theorem dX2_digest_169 : decode cX2_digest 169 = .ok (.ladd, 1) := by decide +kernel
theorem dX2_digest_170 : decode cX2_digest 170 = .ok (.lstore_n 1, 1) := by decide +kernel
theorem dX2_digest_171 : decode cX2_digest 171 = .ok (.ldc2_w 177, 3) := by decide +kernel
theorem dX2_digest_174 : decode cX2_digest 174 = .ok (.lload_n 1, 1) := by decide +kernel
theorem dX2_digest_175 : decode cX2_digest 175 = .ok (.lmul, 1) := by decide +kernel
theorem dX2_digest_176 : decode cX2_digest 176 = .ok (.aload_n 0, 1) := by decide +kernel
theorem dX2_digest_177 : decode cX2_digest 177 = .ok (.getfield 41, 3) := by decide +kernel
theorem dX2_digest_180 : decode cX2_digest 180 = .ok (.iload_n 3, 1) := by decide +kernel
theorem dX2_digest_181 : decode cX2_digest 181 = .ok (.iaload, 1) := by decide +kernel
theorem dX2_digest_182 : decode cX2_digest 182 = .ok (.i2l, 1) := by decide +kernel
theorem dX2_digest_183 : decode cX2_digest 183 = .ok (.ladd, 1) := by decide +kernel
theorem dX2_digest_184 : decode cX2_digest 184 = .ok (.lstore_n 1, 1) := by decide +kernel
theorem dX2_digest_185 : decode cX2_digest 185 = .ok (.ldc2_w 177, 3) := by decide +kernel
theorem dX2_digest_188 : decode cX2_digest 188 = .ok (.lload_n 1, 1) := by decide +kernel
theorem dX2_digest_189 : decode cX2_digest 189 = .ok (.lmul, 1) := by decide +kernel
theorem dX2_digest_190 : decode cX2_digest 190 = .ok (.aload_n 0, 1) := by decide +kernel
theorem dX2_digest_191 : decode cX2_digest 191 = .ok (.getfield 44, 3) := by decide +kernel
theorem dX2_digest_194 : decode cX2_digest 194 = .ok (.iload_n 3, 1) := by decide +kernel
theorem dX2_digest_195 : decode cX2_digest 195 = .ok (.iaload, 1) := by decide +kernel
theorem dX2_digest_196 : decode cX2_digest 196 = .ok (.i2l, 1) := by decide +kernel
theorem dX2_digest_197 : decode cX2_digest 197 = .ok (.ladd, 1) := by decide +kernel
theorem dX2_digest_198 : decode cX2_digest 198 = .ok (.lstore_n 1, 1) := by decide +kernel
theorem dX2_digest_199 : decode cX2_digest 199 = .ok (.ldc2_w 177, 3) := by decide +kernel
theorem dX2_digest_202 : decode cX2_digest 202 = .ok (.lload_n 1, 1) := by decide +kernel
theorem dX2_digest_203 : decode cX2_digest 203 = .ok (.lmul, 1) := by decide +kernel
theorem dX2_digest_204 : decode cX2_digest 204 = .ok (.aload_n 0, 1) := by decide +kernel
theorem dX2_digest_205 : decode cX2_digest 205 = .ok (.getfield 47, 3) := by decide +kernel
theorem dX2_digest_208 : decode cX2_digest 208 = .ok (.iload_n 3, 1) := by decide +kernel
theorem dX2_digest_209 : decode cX2_digest 209 = .ok (.iaload, 1) := by decide +kernel
theorem dX2_digest_210 : decode cX2_digest 210 = .ok (.i2l, 1) := by decide +kernel
theorem dX2_digest_211 : decode cX2_digest 211 = .ok (.ladd, 1) := by decide +kernel
theorem dX2_digest_212 : decode cX2_digest 212 = .ok (.lstore_n 1, 1) := by decide +kernel
theorem dX2_digest_213 : decode cX2_digest 213 = .ok (.iinc 3 1, 3) := by decide +kernel
theorem dX2_digest_216 : decode cX2_digest 216 = .ok (.goto (-65), 3) := by decide +kernel
theorem dX2_digest_219 : decode cX2_digest 219 = .ok (.lload_n 1, 1) := by decide +kernel
theorem dX2_digest_220 : decode cX2_digest 220 = .ok (.lreturn, 1) := by decide +kernel
theorem dX3_init_0 : decode cX3_init 0 = .ok (.aload_n 0, 1) := by decide +kernel
theorem dX3_init_1 : decode cX3_init 1 = .ok (.invokespecial 3, 3) := by decide +kernel
theorem dX3_init_4 : decode cX3_init 4 = .ok (.aload_n 0, 1) := by decide +kernel
theorem dX3_init_5 : decode cX3_init 5 = .ok (.bipush 6, 2) := by decide +kernel
theorem dX3_init_7 : decode cX3_init 7 = .ok (.newarray .int, 2) := by decide +kernel
theorem dX3_init_9 : decode cX3_init 9 = .ok (.putfield 9, 3) := by decide +kernel
theorem dX3_init_12 : decode cX3_init 12 = .ok (.aload_n 0, 1) := by decide +kernel
theorem dX3_init_13 : decode cX3_init 13 = .ok (.bipush 6, 2) := by decide +kernel
theorem dX3_init_15 : decode cX3_init 15 = .ok (.newarray .int, 2) := by decide +kernel
theorem dX3_init_17 : decode cX3_init 17 = .ok (.putfield 15, 3) := by decide +kernel
theorem dX3_init_20 : decode cX3_init 20 = .ok (.aload_n 0, 1) := by decide +kernel
theorem dX3_init_21 : decode cX3_init 21 = .ok (.bipush 6, 2) := by decide +kernel
theorem dX3_init_23 : decode cX3_init 23 = .ok (.newarray .int, 2) := by decide +kernel
theorem dX3_init_25 : decode cX3_init 25 = .ok (.putfield 18, 3) := by decide +kernel
theorem dX3_init_28 : decode cX3_init 28 = .ok (.aload_n 0, 1) := by decide +kernel
theorem dX3_init_29 : decode cX3_init 29 = .ok (.bipush 6, 2) := by decide +kernel
theorem dX3_init_31 : decode cX3_init 31 = .ok (.newarray .int, 2) := by decide +kernel
theorem dX3_init_33 : decode cX3_init 33 = .ok (.putfield 21, 3) := by decide +kernel
theorem dX3_init_36 : decode cX3_init 36 = .ok (.aload_n 0, 1) := by decide +kernel
theorem dX3_init_37 : decode cX3_init 37 = .ok (.bipush 6, 2) := by decide +kernel
theorem dX3_init_39 : decode cX3_init 39 = .ok (.newarray .int, 2) := by decide +kernel
theorem dX3_init_41 : decode cX3_init 41 = .ok (.putfield 24, 3) := by decide +kernel
theorem dX3_init_44 : decode cX3_init 44 = .ok (.aload_n 0, 1) := by decide +kernel
theorem dX3_init_45 : decode cX3_init 45 = .ok (.bipush 20, 2) := by decide +kernel
theorem dX3_init_47 : decode cX3_init 47 = .ok (.newarray .int, 2) := by decide +kernel
theorem dX3_init_49 : decode cX3_init 49 = .ok (.putfield 27, 3) := by decide +kernel
theorem dX3_init_52 : decode cX3_init 52 = .ok (.aload_n 0, 1) := by decide +kernel
theorem dX3_init_53 : decode cX3_init 53 = .ok (.bipush 20, 2) := by decide +kernel
theorem dX3_init_55 : decode cX3_init 55 = .ok (.newarray .int, 2) := by decide +kernel
theorem dX3_init_57 : decode cX3_init 57 = .ok (.putfield 30, 3) := by decide +kernel
theorem dX3_init_60 : decode cX3_init 60 = .ok (.iconst 0, 1) := by decide +kernel
theorem dX3_init_61 : decode cX3_init 61 = .ok (.istore_n 1, 1) := by decide +kernel
theorem dX3_init_62 : decode cX3_init 62 = .ok (.iload_n 1, 1) := by decide +kernel
theorem dX3_init_63 : decode cX3_init 63 = .ok (.bipush 20, 2) := by decide +kernel
theorem dX3_init_65 : decode cX3_init 65 = .ok (.if_icmp .ge 23, 3) := by decide +kernel
theorem dX3_init_68 : decode cX3_init 68 = .ok (.aload_n 0, 1) := by decide +kernel
theorem dX3_init_69 : decode cX3_init 69 = .ok (.getfield 27, 3) := by decide +kernel
theorem dX3_init_72 : decode cX3_init 72 = .ok (.iload_n 1, 1) := by decide +kernel
theorem dX3_init_73 : decode cX3_init 73 = .ok (.iconst (-1), 1) := by decide +kernel
theorem dX3_init_74 : decode cX3_init 74 = .ok (.iastore, 1) := by decide +kernel
theorem dX3_init_75 : decode cX3_init 75 = .ok (.aload_n 0, 1) := by decide +kernel
theorem dX3_init_76 : decode cX3_init 76 = .ok (.getfield 30, 3) := by decide +kernel
theorem dX3_init_79 : decode cX3_init 79 = .ok (.iload_n 1, 1) := by decide +kernel
theorem dX3_init_80 : decode cX3_init 80 = .ok (.iconst (-1), 1) := by decide +kernel
theorem dX3_init_81 : decode cX3_init 81 = .ok (.iastore, 1) := by decide +kernel
theorem dX3_init_82 : decode cX3_init 82 = .ok (.iinc 1 1, 3) := by decide +kernel
theorem dX3_init_85 : decode cX3_init 85 = .ok (.goto (-23), 3) := by decide +kernel
theorem dX3_init_88 : decode cX3_init 88 = .ok (.iconst 3, 1) := by decide +kernel
theorem dX3_init_89 : decode cX3_init 89 = .ok (.newarray .int, 2) := by decide +kernel
theorem dX3_init_91 : decode cX3_init 91 = .ok (.dup, 1) := by decide +kernel
theorem dX3_init_92 : decode cX3_init 92 = .ok (.iconst 0, 1) := by decide +kernel
theorem dX3_init_93 : decode cX3_init 93 = .ok (.sipush 400, 3) := by decide +kernel
theorem dX3_init_96 : decode cX3_init 96 = .ok (.iastore, 1) := by decide +kernel
theorem dX3_init_97 : decode cX3_init 97 = .ok (.dup, 1) := by decide +kernel
theorem dX3_init_98 : decode cX3_init 98 = .ok (.iconst 1, 1) := by decide +kernel
theorem dX3_init_99 : decode cX3_init 99 = .ok (.bipush (-5), 2) := by decide +kernel
theorem dX3_init_101 : decode cX3_init 101 = .ok (.iastore, 1) := by decide +kernel
theorem dX3_init_102 : decode cX3_init 102 = .ok (.dup, 1) := by decide +kernel
theorem dX3_init_103 : decode cX3_init 103 = .ok (.iconst 2, 1) := by decide +kernel
theorem dX3_init_104 : decode cX3_init 104 = .ok (.bipush (-4), 2) := by decide +kernel
theorem dX3_init_106 : decode cX3_init 106 = .ok (.iastore, 1) := by decide +kernel
theorem dX3_init_107 : decode cX3_init 107 = .ok (.astore_n 1, 1) := by decide +kernel
theorem dX3_init_108 : decode cX3_init 108 = .ok (.aload_n 0, 1) := by decide +kernel
theorem dX3_init_109 : decode cX3_init 109 = .ok (.new 33, 3) := by decide +kernel
theorem dX3_init_112 : decode cX3_init 112 = .ok (.dup, 1) := by decide +kernel
theorem dX3_init_113 : decode cX3_init 113 = .ok (.aload_n 1, 1) := by decide +kernel
theorem dX3_init_114 : decode cX3_init 114 = .ok (.aload_n 1, 1) := by decide +kernel
theorem dX3_init_115 : decode cX3_init 115 = .ok (.arraylength, 1) := by decide +kernel
theorem dX3_init_116 : decode cX3_init 116 = .ok (.invokespecial 35, 3) := by decide +kernel
theorem dX3_init_119 : decode cX3_init 119 = .ok (.putfield 38, 3) := by decide +kernel
theorem dX3_init_122 : decode cX3_init 122 = .ok (.return_, 1) := by decide +kernel
theorem dX4_init_0 : decode cX4_init 0 = .ok (.aload_n 0, 1) := by decide +kernel
theorem dX4_init_1 : decode cX4_init 1 = .ok (.invokespecial 3, 3) := by decide +kernel
theorem dX4_init_4 : decode cX4_init 4 = .ok (.aload_n 0, 1) := by decide +kernel
theorem dX4_init_5 : decode cX4_init 5 = .ok (.sipush 700, 3) := by decide +kernel
theorem dX4_init_8 : decode cX4_init 8 = .ok (.newarray .byte, 2) := by decide +kernel
theorem dX4_init_10 : decode cX4_init 10 = .ok (.putfield 9, 3) := by decide +kernel
theorem dX4_init_13 : decode cX4_init 13 = .ok (.aload_n 0, 1) := by decide +kernel
theorem dX4_init_14 : decode cX4_init 14 = .ok (.sipush 700, 3) := by decide +kernel
theorem dX4_init_17 : decode cX4_init 17 = .ok (.newarray .int, 2) := by decide +kernel
theorem dX4_init_19 : decode cX4_init 19 = .ok (.putfield 15, 3) := by decide +kernel
theorem dX4_init_22 : decode cX4_init 22 = .ok (.aload_n 0, 1) := by decide +kernel
theorem dX4_init_23 : decode cX4_init 23 = .ok (.iconst (-1), 1) := by decide +kernel
theorem dX4_init_24 : decode cX4_init 24 = .ok (.putfield 19, 3) := by decide +kernel
theorem dX4_init_27 : decode cX4_init 27 = .ok (.aload_n 0, 1) := by decide +kernel
theorem dX4_init_28 : decode cX4_init 28 = .ok (.new 23, 3) := by decide +kernel
theorem dX4_init_31 : decode cX4_init 31 = .ok (.dup, 1) := by decide +kernel
theorem dX4_init_32 : decode cX4_init 32 = .ok (.invokespecial 25, 3) := by decide +kernel
theorem dX4_init_35 : decode cX4_init 35 = .ok (.putfield 26, 3) := by decide +kernel
theorem dX4_init_38 : decode cX4_init 38 = .ok (.return_, 1) := by decide +kernel
theorem dX4_putWord_0 : decode cX4_putWord 0 = .ok (.bipush 24, 2) := by decide +kernel
theorem dX4_putWord_2 : decode cX4_putWord 2 = .ok (.istore_n 2, 1) := by decide +kernel
theorem dX4_putWord_3 : decode cX4_putWord 3 = .ok (.iload_n 2, 1) := by decide +kernel
theorem dX4_putWord_4 : decode cX4_putWord 4 = .ok (.ifCond .lt 42, 3) := by decide +kernel
theorem dX4_putWord_7 : decode cX4_putWord 7 = .ok (.aload_n 0, 1) := by decide +kernel
theorem dX4_putWord_8 : decode cX4_putWord 8 = .ok (.getfield 30, 3) := by decide +kernel
theorem dX4_putWord_11 : decode cX4_putWord 11 = .ok (.sipush 700, 3) := by decide +kernel
theorem dX4_putWord_14 : decode cX4_putWord 14 = .ok (.if_icmp .ge 26, 3) := by decide +kernel
theorem dX4_putWord_17 : decode cX4_putWord 17 = .ok (.aload_n 0, 1) := by decide +kernel
theorem dX4_putWord_18 : decode cX4_putWord 18 = .ok (.getfield 9, 3) := by decide +kernel
theorem dX4_putWord_21 : decode cX4_putWord 21 = .ok (.aload_n 0, 1) := by decide +kernel
theorem dX4_putWord_22 : decode cX4_putWord 22 = .ok (.getfield 30, 3) := by decide +kernel
theorem dX4_putWord_25 : decode cX4_putWord 25 = .ok (.iload_n 1, 1) := by decide +kernel
theorem dX4_putWord_26 : decode cX4_putWord 26 = .ok (.iload_n 2, 1) := by decide +kernel
theorem dX4_putWord_27 : decode cX4_putWord 27 = .ok (.iushr, 1) := by decide +kernel
theorem dX4_putWord_28 : decode cX4_putWord 28 = .ok (.i2b, 1) := by decide +kernel
theorem dX4_putWord_29 : decode cX4_putWord 29 = .ok (.bastore, 1) := by decide +kernel
theorem dX4_putWord_30 : decode cX4_putWord 30 = .ok (.aload_n 0, 1) := by decide +kernel
theorem dX4_putWord_31 : decode cX4_putWord 31 = .ok (.dup, 1) := by decide +kernel
theorem dX4_putWord_32 : decode cX4_putWord 32 = .ok (.getfield 30, 3) := by decide +kernel
theorem dX4_putWord_35 : decode cX4_putWord 35 = .ok (.iconst 1, 1) := by decide +kernel
theorem dX4_putWord_36 : decode cX4_putWord 36 = .ok (.iadd, 1) := by decide +kernel
theorem dX4_putWord_37 : decode cX4_putWord 37 = .ok (.putfield 30, 3) := by decide +kernel
theorem dX4_putWord_40 : decode cX4_putWord 40 = .ok (.iinc 2 (-8), 3) := by decide +kernel
theorem dX4_putWord_43 : decode cX4_putWord 43 = .ok (.goto (-40), 3) := by decide +kernel
theorem dX4_putWord_46 : decode cX4_putWord 46 = .ok (.return_, 1) := by decide +kernel
theorem dX4_begin_0 : decode cX4_begin 0 = .ok (.aload_n 0, 1) := by decide +kernel
theorem dX4_begin_1 : decode cX4_begin 1 = .ok (.iload_n 1, 1) := by decide +kernel
theorem dX4_begin_2 : decode cX4_begin 2 = .ok (.iconst 0, 1) := by decide +kernel
theorem dX4_begin_3 : decode cX4_begin 3 = .ok (.aload_n 0, 1) := by decide +kernel
theorem dX4_begin_4 : decode cX4_begin 4 = .ok (.getfield 30, 3) := by decide +kernel
theorem dX4_begin_7 : decode cX4_begin 7 = .ok (.invokestatic 33, 3) := by decide +kernel
theorem dX4_begin_10 : decode cX4_begin 10 = .ok (.putfield 37, 3) := by decide +kernel
theorem dX4_begin_13 : decode cX4_begin 13 = .ok (.aload_n 0, 1) := by decide +kernel
theorem dX4_begin_14 : decode cX4_begin 14 = .ok (.iconst 0, 1) := by decide +kernel
theorem dX4_begin_15 : decode cX4_begin 15 = .ok (.putfield 30, 3) := by decide +kernel
theorem dX4_begin_18 : decode cX4_begin 18 = .ok (.aload_n 0, 1) := by decide +kernel
theorem dX4_begin_19 : decode cX4_begin 19 = .ok (.iconst 0, 1) := by decide +kernel
theorem dX4_begin_20 : decode cX4_begin 20 = .ok (.putfield 40, 3) := by decide +kernel
theorem dX4_begin_23 : decode cX4_begin 23 = .ok (.aload_n 0, 1) := by decide +kernel
theorem dX4_begin_24 : decode cX4_begin 24 = .ok (.iconst (-1), 1) := by decide +kernel
theorem dX4_begin_25 : decode cX4_begin 25 = .ok (.putfield 19, 3) := by decide +kernel
theorem dX4_begin_28 : decode cX4_begin 28 = .ok (.aload_n 0, 1) := by decide +kernel
theorem dX4_begin_29 : decode cX4_begin 29 = .ok (.iconst 0, 1) := by decide +kernel
theorem dX4_begin_30 : decode cX4_begin 30 = .ok (.putfield 43, 3) := by decide +kernel
theorem dX4_begin_33 : decode cX4_begin 33 = .ok (.aload_n 0, 1) := by decide +kernel
theorem dX4_begin_34 : decode cX4_begin 34 = .ok (.new 23, 3) := by decide +kernel
theorem dX4_begin_37 : decode cX4_begin 37 = .ok (.dup, 1) := by decide +kernel
theorem dX4_begin_38 : decode cX4_begin 38 = .ok (.invokespecial 25, 3) := by decide +kernel
theorem dX4_begin_41 : decode cX4_begin 41 = .ok (.putfield 26, 3) := by decide +kernel
theorem dX4_begin_44 : decode cX4_begin 44 = .ok (.aload_n 0, 1) := by decide +kernel
theorem dX4_begin_45 : decode cX4_begin 45 = .ok (.invokevirtual 47, 3) := by decide +kernel
theorem dX4_begin_48 : decode cX4_begin 48 = .ok (.return_, 1) := by decide +kernel
theorem dX4_fail_0 : decode cX4_fail 0 = .ok (.aload_n 0, 1) := by decide +kernel
theorem dX4_fail_1 : decode cX4_fail 1 = .ok (.iload_n 1, 1) := by decide +kernel
theorem dX4_fail_2 : decode cX4_fail 2 = .ok (.putfield 50, 3) := by decide +kernel
theorem dX4_fail_5 : decode cX4_fail 5 = .ok (.aload_n 0, 1) := by decide +kernel
theorem dX4_fail_6 : decode cX4_fail 6 = .ok (.aload_n 0, 1) := by decide +kernel
theorem dX4_fail_7 : decode cX4_fail 7 = .ok (.getfield 53, 3) := by decide +kernel
theorem dX4_fail_10 : decode cX4_fail 10 = .ok (.putfield 19, 3) := by decide +kernel
theorem dX4_fail_13 : decode cX4_fail 13 = .ok (.iconst 0, 1) := by decide +kernel
theorem dX4_fail_14 : decode cX4_fail 14 = .ok (.ireturn, 1) := by decide +kernel
theorem dX4_readHeader_0 : decode cX4_readHeader 0 = .ok (.aload_n 0, 1) := by decide +kernel
theorem dX4_readHeader_1 : decode cX4_readHeader 1 = .ok (.ldc 56, 2) := by decide +kernel
theorem dX4_readHeader_3 : decode cX4_readHeader 3 = .ok (.invokevirtual 58, 3) := by decide +kernel
theorem dX4_readHeader_6 : decode cX4_readHeader 6 = .ok (.ifCond .ne 10, 3) := by decide +kernel
theorem dX4_readHeader_9 : decode cX4_readHeader 9 = .ok (.aload_n 0, 1) := by decide +kernel
theorem dX4_readHeader_10 : decode cX4_readHeader 10 = .ok (.bipush (-2), 2) := by decide +kernel
theorem dX4_readHeader_12 : decode cX4_readHeader 12 = .ok (.invokevirtual 62, 3) := by decide +kernel
theorem dX4_readHeader_15 : decode cX4_readHeader 15 = .ok (.ireturn, 1) := by decide +kernel
theorem dX4_readHeader_16 : decode cX4_readHeader 16 = .ok (.aload_n 0, 1) := by decide +kernel
theorem dX4_readHeader_17 : decode cX4_readHeader 17 = .ok (.invokevirtual 47, 3) := by decide +kernel
theorem dX4_readHeader_20 : decode cX4_readHeader 20 = .ok (.aload_n 0, 1) := by decide +kernel
theorem dX4_readHeader_21 : decode cX4_readHeader 21 = .ok (.iconst 1, 1) := by decide +kernel
theorem dX4_readHeader_22 : decode cX4_readHeader 22 = .ok (.bipush 9, 2) := by decide +kernel
theorem dX4_readHeader_24 : decode cX4_readHeader 24 = .ok (.invokevirtual 66, 3) := by decide +kernel
theorem dX4_readHeader_27 : decode cX4_readHeader 27 = .ok (.ifCond .ne 5, 3) := by decide +kernel
theorem dX4_readHeader_30 : decode cX4_readHeader 30 = .ok (.iconst 0, 1) := by decide +kernel
theorem dX4_readHeader_31 : decode cX4_readHeader 31 = .ok (.ireturn, 1) := by decide +kernel
theorem dX4_readHeader_32 : decode cX4_readHeader 32 = .ok (.aload_n 0, 1) := by decide +kernel
theorem dX4_readHeader_33 : decode cX4_readHeader 33 = .ok (.getfield 26, 3) := by decide +kernel
theorem dX4_readHeader_36 : decode cX4_readHeader 36 = .ok (.aload_n 0, 1) := by decide +kernel
theorem dX4_readHeader_37 : decode cX4_readHeader 37 = .ok (.getfield 70, 3) := by decide +kernel
theorem dX4_readHeader_40 : decode cX4_readHeader 40 = .ok (.putfield 73, 3) := by decide +kernel
theorem dX4_readHeader_43 : decode cX4_readHeader 43 = .ok (.aload_n 0, 1) := by decide +kernel
theorem dX4_readHeader_44 : decode cX4_readHeader 44 = .ok (.iconst 0, 1) := by decide +kernel
theorem dX4_readHeader_45 : decode cX4_readHeader 45 = .ok (.bipush 20, 2) := by decide +kernel
theorem dX4_readHeader_47 : decode cX4_readHeader 47 = .ok (.invokevirtual 66, 3) := by decide +kernel
theorem dX4_readHeader_50 : decode cX4_readHeader 50 = .ok (.ifCond .ne 5, 3) := by decide +kernel
theorem dX4_readHeader_53 : decode cX4_readHeader 53 = .ok (.iconst 0, 1) := by decide +kernel
theorem dX4_readHeader_54 : decode cX4_readHeader 54 = .ok (.ireturn, 1) := by decide +kernel
theorem dX4_readHeader_55 : decode cX4_readHeader 55 = .ok (.aload_n 0, 1) := by decide +kernel
theorem dX4_readHeader_56 : decode cX4_readHeader 56 = .ok (.getfield 26, 3) := by decide +kernel
theorem dX4_readHeader_59 : decode cX4_readHeader 59 = .ok (.aload_n 0, 1) := by decide +kernel
theorem dX4_readHeader_60 : decode cX4_readHeader 60 = .ok (.getfield 70, 3) := by decide +kernel
theorem dX4_readHeader_63 : decode cX4_readHeader 63 = .ok (.putfield 76, 3) := by decide +kernel
theorem dX4_readHeader_66 : decode cX4_readHeader 66 = .ok (.aload_n 0, 1) := by decide +kernel
theorem dX4_readHeader_67 : decode cX4_readHeader 67 = .ok (.bipush 59, 2) := by decide +kernel
theorem dX4_readHeader_69 : decode cX4_readHeader 69 = .ok (.invokevirtual 79, 3) := by decide +kernel
theorem dX4_readHeader_72 : decode cX4_readHeader 72 = .ok (.ireturn, 1) := by decide +kernel
theorem dX4_readStatements_0 : decode cX4_readStatements 0 = .ok (.iconst 0, 1) := by decide +kernel
theorem dX4_readStatements_1 : decode cX4_readStatements 1 = .ok (.istore_n 1, 1) := by decide +kernel
theorem dX4_readStatements_2 : decode cX4_readStatements 2 = .ok (.iload_n 1, 1) := by decide +kernel
theorem dX4_readStatements_3 : decode cX4_readStatements 3 = .ok (.aload_n 0, 1) := by decide +kernel
theorem dX4_readStatements_4 : decode cX4_readStatements 4 = .ok (.getfield 37, 3) := by decide +kernel
theorem dX4_readStatements_7 : decode cX4_readStatements 7 = .ok (.if_icmp .ge 93, 3) := by decide +kernel
theorem dX4_readStatements_10 : decode cX4_readStatements 10 = .ok (.aload_n 0, 1) := by decide +kernel
theorem dX4_readStatements_11 : decode cX4_readStatements 11 = .ok (.getfield 83, 3) := by decide +kernel
theorem dX4_readStatements_14 : decode cX4_readStatements 14 = .ok (.ifCond .eq 86, 3) := by decide +kernel
theorem dX4_readStatements_17 : decode cX4_readStatements 17 = .ok (.aload_n 0, 1) := by decide +kernel
theorem dX4_readStatements_18 : decode cX4_readStatements 18 = .ok (.ldc 86, 2) := by decide +kernel
theorem dX4_readStatements_20 : decode cX4_readStatements 20 = .ok (.invokevirtual 58, 3) := by decide +kernel
theorem dX4_readStatements_23 : decode cX4_readStatements 23 = .ok (.ifCond .eq 10, 3) := by decide +kernel
theorem dX4_readStatements_26 : decode cX4_readStatements 26 = .ok (.aload_n 0, 1) := by decide +kernel
theorem dX4_readStatements_27 : decode cX4_readStatements 27 = .ok (.invokevirtual 88, 3) := by decide +kernel
theorem dX4_readStatements_30 : decode cX4_readStatements 30 = .ok (.goto 48, 3) := by decide +kernel
theorem dX4_readStatements_33 : decode cX4_readStatements 33 = .ok (.aload_n 0, 1) := by decide +kernel
theorem dX4_readStatements_34 : decode cX4_readStatements 34 = .ok (.ldc 92, 2) := by decide +kernel
theorem dX4_readStatements_36 : decode cX4_readStatements 36 = .ok (.invokevirtual 58, 3) := by decide +kernel
theorem dX4_readStatements_39 : decode cX4_readStatements 39 = .ok (.ifCond .eq 10, 3) := by decide +kernel
theorem dX4_readStatements_42 : decode cX4_readStatements 42 = .ok (.aload_n 0, 1) := by decide +kernel
theorem dX4_readStatements_43 : decode cX4_readStatements 43 = .ok (.invokevirtual 94, 3) := by decide +kernel
theorem dX4_readStatements_46 : decode cX4_readStatements 46 = .ok (.goto 32, 3) := by decide +kernel
theorem dX4_readStatements_49 : decode cX4_readStatements 49 = .ok (.aload_n 0, 1) := by decide +kernel
theorem dX4_readStatements_50 : decode cX4_readStatements 50 = .ok (.ldc 97, 2) := by decide +kernel
theorem dX4_readStatements_52 : decode cX4_readStatements 52 = .ok (.invokevirtual 58, 3) := by decide +kernel
theorem dX4_readStatements_55 : decode cX4_readStatements 55 = .ok (.ifCond .eq 17, 3) := by decide +kernel
theorem dX4_readStatements_58 : decode cX4_readStatements 58 = .ok (.aload_n 0, 1) := by decide +kernel
theorem dX4_readStatements_59 : decode cX4_readStatements 59 = .ok (.getfield 43, 3) := by decide +kernel
theorem dX4_readStatements_62 : decode cX4_readStatements 62 = .ok (.ifCond .ne 10, 3) := by decide +kernel
theorem dX4_readStatements_65 : decode cX4_readStatements 65 = .ok (.aload_n 0, 1) := by decide +kernel
theorem dX4_readStatements_66 : decode cX4_readStatements 66 = .ok (.invokevirtual 99, 3) := by decide +kernel
theorem dX4_readStatements_69 : decode cX4_readStatements 69 = .ok (.goto 9, 3) := by decide +kernel
theorem dX4_readStatements_72 : decode cX4_readStatements 72 = .ok (.aload_n 0, 1) := by decide +kernel
theorem dX4_readStatements_73 : decode cX4_readStatements 73 = .ok (.bipush (-2), 2) := by decide +kernel
theorem dX4_readStatements_75 : decode cX4_readStatements 75 = .ok (.invokevirtual 62, 3) := by decide +kernel
theorem dX4_readStatements_78 : decode cX4_readStatements 78 = .ok (.istore_n 2, 1) := by decide +kernel
theorem dX4_readStatements_79 : decode cX4_readStatements 79 = .ok (.iload_n 2, 1) := by decide +kernel
theorem dX4_readStatements_80 : decode cX4_readStatements 80 = .ok (.ifCond .eq 12, 3) := by decide +kernel
theorem dX4_readStatements_83 : decode cX4_readStatements 83 = .ok (.aload_n 0, 1) := by decide +kernel
theorem dX4_readStatements_84 : decode cX4_readStatements 84 = .ok (.bipush 59, 2) := by decide +kernel
theorem dX4_readStatements_86 : decode cX4_readStatements 86 = .ok (.invokevirtual 79, 3) := by decide +kernel
theorem dX4_readStatements_89 : decode cX4_readStatements 89 = .ok (.ifCond .ne 5, 3) := by decide +kernel
theorem dX4_readStatements_92 : decode cX4_readStatements 92 = .ok (.iconst 0, 1) := by decide +kernel
theorem dX4_readStatements_93 : decode cX4_readStatements 93 = .ok (.ireturn, 1) := by decide +kernel
theorem dX4_readStatements_94 : decode cX4_readStatements 94 = .ok (.iinc 1 1, 3) := by decide +kernel
theorem dX4_readStatements_97 : decode cX4_readStatements 97 = .ok (.goto (-95), 3) := by decide +kernel
theorem dX4_readStatements_100 : decode cX4_readStatements 100 = .ok (.aload_n 0, 1) := by decide +kernel
theorem dX4_readStatements_101 : decode cX4_readStatements 101 = .ok (.getfield 26, 3) := by decide +kernel
theorem dX4_readStatements_104 : decode cX4_readStatements 104 = .ok (.getfield 102, 3) := by decide +kernel
theorem dX4_readStatements_107 : decode cX4_readStatements 107 = .ok (.ifCond .gt 12, 3) := by decide +kernel
theorem dX4_readStatements_110 : decode cX4_readStatements 110 = .ok (.aload_n 0, 1) := by decide +kernel
theorem dX4_readStatements_111 : decode cX4_readStatements 111 = .ok (.bipush (-2), 2) := by decide +kernel
theorem dX4_readStatements_113 : decode cX4_readStatements 113 = .ok (.invokevirtual 62, 3) := by decide +kernel
theorem dX4_readStatements_116 : decode cX4_readStatements 116 = .ok (.ifCond .eq 7, 3) := by decide +kernel
theorem dX4_readStatements_119 : decode cX4_readStatements 119 = .ok (.iconst 1, 1) := by decide +kernel
theorem dX4_readStatements_120 : decode cX4_readStatements 120 = .ok (.goto 4, 3) := by decide +kernel
theorem dX4_readStatements_123 : decode cX4_readStatements 123 = .ok (.iconst 0, 1) := by decide +kernel
theorem dX4_readStatements_124 : decode cX4_readStatements 124 = .ok (.ireturn, 1) := by decide +kernel
theorem dX4_readZone_0 : decode cX4_readZone 0 = .ok (.aload_n 0, 1) := by decide +kernel
theorem dX4_readZone_1 : decode cX4_readZone 1 = .ok (.getfield 26, 3) := by decide +kernel
theorem dX4_readZone_4 : decode cX4_readZone 4 = .ok (.getfield 102, 3) := by decide +kernel
theorem dX4_readZone_7 : decode cX4_readZone 7 = .ok (.istore_n 1, 1) := by decide +kernel
theorem dX4_readZone_8 : decode cX4_readZone 8 = .ok (.iload_n 1, 1) := by decide +kernel
theorem dX4_readZone_9 : decode cX4_readZone 9 = .ok (.bipush 6, 2) := by decide +kernel
theorem dX4_readZone_11 : decode cX4_readZone 11 = .ok (.if_icmp .lt 10, 3) := by decide +kernel
theorem dX4_readZone_14 : decode cX4_readZone 14 = .ok (.aload_n 0, 1) := by decide +kernel
theorem dX4_readZone_15 : decode cX4_readZone 15 = .ok (.bipush (-4), 2) := by decide +kernel
theorem dX4_readZone_17 : decode cX4_readZone 17 = .ok (.invokevirtual 62, 3) := by decide +kernel
theorem dX4_readZone_20 : decode cX4_readZone 20 = .ok (.ireturn, 1) := by decide +kernel
theorem dX4_readZone_21 : decode cX4_readZone 21 = .ok (.aload_n 0, 1) := by decide +kernel
theorem dX4_readZone_22 : decode cX4_readZone 22 = .ok (.invokevirtual 47, 3) := by decide +kernel
theorem dX4_readZone_25 : decode cX4_readZone 25 = .ok (.aload_n 0, 1) := by decide +kernel
theorem dX4_readZone_26 : decode cX4_readZone 26 = .ok (.bipush 100, 2) := by decide +kernel
theorem dX4_readZone_28 : decode cX4_readZone 28 = .ok (.sipush 900, 3) := by decide +kernel
theorem dX4_readZone_31 : decode cX4_readZone 31 = .ok (.invokevirtual 66, 3) := by decide +kernel
theorem dX4_readZone_34 : decode cX4_readZone 34 = .ok (.ifCond .ne 5, 3) := by decide +kernel
theorem dX4_readZone_37 : decode cX4_readZone 37 = .ok (.iconst 0, 1) := by decide +kernel
theorem dX4_readZone_38 : decode cX4_readZone 38 = .ok (.ireturn, 1) := by decide +kernel
theorem dX4_readZone_39 : decode cX4_readZone 39 = .ok (.aload_n 0, 1) := by decide +kernel
theorem dX4_readZone_40 : decode cX4_readZone 40 = .ok (.getfield 26, 3) := by decide +kernel
theorem dX4_readZone_43 : decode cX4_readZone 43 = .ok (.getfield 105, 3) := by decide +kernel
theorem dX4_readZone_46 : decode cX4_readZone 46 = .ok (.iload_n 1, 1) := by decide +kernel
theorem dX4_readZone_47 : decode cX4_readZone 47 = .ok (.aload_n 0, 1) := by decide +kernel
theorem dX4_readZone_48 : decode cX4_readZone 48 = .ok (.getfield 70, 3) := by decide +kernel
theorem dX4_readZone_51 : decode cX4_readZone 51 = .ok (.iastore, 1) := by decide +kernel
theorem dX4_readZone_52 : decode cX4_readZone 52 = .ok (.aload_n 0, 1) := by decide +kernel
theorem dX4_readZone_53 : decode cX4_readZone 53 = .ok (.iconst 1, 1) := by decide +kernel
theorem dX4_readZone_54 : decode cX4_readZone 54 = .ok (.bipush 99, 2) := by decide +kernel
theorem dX4_readZone_56 : decode cX4_readZone 56 = .ok (.invokevirtual 66, 3) := by decide +kernel
theorem dX4_readZone_59 : decode cX4_readZone 59 = .ok (.ifCond .ne 5, 3) := by decide +kernel
theorem dX4_readZone_62 : decode cX4_readZone 62 = .ok (.iconst 0, 1) := by decide +kernel
theorem dX4_readZone_63 : decode cX4_readZone 63 = .ok (.ireturn, 1) := by decide +kernel
theorem dX4_readZone_64 : decode cX4_readZone 64 = .ok (.aload_n 0, 1) := by decide +kernel
theorem dX4_readZone_65 : decode cX4_readZone 65 = .ok (.getfield 26, 3) := by decide +kernel
theorem dX4_readZone_68 : decode cX4_readZone 68 = .ok (.getfield 108, 3) := by decide +kernel
theorem dX4_readZone_71 : decode cX4_readZone 71 = .ok (.iload_n 1, 1) := by decide +kernel
theorem dX4_readZone_72 : decode cX4_readZone 72 = .ok (.aload_n 0, 1) := by decide +kernel
theorem dX4_readZone_73 : decode cX4_readZone 73 = .ok (.getfield 70, 3) := by decide +kernel
theorem dX4_readZone_76 : decode cX4_readZone 76 = .ok (.iastore, 1) := by decide +kernel
theorem dX4_readZone_77 : decode cX4_readZone 77 = .ok (.aload_n 0, 1) := by decide +kernel
theorem dX4_readZone_78 : decode cX4_readZone 78 = .ok (.iconst 1, 1) := by decide +kernel
theorem dX4_readZone_79 : decode cX4_readZone 79 = .ok (.sipush 999, 3) := by decide +kernel
theorem dX4_readZone_82 : decode cX4_readZone 82 = .ok (.invokevirtual 66, 3) := by decide +kernel
theorem dX4_readZone_85 : decode cX4_readZone 85 = .ok (.ifCond .ne 5, 3) := by decide +kernel
theorem dX4_readZone_88 : decode cX4_readZone 88 = .ok (.iconst 0, 1) := by decide +kernel
theorem dX4_readZone_89 : decode cX4_readZone 89 = .ok (.ireturn, 1) := by decide +kernel
theorem dX4_readZone_90 : decode cX4_readZone 90 = .ok (.aload_n 0, 1) := by decide +kernel
theorem dX4_readZone_91 : decode cX4_readZone 91 = .ok (.getfield 26, 3) := by decide +kernel
theorem dX4_readZone_94 : decode cX4_readZone 94 = .ok (.getfield 111, 3) := by decide +kernel
theorem dX4_readZone_97 : decode cX4_readZone 97 = .ok (.iload_n 1, 1) := by decide +kernel
theorem dX4_readZone_98 : decode cX4_readZone 98 = .ok (.aload_n 0, 1) := by decide +kernel
theorem dX4_readZone_99 : decode cX4_readZone 99 = .ok (.getfield 70, 3) := by decide +kernel
theorem dX4_readZone_102 : decode cX4_readZone 102 = .ok (.iastore, 1) := by decide +kernel
theorem dX4_readZone_103 : decode cX4_readZone 103 = .ok (.aload_n 0, 1) := by decide +kernel
theorem dX4_readZone_104 : decode cX4_readZone 104 = .ok (.bipush 20, 2) := by decide +kernel
theorem dX4_readZone_106 : decode cX4_readZone 106 = .ok (.sipush 900, 3) := by decide +kernel
theorem dX4_readZone_109 : decode cX4_readZone 109 = .ok (.invokevirtual 66, 3) := by decide +kernel
theorem dX4_readZone_112 : decode cX4_readZone 112 = .ok (.ifCond .ne 5, 3) := by decide +kernel
theorem dX4_readZone_115 : decode cX4_readZone 115 = .ok (.iconst 0, 1) := by decide +kernel
theorem dX4_readZone_116 : decode cX4_readZone 116 = .ok (.ireturn, 1) := by decide +kernel
theorem dX4_readZone_117 : decode cX4_readZone 117 = .ok (.aload_n 0, 1) := by decide +kernel
theorem dX4_readZone_118 : decode cX4_readZone 118 = .ok (.getfield 26, 3) := by decide +kernel
theorem dX4_readZone_121 : decode cX4_readZone 121 = .ok (.getfield 114, 3) := by decide +kernel
theorem dX4_readZone_124 : decode cX4_readZone 124 = .ok (.iload_n 1, 1) := by decide +kernel
theorem dX4_readZone_125 : decode cX4_readZone 125 = .ok (.aload_n 0, 1) := by decide +kernel
theorem dX4_readZone_126 : decode cX4_readZone 126 = .ok (.getfield 70, 3) := by decide +kernel
theorem dX4_readZone_129 : decode cX4_readZone 129 = .ok (.iastore, 1) := by decide +kernel
theorem dX4_readZone_130 : decode cX4_readZone 130 = .ok (.aload_n 0, 1) := by decide +kernel
theorem dX4_readZone_131 : decode cX4_readZone 131 = .ok (.aload_n 0, 1) := by decide +kernel
theorem dX4_readZone_132 : decode cX4_readZone 132 = .ok (.getfield 26, 3) := by decide +kernel
theorem dX4_readZone_135 : decode cX4_readZone 135 = .ok (.getfield 114, 3) := by decide +kernel
theorem dX4_readZone_138 : decode cX4_readZone 138 = .ok (.iload_n 1, 1) := by decide +kernel
theorem dX4_readZone_139 : decode cX4_readZone 139 = .ok (.iaload, 1) := by decide +kernel
theorem dX4_readZone_140 : decode cX4_readZone 140 = .ok (.sipush 900, 3) := by decide +kernel
theorem dX4_readZone_143 : decode cX4_readZone 143 = .ok (.invokevirtual 66, 3) := by decide +kernel
theorem dX4_readZone_146 : decode cX4_readZone 146 = .ok (.ifCond .ne 5, 3) := by decide +kernel
theorem dX4_readZone_149 : decode cX4_readZone 149 = .ok (.iconst 0, 1) := by decide +kernel
theorem dX4_readZone_150 : decode cX4_readZone 150 = .ok (.ireturn, 1) := by decide +kernel
theorem dX4_readZone_151 : decode cX4_readZone 151 = .ok (.aload_n 0, 1) := by decide +kernel
theorem dX4_readZone_152 : decode cX4_readZone 152 = .ok (.getfield 26, 3) := by decide +kernel
theorem dX4_readZone_155 : decode cX4_readZone 155 = .ok (.getfield 117, 3) := by decide +kernel
theorem dX4_readZone_158 : decode cX4_readZone 158 = .ok (.iload_n 1, 1) := by decide +kernel
theorem dX4_readZone_159 : decode cX4_readZone 159 = .ok (.aload_n 0, 1) := by decide +kernel
theorem dX4_readZone_160 : decode cX4_readZone 160 = .ok (.getfield 70, 3) := by decide +kernel
theorem dX4_readZone_163 : decode cX4_readZone 163 = .ok (.iastore, 1) := by decide +kernel
theorem dX4_readZone_164 : decode cX4_readZone 164 = .ok (.aload_n 0, 1) := by decide +kernel
theorem dX4_readZone_165 : decode cX4_readZone 165 = .ok (.getfield 26, 3) := by decide +kernel
theorem dX4_readZone_168 : decode cX4_readZone 168 = .ok (.dup, 1) := by decide +kernel
theorem dX4_readZone_169 : decode cX4_readZone 169 = .ok (.getfield 102, 3) := by decide +kernel
theorem dX4_readZone_172 : decode cX4_readZone 172 = .ok (.iconst 1, 1) := by decide +kernel
theorem dX4_readZone_173 : decode cX4_readZone 173 = .ok (.iadd, 1) := by decide +kernel
theorem dX4_readZone_174 : decode cX4_readZone 174 = .ok (.putfield 102, 3) := by decide +kernel
theorem dX4_readZone_177 : decode cX4_readZone 177 = .ok (.iconst 1, 1) := by decide +kernel
theorem dX4_readZone_178 : decode cX4_readZone 178 = .ok (.ireturn, 1) := by decide +kernel
theorem dX4_readBand_0 : decode cX4_readBand 0 = .ok (.aload_n 0, 1) := by decide +kernel
theorem dX4_readBand_1 : decode cX4_readBand 1 = .ok (.invokevirtual 47, 3) := by decide +kernel
theorem dX4_readBand_4 : decode cX4_readBand 4 = .ok (.aload_n 0, 1) := by decide +kernel
theorem dX4_readBand_5 : decode cX4_readBand 5 = .ok (.iconst 2, 1) := by decide +kernel
theorem dX4_readBand_6 : decode cX4_readBand 6 = .ok (.bipush 19, 2) := by decide +kernel
theorem dX4_readBand_8 : decode cX4_readBand 8 = .ok (.invokevirtual 66, 3) := by decide +kernel
theorem dX4_readBand_11 : decode cX4_readBand 11 = .ok (.ifCond .ne 5, 3) := by decide +kernel
theorem dX4_readBand_14 : decode cX4_readBand 14 = .ok (.iconst 0, 1) := by decide +kernel
theorem dX4_readBand_15 : decode cX4_readBand 15 = .ok (.ireturn, 1) := by decide +kernel
theorem dX4_readBand_16 : decode cX4_readBand 16 = .ok (.aload_n 0, 1) := by decide +kernel
theorem dX4_readBand_17 : decode cX4_readBand 17 = .ok (.getfield 70, 3) := by decide +kernel
theorem dX4_readBand_20 : decode cX4_readBand 20 = .ok (.istore_n 1, 1) := by decide +kernel
theorem dX4_readBand_21 : decode cX4_readBand 21 = .ok (.aload_n 0, 1) := by decide +kernel
theorem dX4_readBand_22 : decode cX4_readBand 22 = .ok (.bipush 20, 2) := by decide +kernel
theorem dX4_readBand_24 : decode cX4_readBand 24 = .ok (.sipush 900, 3) := by decide +kernel
theorem dX4_readBand_27 : decode cX4_readBand 27 = .ok (.invokevirtual 66, 3) := by decide +kernel
theorem dX4_readBand_30 : decode cX4_readBand 30 = .ok (.ifCond .ne 5, 3) := by decide +kernel
theorem dX4_readBand_33 : decode cX4_readBand 33 = .ok (.iconst 0, 1) := by decide +kernel
theorem dX4_readBand_34 : decode cX4_readBand 34 = .ok (.ireturn, 1) := by decide +kernel
theorem dX4_readBand_35 : decode cX4_readBand 35 = .ok (.aload_n 0, 1) := by decide +kernel
theorem dX4_readBand_36 : decode cX4_readBand 36 = .ok (.getfield 70, 3) := by decide +kernel
theorem dX4_readBand_39 : decode cX4_readBand 39 = .ok (.istore_n 2, 1) := by decide +kernel
theorem dX4_readBand_40 : decode cX4_readBand 40 = .ok (.aload_n 0, 1) := by decide +kernel
theorem dX4_readBand_41 : decode cX4_readBand 41 = .ok (.iload_n 2, 1) := by decide +kernel
theorem dX4_readBand_42 : decode cX4_readBand 42 = .ok (.sipush 900, 3) := by decide +kernel
theorem dX4_readBand_45 : decode cX4_readBand 45 = .ok (.invokevirtual 66, 3) := by decide +kernel
theorem dX4_readBand_48 : decode cX4_readBand 48 = .ok (.ifCond .ne 5, 3) := by decide +kernel
theorem dX4_readBand_51 : decode cX4_readBand 51 = .ok (.iconst 0, 1) := by decide +kernel
theorem dX4_readBand_52 : decode cX4_readBand 52 = .ok (.ireturn, 1) := by decide +kernel
theorem dX4_readBand_53 : decode cX4_readBand 53 = .ok (.aload_n 0, 1) := by decide +kernel
theorem dX4_readBand_54 : decode cX4_readBand 54 = .ok (.getfield 26, 3) := by decide +kernel
theorem dX4_readBand_57 : decode cX4_readBand 57 = .ok (.getfield 120, 3) := by decide +kernel
theorem dX4_readBand_60 : decode cX4_readBand 60 = .ok (.iload_n 1, 1) := by decide +kernel
theorem dX4_readBand_61 : decode cX4_readBand 61 = .ok (.iload_n 2, 1) := by decide +kernel
theorem dX4_readBand_62 : decode cX4_readBand 62 = .ok (.iastore, 1) := by decide +kernel
theorem dX4_readBand_63 : decode cX4_readBand 63 = .ok (.aload_n 0, 1) := by decide +kernel
theorem dX4_readBand_64 : decode cX4_readBand 64 = .ok (.getfield 26, 3) := by decide +kernel
theorem dX4_readBand_67 : decode cX4_readBand 67 = .ok (.getfield 123, 3) := by decide +kernel
theorem dX4_readBand_70 : decode cX4_readBand 70 = .ok (.iload_n 1, 1) := by decide +kernel
theorem dX4_readBand_71 : decode cX4_readBand 71 = .ok (.aload_n 0, 1) := by decide +kernel
theorem dX4_readBand_72 : decode cX4_readBand 72 = .ok (.getfield 70, 3) := by decide +kernel
theorem dX4_readBand_75 : decode cX4_readBand 75 = .ok (.iastore, 1) := by decide +kernel
theorem dX4_readBand_76 : decode cX4_readBand 76 = .ok (.iconst 1, 1) := by decide +kernel
theorem dX4_readBand_77 : decode cX4_readBand 77 = .ok (.ireturn, 1) := by decide +kernel
theorem dX4_readHeat_0 : decode cX4_readHeat 0 = .ok (.aload_n 0, 1) := by decide +kernel
theorem dX4_readHeat_1 : decode cX4_readHeat 1 = .ok (.iconst 1, 1) := by decide +kernel
theorem dX4_readHeat_2 : decode cX4_readHeat 2 = .ok (.putfield 43, 3) := by decide +kernel
theorem dX4_readHeat_5 : decode cX4_readHeat 5 = .ok (.aload_n 0, 1) := by decide +kernel
theorem dX4_readHeat_6 : decode cX4_readHeat 6 = .ok (.iconst 0, 1) := by decide +kernel
theorem dX4_readHeat_7 : decode cX4_readHeat 7 = .ok (.putfield 126, 3) := by decide +kernel
theorem dX4_readHeat_10 : decode cX4_readHeat 10 = .ok (.aload_n 0, 1) := by decide +kernel
theorem dX4_readHeat_11 : decode cX4_readHeat 11 = .ok (.invokevirtual 47, 3) := by decide +kernel
theorem dX4_readHeat_14 : decode cX4_readHeat 14 = .ok (.aload_n 0, 1) := by decide +kernel
theorem dX4_readHeat_15 : decode cX4_readHeat 15 = .ok (.iconst 0, 1) := by decide +kernel
theorem dX4_readHeat_16 : decode cX4_readHeat 16 = .ok (.invokevirtual 129, 3) := by decide +kernel
theorem dX4_readHeat_19 : decode cX4_readHeat 19 = .ok (.ifCond .ne 5, 3) := by decide +kernel
theorem dX4_readHeat_22 : decode cX4_readHeat 22 = .ok (.iconst 0, 1) := by decide +kernel
theorem dX4_readHeat_23 : decode cX4_readHeat 23 = .ok (.ireturn, 1) := by decide +kernel
theorem dX4_readHeat_24 : decode cX4_readHeat 24 = .ok (.aload_n 0, 1) := by decide +kernel
theorem dX4_readHeat_25 : decode cX4_readHeat 25 = .ok (.getfield 26, 3) := by decide +kernel
theorem dX4_readHeat_28 : decode cX4_readHeat 28 = .ok (.new 132, 3) := by decide +kernel
theorem dX4_readHeat_31 : decode cX4_readHeat 31 = .ok (.dup, 1) := by decide +kernel
theorem dX4_readHeat_32 : decode cX4_readHeat 32 = .ok (.aload_n 0, 1) := by decide +kernel
theorem dX4_readHeat_33 : decode cX4_readHeat 33 = .ok (.getfield 15, 3) := by decide +kernel
theorem dX4_readHeat_36 : decode cX4_readHeat 36 = .ok (.aload_n 0, 1) := by decide +kernel
theorem dX4_readHeat_37 : decode cX4_readHeat 37 = .ok (.getfield 126, 3) := by decide +kernel
theorem dX4_readHeat_40 : decode cX4_readHeat 40 = .ok (.invokespecial 134, 3) := by decide +kernel
theorem dX4_readHeat_43 : decode cX4_readHeat 43 = .ok (.putfield 137, 3) := by decide +kernel
theorem dX4_readHeat_46 : decode cX4_readHeat 46 = .ok (.iconst 1, 1) := by decide +kernel
theorem dX4_readHeat_47 : decode cX4_readHeat 47 = .ok (.ireturn, 1) := by decide +kernel
theorem dX4_readSum_0 : decode cX4_readSum 0 = .ok (.aload_n 0, 1) := by decide +kernel
theorem dX4_readSum_1 : decode cX4_readSum 1 = .ok (.iload_n 1, 1) := by decide +kernel
theorem dX4_readSum_2 : decode cX4_readSum 2 = .ok (.invokevirtual 140, 3) := by decide +kernel
theorem dX4_readSum_5 : decode cX4_readSum 5 = .ok (.ifCond .ne 5, 3) := by decide +kernel
theorem dX4_readSum_8 : decode cX4_readSum 8 = .ok (.iconst 0, 1) := by decide +kernel
theorem dX4_readSum_9 : decode cX4_readSum 9 = .ok (.ireturn, 1) := by decide +kernel
theorem dX4_readSum_10 : decode cX4_readSum 10 = .ok (.iconst 0, 1) := by decide +kernel
theorem dX4_readSum_11 : decode cX4_readSum 11 = .ok (.istore_n 2, 1) := by decide +kernel
theorem dX4_readSum_12 : decode cX4_readSum 12 = .ok (.iload_n 2, 1) := by decide +kernel
theorem dX4_readSum_13 : decode cX4_readSum 13 = .ok (.aload_n 0, 1) := by decide +kernel
theorem dX4_readSum_14 : decode cX4_readSum 14 = .ok (.getfield 37, 3) := by decide +kernel
theorem dX4_readSum_17 : decode cX4_readSum 17 = .ok (.if_icmp .ge 62, 3) := by decide +kernel
theorem dX4_readSum_20 : decode cX4_readSum 20 = .ok (.aload_n 0, 1) := by decide +kernel
theorem dX4_readSum_21 : decode cX4_readSum 21 = .ok (.bipush 43, 2) := by decide +kernel
theorem dX4_readSum_23 : decode cX4_readSum 23 = .ok (.invokevirtual 143, 3) := by decide +kernel
theorem dX4_readSum_26 : decode cX4_readSum 26 = .ok (.ifCond .ne 12, 3) := by decide +kernel
theorem dX4_readSum_29 : decode cX4_readSum 29 = .ok (.aload_n 0, 1) := by decide +kernel
theorem dX4_readSum_30 : decode cX4_readSum 30 = .ok (.bipush 45, 2) := by decide +kernel
theorem dX4_readSum_32 : decode cX4_readSum 32 = .ok (.invokevirtual 143, 3) := by decide +kernel
theorem dX4_readSum_35 : decode cX4_readSum 35 = .ok (.ifCond .eq 44, 3) := by decide +kernel
theorem dX4_readSum_38 : decode cX4_readSum 38 = .ok (.aload_n 0, 1) := by decide +kernel
theorem dX4_readSum_39 : decode cX4_readSum 39 = .ok (.bipush 43, 2) := by decide +kernel
theorem dX4_readSum_41 : decode cX4_readSum 41 = .ok (.invokevirtual 143, 3) := by decide +kernel
theorem dX4_readSum_44 : decode cX4_readSum 44 = .ok (.ifCond .eq 7, 3) := by decide +kernel
theorem dX4_readSum_47 : decode cX4_readSum 47 = .ok (.iconst (-1), 1) := by decide +kernel
theorem dX4_readSum_48 : decode cX4_readSum 48 = .ok (.goto 5, 3) := by decide +kernel
theorem dX4_readSum_51 : decode cX4_readSum 51 = .ok (.bipush (-2), 2) := by decide +kernel
theorem dX4_readSum_53 : decode cX4_readSum 53 = .ok (.istore_n 3, 1) := by decide +kernel
theorem dX4_readSum_54 : decode cX4_readSum 54 = .ok (.aload_n 0, 1) := by decide +kernel
theorem dX4_readSum_55 : decode cX4_readSum 55 = .ok (.invokevirtual 47, 3) := by decide +kernel
theorem dX4_readSum_58 : decode cX4_readSum 58 = .ok (.aload_n 0, 1) := by decide +kernel
theorem dX4_readSum_59 : decode cX4_readSum 59 = .ok (.iload_n 1, 1) := by decide +kernel
theorem dX4_readSum_60 : decode cX4_readSum 60 = .ok (.invokevirtual 140, 3) := by decide +kernel
theorem dX4_readSum_63 : decode cX4_readSum 63 = .ok (.ifCond .ne 5, 3) := by decide +kernel
theorem dX4_readSum_66 : decode cX4_readSum 66 = .ok (.iconst 0, 1) := by decide +kernel
theorem dX4_readSum_67 : decode cX4_readSum 67 = .ok (.ireturn, 1) := by decide +kernel
theorem dX4_readSum_68 : decode cX4_readSum 68 = .ok (.aload_n 0, 1) := by decide +kernel
theorem dX4_readSum_69 : decode cX4_readSum 69 = .ok (.iload_n 3, 1) := by decide +kernel
theorem dX4_readSum_70 : decode cX4_readSum 70 = .ok (.invokevirtual 146, 3) := by decide +kernel
theorem dX4_readSum_73 : decode cX4_readSum 73 = .ok (.iinc 2 1, 3) := by decide +kernel
theorem dX4_readSum_76 : decode cX4_readSum 76 = .ok (.goto (-64), 3) := by decide +kernel
theorem dX4_readSum_79 : decode cX4_readSum 79 = .ok (.iconst 1, 1) := by decide +kernel
theorem dX4_readSum_80 : decode cX4_readSum 80 = .ok (.ireturn, 1) := by decide +kernel
theorem dX4_readTerm_0 : decode cX4_readTerm 0 = .ok (.aload_n 0, 1) := by decide +kernel
theorem dX4_readTerm_1 : decode cX4_readTerm 1 = .ok (.iload_n 1, 1) := by decide +kernel
