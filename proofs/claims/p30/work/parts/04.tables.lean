/-! THE TABLES: classes, methods, constant pools; each row is held against the words of the tables -/
abbrev vwCl : List vw_C := [(RX0, TX0, 2), (RX1, TX1, 3), (RX2, TX2, 15), (RX3, TX3, 11), (RX4, TX4, 13), (RX5, TX5, 4), (RX6, TX6, 10), (RX7, TX7, 4), (RX8, TX8, 1), (RX9, TX9, 4), (RJ4, TJ4, 4), (RJ0, TJ0, 4)]
def cR : Nat → String
  | 0 => RX0
  | 1 => RX1
  | 2 => RX2
  | 3 => RX3
  | 4 => RX4
  | 5 => RX5
  | 6 => RX6
  | 7 => RX7
  | 8 => RX8
  | 9 => RX9
  | 10 => RJ4
  | 11 => RJ0
  | 12 => RL
  | 13 => RJ1
  | 14 => RJ3
  | 15 => RJ5
  | 16 => RJ6
  | 17 => RJ7
  | 18 => RJ8
  | _ => ""
def cT : Nat → u_T
  | 0 => TX0
  | 1 => TX1
  | 2 => TX2
  | 3 => TX3
  | 4 => TX4
  | 5 => TX5
  | 6 => TX6
  | 7 => TX7
  | 8 => TX8
  | 9 => TX9
  | 10 => TJ4
  | 11 => TJ0
  | _ => fun _ => ("", "", "", false)
def cY : Nat → (Nat → FieldType)
  | 0 => tyX0
  | 1 => tyX1
  | 2 => tyX2
  | 3 => tyX3
  | 4 => tyX4
  | 5 => tyX5
  | 6 => tyX6
  | 7 => tyX7
  | 8 => tyX8
  | 9 => tyX9
  | 10 => tyJ4
  | 11 => tyJ0
  | _ => fun _ => .int
def cNf : Nat → Nat
  | 0 => 2
  | 1 => 3
  | 2 => 15
  | 3 => 11
  | 4 => 13
  | 5 => 4
  | 6 => 10
  | 7 => 4
  | 8 => 1
  | 9 => 4
  | 10 => 4
  | 11 => 4
  | _ => 0
/-- the kind of an object of class c: arrays have the kinds 10 to 16 -/
def kc (c : Nat) : Nat := if c < 9 then c + 1 else c + 11
theorem kc_rng (c : Nat) : (1 ≤ kc c ∧ kc c < 10) ∨ 20 ≤ kc c := by unfold kc; split <;> omega
theorem kc_inj {a b : Nat} (h : kc a = kc b) : a = b := by unfold kc at h; split at h <;> split at h <;> omega
abbrev MI : Type := MethodName × ByteArray × Nat × Option FieldType × Nat × List (Nat × Nat × Nat × Nat)
def mtab : List MI := [
  (yX0_init, cX0_init, 4, none, 0, []),
  (yX0_valueFor, cX0_valueFor, 7, some .int, 0, []),
  (yX0_result, cX0_result, 5, some .int, 0, []),
  (yX1_init, cX1_init, 3, none, 1, []),
  (yX1_remember, cX1_remember, 2, none, 1, []),
  (yX1_restoreLatest, cX1_restoreLatest, 2, some .int, 1, []),
  (yX2_init, cX2_init, 2, none, 2, []),
  (yX2_exists, cX2_exists, 1, some .boolean, 2, []),
  (yX2_isSheet, cX2_isSheet, 2, some .boolean, 2, []),
  (yX2_startWith, cX2_startWith, 3, none, 2, []),
  (yX2_standReady, cX2_standReady, 2, none, 2, []),
  (yX2_holdOnly, cX2_holdOnly, 3, none, 2, []),
  (yX2_putSheet, cX2_putSheet, 3, some .int, 2, []),
  (yX2_copyFrom, cX2_copyFrom, 2, none, 2, []),
  (yX2_sheetsIn, cX2_sheetsIn, 4, some .int, 2, []),
  (yX2_isFinished, cX2_isFinished, 2, some .boolean, 2, []),
  (yX2_ticksToFinish, cX2_ticksToFinish, 3, some .int, 2, []),
  (yX2_tick, cX2_tick, 3, none, 2, []),
  (yX2_heatZones, cX2_heatZones, 3, none, 2, []),
  (yX2_heatSheetIn, cX2_heatSheetIn, 9, none, 2, []),
  (yX2_quench, cX2_quench, 2, some .int, 2, []),
  (yX2_judge, cX2_judge, 6, none, 2, []),
  (yX2_learn, cX2_learn, 3, none, 2, []),
  (yX2_moveSheetFrom, cX2_moveSheetFrom, 6, none, 2, []),
  (yX2_correctionFor, cX2_correctionFor, 2, some .int, 2, []),
  (yX2_moveToQuench, cX2_moveToQuench, 3, none, 2, []),
  (yX2_moveToNext, cX2_moveToNext, 4, none, 2, []),
  (yX2_fillFirstZone, cX2_fillFirstZone, 2, none, 2, []),
  (yX2_spoil, cX2_spoil, 3, none, 2, []),
  (yX2_digest, cX2_digest, 4, some .long, 2, []),
  (yX3_init, cX3_init, 2, none, 3, []),
  (yX4_init, cX4_init, 1, none, 4, []),
  (yX4_putWord, cX4_putWord, 3, none, 4, []),
  (yX4_begin, cX4_begin, 2, none, 4, []),
  (yX4_fail, cX4_fail, 2, some .boolean, 4, []),
  (yX4_readHeader, cX4_readHeader, 1, some .boolean, 4, []),
  (yX4_readStatements, cX4_readStatements, 3, some .boolean, 4, []),
  (yX4_readZone, cX4_readZone, 2, some .boolean, 4, []),
  (yX4_readBand, cX4_readBand, 3, some .boolean, 4, []),
  (yX4_readHeat, cX4_readHeat, 1, some .boolean, 4, []),
  (yX4_readSum, cX4_readSum, 4, some .boolean, 4, []),
  (yX4_readTerm, cX4_readTerm, 4, some .boolean, 4, []),
  (yX4_readFactor, cX4_readFactor, 2, some .boolean, 4, []),
  (yX4_putStep, cX4_putStep, 2, none, 4, []),
  (yX4_takeNumber, cX4_takeNumber, 5, some .boolean, 4, []),
  (yX4_takeSign, cX4_takeSign, 2, some .boolean, 4, []),
  (yX4_signIs, cX4_signIs, 2, some .boolean, 4, []),
  (yX4_wordIs, cX4_wordIs, 3, some .boolean, 4, []),
  (yX4_readToken, cX4_readToken, 1, none, 4, []),
  (yX4_isDigit, cX4_isDigit, 1, some .boolean, 4, []),
  (yX4_isLetter, cX4_isLetter, 1, some .boolean, 4, []),
  (yX5_init, cX5_init, 2, none, 5, []),
  (yX5_append, cX5_append, 6, some .int, 5, []),
  (yX5_load, cX5_load, 2, some .int, 5, []),
  (yX5_errorOffset, cX5_errorOffset, 1, some .int, 5, []),
  (yX5_zoneCount, cX5_zoneCount, 1, some .int, 5, []),
  (yX5_sheetCount, cX5_sheetCount, 1, some .int, 5, []),
  (yX5_clock, cX5_clock, 1, some .int, 5, []),
  (yX5_zone, cX5_zone, 3, some .int, 5, []),
  (yX5_thickness, cX5_thickness, 2, some .int, 5, []),
  (yX5_temperature, cX5_temperature, 2, some .int, 5, []),
  (yX5_state, cX5_state, 2, some .int, 5, []),
  (yX5_quenched, cX5_quenched, 1, some .int, 5, []),
  (yX5_quenchLeft, cX5_quenchLeft, 1, some .int, 5, []),
  (yX5_count, cX5_count, 2, some .int, 5, []),
  (yX5_learned, cX5_learned, 3, some .int, 5, []),
  (yX5_guard, cX5_guard, 3, some .int, 5, []),
  (yX5_finishTime, cX5_finishTime, 2, some .int, 5, []),
  (yX5_stateAfter, cX5_stateAfter, 3, some .int, 5, []),
  (yX5_bestSetpoint, cX5_bestSetpoint, 8, some .int, 5, []),
  (yX5_add, cX5_add, 4, some .int, 5, []),
  (yX5_run, cX5_run, 4, some .int, 5, []),
  (yX5_setPoint, cX5_setPoint, 4, some .int, 5, []),
  (yX5_setCorrection, cX5_setCorrection, 4, some .int, 5, []),
  (yX5_scrap, cX5_scrap, 3, some .int, 5, []),
  (yX5_undo, cX5_undo, 1, some .int, 5, []),
  (yX5_checksum, cX5_checksum, 1, some .long, 5, []),
  (yX5_doneWith, cX5_doneWith, 2, some .int, 5, []),
  (yX5_requireLine, cX5_requireLine, 1, none, 5, []),
  (yX5_requireArgument, cX5_requireArgument, 3, none, 5, []),
  (yX5_requireIndex, cX5_requireIndex, 2, none, 5, []),
  (yX5_isWithin, cX5_isWithin, 3, some .boolean, 5, []),
  (yX5_isThickness, cX5_isThickness, 1, some .boolean, 5, []),
  (yX5_limit, cX5_limit, 3, some .int, 5, []),
  (yX5_thicknessOf, cX5_thicknessOf, 2, some .int, 5, []),
  (yX6_init, cX6_init, 1, none, 6, []),
  (yX6_copy, cX6_copy, 3, some (.object "TemperingLineLaw$Line"), 6, []),
  (yX6_at, cX6_at, 3, some .int, 6, []),
  (yX6_share, cX6_share, 4, some .int, 6, []),
  (yX6_out, cX6_out, 3, none, 6, []),
  (yX6_cool, cX6_cool, 5, none, 6, []),
  (yX6_step, cX6_step, 5, none, 6, []),
  (yX6_tick, cX6_tick, 5, none, 6, []),
  (yX6_count, cX6_count, 7, some .int, 6, []),
  (yX6_recognised, cX6_recognised, 3, some .int, 6, []),
  (yX6_add, cX6_add, 4, none, 6, []),
  (yX6_sum, cX6_sum, 8, some .long, 6, []),
  (yX7_init, cX7_init, 1, none, 7, []),
  (yX7_random, cX7_random, 3, some (.object "TemperingLineLaw$Node"), 7, []),
  (yX7_text, cX7_text, 4, some (.object "java/lang/String"), 7, []),
  (yX7_value, cX7_value, 8, some .long, 7, []),
  (yX8_init, cX8_init, 2, none, 8, []),
  (yX8_below, cX8_below, 2, some .int, 8, []),
  (yX9_init, cX9_init, 2, none, 9, []),
  (yX9_copy, cX9_copy, 2, some (.object "TemperingLineLaw$Sheet"), 9, []),
  (yJ4_init_da8c8, cJ4_init_da8c8, 1, none, 10, []),
  (yJ4_append_15ec4, cJ4_append_15ec4, 2, some (.object "java/lang/StringBuilder"), 10, []),
  (yJ4_append_bf812, cJ4_append_bf812, 2, some (.object "java/lang/StringBuilder"), 10, []),
  (yJ4_toString_0e30d, cJ4_toString_0e30d, 1, some (.object "java/lang/String"), 10, []),
  (yJ4_length_8abf5, cJ4_length_8abf5, 1, some .int, 10, []),
  (yJ0_init_81219, cJ0_init_81219, 2, none, 11, []),
  (yJ0_length_8abf5, cJ0_length_8abf5, 1, some .int, 11, []),
  (yJ0_charAt_5068e, cJ0_charAt_5068e, 2, some .char, 11, []),
  (yJ0_getBytes_840e7, cJ0_getBytes_840e7, 4, none, 11, []),
  (yJ0_init_db425, cJ0_init_db425, 5, none, 11, []),
  (yJ0_coder_7d493, cJ0_coder_7d493, 1, some .byte, 11, []),
  (yJ0_isLatin1_aae02, cJ0_isLatin1_aae02, 1, some .boolean, 11, []),
  (yJ0_checkIndex_df160, cJ0_checkIndex_df160, 2, none, 11, []),
  (yL_put, cL_put, 3, none, 12, []),
  (yL_flush, cL_flush, 3, none, 12, []),
  (yL_loadText, cL_loadText, 3, some .int, 12, []),
  (yL_write, cL_write, 4, none, 12, []),
  (yL_writeNumber, cL_writeNumber, 4, none, 12, []),
  (yL_load, cL_load, 3, some .int, 12, [(0, 5, 6, 40)]),
  (yL_zone, cL_zone, 4, some .int, 12, [(0, 6, 7, 47), (0, 6, 11, 40)]),
  (yL_thickness, cL_thickness, 3, some .int, 12, [(0, 5, 6, 47)]),
  (yL_temperature, cL_temperature, 3, some .int, 12, [(0, 5, 6, 47)]),
  (yL_state, cL_state, 3, some .int, 12, [(0, 5, 6, 47)]),
  (yL_count, cL_count, 3, some .int, 12, [(0, 5, 6, 40)]),
  (yL_learned, cL_learned, 4, some .int, 12, [(0, 6, 7, 40)]),
  (yL_guard, cL_guard, 3, some .int, 12, [(0, 5, 6, 40)]),
  (yL_finishTime, cL_finishTime, 3, some .int, 12, [(0, 5, 6, 40)]),
  (yL_stateAfter, cL_stateAfter, 4, some .int, 12, [(0, 6, 7, 47), (0, 6, 11, 40)]),
  (yL_add, cL_add, 4, some .int, 12, [(0, 6, 7, 40), (0, 6, 11, 83)]),
  (yL_run, cL_run, 3, some .int, 12, [(0, 5, 6, 40), (0, 5, 10, 83)]),
  (yL_setPoint, cL_setPoint, 4, some .int, 12, [(0, 6, 7, 47), (0, 6, 11, 40)]),
  (yL_setCorrection, cL_setCorrection, 4, some .int, 12, [(0, 6, 7, 40), (0, 6, 11, 83)]),
  (yL_scrap, cL_scrap, 3, some .int, 12, [(0, 5, 6, 47), (0, 5, 10, 83)]),
  (yL_with, cL_with, 4, some (.array (.array .int)), 12, []),
  (yL_writeNumbers, cL_writeNumbers, 8, none, 12, []),
  (yL_randomLine, cL_randomLine, 9, some (.object "TemperingLineLaw$Line"), 12, []),
  (yL_agrees, cL_agrees, 4, some .boolean, 12, []),
  (yL_law, cL_law, 25, some .boolean, 12, []),
  (yJ1_charAt_3b067, cJ1_charAt_3b067, 2, some .char, 13, []),
  (yJ3_checkIndex_8e157, cJ3_checkIndex_8e157, 3, some .int, 14, []),
  (yJ5_init_d00df, cJ5_init_d00df, 2, none, 15, []),
  (yJ5_length_8abf5, cJ5_length_8abf5, 1, some .int, 15, []),
  (yJ5_ensureCapacityInternal_d00df, cJ5_ensureCapacityInternal_d00df, 3, none, 15, []),
  (yJ5_newCapacity_0f7a4, cJ5_newCapacity_0f7a4, 6, some .int, 15, []),
  (yJ5_append_cf1ce, cJ5_append_cf1ce, 3, some (.object "java/lang/AbstractStringBuilder"), 15, []),
  (yJ5_append_c97b9, cJ5_append_c97b9, 4, some (.object "java/lang/AbstractStringBuilder"), 15, []),
  (yJ5_getValue_6d5f1, cJ5_getValue_6d5f1, 1, some (.array .byte), 15, []),
  (yJ5_isLatin1_aae02, cJ5_isLatin1_aae02, 1, some .boolean, 15, []),
  (yJ5_inflateIfNeededFor_a7421, cJ5_inflateIfNeededFor_a7421, 2, none, 15, []),
  (yJ5_putStringAt_47b60, cJ5_putStringAt_47b60, 3, none, 15, []),
  (yJ6_getChars_ba4f3, cJ6_getChars_ba4f3, 7, some .int, 16, []),
  (yJ6_stringSize_0f7a4, cJ6_stringSize_0f7a4, 4, some .int, 16, []),
  (yJ7_copyOf_9075b, cJ7_copyOf_9075b, 3, some (.array .byte), 17, []),
  (yJ7_checkLength_df160, cJ7_checkLength_df160, 2, none, 17, []),
  (yJ7_copyOfRange_39247, cJ7_copyOfRange_39247, 3, some (.array .byte), 17, []),
  (yJ7_copyOfRangeByte_39247, cJ7_copyOfRangeByte_39247, 5, some (.array .byte), 17, []),
  (yJ8_newLength_cabcc, cJ8_newLength_cabcc, 4, some .int, 18, [])]
def mwi : List Nat := [92, 371, 374, 292, 815, 437, 225, 331, 367, 820, 824, 880, 884, 339, 429, 348, 344, 352, 356, 363, 386, 390, 400, 404, 408, 416, 420, 424, 412, 1291, 86, 172, 991, 685, 757, 700, 776, 781, 786, 791, 795, 799, 803, 807, 761, 768, 772, 705, 690, 693, 696, 78, 987, 611, 323, 1266, 1270, 1274, 833, 1304, 1311, 1318, 1278, 1283, 861, 868, 876, 891, 898, 327, 906, 939, 949, 956, 963, 433, 1287, 335, 913, 614, 836, 396, 393, 96, 909, 443, 494, 545, 549, 536, 570, 575, 540, 580, 583, 587, 1296, 1012, 1007, 1033, 554, 593, 602, 511, 506, 1038, 1068, 1161, 1186, 1206, 1191, 709, 719, 1155, 1194, 713, 723, 729, 980, 983, 1259, 975, 995, 606, 828, 1300, 1307, 1314, 857, 864, 872, 887, 894, 901, 935, 945, 952, 959, 1001, 972, 968, 1262, 0, 726, 734, 1041, 1208, 1079, 1083, 1071, 1164, 1200, 1107, 1131, 1127, 1170, 1167, 1095, 1218, 1212, 1215, 1086]
def mwx : List (Nat × Nat × Nat) := [(9999, 91, 9999), (9999, 370, 9), (373, 9999, 9999), (9999, 291, 9999), (9999, 814, 38), (9999, 436, 20), (9999, 224, 9999), (9999, 330, 0), (9999, 366, 8), (9999, 819, 39), (9999, 823, 40), (9999, 879, 41), (9999, 883, 42), (9999, 338, 2), (9999, 428, 19), (9999, 347, 4), (9999, 343, 3), (9999, 351, 5), (9999, 355, 6), (9999, 362, 7), (9999, 385, 10), (9999, 389, 11), (9999, 399, 12), (9999, 403, 13), (9999, 407, 14), (9999, 415, 16), (9999, 419, 17), (9999, 423, 18), (9999, 411, 15), (9999, 1290, 45), (9999, 85, 9999), (9999, 171, 9999), (9999, 990, 44), (9999, 684, 22), (9999, 756, 26), (9999, 699, 24), (9999, 775, 30), (9999, 780, 31), (9999, 785, 32), (9999, 790, 33), (9999, 794, 34), (9999, 798, 35), (9999, 802, 36), (9999, 806, 37), (9999, 760, 27), (9999, 767, 28), (9999, 771, 29), (9999, 704, 25), (9999, 689, 23), (692, 9999, 9999), (695, 9999, 9999), (9999, 77, 9999), (9999, 985, 986), (9999, 609, 610), (9999, 321, 322), (9999, 1264, 1265), (9999, 1268, 1269), (9999, 1272, 1273), (9999, 831, 832), (9999, 1302, 1303), (9999, 1309, 1310), (9999, 1316, 1317), (9999, 1276, 1277), (9999, 1281, 1282), (9999, 859, 860), (9999, 866, 867), (9999, 874, 875), (9999, 889, 890), (9999, 896, 897), (9999, 325, 326), (9999, 904, 905), (9999, 937, 938), (9999, 947, 948), (9999, 954, 955), (9999, 961, 962), (9999, 431, 432), (9999, 1285, 1286), (9999, 334, 1), (9999, 912, 43), (613, 9999, 9999), (835, 9999, 9999), (395, 9999, 9999), (392, 9999, 9999), (95, 9999, 9999), (908, 9999, 9999), (9999, 442, 9999), (9999, 492, 493), (9999, 543, 544), (9999, 547, 548), (9999, 534, 535), (9999, 568, 569), (9999, 573, 574), (9999, 538, 539), (9999, 578, 579), (582, 9999, 9999), (9999, 585, 586), (9999, 1294, 1295), (9999, 1011, 9999), (1006, 9999, 9999), (9999, 1031, 1032), (9999, 552, 553), (9999, 592, 9999), (9999, 600, 601), (9999, 510, 9999), (9999, 504, 505), (9999, 1037, 9999), (9999, 1066, 1067), (9999, 1159, 1160), (9999, 1184, 1185), (9999, 1205, 9999), (9999, 1190, 9999), (9999, 707, 708), (9999, 717, 718), (9999, 1153, 1154), (9999, 1193, 9999), (9999, 711, 712), (9999, 721, 722), (728, 9999, 9999), (979, 9999, 9999), (982, 9999, 9999), (1258, 9999, 9999), (974, 9999, 9999), (994, 9999, 9999), (605, 9999, 9999), (827, 9999, 9999), (1299, 9999, 9999), (1306, 9999, 9999), (1313, 9999, 9999), (856, 9999, 9999), (863, 9999, 9999), (871, 9999, 9999), (886, 9999, 9999), (893, 9999, 9999), (900, 9999, 9999), (934, 9999, 9999), (944, 9999, 9999), (951, 9999, 9999), (958, 9999, 9999), (1000, 9999, 9999), (971, 9999, 9999), (967, 9999, 9999), (1261, 9999, 9999), (9999, 9999, 9999), (725, 9999, 9999), (733, 9999, 9999), (9999, 1040, 9999), (9999, 1202, 9999), (9999, 1078, 9999), (9999, 1082, 9999), (9999, 1070, 9999), (9999, 1163, 9999), (9999, 1197, 9999), (9999, 1104, 9999), (9999, 1130, 9999), (9999, 1126, 9999), (1169, 9999, 9999), (1166, 9999, 9999), (1094, 9999, 9999), (1217, 9999, 9999), (1211, 9999, 9999), (1214, 9999, 9999), (1085, 9999, 9999)]
def codeW (e : MI) : Cond := if e.2.2.2.2.2 = [] then .code e.1 e.2.1 e.2.2.1 e.2.2.2.1 else .codeWith e.1 e.2.1 e.2.2.1 e.2.2.2.1 e.2.2.2.2.2
def fldT : List ((Nat × Nat) × Nat × Bool × Nat × Nat × String) := [
  ((0, 13), 100, false, 0, 0, ""),
  ((0, 25), 101, false, 0, 1, ""),
  ((1, 11), 297, false, 1, 0, ""),
  ((1, 20), 298, false, 1, 1, ""),
  ((1, 28), 299, false, 1, 2, ""),
  ((2, 9), 227, false, 2, 0, ""),
  ((2, 15), 233, false, 2, 3, ""),
  ((2, 19), 237, false, 2, 5, ""),
  ((2, 23), 239, false, 2, 6, ""),
  ((2, 26), 241, false, 2, 7, ""),
  ((2, 29), 243, false, 2, 8, ""),
  ((2, 32), 245, false, 2, 9, ""),
  ((2, 35), 247, false, 2, 10, ""),
  ((2, 38), 249, false, 2, 11, ""),
  ((2, 41), 251, false, 2, 12, ""),
  ((2, 44), 253, false, 2, 13, ""),
  ((2, 47), 255, false, 2, 14, ""),
  ((2, 50), 108, true, 3, 0, "TemperingLine"),
  ((2, 55), 231, false, 2, 2, ""),
  ((2, 58), 229, false, 2, 1, ""),
  ((2, 64), 116, true, 3, 3, "TemperingLine"),
  ((2, 65), 235, false, 2, 4, ""),
  ((2, 105), 121, true, 3, 4, "TemperingLine"),
  ((2, 118), 144, true, 3, 10, "TemperingLine"),
  ((2, 131), 125, true, 3, 5, "TemperingLine"),
  ((2, 140), 137, true, 3, 8, "TemperingLine"),
  ((2, 143), 141, true, 3, 9, "TemperingLine"),
  ((2, 146), 114, true, 3, 2, "TemperingLine"),
  ((2, 156), 133, true, 3, 7, "TemperingLine"),
  ((2, 162), 129, true, 3, 6, "TemperingLine"),
  ((2, 171), 112, true, 3, 1, "TemperingLine"),
  ((3, 9), 115, false, 3, 3, ""),
  ((3, 15), 118, false, 3, 4, ""),
  ((3, 18), 122, false, 3, 5, ""),
  ((3, 21), 126, false, 3, 6, ""),
  ((3, 24), 130, false, 3, 7, ""),
  ((3, 27), 134, false, 3, 8, ""),
  ((3, 30), 138, false, 3, 9, ""),
  ((3, 38), 142, false, 3, 10, ""),
  ((4, 9), 176, false, 4, 0, ""),
  ((4, 15), 191, false, 4, 11, ""),
  ((4, 19), 186, false, 4, 8, ""),
  ((4, 26), 188, false, 4, 9, ""),
  ((4, 30), 178, false, 4, 1, ""),
  ((4, 37), 179, false, 4, 2, ""),
  ((4, 40), 182, false, 4, 5, ""),
  ((4, 43), 190, false, 4, 10, ""),
  ((4, 50), 185, false, 4, 7, ""),
  ((4, 53), 181, false, 4, 4, ""),
  ((4, 70), 183, false, 4, 6, ""),
  ((4, 73), 111, true, 3, 1, "TemperingLine"),
  ((4, 76), 113, true, 3, 2, "TemperingLine"),
  ((4, 83), 180, false, 4, 3, ""),
  ((4, 102), 110, true, 3, 0, "TemperingLine"),
  ((4, 105), 117, true, 3, 3, "TemperingLine"),
  ((4, 108), 119, true, 3, 4, "TemperingLine"),
  ((4, 111), 123, true, 3, 5, "TemperingLine"),
  ((4, 114), 127, true, 3, 6, "TemperingLine"),
  ((4, 117), 131, true, 3, 7, "TemperingLine"),
  ((4, 120), 135, true, 3, 8, "TemperingLine"),
  ((4, 123), 139, true, 3, 9, "TemperingLine"),
  ((4, 126), 192, false, 4, 12, ""),
  ((4, 137), 143, true, 3, 10, "TemperingLine"),
  ((5, 15), 307, false, 5, 0, ""),
  ((5, 24), 308, false, 5, 1, ""),
  ((5, 28), 309, false, 5, 2, ""),
  ((5, 34), 310, false, 5, 3, ""),
  ((5, 38), 177, true, 4, 1, "TemperingLine"),
  ((5, 60), 184, true, 4, 7, "TemperingLine"),
  ((5, 67), 189, true, 4, 9, "TemperingLine"),
  ((5, 74), 228, true, 2, 0, "TemperingLine"),
  ((5, 75), 109, true, 3, 0, "TemperingLine"),
  ((5, 78), 187, true, 4, 8, "TemperingLine"),
  ((5, 81), 232, true, 2, 2, "TemperingLine"),
  ((5, 84), 230, true, 2, 1, "TemperingLine"),
  ((5, 91), 238, true, 2, 5, "TemperingLine"),
  ((5, 95), 120, true, 3, 4, "TemperingLine"),
  ((5, 98), 124, true, 3, 5, "TemperingLine"),
  ((5, 101), 128, true, 3, 6, "TemperingLine"),
  ((5, 104), 132, true, 3, 7, "TemperingLine"),
  ((5, 107), 240, true, 2, 6, "TemperingLine"),
  ((5, 110), 242, true, 2, 7, "TemperingLine"),
  ((5, 120), 244, true, 2, 8, "TemperingLine"),
  ((5, 123), 246, true, 2, 9, "TemperingLine"),
  ((5, 126), 248, true, 2, 10, "TemperingLine"),
  ((5, 129), 234, true, 2, 3, "TemperingLine"),
  ((5, 132), 236, true, 2, 4, "TemperingLine"),
  ((5, 139), 250, true, 2, 11, "TemperingLine"),
  ((5, 142), 252, true, 2, 12, "TemperingLine"),
  ((5, 145), 254, true, 2, 13, "TemperingLine"),
  ((5, 148), 256, true, 2, 14, "TemperingLine"),
  ((5, 151), 136, true, 3, 8, "TemperingLine"),
  ((5, 154), 140, true, 3, 9, "TemperingLine"),
  ((6, 9), 460, false, 6, 5, ""),
  ((6, 15), 462, false, 6, 6, ""),
  ((6, 20), 464, false, 6, 7, ""),
  ((6, 24), 466, false, 6, 8, ""),
  ((6, 28), 468, false, 6, 9, ""),
  ((6, 32), 450, false, 6, 0, ""),
  ((6, 36), 452, false, 6, 1, ""),
  ((6, 39), 454, false, 6, 2, ""),
  ((6, 42), 456, false, 6, 3, ""),
  ((6, 45), 458, false, 6, 4, ""),
  ((6, 57), 523, false, 9, 3, ""),
  ((6, 77), 520, false, 9, 2, ""),
  ((6, 84), 514, false, 9, 0, ""),
  ((6, 87), 517, false, 9, 1, ""),
  ((7, 16), 1014, false, 7, 0, ""),
  ((7, 20), 1015, false, 7, 1, ""),
  ((7, 27), 1016, false, 7, 2, ""),
  ((7, 31), 1017, false, 7, 3, ""),
  ((8, 7), 595, false, 8, 0, ""),
  ((9, 7), 516, false, 9, 1, ""),
  ((9, 13), 522, false, 9, 3, ""),
  ((9, 16), 513, false, 9, 0, ""),
  ((9, 22), 519, false, 9, 2, ""),
  ((11, 9), 1237, false, 11, 0, ""),
  ((11, 15), 1238, false, 11, 1, ""),
  ((11, 1048), 1053, false, 10, 2, ""),
  ((12, 119), 453, false, 6, 1, ""),
  ((12, 123), 455, false, 6, 2, ""),
  ((12, 132), 463, false, 6, 6, ""),
  ((12, 143), 461, false, 6, 5, ""),
  ((12, 153), 467, false, 6, 8, ""),
  ((12, 164), 459, false, 6, 4, ""),
  ((12, 184), 465, false, 6, 7, ""),
  ((12, 191), 451, false, 6, 0, ""),
  ((12, 202), 457, false, 6, 3, ""),
  ((12, 217), 515, false, 9, 0, ""),
  ((12, 223), 518, false, 9, 1, ""),
  ((12, 228), 521, false, 9, 2, ""),
  ((12, 270), 469, false, 6, 9, ""),
  ((15, 15), 1051, false, 10, 0, ""),
  ((15, 22), 1052, false, 10, 1, ""),
  ((15, 79), 1054, false, 10, 3, "")
  ]
def mthT : List ((Nat × Nat) × Nat × Nat × Nat × String) := [
  ((0, 1), 6, 93, 0, ""),
  ((0, 7), 1, 94, 83, "TemperingLine"),
  ((0, 19), 9, 97, 0, ""),
  ((0, 28), 0, 372, 2, ""),
  ((1, 3), 6, 293, 0, ""),
  ((1, 17), 5, 296, 6, "TemperingLine"),
  ((1, 24), 3, 438, 13, "TemperingLine"),
  ((1, 31), 8, 816, 0, ""),
  ((2, 3), 6, 226, 0, ""),
  ((2, 61), 2, 821, 10, ""),
  ((2, 68), 2, 881, 12, ""),
  ((2, 72), 9, 340, 0, ""),
  ((2, 78), 2, 345, 15, ""),
  ((2, 82), 2, 349, 17, ""),
  ((2, 85), 2, 353, 18, ""),
  ((2, 88), 2, 360, 19, ""),
  ((2, 92), 2, 383, 20, ""),
  ((2, 96), 2, 387, 21, ""),
  ((2, 99), 2, 401, 23, ""),
  ((2, 102), 2, 421, 27, ""),
  ((2, 108), 8, 357, 0, ""),
  ((2, 114), 2, 364, 8, ""),
  ((2, 122), 3, 368, 1, "TemperingLine"),
  ((2, 128), 1, 379, 83, "TemperingLine"),
  ((2, 134), 7, 380, 0, ""),
  ((2, 137), 1, 391, 82, "TemperingLine"),
  ((2, 149), 2, 397, 22, ""),
  ((2, 153), 2, 405, 24, ""),
  ((2, 159), 2, 409, 28, ""),
  ((2, 165), 2, 413, 25, ""),
  ((2, 168), 2, 417, 26, ""),
  ((2, 174), 2, 425, 7, ""),
  ((3, 3), 6, 87, 0, ""),
  ((3, 35), 5, 90, 0, "TemperingLine"),
  ((4, 3), 6, 173, 0, ""),
  ((4, 25), 5, 175, 30, "TemperingLine"),
  ((4, 33), 1, 686, 83, "TemperingLine"),
  ((4, 47), 2, 687, 48, ""),
  ((4, 58), 2, 702, 47, ""),
  ((4, 62), 2, 754, 34, ""),
  ((4, 66), 2, 758, 44, ""),
  ((4, 79), 2, 765, 45, ""),
  ((4, 88), 2, 778, 37, ""),
  ((4, 94), 2, 783, 38, ""),
  ((4, 99), 2, 788, 39, ""),
  ((4, 129), 2, 792, 40, ""),
  ((4, 134), 5, 811, 0, "TemperingLine"),
  ((4, 140), 2, 796, 41, ""),
  ((4, 143), 2, 769, 46, ""),
  ((4, 146), 2, 804, 43, ""),
  ((4, 150), 2, 800, 42, ""),
  ((4, 158), 8, 763, 0, ""),
  ((4, 164), 1, 764, 81, "TemperingLine"),
  ((4, 168), 2, 706, 111, ""),
  ((4, 173), 2, 716, 112, ""),
  ((4, 177), 0, 691, 49, ""),
  ((4, 180), 0, 694, 50, ""),
  ((5, 3), 6, 79, 0, ""),
  ((5, 11), 5, 84, 30, "TemperingLine"),
  ((5, 14), 5, 170, 31, "TemperingLine"),
  ((5, 21), 5, 223, 6, "TemperingLine"),
  ((5, 33), 5, 290, 3, "TemperingLine"),
  ((5, 42), 3, 988, 32, "TemperingLine"),
  ((5, 46), 0, 612, 79, ""),
  ((5, 50), 3, 682, 33, "TemperingLine"),
  ((5, 53), 3, 697, 35, "TemperingLine"),
  ((5, 57), 3, 773, 36, "TemperingLine"),
  ((5, 63), 3, 812, 4, "TemperingLine"),
  ((5, 71), 3, 817, 9, "TemperingLine"),
  ((5, 87), 0, 834, 80, ""),
  ((5, 135), 3, 426, 14, "TemperingLine"),
  ((5, 159), 0, 907, 84, ""),
  ((5, 167), 3, 328, 7, "TemperingLine"),
  ((5, 170), 3, 336, 13, "TemperingLine"),
  ((5, 173), 3, 877, 11, "TemperingLine"),
  ((5, 176), 3, 341, 16, "TemperingLine"),
  ((5, 179), 2, 332, 77, ""),
  ((5, 182), 0, 394, 81, ""),
  ((5, 186), 2, 910, 78, ""),
  ((5, 194), 3, 931, 12, "TemperingLine"),
  ((5, 200), 3, 942, 17, "TemperingLine"),
  ((5, 205), 3, 965, 28, "TemperingLine"),
  ((5, 208), 3, 434, 5, "TemperingLine"),
  ((5, 212), 3, 1288, 29, "TemperingLine"),
  ((6, 1), 6, 444, 0, ""),
  ((6, 31), 4, 496, 85, ""),
  ((6, 49), 15, 497, 0, ""),
  ((6, 53), 2, 503, 104, ""),
  ((6, 62), 2, 551, 100, ""),
  ((6, 68), 14, 564, 0, ""),
  ((6, 74), 13, 565, 0, ""),
  ((6, 80), 2, 542, 87, ""),
  ((6, 90), 2, 571, 89, ""),
  ((6, 94), 8, 541, 0, ""),
  ((6, 97), 7, 566, 0, ""),
  ((6, 99), 2, 546, 88, ""),
  ((6, 103), 2, 567, 90, ""),
  ((6, 106), 2, 572, 91, ""),
  ((6, 123), 4, 588, 103, ""),
  ((7, 1), 6, 1013, 0, ""),
  ((7, 9), 4, 1010, 97, ""),
  ((7, 10), 2, 1027, 102, ""),
  ((7, 23), 0, 1028, 98, ""),
  ((7, 36), 4, 1036, 105, ""),
  ((7, 39), 2, 1065, 106, ""),
  ((7, 43), 2, 1158, 107, ""),
  ((7, 46), 2, 1183, 108, ""),
  ((7, 56), 2, 1250, 99, ""),
  ((7, 72), 2, 555, 100, ""),
  ((7, 80), 14, 558, 0, ""),
  ((7, 86), 13, 561, 0, ""),
  ((8, 1), 6, 594, 0, ""),
  ((9, 1), 6, 512, 0, ""),
  ((9, 19), 4, 509, 103, ""),
  ((10, 1), 4, 1039, 145, ""),
  ((10, 29), 11, 1069, 149, ""),
  ((10, 53), 11, 1162, 150, ""),
  ((10, 137), 4, 1189, 110, ""),
  ((10, 343), 11, 1207, 146, ""),
  ((11, 1), 6, 1195, 0, ""),
  ((11, 54), 0, 1210, 159, ""),
  ((11, 212), 9, 1156, 0, ""),
  ((11, 335), 2, 710, 115, ""),
  ((11, 489), 4, 1192, 114, ""),
  ((11, 492), 2, 720, 116, ""),
  ((11, 495), 0, 724, 143, ""),
  ((11, 549), 10, 1201, 109, ""),
  ((11, 552), 10, 1196, 151, ""),
  ((11, 1047), 10, 1209, 152, ""),
  ((11, 1059), 0, 732, 144, ""),
  ((12, 7), 0, 981, 119, ""),
  ((12, 13), 2, 984, 52, ""),
  ((12, 19), 0, 604, 123, ""),
  ((12, 23), 2, 976, 111, ""),
  ((12, 29), 2, 977, 112, ""),
  ((12, 33), 0, 978, 118, ""),
  ((12, 37), 2, 608, 53, ""),
  ((12, 43), 2, 830, 58, ""),
  ((12, 50), 2, 1301, 59, ""),
  ((12, 53), 2, 1308, 60, ""),
  ((12, 56), 2, 1315, 61, ""),
  ((12, 59), 2, 858, 64, ""),
  ((12, 62), 2, 865, 65, ""),
  ((12, 71), 2, 873, 66, ""),
  ((12, 74), 2, 888, 67, ""),
  ((12, 77), 2, 895, 68, ""),
  ((12, 80), 2, 903, 70, ""),
  ((12, 86), 2, 936, 71, ""),
  ((12, 89), 2, 946, 72, ""),
  ((12, 92), 2, 953, 73, ""),
  ((12, 95), 2, 960, 74, ""),
  ((12, 100), 0, 973, 121, ""),
  ((12, 106), 0, 993, 122, ""),
  ((12, 113), 5, 441, 85, "TemperingLineLaw"),
  ((12, 114), 2, 599, 102, ""),
  ((12, 128), 0, 970, 139, ""),
  ((12, 135), 8, 997, 0, ""),
  ((12, 140), 7, 998, 0, ""),
  ((12, 147), 0, 999, 138, ""),
  ((12, 158), 0, 1005, 98, ""),
  ((12, 170), 2, 1030, 99, ""),
  ((12, 174), 0, 1257, 120, ""),
  ((12, 178), 2, 1263, 55, ""),
  ((12, 181), 2, 1267, 56, ""),
  ((12, 188), 2, 1271, 57, ""),
  ((12, 193), 2, 1275, 62, ""),
  ((12, 196), 2, 1279, 87, ""),
  ((12, 199), 2, 1280, 63, ""),
  ((12, 205), 2, 1284, 76, ""),
  ((12, 209), 2, 1293, 96, ""),
  ((12, 212), 0, 826, 124, ""),
  ((12, 215), 0, 1298, 125, ""),
  ((12, 221), 0, 1305, 126, ""),
  ((12, 226), 0, 1312, 127, ""),
  ((12, 230), 0, 855, 128, ""),
  ((12, 232), 2, 577, 93, ""),
  ((12, 233), 4, 76, 51, ""),
  ((12, 234), 4, 591, 101, ""),
  ((12, 237), 0, 1260, 141, ""),
  ((12, 241), 2, 320, 54, ""),
  ((12, 244), 2, 430, 75, ""),
  ((12, 247), 0, 933, 134, ""),
  ((12, 249), 0, 899, 133, ""),
  ((12, 251), 0, 870, 130, ""),
  ((12, 253), 2, 324, 69, ""),
  ((12, 256), 0, 885, 131, ""),
  ((12, 258), 0, 950, 136, ""),
  ((12, 260), 0, 966, 140, ""),
  ((12, 264), 2, 491, 86, ""),
  ((12, 268), 0, 943, 135, ""),
  ((12, 272), 2, 533, 89, ""),
  ((12, 276), 0, 957, 137, ""),
  ((12, 278), 0, 581, 94, ""),
  ((12, 281), 2, 584, 95, ""),
  ((12, 283), 2, 537, 92, ""),
  ((12, 286), 0, 892, 132, ""),
  ((12, 288), 0, 862, 129, ""),
  ((13, 9), 0, 727, 117, ""),
  ((15, 3), 6, 1042, 0, ""),
  ((15, 32), 2, 1123, 111, ""),
  ((15, 40), 2, 1132, 115, ""),
  ((15, 83), 10, 1103, 152, ""),
  ((15, 100), 10, 1076, 147, ""),
  ((15, 104), 10, 1080, 148, ""),
  ((15, 108), 0, 1093, 157, ""),
  ((15, 114), 0, 1084, 161, ""),
  ((15, 208), 10, 1124, 154, ""),
  ((15, 245), 0, 1165, 156, ""),
  ((15, 248), 0, 1168, 155, ""),
  ((15, 397), 10, 1128, 153, ""),
  ((15, 399), 2, 1152, 113, ""),
  ((17, 47), 4, 1221, 105, ""),
  ((17, 50), 2, 1224, 106, ""),
  ((17, 54), 2, 1222, 107, ""),
  ((17, 61), 2, 1225, 108, ""),
  ((17, 150), 9, 1102, 0, ""),
  ((17, 304), 8, 1101, 0, ""),
  ((17, 310), 16, 1096, 0, ""),
  ((17, 339), 0, 1213, 160, ""),
  ((17, 343), 0, 1216, 158, ""),
  ((18, 194), 7, 1087, 0, "")
  ]
def cstT : List ((Nat × Nat) × Nat × Int32) := [
  ((0, 33), 376, -1000000),
  ((0, 36), 378, 1000000),
  ((4, 157), 762, 100000),
  ((5, 197), 940, 100000),
  ((8, 13), 603, 1103515245),
  ((12, 42), 825, -2000000098),
  ((12, 49), 854, -2000000097),
  ((12, 85), 932, -2000000099),
  ((15, 39), 1092, 2147483647),
  ((18, 200), 1088, 2147483639)
  ]
def cstLT : List ((Nat × Nat) × Nat × Int64) := [
  ((0, 31), 375, -1000000),
  ((0, 34), 377, 1000000),
  ((2, 177), 1292, 31),
  ((6, 60), 550, 1000),
  ((6, 125), 1297, 31),
  ((7, 76), 556, -1000000),
  ((7, 78), 557, 1000000)
  ]
def strT : List ((Nat × Nat) × String × Nat) := [
  ((4, 56), "line", 0),
  ((4, 86), "zone", 1),
  ((4, 92), "band", 2),
  ((4, 97), "heat", 3),
  ((4, 153), "thickness", 4),
  ((4, 155), "gap", 5),
  ((5, 115), "what is not 0 to 6", 19),
  ((5, 157), "what is not 0 to 5", 20),
  ((5, 191), "there have been 20 sheets", 22),
  ((5, 198), "the clock would exceed 100000", 23),
  ((5, 203), "the sheet is neither WAITING nor HEATED", 24),
  ((5, 216), "there is no line", 21),
  ((5, 218), "an argument is out of range", 17),
  ((5, 222), "there is no such zone or sheet", 18),
  ((7, 37), "", 10),
  ((7, 60), "+", 11),
  ((7, 62), " - ", 12),
  ((7, 64), "* ", 13),
  ((7, 66), "/", 14),
  ((7, 68), "(", 15),
  ((7, 70), ")", 16),
  ((12, 104), " ", 6),
  ((12, 109), ";", 7),
  ((12, 126), "line", 0),
  ((12, 151), " zone", 8),
  ((12, 156), "band", 2),
  ((12, 168), "heat ", 9),
  ((12, 290), "thickness", 4),
  ((12, 291), "zone", 1),
  ((12, 292), "gap", 5)
  ]
def clsT : List ((Nat × Nat) × Nat × Nat) := [
  ((1, 9), 294, 2),
  ((3, 33), 88, 0),
  ((4, 23), 174, 3),
  ((4, 132), 810, 0),
  ((5, 9), 82, 3),
  ((5, 12), 168, 4),
  ((5, 19), 221, 2),
  ((5, 31), 288, 1),
  ((6, 10), 495, 6),
  ((6, 18), 447, 9),
  ((7, 7), 1008, 7),
  ((7, 34), 1034, 10),
  ((9, 8), 507, 9),
  ((10, 18), 1187, 11),
  ((12, 14), 74, 5),
  ((12, 111), 439, 6),
  ((12, 115), 589, 8),
  ((17, 45), 1220, 10)
  ]
def exT : List ((Nat × Nat) × Nat × Nat) := [
  ((5, 113), 615, 0),
  ((5, 189), 914, 1),
  ((5, 220), 837, 2),
  ((12, 40), 607, 0),
  ((12, 47), 829, 2),
  ((12, 83), 902, 1),
  ((17, 43), 1219, 0)
  ]
def mnaT : List ((Nat × Nat) × Nat × Nat) := [
  ((6, 27), 449, 0)
  ]
def ckT : List ((Nat × Nat) × Nat × Nat) := [
  ((6, 7), 445, 10),
  ((12, 98), 1002, 10),
  ((17, 311), 1100, 11)
  ]
def exI : List ((Nat × Nat) × Nat × Nat) := [
  ((5, 117), 657, 0),
  ((5, 193), 924, 1),
  ((5, 224), 847, 2),
  ((17, 65), 1226, 0)
  ]
def litF : List ((Nat × Nat) × Nat × Nat) := [
  ((11, 9), 1237, 0),
  ((11, 15), 1238, 1)
  ]
def stT : List ((Nat × Nat) × Nat × Nat × Bool × String) := [
  ((7, 50), 1248, 2, true, "TemperingLineLaw"),
  ((11, 38), 714, 0, false, ""),
  ((11, 1053), 730, 1, false, ""),
  ((15, 18), 1043, 0, false, ""),
  ((16, 83), 1171, 3, false, ""),
  ((16, 87), 1173, 4, false, "")
  ]
def lenJ : List Nat := [4, 4, 4, 4, 9, 3, 1, 1, 5, 5, 0, 1, 3, 2, 1, 1, 1]
def bytJ : List (List Int32) := [[108, 105, 110, 101], [122, 111, 110, 101], [98, 97, 110, 100], [104, 101, 97, 116], [116, 104, 105, 99, 107, 110, 101, 115, 115], [103, 97, 112], [32], [59], [32, 122, 111, 110, 101], [104, 101, 97, 116, 32], [], [43], [32, 45, 32], [42, 32], [47], [40], [41]]
def exN : Nat → String
  | 0 => "java/lang/IllegalArgumentException"
  | 1 => "java/lang/IllegalStateException"
  | 2 => "java/lang/IndexOutOfBoundsException"
  | _ => ""
def exU : List String := ["java/lang/RuntimeException", "java/lang/Exception"]

def fldW (c i : Nat) (nest : Bool) (cj k : Nat) (host : String) : Cond := if nest = true then .fieldLinkNest (cR c) i (cT cj k).1 (cT cj k).2.1 (cT cj k).2.2.1 host else .fieldLink (cR c) i (cT cj k).1 (cT cj k).2.1 (cT cj k).2.2.1
def lwG : List Cond := lw_tbl.filter goodWord
/-- a word that stays true in a warmer machine, though it isn't 'good' -/
def ngK : Cond → Bool
  | .fieldLinkNest .. => true
  | .methodLinkNest .. => true
  | .castable .. => true
  | .declares .. => true
  | _ => false
def ngW : List Cond := lw_tbl.filter ngK
def look {α : Type} (k : Nat × Nat) : List ((Nat × Nat) × α) → Option α
  | [] => none
  | q :: t => if q.1 = k then some q.2 else look k t
theorem look_mem {α : Type} {k : Nat × Nat} {v : α} : ∀ {l : List ((Nat × Nat) × α)}, look k l = some v → (k, v) ∈ l
  | [], h => by cases h
  | q :: t, h => by
    rw [look] at h
    by_cases e : q.1 = k
    · rw [if_pos e] at h
      cases h
      subst e
      exact List.mem_cons_self
    · rw [if_neg e] at h
      exact List.mem_cons_of_mem _ (look_mem h)
theorem clsG_0 : ∀ w ∈ u_ws RX0 TX0 2, w ∈ lwG := by decide +kernel
theorem clsG_1 : ∀ w ∈ u_ws RX1 TX1 3, w ∈ lwG := by decide +kernel
theorem clsG_2 : ∀ w ∈ u_ws RX2 TX2 15, w ∈ lwG := by decide +kernel
theorem clsG_3 : ∀ w ∈ u_ws RX3 TX3 11, w ∈ lwG := by decide +kernel
theorem clsG_4 : ∀ w ∈ u_ws RX4 TX4 13, w ∈ lwG := by decide +kernel
theorem clsG_5 : ∀ w ∈ u_ws RX5 TX5 4, w ∈ lwG := by decide +kernel
theorem clsG_6 : ∀ w ∈ u_ws RX6 TX6 10, w ∈ lwG := by decide +kernel
theorem clsG_7 : ∀ w ∈ u_ws RX7 TX7 4, w ∈ lwG := by decide +kernel
theorem clsG_8 : ∀ w ∈ u_ws RX8 TX8 1, w ∈ lwG := by decide +kernel
theorem clsG_9 : ∀ w ∈ u_ws RX9 TX9 4, w ∈ lwG := by decide +kernel
theorem clsG_10 : ∀ w ∈ u_ws RJ4 TJ4 4, w ∈ lwG := by decide +kernel
theorem clsG_11 : ∀ w ∈ u_ws RJ0 TJ0 4, w ∈ lwG := by decide +kernel
theorem clsF : ∀ cj : Nat, cj < 12 → vwCl[cj]? = some (cR cj, cT cj, cNf cj) ∧ (∀ w ∈ u_ws (cR cj) (cT cj) (cNf cj), w ∈ lwG) ∧ (∀ k, k < cNf cj → parseFieldDescriptor (cT cj k).2.2.1 = some (cY cj k)) ∧ (∀ a, a < cNf cj → ∀ b, b < cNf cj → a ≠ b → (cT cj a).2.1 ≠ (cT cj b).2.1)
  | 0, _ => ⟨rfl, clsG_0, tyX0_ok, nmX0⟩
  | 1, _ => ⟨rfl, clsG_1, tyX1_ok, nmX1⟩
  | 2, _ => ⟨rfl, clsG_2, tyX2_ok, nmX2⟩
  | 3, _ => ⟨rfl, clsG_3, tyX3_ok, nmX3⟩
  | 4, _ => ⟨rfl, clsG_4, tyX4_ok, nmX4⟩
  | 5, _ => ⟨rfl, clsG_5, tyX5_ok, nmX5⟩
  | 6, _ => ⟨rfl, clsG_6, tyX6_ok, nmX6⟩
  | 7, _ => ⟨rfl, clsG_7, tyX7_ok, nmX7⟩
  | 8, _ => ⟨rfl, clsG_8, tyX8_ok, nmX8⟩
  | 9, _ => ⟨rfl, clsG_9, tyX9_ok, nmX9⟩
  | 10, _ => ⟨rfl, clsG_10, tyJ4_ok, nmJ4⟩
  | 11, _ => ⟨rfl, clsG_11, tyJ0_ok, nmJ0⟩
  | n + 12, h => by omega
def isD : Value → Bool
  | .int _ => true
  | .long _ => true
  | .null => true
  | _ => false
theorem clsD : ∀ cj : Nat, cj < 12 → ∀ k, k < cNf cj → isD (defaultValue (cY cj k)) = true
  | 0, _ => (by decide +kernel : ∀ k, k < 2 → isD (defaultValue (tyX0 k)) = true)
  | 1, _ => (by decide +kernel : ∀ k, k < 3 → isD (defaultValue (tyX1 k)) = true)
  | 2, _ => (by decide +kernel : ∀ k, k < 15 → isD (defaultValue (tyX2 k)) = true)
  | 3, _ => (by decide +kernel : ∀ k, k < 11 → isD (defaultValue (tyX3 k)) = true)
  | 4, _ => (by decide +kernel : ∀ k, k < 13 → isD (defaultValue (tyX4 k)) = true)
  | 5, _ => (by decide +kernel : ∀ k, k < 4 → isD (defaultValue (tyX5 k)) = true)
  | 6, _ => (by decide +kernel : ∀ k, k < 10 → isD (defaultValue (tyX6 k)) = true)
  | 7, _ => (by decide +kernel : ∀ k, k < 4 → isD (defaultValue (tyX7 k)) = true)
  | 8, _ => (by decide +kernel : ∀ k, k < 1 → isD (defaultValue (tyX8 k)) = true)
  | 9, _ => (by decide +kernel : ∀ k, k < 4 → isD (defaultValue (tyX9 k)) = true)
  | 10, _ => (by decide +kernel : ∀ k, k < 4 → isD (defaultValue (tyJ4 k)) = true)
  | 11, _ => (by decide +kernel : ∀ k, k < 4 → isD (defaultValue (tyJ0 k)) = true)
  | n + 12, h => by omega
theorem finD : ∀ cj : Nat, cj < 12 → ∀ k, k < cNf cj → (cT cj k).2.2.2 = true → (cT cj k).1 = cR cj
  | 0, _ => (by decide +kernel : ∀ k, k < 2 → (TX0 k).2.2.2 = true → (TX0 k).1 = RX0)
  | 1, _ => (by decide +kernel : ∀ k, k < 3 → (TX1 k).2.2.2 = true → (TX1 k).1 = RX1)
  | 2, _ => (by decide +kernel : ∀ k, k < 15 → (TX2 k).2.2.2 = true → (TX2 k).1 = RX2)
  | 3, _ => (by decide +kernel : ∀ k, k < 11 → (TX3 k).2.2.2 = true → (TX3 k).1 = RX3)
  | 4, _ => (by decide +kernel : ∀ k, k < 13 → (TX4 k).2.2.2 = true → (TX4 k).1 = RX4)
  | 5, _ => (by decide +kernel : ∀ k, k < 4 → (TX5 k).2.2.2 = true → (TX5 k).1 = RX5)
  | 6, _ => (by decide +kernel : ∀ k, k < 10 → (TX6 k).2.2.2 = true → (TX6 k).1 = RX6)
  | 7, _ => (by decide +kernel : ∀ k, k < 4 → (TX7 k).2.2.2 = true → (TX7 k).1 = RX7)
  | 8, _ => (by decide +kernel : ∀ k, k < 1 → (TX8 k).2.2.2 = true → (TX8 k).1 = RX8)
  | 9, _ => (by decide +kernel : ∀ k, k < 4 → (TX9 k).2.2.2 = true → (TX9 k).1 = RX9)
  | 10, _ => (by decide +kernel : ∀ k, k < 4 → (TJ4 k).2.2.2 = true → (TJ4 k).1 = RJ4)
  | 11, _ => (by decide +kernel : ∀ k, k < 4 → (TJ0 k).2.2.2 = true → (TJ0 k).1 = RJ0)
  | n + 12, h => by omega
theorem clsN : ∀ cj : Nat, cj < 12 → Cond.instantiable (cR cj) (cNf cj) ∈ lwG
  | 0, _ => (by decide +kernel : Cond.instantiable RX0 2 ∈ lwG)
  | 1, _ => (by decide +kernel : Cond.instantiable RX1 3 ∈ lwG)
  | 2, _ => (by decide +kernel : Cond.instantiable RX2 15 ∈ lwG)
  | 3, _ => (by decide +kernel : Cond.instantiable RX3 11 ∈ lwG)
  | 4, _ => (by decide +kernel : Cond.instantiable RX4 13 ∈ lwG)
  | 5, _ => (by decide +kernel : Cond.instantiable RX5 4 ∈ lwG)
  | 6, _ => (by decide +kernel : Cond.instantiable RX6 10 ∈ lwG)
  | 7, _ => (by decide +kernel : Cond.instantiable RX7 4 ∈ lwG)
  | 8, _ => (by decide +kernel : Cond.instantiable RX8 1 ∈ lwG)
  | 9, _ => (by decide +kernel : Cond.instantiable RX9 4 ∈ lwG)
  | 10, _ => (by decide +kernel : Cond.instantiable RJ4 4 ∈ lwG)
  | 11, _ => (by decide +kernel : Cond.instantiable RJ0 4 ∈ lwG)
  | n + 12, h => by omega
theorem clsI : ∀ cj : Nat, cj < 19 → Cond.initialized (cR cj) ∈ lwG
  | 0, _ => (by decide +kernel : Cond.initialized RX0 ∈ lwG)
  | 1, _ => (by decide +kernel : Cond.initialized RX1 ∈ lwG)
  | 2, _ => (by decide +kernel : Cond.initialized RX2 ∈ lwG)
  | 3, _ => (by decide +kernel : Cond.initialized RX3 ∈ lwG)
  | 4, _ => (by decide +kernel : Cond.initialized RX4 ∈ lwG)
  | 5, _ => (by decide +kernel : Cond.initialized RX5 ∈ lwG)
  | 6, _ => (by decide +kernel : Cond.initialized RX6 ∈ lwG)
  | 7, _ => (by decide +kernel : Cond.initialized RX7 ∈ lwG)
  | 8, _ => (by decide +kernel : Cond.initialized RX8 ∈ lwG)
  | 9, _ => (by decide +kernel : Cond.initialized RX9 ∈ lwG)
  | 10, _ => (by decide +kernel : Cond.initialized RJ4 ∈ lwG)
  | 11, _ => (by decide +kernel : Cond.initialized RJ0 ∈ lwG)
  | 12, _ => (by decide +kernel : Cond.initialized RL ∈ lwG)
  | 13, _ => (by decide +kernel : Cond.initialized RJ1 ∈ lwG)
  | 14, _ => (by decide +kernel : Cond.initialized RJ3 ∈ lwG)
  | 15, _ => (by decide +kernel : Cond.initialized RJ5 ∈ lwG)
  | 16, _ => (by decide +kernel : Cond.initialized RJ6 ∈ lwG)
  | 17, _ => (by decide +kernel : Cond.initialized RJ7 ∈ lwG)
  | 18, _ => (by decide +kernel : Cond.initialized RJ8 ∈ lwG)
  | n + 19, h => by omega
theorem fldT_ok : fldT.all (fun e => decide (lw_tbl[e.2.1]? = some (fldW e.1.1 e.1.2 e.2.2.1 e.2.2.2.1 e.2.2.2.2.1 e.2.2.2.2.2)) && (decide (e.2.2.2.1 < 12) && decide (e.2.2.2.2.1 < cNf e.2.2.2.1))) = true := by decide +kernel
def mlkW (c i : Nat) (nest : Bool) (y : MethodName) (host : String) : Cond := if nest = true then .methodLinkNest (cR c) i y host else .methodLink (cR c) i y
def primN : Nat → MethodName
  | 6 => objectInit
  | 7 => Lib.Math.max.name
  | 8 => Lib.Math.min.name
  | 9 => arraycopyName
  | 13 => Lib.MathLoose.max_long.x
  | 14 => Lib.MathLoose.min_long.x
  | 15 => ⟨"[I", "clone", "()Ljava/lang/Object;"⟩
  | 16 => ⟨"[B", "clone", "()Ljava/lang/Object;"⟩
  | _ => arraycopyName
def mthW (c i kd t : Nat) (host : String) : Option Cond := if kd < 6 then (mtab[t]?).map (fun e => mlkW c i (kd == 1 || kd == 3 || kd == 5) e.1 host) else if kd = 10 then (mtab[t]?).map (fun e => .methodLink (cR c) i ⟨RJ5, e.1.name, e.1.desc⟩) else if kd = 11 then (mtab[t]?).map (fun e => .methodLink (cR c) i e.1) else some (.methodLink (cR c) i (primN kd))
theorem mthT_ok : mthT.all (fun e => decide (lw_tbl[e.2.2.1]? = mthW e.1.1 e.1.2 e.2.1 e.2.2.2.1 e.2.2.2.2) && decide (lw_tbl[e.2.2.1]? ≠ none)) = true := by decide +kernel
def bsEq (a b : ByteArray) : Bool := decide (a.data.toList = b.data.toList)
theorem bsEq_eq {a b : ByteArray} (h : bsEq a b = true) : a = b := by
  have h1 := of_decide_eq_true h
  cases a; cases b
  exact congrArg ByteArray.mk (Array.toList_inj.mp h1)
def isCode (w : Option Cond) (e : MI) : Bool := match w with
  | some (.code y b L r) => decide (y = e.1) && (bsEq b e.2.1 && (decide (L = e.2.2.1) && (decide (r = e.2.2.2.1) && decide (e.2.2.2.2.2 = []))))
  | some (.codeWith y b L r hh) => decide (y = e.1) && (bsEq b e.2.1 && (decide (L = e.2.2.1) && (decide (r = e.2.2.2.1) && (decide (hh = e.2.2.2.2.2) && decide (e.2.2.2.2.2 ≠ [])))))
  | _ => false
theorem isCode_eq {w : Option Cond} {e : MI} (h : isCode w e = true) : w = some (codeW e) := by
  obtain ⟨y, b, L, r, c, hh⟩ := e
  unfold isCode at h
  split at h
  · simp only [Bool.and_eq_true, decide_eq_true_eq] at h
    obtain ⟨rfl, h2, rfl, rfl, h5⟩ := h
    have h2 : _ = b := bsEq_eq h2
    have h5 : hh = [] := h5
    subst h2; subst h5
    rfl
  · simp only [Bool.and_eq_true, decide_eq_true_eq] at h
    obtain ⟨rfl, h2, rfl, rfl, rfl, h6⟩ := h
    have h2 : _ = b := bsEq_eq h2
    subst h2
    unfold codeW
    exact congrArg some (if_neg h6).symm
  · cases h
theorem mtab_code : (mtab.zip mwi).all (fun q => q.2 == 0 || isCode lw_tbl[q.2]? q.1) = true := by decide +kernel
theorem mtab_name : mtab.all (fun e => plainName e.1.cls && (decide (e.1.cls = cR e.2.2.2.2.1) && decide (e.1.cls ≠ "java/lang/invoke/MethodHandle" ∧ e.1.cls ≠ "java/lang/invoke/VarHandle"))) = true := by decide +kernel
theorem cstT_ok : cstT.all (fun e => decide (lw_tbl[e.2.1]? = some (.constant (cR e.1.1) e.1.2 e.2.2))) = true := by decide +kernel
theorem cstLT_ok : cstLT.all (fun e => decide (lw_tbl[e.2.1]? = some (.constantLong (cR e.1.1) e.1.2 e.2.2))) = true := by decide +kernel
theorem clsT_ok : clsT.all (fun e => decide (lw_tbl[e.2.1]? = some (.classLink (cR e.1.1) e.1.2 (cR e.2.2))) && decide (e.2.2 < 12)) = true := by decide +kernel
theorem litF_ok : litF.all (fun e => decide (lw_tbl[e.2.1]? = some (.fieldLink (cR e.1.1) e.1.2 "java/lang/String" (if e.2.2 = 0 then "value" else "coder") (if e.2.2 = 0 then "[B" else "B")))) = true := by decide +kernel
def stN : Nat → String × String × String
  | 0 => ("java/lang/String", "COMPACT_STRINGS", "Z")
  | 1 => ("jdk/internal/util/Preconditions", "SIOOBE_FORMATTER", "Ljava/util/function/BiFunction;")
  | 2 => ("TemperingLineLaw", "VARIABLES", "[Ljava/lang/String;")
  | 3 => ("java/lang/Integer", "DigitOnes", "[B")
  | 4 => ("java/lang/Integer", "DigitTens", "[B")
  | _ => ("", "", "")
def stW (c i k : Nat) (nest : Bool) (host : String) : Cond := match stN k with
  | (a, b, d) => if nest = true then .fieldLinkNest (cR c) i a b d host else .fieldLink (cR c) i a b d
theorem stT_ok : stT.all (fun e => decide (lw_tbl[e.2.1]? = some (stW e.1.1 e.1.2 e.2.2.1 e.2.2.2.1 e.2.2.2.2)) && decide (e.2.2.1 < 5)) = true := by decide +kernel
theorem ckT_ok : ckT.all (fun e => decide (lw_tbl[e.2.1]? = some (.classLink (cR e.1.1) e.1.2 (if e.2.2 = 10 then "[I" else "[B"))) && (decide (e.2.2 = 10) || decide (e.2.2 = 11))) = true := by decide +kernel
def tgtOK (kd t : Nat) : Bool := match mtab[t]? with
  | none => false
  | some e => (mwi.getD t 0 != 0) && ((parseMethodDescriptor e.1.desc).isSome && ((decide (kd = 0) || decide (e.2.2.2.2.2 = [])) &&
      (if kd ≤ 1 then (mwx.getD t (9999, 9999, 9999)).1 != 9999 else if kd ≤ 3 then (mwx.getD t (9999, 9999, 9999)).2.1 != 9999 && (mwx.getD t (9999, 9999, 9999)).2.2 != 9999 else (mwx.getD t (9999, 9999, 9999)).2.1 != 9999 && decide (e.1.name = "<init>"))))
theorem mwx_ok : (mtab.zip mwx).all (fun q => (q.2.1 == 9999 || decide (lw_tbl[q.2.1]? = some (.static q.1.1))) && ((q.2.2.1 == 9999 || decide (lw_tbl[q.2.2.1]? = some (.instanceMethod q.1.1))) && (q.2.2.2 == 9999 || decide (lw_tbl[q.2.2.2]? = some (.selects q.1.1.cls q.1.1 q.1.1))))) = true := by decide +kernel
theorem mthT_tgt : mthT.all (fun e => decide (6 ≤ e.2.1) || tgtOK e.2.1 e.2.2.2.1) = true := by decide +kernel
theorem exI_ok : exI.all (fun q => ((vx_atS (cR q.1.1) q.1.2 (exN q.2.2) exU).all (fun w => decide (w ∈ lw_tbl) && ((goodWord w || ngK w) && vx_ot w)))) = true := by decide +kernel
theorem exN_ok : ∀ e, e < 3 → Bundle.fit (exN e) = true ∧ Cond.initialized (exN e) ∈ lw_tbl ∧ vx_ot (Cond.initialized (exN e)) = true ∧ Cond.castable (exN e) (exN e) ∈ lw_tbl := by decide +kernel
theorem exU_ok : ∀ n ∈ exU, Bundle.fit n = true := by decide +kernel
/-- the inherited methods: target, the method that the reference names -/
def supT : List (Nat × Nat) := [(109, 146), (146, 146), (147, 147), (148, 148), (149, 149), (150, 150), (151, 151), (152, 152), (153, 153), (154, 154)]
/-- called as the method above alone: what is selected is not asked for -/
def exm (e : MI) : Bool := decide (e.1.name = "append") || decide (e.1 = yJ5_length_8abf5)
def supW (e x : MI) : Bool := decide (x.1 = ⟨RJ5, e.1.name, e.1.desc⟩) && (decide (e.2.2.2.2.2 = []) && (decide (x.2.2.2.2.2 = []) && (decide (.sameMethod RJ5 RJ5 e.1.name e.1.desc ∈ lw_tbl) && (decide (.instanceMethod e.1 ∈ lw_tbl) && (decide (.instanceMethod x.1 ∈ lw_tbl) &&
  (decide (.selects RJ4 x.1 e.1 ∈ lw_tbl) || exm e)))))) 
theorem supT_ok : supT.all (fun q => match mtab[q.1]?, mtab[q.2]? with | some e, some x => supW e x && (mwi.getD q.1 0 != 0 && (mwi.getD q.2 0 != 0 && ((parseMethodDescriptor e.1.desc).isSome && decide (e.1.name ≠ "<init>")))) | _, _ => false) = true := by decide +kernel
theorem mthT_sup : mthT.all (fun e => (decide (e.2.1 ≠ 10) && decide (e.2.1 ≠ 11)) || decide (supT.any (fun q => decide (q.1 = e.2.2.2.1)) = true)) = true := by decide +kernel
theorem mthT_app : mthT.all (fun e => match mtab[e.2.2.2.1]? with | some E => (decide (e.2.1 ≠ 11) || (decide (e.1.1 = 10) && decide (E.1.cls = RJ5))) && (decide (e.2.1 ≠ 10) || !exm E) | none => false) = true := by decide +kernel
theorem exT_lt : exT.all (fun e => decide (e.2.2 < 3)) = true := by decide +kernel
theorem mnaT_ok : mnaT.all (fun e => decide (lw_tbl[e.2.1]? = some (.classLink (cR e.1.1) e.1.2 "[[I"))) = true := by decide +kernel
theorem mtab_cl : mtab.all (fun e => decide (e.2.2.2.2.1 < 19)) = true := by decide +kernel
theorem mtab_ini {e : MI} (h : e ∈ mtab) : Cond.initialized (cR e.2.2.2.2.1) ∈ lwG := by
  have g := List.all_eq_true.mp mtab_cl e h
  simp only [decide_eq_true_eq] at g
  exact clsI _ g
theorem mtab_len : mtab.all (fun e => decide (e.2.2.1 ≤ 40)) = true := by decide +kernel
theorem exT_ok : exT.all (fun e => decide (lw_tbl[e.2.1]? = some (.classLink (cR e.1.1) e.1.2 (exN e.2.2)))) = true := by decide +kernel
