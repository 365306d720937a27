/-! THE TABLES: classes, methods, constant pools; each row is held against the words of the tables -/
def cR : Nat → String
  | 0 => RX0
  | 1 => RX1
  | 2 => RX2
  | 3 => RX3
  | 4 => RX4
  | 5 => RX5
  | 6 => RX6
  | 7 => RL
  | 8 => RJ0
  | 9 => RJ1
  | 10 => RJ3
  | _ => ""
def cT : Nat → u_T
  | 0 => TX0
  | 1 => TX1
  | 2 => TX2
  | 3 => TX3
  | 4 => TX4
  | 5 => TX5
  | 6 => TX6
  | _ => fun _ => ("", "", "", false)
def cY : Nat → (Nat → FieldType)
  | 0 => tyX0
  | 1 => tyX1
  | 2 => tyX2
  | 3 => tyX3
  | 4 => tyX4
  | 5 => tyX5
  | 6 => tyX6
  | _ => fun _ => .int
def cNf : Nat → Nat
  | 0 => 2
  | 1 => 3
  | 2 => 15
  | 3 => 11
  | 4 => 13
  | 5 => 4
  | 6 => 16
  | _ => 0
abbrev MI : Type := MethodName × ByteArray × Nat × Option FieldType × Nat × List (Nat × Nat × Nat × Nat)
def mtab : List MI := [
  (yX0_init, cX0_init, 4, none, 0, []),
  (yX0_valueFor, cX0_valueFor, 7, some .int, 0, []),
  (yX0_result, cX0_result, 5, some .int, 0, []),
  (yX1_init, cX1_init, 3, none, 1, []),
  (yX1_remember, cX1_remember, 2, none, 1, []),
  (yX1_restoreLatest, cX1_restoreLatest, 2, some .int, 1, []),
  (yX2_init, cX2_init, 2, none, 2, []),
  (yX2_exists, cX2_exists, 1, some .boolean, 2, []),
  (yX2_isSheet, cX2_isSheet, 2, some .boolean, 2, []),
  (yX2_startWith, cX2_startWith, 3, none, 2, []),
  (yX2_standReady, cX2_standReady, 2, none, 2, []),
  (yX2_holdOnly, cX2_holdOnly, 3, none, 2, []),
  (yX2_putSheet, cX2_putSheet, 3, some .int, 2, []),
  (yX2_copyFrom, cX2_copyFrom, 2, none, 2, []),
  (yX2_sheetsIn, cX2_sheetsIn, 4, some .int, 2, []),
  (yX2_isFinished, cX2_isFinished, 2, some .boolean, 2, []),
  (yX2_ticksToFinish, cX2_ticksToFinish, 3, some .int, 2, []),
  (yX2_tick, cX2_tick, 3, none, 2, []),
  (yX2_heatZones, cX2_heatZones, 3, none, 2, []),
  (yX2_heatSheetIn, cX2_heatSheetIn, 9, none, 2, []),
  (yX2_quench, cX2_quench, 2, some .int, 2, []),
  (yX2_judge, cX2_judge, 6, none, 2, []),
  (yX2_learn, cX2_learn, 3, none, 2, []),
  (yX2_moveSheetFrom, cX2_moveSheetFrom, 6, none, 2, []),
  (yX2_correctionFor, cX2_correctionFor, 2, some .int, 2, []),
  (yX2_moveToQuench, cX2_moveToQuench, 3, none, 2, []),
  (yX2_moveToNext, cX2_moveToNext, 4, none, 2, []),
  (yX2_fillFirstZone, cX2_fillFirstZone, 2, none, 2, []),
  (yX2_spoil, cX2_spoil, 3, none, 2, []),
  (yX2_digest, cX2_digest, 4, some .long, 2, []),
  (yX3_init, cX3_init, 2, none, 3, []),
  (yX4_init, cX4_init, 1, none, 4, []),
  (yX4_putWord, cX4_putWord, 3, none, 4, []),
  (yX4_begin, cX4_begin, 2, none, 4, []),
  (yX4_fail, cX4_fail, 2, some .boolean, 4, []),
  (yX4_readHeader, cX4_readHeader, 1, some .boolean, 4, []),
  (yX4_readStatements, cX4_readStatements, 3, some .boolean, 4, []),
  (yX4_readZone, cX4_readZone, 2, some .boolean, 4, []),
  (yX4_readBand, cX4_readBand, 3, some .boolean, 4, []),
  (yX4_readHeat, cX4_readHeat, 1, some .boolean, 4, []),
  (yX4_readSum, cX4_readSum, 4, some .boolean, 4, []),
  (yX4_readTerm, cX4_readTerm, 4, some .boolean, 4, []),
  (yX4_readFactor, cX4_readFactor, 2, some .boolean, 4, []),
  (yX4_putStep, cX4_putStep, 2, none, 4, []),
  (yX4_takeNumber, cX4_takeNumber, 5, some .boolean, 4, []),
  (yX4_takeSign, cX4_takeSign, 2, some .boolean, 4, []),
  (yX4_signIs, cX4_signIs, 2, some .boolean, 4, []),
  (yX4_wordIs, cX4_wordIs, 3, some .boolean, 4, []),
  (yX4_readToken, cX4_readToken, 1, none, 4, []),
  (yX4_isDigit, cX4_isDigit, 1, some .boolean, 4, []),
  (yX4_isLetter, cX4_isLetter, 1, some .boolean, 4, []),
  (yX5_init, cX5_init, 2, none, 5, []),
  (yX5_append, cX5_append, 6, some .int, 5, []),
  (yX5_load, cX5_load, 2, some .int, 5, []),
  (yX5_errorOffset, cX5_errorOffset, 1, some .int, 5, []),
  (yX5_zoneCount, cX5_zoneCount, 1, some .int, 5, []),
  (yX5_sheetCount, cX5_sheetCount, 1, some .int, 5, []),
  (yX5_clock, cX5_clock, 1, some .int, 5, []),
  (yX5_zone, cX5_zone, 3, some .int, 5, []),
  (yX5_thickness, cX5_thickness, 2, some .int, 5, []),
  (yX5_temperature, cX5_temperature, 2, some .int, 5, []),
  (yX5_state, cX5_state, 2, some .int, 5, []),
  (yX5_quenched, cX5_quenched, 1, some .int, 5, []),
  (yX5_quenchLeft, cX5_quenchLeft, 1, some .int, 5, []),
  (yX5_count, cX5_count, 2, some .int, 5, []),
  (yX5_learned, cX5_learned, 3, some .int, 5, []),
  (yX5_risk, cX5_risk, 4, some .int, 5, []),
  (yX5_recognise, cX5_recognise, 4, some .int, 5, []),
  (yX5_guard, cX5_guard, 3, some .int, 5, []),
  (yX5_finishTime, cX5_finishTime, 2, some .int, 5, []),
  (yX5_stateAfter, cX5_stateAfter, 3, some .int, 5, []),
  (yX5_bestSetpoint, cX5_bestSetpoint, 8, some .int, 5, []),
  (yX5_add, cX5_add, 4, some .int, 5, []),
  (yX5_run, cX5_run, 4, some .int, 5, []),
  (yX5_setPoint, cX5_setPoint, 4, some .int, 5, []),
  (yX5_setCorrection, cX5_setCorrection, 4, some .int, 5, []),
  (yX5_scrap, cX5_scrap, 3, some .int, 5, []),
  (yX5_undo, cX5_undo, 1, some .int, 5, []),
  (yX5_checksum, cX5_checksum, 1, some .long, 5, []),
  (yX5_doneWith, cX5_doneWith, 2, some .int, 5, []),
  (yX5_requireLine, cX5_requireLine, 1, none, 5, []),
  (yX5_requireArgument, cX5_requireArgument, 3, none, 5, []),
  (yX5_requireIndex, cX5_requireIndex, 2, none, 5, []),
  (yX5_isWithin, cX5_isWithin, 3, some .boolean, 5, []),
  (yX5_isThickness, cX5_isThickness, 1, some .boolean, 5, []),
  (yX5_limit, cX5_limit, 3, some .int, 5, []),
  (yX5_thicknessOf, cX5_thicknessOf, 2, some .int, 5, []),
  (yX6_init, cX6_init, 1, none, 6, []),
  (yX6_thrown, cX6_thrown, 1, some .int, 6, []),
  (yX6_fails, cX6_fails, 3, some .boolean, 6, []),
  (yX6_in, cX6_in, 3, some .boolean, 6, []),
  (yX6_min, cX6_min, 2, some .int, 6, []),
  (yX6_max, cX6_max, 2, some .int, 6, []),
  (yX6_copy, cX6_copy, 3, none, 6, []),
  (yX6_zoneAt, cX6_zoneAt, 1, some .int, 6, []),
  (yX6_sheetAt, cX6_sheetAt, 1, some .int, 6, []),
  (yX6_kindAt, cX6_kindAt, 1, some .int, 6, []),
  (yX6_append, cX6_append, 8, some .int, 6, []),
  (yX6_byteAt, cX6_byteAt, 2, some .int, 6, []),
  (yX6_next, cX6_next, 1, some .int, 6, []),
  (yX6_isGood, cX6_isGood, 1, some .boolean, 6, []),
  (yX6_report, cX6_report, 3, none, 6, []),
  (yX6_isDigit, cX6_isDigit, 1, some .boolean, 6, []),
  (yX6_takeWord, cX6_takeWord, 3, some .boolean, 6, []),
  (yX6_expect, cX6_expect, 2, none, 6, []),
  (yX6_number, cX6_number, 5, some .int, 6, []),
  (yX6_emit, cX6_emit, 2, none, 6, []),
  (yX6_factor, cX6_factor, 4, none, 6, []),
  (yX6_term, cX6_term, 2, none, 6, []),
  (yX6_sum, cX6_sum, 2, none, 6, []),
  (yX6_once, cX6_once, 3, none, 6, []),
  (yX6_readZone, cX6_readZone, 8, none, 6, []),
  (yX6_readBand, cX6_readBand, 5, none, 6, []),
  (yX6_statement, cX6_statement, 2, none, 6, []),
  (yX6_load, cX6_load, 3, some .int, 6, []),
  (yX6_errorOffset, cX6_errorOffset, 1, some .int, 6, []),
  (yX6_held, cX6_held, 2, some .int, 6, []),
  (yX6_hold, cX6_hold, 3, none, 6, []),
  (yX6_warmth, cX6_warmth, 2, some .int, 6, []),
  (yX6_stateOf, cX6_stateOf, 2, some .int, 6, []),
  (yX6_become, cX6_become, 3, none, 6, []),
  (yX6_thicknessOf, cX6_thicknessOf, 2, some .int, 6, []),
  (yX6_limited, cX6_limited, 2, some .long, 6, []),
  (yX6_operate, cX6_operate, 5, some .long, 6, []),
  (yX6_transfer, cX6_transfer, 8, some .int, 6, []),
  (yX6_heat, cX6_heat, 6, none, 6, []),
  (yX6_leaveQuench, cX6_leaveQuench, 6, none, 6, []),
  (yX6_move, cX6_move, 6, none, 6, []),
  (yX6_tick, cX6_tick, 3, none, 6, []),
  (yX6_countOf, cX6_countOf, 4, some .int, 6, []),
  (yX6_isFinished, cX6_isFinished, 1, some .boolean, 6, []),
  (yX6_noZone, cX6_noZone, 2, some .boolean, 6, []),
  (yX6_noSheet, cX6_noSheet, 2, some .boolean, 6, []),
  (yX6_noThickness, cX6_noThickness, 2, some .boolean, 6, []),
  (yX6_isEmpty, cX6_isEmpty, 1, some .boolean, 6, []),
  (yX6_zoneCount, cX6_zoneCount, 1, some .int, 6, []),
  (yX6_sheetCount, cX6_sheetCount, 1, some .int, 6, []),
  (yX6_clock, cX6_clock, 1, some .int, 6, []),
  (yX6_zone, cX6_zone, 3, some .int, 6, []),
  (yX6_thickness, cX6_thickness, 2, some .int, 6, []),
  (yX6_temperature, cX6_temperature, 2, some .int, 6, []),
  (yX6_state, cX6_state, 2, some .int, 6, []),
  (yX6_quenched, cX6_quenched, 1, some .int, 6, []),
  (yX6_leftNow, cX6_leftNow, 1, some .int, 6, []),
  (yX6_quenchLeft, cX6_quenchLeft, 1, some .int, 6, []),
  (yX6_count, cX6_count, 2, some .int, 6, []),
  (yX6_learned, cX6_learned, 4, some .int, 6, []),
  (yX6_risk, cX6_risk, 5, some .int, 6, []),
  (yX6_noMeasures, cX6_noMeasures, 3, some .boolean, 6, []),
  (yX6_recognised, cX6_recognised, 3, some .int, 6, []),
  (yX6_recognise, cX6_recognise, 3, some .int, 6, []),
  (yX6_guard, cX6_guard, 4, some .int, 6, []),
  (yX6_finishTime, cX6_finishTime, 4, some .int, 6, []),
  (yX6_stateAfter, cX6_stateAfter, 4, some .int, 6, []),
  (yX6_doneWith, cX6_doneWith, 3, some .int, 6, []),
  (yX6_bestSetpoint, cX6_bestSetpoint, 7, some .int, 6, []),
  (yX6_remember, cX6_remember, 2, none, 6, []),
  (yX6_lay, cX6_lay, 3, some .int, 6, []),
  (yX6_add, cX6_add, 3, some .int, 6, []),
  (yX6_run, cX6_run, 4, some .int, 6, []),
  (yX6_setPoint, cX6_setPoint, 4, some .int, 6, []),
  (yX6_setCorrection, cX6_setCorrection, 4, some .int, 6, []),
  (yX6_scrap, cX6_scrap, 4, some .int, 6, []),
  (yX6_undo, cX6_undo, 1, some .int, 6, []),
  (yX6_checksum, cX6_checksum, 5, some .long, 6, []),
  (yL_load, cL_load, 4, some .int, 7, [(0, 9, 12, 13)]),
  (yL_zone, cL_zone, 5, some .int, 7, [(0, 10, 13, 19), (0, 10, 17, 13)]),
  (yL_thickness, cL_thickness, 4, some .int, 7, [(0, 9, 12, 19)]),
  (yL_temperature, cL_temperature, 4, some .int, 7, [(0, 9, 12, 19)]),
  (yL_state, cL_state, 4, some .int, 7, [(0, 9, 12, 19)]),
  (yL_count, cL_count, 4, some .int, 7, [(0, 9, 12, 13)]),
  (yL_learned, cL_learned, 5, some .int, 7, [(0, 10, 13, 13)]),
  (yL_risk, cL_risk, 4, some .int, 7, [(0, 9, 12, 13)]),
  (yL_recognise, cL_recognise, 5, some .int, 7, [(0, 10, 13, 13)]),
  (yL_guard, cL_guard, 4, some .int, 7, [(0, 9, 12, 13)]),
  (yL_finishTime, cL_finishTime, 4, some .int, 7, [(0, 9, 12, 13)]),
  (yL_stateAfter, cL_stateAfter, 5, some .int, 7, [(0, 10, 13, 19), (0, 10, 17, 13)]),
  (yL_add, cL_add, 5, some .int, 7, [(0, 10, 13, 13), (0, 10, 17, 54)]),
  (yL_run, cL_run, 4, some .int, 7, [(0, 9, 12, 13), (0, 9, 15, 54)]),
  (yL_setPoint, cL_setPoint, 5, some .int, 7, [(0, 10, 13, 19), (0, 10, 17, 13)]),
  (yL_setCorrection, cL_setCorrection, 5, some .int, 7, [(0, 10, 13, 13), (0, 10, 17, 54)]),
  (yL_scrap, cL_scrap, 4, some .int, 7, [(0, 9, 12, 19), (0, 9, 15, 54)]),
  (yL_law, cL_law, 7, some .boolean, 7, []),
  (yJ0_length_8abf5, cJ0_length_8abf5, 1, some .int, 8, []),
  (yJ0_charAt_5068e, cJ0_charAt_5068e, 2, some .char, 8, []),
  (yJ0_coder_7d493, cJ0_coder_7d493, 1, some .byte, 8, []),
  (yJ0_isLatin1_aae02, cJ0_isLatin1_aae02, 1, some .boolean, 8, []),
  (yJ0_checkIndex_df160, cJ0_checkIndex_df160, 2, none, 8, []),
  (yJ1_charAt_3b067, cJ1_charAt_3b067, 2, some .char, 9, []),
  (yJ3_checkIndex_8e157, cJ3_checkIndex_8e157, 3, some .int, 10, [])]
def mwi : List Nat := [122, 429, 432, 322, 717, 495, 255, 389, 425, 722, 726, 819, 823, 397, 487, 406, 402, 410, 414, 421, 444, 448, 458, 462, 466, 474, 478, 482, 470, 504, 116, 202, 357, 587, 659, 602, 678, 683, 688, 693, 697, 701, 705, 709, 663, 670, 674, 607, 592, 595, 598, 108, 353, 513, 361, 365, 369, 373, 734, 761, 768, 775, 377, 381, 782, 789, 797, 804, 815, 830, 837, 385, 845, 874, 884, 891, 898, 491, 500, 393, 849, 516, 737, 454, 451, 126, 807, 905, 962, 977, 973, 1011, 1211, 1065, 1027, 1108, 1035, 966, 994, 990, 986, 1000, 1007, 982, 1015, 1004, 1058, 1052, 1048, 1044, 1040, 1024, 1032, 1019, 970, 1069, 1093, 1179, 1116, 1124, 1219, 1105, 1205, 1202, 1199, 1195, 1215, 1223, 1191, 1144, 1187, 1089, 1101, 1152, 1175, 1073, 1077, 1081, 1085, 1097, 1112, 1120, 1128, 1136, 1132, 1140, 1148, 1156, 1164, 1167, 1160, 1171, 1227, 1231, 1239, 1235, 1062, 1183, 1243, 1247, 1252, 1256, 1260, 1264, 1268, 508, 729, 757, 764, 771, 778, 785, 793, 800, 811, 826, 833, 840, 870, 880, 887, 894, 0, 611, 621, 615, 625, 631, 628, 636]
def mwx : List (Nat × Nat × Nat) := [(9999, 121, 9999), (9999, 428, 10), (431, 9999, 9999), (9999, 321, 9999), (9999, 716, 40), (9999, 494, 21), (9999, 254, 9999), (9999, 388, 1), (9999, 424, 9), (9999, 721, 41), (9999, 725, 42), (9999, 818, 43), (9999, 822, 44), (9999, 396, 3), (9999, 486, 20), (9999, 405, 5), (9999, 401, 4), (9999, 409, 6), (9999, 413, 7), (9999, 420, 8), (9999, 443, 11), (9999, 447, 12), (9999, 457, 13), (9999, 461, 14), (9999, 465, 15), (9999, 473, 17), (9999, 477, 18), (9999, 481, 19), (9999, 469, 16), (9999, 503, 22), (9999, 115, 9999), (9999, 201, 9999), (9999, 356, 0), (9999, 586, 24), (9999, 658, 28), (9999, 601, 26), (9999, 677, 32), (9999, 682, 33), (9999, 687, 34), (9999, 692, 35), (9999, 696, 36), (9999, 700, 37), (9999, 704, 38), (9999, 708, 39), (9999, 662, 29), (9999, 669, 30), (9999, 673, 31), (9999, 606, 27), (9999, 591, 25), (594, 9999, 9999), (597, 9999, 9999), (9999, 107, 9999), (9999, 351, 352), (9999, 511, 512), (9999, 359, 360), (9999, 363, 364), (9999, 367, 368), (9999, 371, 372), (9999, 732, 733), (9999, 759, 760), (9999, 766, 767), (9999, 773, 774), (9999, 375, 376), (9999, 379, 380), (9999, 780, 781), (9999, 787, 788), (9999, 795, 796), (9999, 802, 803), (9999, 813, 814), (9999, 828, 829), (9999, 835, 836), (9999, 383, 384), (9999, 843, 844), (9999, 872, 873), (9999, 882, 883), (9999, 889, 890), (9999, 896, 897), (9999, 489, 490), (9999, 498, 499), (9999, 392, 2), (9999, 848, 45), (515, 9999, 9999), (736, 9999, 9999), (453, 9999, 9999), (450, 9999, 9999), (125, 9999, 9999), (806, 9999, 9999), (9999, 904, 9999), (9999, 960, 961), (9999, 976, 46), (972, 9999, 9999), (1010, 9999, 9999), (1210, 9999, 9999), (1064, 9999, 9999), (1026, 9999, 9999), (1107, 9999, 9999), (1034, 9999, 9999), (9999, 964, 965), (9999, 993, 50), (9999, 989, 49), (9999, 985, 48), (9999, 999, 51), (1006, 9999, 9999), (9999, 981, 47), (9999, 1014, 53), (9999, 1003, 52), (9999, 1057, 61), (9999, 1051, 60), (9999, 1047, 59), (9999, 1043, 58), (9999, 1039, 57), (9999, 1023, 55), (9999, 1031, 56), (9999, 1018, 54), (9999, 968, 969), (9999, 1067, 1068), (9999, 1092, 64), (9999, 1178, 74), (9999, 1115, 67), (9999, 1123, 68), (9999, 1218, 81), (9999, 1104, 66), (1204, 9999, 9999), (1201, 9999, 9999), (9999, 1198, 79), (9999, 1194, 78), (9999, 1214, 80), (9999, 1222, 82), (9999, 1190, 77), (9999, 1143, 70), (9999, 1186, 76), (9999, 1088, 63), (9999, 1100, 65), (9999, 1151, 71), (9999, 1174, 73), (9999, 1071, 1072), (9999, 1075, 1076), (9999, 1079, 1080), (9999, 1083, 1084), (9999, 1095, 1096), (9999, 1110, 1111), (9999, 1118, 1119), (9999, 1126, 1127), (9999, 1135, 69), (9999, 1130, 1131), (9999, 1138, 1139), (9999, 1146, 1147), (9999, 1154, 1155), (9999, 1163, 72), (1166, 9999, 9999), (9999, 1158, 1159), (9999, 1169, 1170), (9999, 1225, 1226), (9999, 1229, 1230), (9999, 1238, 83), (9999, 1233, 1234), (9999, 1061, 62), (9999, 1182, 75), (9999, 1241, 1242), (9999, 1245, 1246), (9999, 1250, 1251), (9999, 1254, 1255), (9999, 1258, 1259), (9999, 1262, 1263), (9999, 1266, 1267), (507, 9999, 9999), (728, 9999, 9999), (756, 9999, 9999), (763, 9999, 9999), (770, 9999, 9999), (777, 9999, 9999), (784, 9999, 9999), (792, 9999, 9999), (799, 9999, 9999), (810, 9999, 9999), (825, 9999, 9999), (832, 9999, 9999), (839, 9999, 9999), (869, 9999, 9999), (879, 9999, 9999), (886, 9999, 9999), (893, 9999, 9999), (9999, 9999, 9999), (9999, 609, 610), (9999, 619, 620), (9999, 613, 614), (9999, 623, 624), (630, 9999, 9999), (627, 9999, 9999), (635, 9999, 9999)]
def codeW (e : MI) : Cond := if e.2.2.2.2.2 = [] then .code e.1 e.2.1 e.2.2.1 e.2.2.2.1 else .codeWith e.1 e.2.1 e.2.2.1 e.2.2.2.1 e.2.2.2.2.2
def fldT : List ((Nat × Nat) × Nat × Bool × Nat × Nat × String) := [
  ((0, 13), 130, false, 0, 0, ""),
  ((0, 25), 131, false, 0, 1, ""),
  ((1, 11), 327, false, 1, 0, ""),
  ((1, 20), 328, false, 1, 1, ""),
  ((1, 28), 329, false, 1, 2, ""),
  ((2, 9), 257, false, 2, 0, ""),
  ((2, 15), 263, false, 2, 3, ""),
  ((2, 19), 267, false, 2, 5, ""),
  ((2, 23), 269, false, 2, 6, ""),
  ((2, 26), 271, false, 2, 7, ""),
  ((2, 29), 273, false, 2, 8, ""),
  ((2, 32), 275, false, 2, 9, ""),
  ((2, 35), 277, false, 2, 10, ""),
  ((2, 38), 279, false, 2, 11, ""),
  ((2, 41), 281, false, 2, 12, ""),
  ((2, 44), 283, false, 2, 13, ""),
  ((2, 47), 285, false, 2, 14, ""),
  ((2, 50), 138, true, 3, 0, "TemperingLine"),
  ((2, 55), 261, false, 2, 2, ""),
  ((2, 58), 259, false, 2, 1, ""),
  ((2, 64), 146, true, 3, 3, "TemperingLine"),
  ((2, 65), 265, false, 2, 4, ""),
  ((2, 105), 151, true, 3, 4, "TemperingLine"),
  ((2, 118), 174, true, 3, 10, "TemperingLine"),
  ((2, 131), 155, true, 3, 5, "TemperingLine"),
  ((2, 140), 167, true, 3, 8, "TemperingLine"),
  ((2, 143), 171, true, 3, 9, "TemperingLine"),
  ((2, 146), 144, true, 3, 2, "TemperingLine"),
  ((2, 156), 163, true, 3, 7, "TemperingLine"),
  ((2, 162), 159, true, 3, 6, "TemperingLine"),
  ((2, 171), 142, true, 3, 1, "TemperingLine"),
  ((3, 9), 145, false, 3, 3, ""),
  ((3, 15), 148, false, 3, 4, ""),
  ((3, 18), 152, false, 3, 5, ""),
  ((3, 21), 156, false, 3, 6, ""),
  ((3, 24), 160, false, 3, 7, ""),
  ((3, 27), 164, false, 3, 8, ""),
  ((3, 30), 168, false, 3, 9, ""),
  ((3, 38), 172, false, 3, 10, ""),
  ((4, 9), 206, false, 4, 0, ""),
  ((4, 15), 221, false, 4, 11, ""),
  ((4, 19), 216, false, 4, 8, ""),
  ((4, 26), 218, false, 4, 9, ""),
  ((4, 30), 208, false, 4, 1, ""),
  ((4, 37), 209, false, 4, 2, ""),
  ((4, 40), 212, false, 4, 5, ""),
  ((4, 43), 220, false, 4, 10, ""),
  ((4, 50), 215, false, 4, 7, ""),
  ((4, 53), 211, false, 4, 4, ""),
  ((4, 70), 213, false, 4, 6, ""),
  ((4, 73), 141, true, 3, 1, "TemperingLine"),
  ((4, 76), 143, true, 3, 2, "TemperingLine"),
  ((4, 83), 210, false, 4, 3, ""),
  ((4, 102), 140, true, 3, 0, "TemperingLine"),
  ((4, 105), 147, true, 3, 3, "TemperingLine"),
  ((4, 108), 149, true, 3, 4, "TemperingLine"),
  ((4, 111), 153, true, 3, 5, "TemperingLine"),
  ((4, 114), 157, true, 3, 6, "TemperingLine"),
  ((4, 117), 161, true, 3, 7, "TemperingLine"),
  ((4, 120), 165, true, 3, 8, "TemperingLine"),
  ((4, 123), 169, true, 3, 9, "TemperingLine"),
  ((4, 126), 222, false, 4, 12, ""),
  ((4, 137), 173, true, 3, 10, "TemperingLine"),
  ((5, 15), 337, false, 5, 0, ""),
  ((5, 24), 338, false, 5, 1, ""),
  ((5, 28), 339, false, 5, 2, ""),
  ((5, 34), 340, false, 5, 3, ""),
  ((5, 38), 207, true, 4, 1, "TemperingLine"),
  ((5, 60), 214, true, 4, 7, "TemperingLine"),
  ((5, 67), 219, true, 4, 9, "TemperingLine"),
  ((5, 74), 258, true, 2, 0, "TemperingLine"),
  ((5, 75), 139, true, 3, 0, "TemperingLine"),
  ((5, 78), 217, true, 4, 8, "TemperingLine"),
  ((5, 81), 262, true, 2, 2, "TemperingLine"),
  ((5, 84), 260, true, 2, 1, "TemperingLine"),
  ((5, 91), 268, true, 2, 5, "TemperingLine"),
  ((5, 95), 150, true, 3, 4, "TemperingLine"),
  ((5, 98), 154, true, 3, 5, "TemperingLine"),
  ((5, 101), 158, true, 3, 6, "TemperingLine"),
  ((5, 104), 162, true, 3, 7, "TemperingLine"),
  ((5, 107), 270, true, 2, 6, "TemperingLine"),
  ((5, 110), 272, true, 2, 7, "TemperingLine"),
  ((5, 120), 274, true, 2, 8, "TemperingLine"),
  ((5, 123), 276, true, 2, 9, "TemperingLine"),
  ((5, 126), 278, true, 2, 10, "TemperingLine"),
  ((5, 129), 264, true, 2, 3, "TemperingLine"),
  ((5, 132), 266, true, 2, 4, "TemperingLine"),
  ((5, 139), 280, true, 2, 11, "TemperingLine"),
  ((5, 142), 282, true, 2, 12, "TemperingLine"),
  ((5, 145), 284, true, 2, 13, "TemperingLine"),
  ((5, 148), 286, true, 2, 14, "TemperingLine"),
  ((5, 151), 166, true, 3, 8, "TemperingLine"),
  ((5, 154), 170, true, 3, 9, "TemperingLine"),
  ((6, 9), 910, false, 6, 1, ""),
  ((6, 13), 916, false, 6, 7, ""),
  ((6, 17), 917, false, 6, 8, ""),
  ((6, 20), 918, false, 6, 9, ""),
  ((6, 23), 919, false, 6, 10, ""),
  ((6, 28), 920, false, 6, 11, ""),
  ((6, 31), 924, false, 6, 15, ""),
  ((6, 35), 909, false, 6, 0, ""),
  ((6, 38), 911, false, 6, 2, ""),
  ((6, 41), 912, false, 6, 3, ""),
  ((6, 44), 913, false, 6, 4, ""),
  ((6, 51), 914, false, 6, 5, ""),
  ((6, 54), 915, false, 6, 6, ""),
  ((6, 91), 922, false, 6, 13, ""),
  ((6, 123), 923, false, 6, 14, ""),
  ((6, 248), 921, false, 6, 12, "")
  ]
def mthT : List ((Nat × Nat) × Nat × Nat × Nat × String) := [
  ((0, 1), 6, 123, 0, ""),
  ((0, 7), 1, 124, 85, "TemperingLine"),
  ((0, 19), 9, 127, 0, ""),
  ((0, 28), 0, 430, 2, ""),
  ((1, 3), 6, 323, 0, ""),
  ((1, 17), 5, 326, 6, "TemperingLine"),
  ((1, 24), 3, 496, 13, "TemperingLine"),
  ((1, 31), 8, 718, 0, ""),
  ((2, 3), 6, 256, 0, ""),
  ((2, 61), 2, 723, 10, ""),
  ((2, 68), 2, 820, 12, ""),
  ((2, 72), 9, 398, 0, ""),
  ((2, 78), 2, 403, 15, ""),
  ((2, 82), 2, 407, 17, ""),
  ((2, 85), 2, 411, 18, ""),
  ((2, 88), 2, 418, 19, ""),
  ((2, 92), 2, 441, 20, ""),
  ((2, 96), 2, 445, 21, ""),
  ((2, 99), 2, 459, 23, ""),
  ((2, 102), 2, 479, 27, ""),
  ((2, 108), 8, 415, 0, ""),
  ((2, 114), 2, 422, 8, ""),
  ((2, 122), 3, 426, 1, "TemperingLine"),
  ((2, 128), 1, 437, 85, "TemperingLine"),
  ((2, 134), 7, 438, 0, ""),
  ((2, 137), 1, 449, 84, "TemperingLine"),
  ((2, 149), 2, 455, 22, ""),
  ((2, 153), 2, 463, 24, ""),
  ((2, 159), 2, 467, 28, ""),
  ((2, 165), 2, 471, 25, ""),
  ((2, 168), 2, 475, 26, ""),
  ((2, 174), 2, 483, 7, ""),
  ((3, 3), 6, 117, 0, ""),
  ((3, 35), 5, 120, 0, "TemperingLine"),
  ((4, 3), 6, 203, 0, ""),
  ((4, 25), 5, 205, 30, "TemperingLine"),
  ((4, 33), 1, 588, 85, "TemperingLine"),
  ((4, 47), 2, 589, 48, ""),
  ((4, 58), 2, 604, 47, ""),
  ((4, 62), 2, 656, 34, ""),
  ((4, 66), 2, 660, 44, ""),
  ((4, 79), 2, 667, 45, ""),
  ((4, 88), 2, 680, 37, ""),
  ((4, 94), 2, 685, 38, ""),
  ((4, 99), 2, 690, 39, ""),
  ((4, 129), 2, 694, 40, ""),
  ((4, 134), 5, 713, 0, "TemperingLine"),
  ((4, 140), 2, 698, 41, ""),
  ((4, 143), 2, 671, 46, ""),
  ((4, 146), 2, 706, 43, ""),
  ((4, 150), 2, 702, 42, ""),
  ((4, 158), 8, 665, 0, ""),
  ((4, 164), 1, 666, 83, "TemperingLine"),
  ((4, 168), 2, 608, 183, ""),
  ((4, 173), 2, 618, 184, ""),
  ((4, 177), 0, 593, 49, ""),
  ((4, 180), 0, 596, 50, ""),
  ((5, 3), 6, 109, 0, ""),
  ((5, 11), 5, 114, 30, "TemperingLine"),
  ((5, 14), 5, 200, 31, "TemperingLine"),
  ((5, 21), 5, 253, 6, "TemperingLine"),
  ((5, 33), 5, 320, 3, "TemperingLine"),
  ((5, 42), 3, 354, 32, "TemperingLine"),
  ((5, 46), 0, 514, 81, ""),
  ((5, 50), 3, 584, 33, "TemperingLine"),
  ((5, 53), 3, 599, 35, "TemperingLine"),
  ((5, 57), 3, 675, 36, "TemperingLine"),
  ((5, 63), 3, 714, 4, "TemperingLine"),
  ((5, 71), 3, 719, 9, "TemperingLine"),
  ((5, 87), 0, 735, 82, ""),
  ((5, 135), 3, 484, 14, "TemperingLine"),
  ((5, 159), 0, 805, 86, ""),
  ((5, 163), 0, 808, 84, ""),
  ((5, 167), 3, 386, 7, "TemperingLine"),
  ((5, 170), 3, 394, 13, "TemperingLine"),
  ((5, 173), 3, 816, 11, "TemperingLine"),
  ((5, 176), 3, 399, 16, "TemperingLine"),
  ((5, 179), 2, 390, 79, ""),
  ((5, 182), 0, 452, 83, ""),
  ((5, 186), 2, 846, 80, ""),
  ((5, 194), 3, 867, 12, "TemperingLine"),
  ((5, 200), 3, 877, 17, "TemperingLine"),
  ((5, 205), 3, 900, 28, "TemperingLine"),
  ((5, 208), 3, 492, 5, "TemperingLine"),
  ((5, 212), 3, 501, 29, "TemperingLine"),
  ((6, 3), 6, 906, 0, ""),
  ((6, 47), 2, 991, 98, ""),
  ((6, 57), 0, 971, 90, ""),
  ((6, 61), 2, 983, 100, ""),
  ((6, 65), 2, 987, 99, ""),
  ((6, 69), 2, 995, 183, ""),
  ((6, 74), 2, 996, 184, ""),
  ((6, 78), 2, 997, 101, ""),
  ((6, 82), 0, 1005, 102, ""),
  ((6, 87), 0, 1009, 91, ""),
  ((6, 94), 2, 1041, 109, ""),
  ((6, 97), 2, 1012, 104, ""),
  ((6, 103), 2, 979, 103, ""),
  ((6, 111), 2, 1001, 105, ""),
  ((6, 114), 2, 1055, 106, ""),
  ((6, 117), 2, 1049, 107, ""),
  ((6, 120), 2, 1045, 108, ""),
  ((6, 126), 0, 1025, 94, ""),
  ((6, 129), 0, 1033, 96, ""),
  ((6, 132), 2, 1021, 111, ""),
  ((6, 137), 2, 1029, 112, ""),
  ((6, 142), 2, 1037, 110, ""),
  ((6, 145), 2, 974, 89, ""),
  ((6, 151), 2, 1016, 113, ""),
  ((6, 154), 2, 1059, 156, ""),
  ((6, 157), 0, 1063, 93, ""),
  ((6, 161), 0, 1106, 95, ""),
  ((6, 168), 0, 1203, 122, ""),
  ((6, 172), 0, 1200, 123, ""),
  ((6, 178), 2, 1090, 116, ""),
  ((6, 181), 2, 1113, 118, ""),
  ((6, 184), 2, 1102, 121, ""),
  ((6, 187), 2, 1196, 124, ""),
  ((6, 191), 0, 1209, 92, ""),
  ((6, 194), 2, 1216, 120, ""),
  ((6, 197), 2, 1176, 117, ""),
  ((6, 200), 2, 1192, 125, ""),
  ((6, 202), 2, 1212, 126, ""),
  ((6, 205), 2, 1220, 127, ""),
  ((6, 208), 2, 1121, 119, ""),
  ((6, 211), 2, 1141, 129, ""),
  ((6, 214), 2, 1086, 131, ""),
  ((6, 217), 2, 1098, 132, ""),
  ((6, 220), 2, 1133, 143, ""),
  ((6, 223), 2, 1149, 133, ""),
  ((6, 226), 2, 1161, 148, ""),
  ((6, 230), 0, 1165, 149, ""),
  ((6, 233), 2, 1172, 134, ""),
  ((6, 236), 2, 1180, 157, ""),
  ((6, 239), 2, 1184, 130, ""),
  ((6, 242), 2, 1188, 128, ""),
  ((6, 245), 2, 1236, 154, ""),
  ((7, 7), 2, 510, 53, ""),
  ((7, 15), 2, 731, 58, ""),
  ((7, 21), 2, 758, 59, ""),
  ((7, 24), 2, 765, 60, ""),
  ((7, 27), 2, 772, 61, ""),
  ((7, 30), 2, 779, 64, ""),
  ((7, 33), 2, 786, 65, ""),
  ((7, 36), 2, 794, 66, ""),
  ((7, 39), 2, 801, 67, ""),
  ((7, 42), 2, 812, 68, ""),
  ((7, 45), 2, 827, 69, ""),
  ((7, 48), 2, 834, 70, ""),
  ((7, 51), 2, 842, 72, ""),
  ((7, 56), 2, 871, 73, ""),
  ((7, 59), 2, 881, 74, ""),
  ((7, 62), 2, 888, 75, ""),
  ((7, 65), 2, 895, 76, ""),
  ((7, 68), 4, 106, 51, ""),
  ((7, 71), 4, 903, 87, ""),
  ((7, 72), 2, 350, 52, ""),
  ((7, 76), 2, 963, 97, ""),
  ((7, 77), 0, 506, 165, ""),
  ((7, 82), 2, 967, 114, ""),
  ((7, 83), 2, 959, 88, ""),
  ((7, 87), 2, 358, 54, ""),
  ((7, 90), 2, 1066, 115, ""),
  ((7, 91), 2, 362, 55, ""),
  ((7, 94), 2, 1070, 135, ""),
  ((7, 95), 2, 366, 56, ""),
  ((7, 98), 2, 1074, 136, ""),
  ((7, 99), 2, 370, 57, ""),
  ((7, 102), 2, 1078, 137, ""),
  ((7, 103), 0, 727, 166, ""),
  ((7, 106), 2, 1082, 138, ""),
  ((7, 107), 0, 755, 167, ""),
  ((7, 109), 2, 1094, 139, ""),
  ((7, 110), 0, 762, 168, ""),
  ((7, 112), 2, 1109, 140, ""),
  ((7, 113), 0, 769, 169, ""),
  ((7, 115), 2, 1117, 141, ""),
  ((7, 116), 2, 374, 62, ""),
  ((7, 119), 2, 1125, 142, ""),
  ((7, 120), 2, 378, 63, ""),
  ((7, 123), 2, 1129, 144, ""),
  ((7, 124), 0, 776, 170, ""),
  ((7, 126), 2, 1137, 145, ""),
  ((7, 127), 0, 783, 171, ""),
  ((7, 129), 2, 1145, 146, ""),
  ((7, 130), 0, 791, 172, ""),
  ((7, 132), 2, 1153, 147, ""),
  ((7, 133), 0, 798, 173, ""),
  ((7, 135), 2, 1157, 150, ""),
  ((7, 136), 0, 809, 174, ""),
  ((7, 138), 2, 1168, 151, ""),
  ((7, 139), 0, 824, 175, ""),
  ((7, 141), 2, 1224, 152, ""),
  ((7, 142), 0, 831, 176, ""),
  ((7, 144), 2, 1228, 153, ""),
  ((7, 145), 2, 382, 71, ""),
  ((7, 148), 2, 1232, 155, ""),
  ((7, 149), 0, 838, 177, ""),
  ((7, 151), 2, 1240, 158, ""),
  ((7, 152), 0, 868, 178, ""),
  ((7, 154), 2, 1244, 159, ""),
  ((7, 155), 0, 878, 179, ""),
  ((7, 157), 2, 1249, 160, ""),
  ((7, 158), 0, 885, 180, ""),
  ((7, 160), 2, 1253, 161, ""),
  ((7, 161), 0, 892, 181, ""),
  ((7, 163), 2, 1257, 162, ""),
  ((7, 164), 2, 488, 77, ""),
  ((7, 167), 2, 1261, 163, ""),
  ((7, 168), 2, 497, 78, ""),
  ((7, 172), 2, 1265, 164, ""),
  ((8, 335), 2, 612, 185, ""),
  ((8, 492), 2, 622, 186, ""),
  ((8, 495), 0, 626, 188, ""),
  ((8, 1059), 0, 634, 189, ""),
  ((9, 9), 0, 629, 187, "")
  ]
def cstT : List ((Nat × Nat) × Nat × Int32) := [
  ((0, 33), 434, -1000000),
  ((0, 36), 436, 1000000),
  ((4, 157), 664, 100000),
  ((5, 197), 875, 100000),
  ((6, 86), 1008, 1000000),
  ((6, 251), 1248, 100000)
  ]
def cstLT : List ((Nat × Nat) × Nat × Int64) := [
  ((0, 31), 433, -1000000),
  ((0, 34), 435, 1000000),
  ((2, 177), 505, 31),
  ((6, 164), 1206, 1000000),
  ((6, 166), 1207, -1000000),
  ((6, 176), 1208, 1000),
  ((6, 252), 1269, 31)
  ]
def strT : List ((Nat × Nat) × String × Nat) := [
  ((4, 56), "line", 0),
  ((4, 86), "zone", 1),
  ((4, 92), "band", 2),
  ((4, 97), "heat", 3),
  ((4, 153), "thickness", 4),
  ((4, 155), "gap", 5),
  ((5, 115), "what is not 0 to 6", 8),
  ((5, 157), "what is not 0 to 5", 9),
  ((5, 191), "there have been 20 sheets", 11),
  ((5, 198), "the clock would exceed 100000", 12),
  ((5, 203), "the sheet is neither WAITING nor HEATED", 13),
  ((5, 216), "there is no line", 10),
  ((5, 218), "an argument is out of range", 6),
  ((5, 222), "there is no such zone or sheet", 7),
  ((6, 101), "thickness", 4),
  ((6, 107), "zone", 1),
  ((6, 109), "gap", 5),
  ((6, 135), "band", 2),
  ((6, 140), "heat", 3),
  ((6, 149), "line", 0)
  ]
def clsT : List ((Nat × Nat) × Nat × Nat) := [
  ((1, 9), 324, 2),
  ((3, 33), 118, 0),
  ((4, 23), 204, 3),
  ((4, 132), 712, 0),
  ((5, 9), 112, 3),
  ((5, 12), 198, 4),
  ((5, 19), 251, 2),
  ((5, 31), 318, 1),
  ((7, 8), 104, 5),
  ((7, 69), 901, 6)
  ]
def exT : List ((Nat × Nat) × Nat × Nat) := [
  ((5, 113), 517, 0),
  ((5, 189), 850, 1),
  ((5, 220), 738, 2),
  ((7, 13), 509, 0),
  ((7, 19), 730, 2),
  ((7, 54), 841, 1)
  ]
def mnaT : List ((Nat × Nat) × Nat × Nat) := [
  ((6, 26), 907, 0)
  ]
def exI : List ((Nat × Nat) × Nat × Nat) := [
  ((5, 117), 559, 0),
  ((5, 193), 860, 1),
  ((5, 224), 748, 2)
  ]
def litF : List ((Nat × Nat) × Nat × Nat) := [
  ((8, 9), 1271, 0),
  ((8, 15), 1272, 1)
  ]
def stT : List ((Nat × Nat) × Nat × Nat) := [
  ((8, 38), 616, 0),
  ((8, 1053), 632, 1)
  ]
def lenJ : List Nat := [4, 4, 4, 4, 9, 3]
def bytJ : List (List Int32) := [[108, 105, 110, 101], [122, 111, 110, 101], [98, 97, 110, 100], [104, 101, 97, 116], [116, 104, 105, 99, 107, 110, 101, 115, 115], [103, 97, 112]]
def exN : Nat → String
  | 0 => "java/lang/IllegalArgumentException"
  | 1 => "java/lang/IllegalStateException"
  | 2 => "java/lang/IndexOutOfBoundsException"
  | _ => ""
def exU : List String := ["java/lang/RuntimeException", "java/lang/Exception"]

def fldW (c i : Nat) (nest : Bool) (cj k : Nat) (host : String) : Cond := if nest = true then .fieldLinkNest (cR c) i (cR cj) (cT cj k).2.1 (cT cj k).2.2.1 host else .fieldLink (cR c) i (cR cj) (cT cj k).2.1 (cT cj k).2.2.1
def lwG : List Cond := lw_tbl.filter goodWord
/-- a word that stays true in a warmer machine, though it isn't 'good' -/
def ngK : Cond → Bool
  | .fieldLinkNest .. => true
  | .methodLinkNest .. => true
  | .castable .. => true
  | .declares .. => true
  | _ => false
def ngW : List Cond := lw_tbl.filter ngK
def look {α : Type} (k : Nat × Nat) : List ((Nat × Nat) × α) → Option α
  | [] => none
  | q :: t => if q.1 = k then some q.2 else look k t
theorem look_mem {α : Type} {k : Nat × Nat} {v : α} : ∀ {l : List ((Nat × Nat) × α)}, look k l = some v → (k, v) ∈ l
  | [], h => by cases h
  | q :: t, h => by
    rw [look] at h
    by_cases e : q.1 = k
    · rw [if_pos e] at h
      cases h
      subst e
      exact List.mem_cons_self
    · rw [if_neg e] at h
      exact List.mem_cons_of_mem _ (look_mem h)
theorem clsG_0 : ∀ w ∈ u_ws RX0 TX0 2, w ∈ lwG := by decide +kernel
theorem clsG_1 : ∀ w ∈ u_ws RX1 TX1 3, w ∈ lwG := by decide +kernel
theorem clsG_2 : ∀ w ∈ u_ws RX2 TX2 15, w ∈ lwG := by decide +kernel
theorem clsG_3 : ∀ w ∈ u_ws RX3 TX3 11, w ∈ lwG := by decide +kernel
theorem clsG_4 : ∀ w ∈ u_ws RX4 TX4 13, w ∈ lwG := by decide +kernel
theorem clsG_5 : ∀ w ∈ u_ws RX5 TX5 4, w ∈ lwG := by decide +kernel
theorem clsG_6 : ∀ w ∈ u_ws RX6 TX6 16, w ∈ lwG := by decide +kernel
theorem clsF : ∀ cj : Nat, cj < 7 → vwCl[cj]? = some (cR cj, cT cj, cNf cj) ∧ (∀ w ∈ u_ws (cR cj) (cT cj) (cNf cj), w ∈ lwG) ∧ (∀ k, k < cNf cj → parseFieldDescriptor (cT cj k).2.2.1 = some (cY cj k)) ∧ (∀ a, a < cNf cj → ∀ b, b < cNf cj → a ≠ b → (cT cj a).2.1 ≠ (cT cj b).2.1)
  | 0, _ => ⟨rfl, clsG_0, tyX0_ok, nmX0⟩
  | 1, _ => ⟨rfl, clsG_1, tyX1_ok, nmX1⟩
  | 2, _ => ⟨rfl, clsG_2, tyX2_ok, nmX2⟩
  | 3, _ => ⟨rfl, clsG_3, tyX3_ok, nmX3⟩
  | 4, _ => ⟨rfl, clsG_4, tyX4_ok, nmX4⟩
  | 5, _ => ⟨rfl, clsG_5, tyX5_ok, nmX5⟩
  | 6, _ => ⟨rfl, clsG_6, tyX6_ok, nmX6⟩
  | n + 7, h => by omega
def isD : Value → Bool
  | .int _ => true
  | .long _ => true
  | .null => true
  | _ => false
theorem clsD : ∀ cj : Nat, cj < 7 → ∀ k, k < cNf cj → isD (defaultValue (cY cj k)) = true
  | 0, _ => (by decide +kernel : ∀ k, k < 2 → isD (defaultValue (tyX0 k)) = true)
  | 1, _ => (by decide +kernel : ∀ k, k < 3 → isD (defaultValue (tyX1 k)) = true)
  | 2, _ => (by decide +kernel : ∀ k, k < 15 → isD (defaultValue (tyX2 k)) = true)
  | 3, _ => (by decide +kernel : ∀ k, k < 11 → isD (defaultValue (tyX3 k)) = true)
  | 4, _ => (by decide +kernel : ∀ k, k < 13 → isD (defaultValue (tyX4 k)) = true)
  | 5, _ => (by decide +kernel : ∀ k, k < 4 → isD (defaultValue (tyX5 k)) = true)
  | 6, _ => (by decide +kernel : ∀ k, k < 16 → isD (defaultValue (tyX6 k)) = true)
  | n + 7, h => by omega
theorem clsN : ∀ cj : Nat, cj < 7 → Cond.instantiable (cR cj) (cNf cj) ∈ lwG
  | 0, _ => (by decide +kernel : Cond.instantiable RX0 2 ∈ lwG)
  | 1, _ => (by decide +kernel : Cond.instantiable RX1 3 ∈ lwG)
  | 2, _ => (by decide +kernel : Cond.instantiable RX2 15 ∈ lwG)
  | 3, _ => (by decide +kernel : Cond.instantiable RX3 11 ∈ lwG)
  | 4, _ => (by decide +kernel : Cond.instantiable RX4 13 ∈ lwG)
  | 5, _ => (by decide +kernel : Cond.instantiable RX5 4 ∈ lwG)
  | 6, _ => (by decide +kernel : Cond.instantiable RX6 16 ∈ lwG)
  | n + 7, h => by omega
theorem clsI : ∀ cj : Nat, cj < 11 → Cond.initialized (cR cj) ∈ lwG
  | 0, _ => (by decide +kernel : Cond.initialized RX0 ∈ lwG)
  | 1, _ => (by decide +kernel : Cond.initialized RX1 ∈ lwG)
  | 2, _ => (by decide +kernel : Cond.initialized RX2 ∈ lwG)
  | 3, _ => (by decide +kernel : Cond.initialized RX3 ∈ lwG)
  | 4, _ => (by decide +kernel : Cond.initialized RX4 ∈ lwG)
  | 5, _ => (by decide +kernel : Cond.initialized RX5 ∈ lwG)
  | 6, _ => (by decide +kernel : Cond.initialized RX6 ∈ lwG)
  | 7, _ => (by decide +kernel : Cond.initialized RL ∈ lwG)
  | 8, _ => (by decide +kernel : Cond.initialized RJ0 ∈ lwG)
  | 9, _ => (by decide +kernel : Cond.initialized RJ1 ∈ lwG)
  | 10, _ => (by decide +kernel : Cond.initialized RJ3 ∈ lwG)
  | n + 11, h => by omega
theorem fldT_ok : fldT.all (fun e => decide (lw_tbl[e.2.1]? = some (fldW e.1.1 e.1.2 e.2.2.1 e.2.2.2.1 e.2.2.2.2.1 e.2.2.2.2.2)) && (decide (e.2.2.2.1 < 7) && (decide (e.2.2.2.2.1 < cNf e.2.2.2.1) && decide ((cT e.2.2.2.1 e.2.2.2.2.1).1 = cR e.2.2.2.1)))) = true := by decide +kernel
def mlkW (c i : Nat) (nest : Bool) (y : MethodName) (host : String) : Cond := if nest = true then .methodLinkNest (cR c) i y host else .methodLink (cR c) i y
def primN : Nat → MethodName
  | 6 => objectInit
  | 7 => Lib.Math.max.name
  | 8 => Lib.Math.min.name
  | 9 => arraycopyName
  | _ => arraycopyName
def mthW (c i kd t : Nat) (host : String) : Option Cond := if kd < 6 then (mtab[t]?).map (fun e => mlkW c i (kd == 1 || kd == 3 || kd == 5) e.1 host) else some (.methodLink (cR c) i (primN kd))
theorem mthT_ok : mthT.all (fun e => decide (lw_tbl[e.2.2.1]? = mthW e.1.1 e.1.2 e.2.1 e.2.2.2.1 e.2.2.2.2) && decide (lw_tbl[e.2.2.1]? ≠ none)) = true := by decide +kernel
def bsEq (a b : ByteArray) : Bool := decide (a.data.toList = b.data.toList)
theorem bsEq_eq {a b : ByteArray} (h : bsEq a b = true) : a = b := by
  have h1 := of_decide_eq_true h
  cases a; cases b
  exact congrArg ByteArray.mk (Array.toList_inj.mp h1)
def isCode (w : Option Cond) (e : MI) : Bool := match w with
  | some (.code y b L r) => decide (y = e.1) && (bsEq b e.2.1 && (decide (L = e.2.2.1) && (decide (r = e.2.2.2.1) && decide (e.2.2.2.2.2 = []))))
  | some (.codeWith y b L r hh) => decide (y = e.1) && (bsEq b e.2.1 && (decide (L = e.2.2.1) && (decide (r = e.2.2.2.1) && (decide (hh = e.2.2.2.2.2) && decide (e.2.2.2.2.2 ≠ [])))))
  | _ => false
theorem isCode_eq {w : Option Cond} {e : MI} (h : isCode w e = true) : w = some (codeW e) := by
  obtain ⟨y, b, L, r, c, hh⟩ := e
  unfold isCode at h
  split at h
  · simp only [Bool.and_eq_true, decide_eq_true_eq] at h
    obtain ⟨rfl, h2, rfl, rfl, h5⟩ := h
    have h2 : _ = b := bsEq_eq h2
    have h5 : hh = [] := h5
    subst h2; subst h5
    rfl
  · simp only [Bool.and_eq_true, decide_eq_true_eq] at h
    obtain ⟨rfl, h2, rfl, rfl, rfl, h6⟩ := h
    have h2 : _ = b := bsEq_eq h2
    subst h2
    unfold codeW
    exact congrArg some (if_neg h6).symm
  · cases h
theorem mtab_code : (mtab.zip mwi).all (fun q => q.2 == 0 || isCode lw_tbl[q.2]? q.1) = true := by decide +kernel
theorem mtab_name : mtab.all (fun e => plainName e.1.cls && (decide (e.1.cls = cR e.2.2.2.2.1) && decide (e.1.cls ≠ "java/lang/invoke/MethodHandle" ∧ e.1.cls ≠ "java/lang/invoke/VarHandle"))) = true := by decide +kernel
theorem cstT_ok : cstT.all (fun e => decide (lw_tbl[e.2.1]? = some (.constant (cR e.1.1) e.1.2 e.2.2))) = true := by decide +kernel
theorem cstLT_ok : cstLT.all (fun e => decide (lw_tbl[e.2.1]? = some (.constantLong (cR e.1.1) e.1.2 e.2.2))) = true := by decide +kernel
theorem clsT_ok : clsT.all (fun e => decide (lw_tbl[e.2.1]? = some (.classLink (cR e.1.1) e.1.2 (cR e.2.2))) && decide (e.2.2 < 7)) = true := by decide +kernel
theorem litF_ok : litF.all (fun e => decide (lw_tbl[e.2.1]? = some (.fieldLink (cR e.1.1) e.1.2 "java/lang/String" (if e.2.2 = 0 then "value" else "coder") (if e.2.2 = 0 then "[B" else "B")))) = true := by decide +kernel
theorem stT_ok : stT.all (fun e => decide (lw_tbl[e.2.1]? = some (if e.2.2 = 0 then .fieldLink (cR e.1.1) e.1.2 "java/lang/String" "COMPACT_STRINGS" "Z" else .fieldLink (cR e.1.1) e.1.2 "jdk/internal/util/Preconditions" "SIOOBE_FORMATTER" "Ljava/util/function/BiFunction;"))) = true := by decide +kernel
def tgtOK (kd t : Nat) : Bool := match mtab[t]? with
  | none => false
  | some e => (mwi.getD t 0 != 0) && ((parseMethodDescriptor e.1.desc).isSome && ((decide (kd = 0) || decide (e.2.2.2.2.2 = [])) &&
      (if kd ≤ 1 then (mwx.getD t (9999, 9999, 9999)).1 != 9999 else if kd ≤ 3 then (mwx.getD t (9999, 9999, 9999)).2.1 != 9999 && (mwx.getD t (9999, 9999, 9999)).2.2 != 9999 else (mwx.getD t (9999, 9999, 9999)).2.1 != 9999 && decide (e.1.name = "<init>"))))
theorem mwx_ok : (mtab.zip mwx).all (fun q => (q.2.1 == 9999 || decide (lw_tbl[q.2.1]? = some (.static q.1.1))) && ((q.2.2.1 == 9999 || decide (lw_tbl[q.2.2.1]? = some (.instanceMethod q.1.1))) && (q.2.2.2 == 9999 || decide (lw_tbl[q.2.2.2]? = some (.selects q.1.1.cls q.1.1 q.1.1))))) = true := by decide +kernel
theorem mthT_tgt : mthT.all (fun e => decide (6 ≤ e.2.1) || tgtOK e.2.1 e.2.2.2.1) = true := by decide +kernel
theorem exI_ok : exI.all (fun q => ((vx_atS (cR q.1.1) q.1.2 (exN q.2.2) exU).all (fun w => decide (w ∈ lw_tbl) && ((goodWord w || ngK w) && vx_ot w)))) = true := by decide +kernel
theorem exN_ok : ∀ e, e < 3 → Bundle.fit (exN e) = true ∧ Cond.initialized (exN e) ∈ lw_tbl ∧ vx_ot (Cond.initialized (exN e)) = true ∧ Cond.castable (exN e) (exN e) ∈ lw_tbl := by decide +kernel
theorem exU_ok : ∀ n ∈ exU, Bundle.fit n = true := by decide +kernel
theorem exT_lt : exT.all (fun e => decide (e.2.2 < 3)) = true := by decide +kernel
theorem mnaT_ok : mnaT.all (fun e => decide (lw_tbl[e.2.1]? = some (.classLink (cR e.1.1) e.1.2 "[[I"))) = true := by decide +kernel
theorem mtab_cl : mtab.all (fun e => decide (e.2.2.2.2.1 < 11)) = true := by decide +kernel
theorem mtab_ini {e : MI} (h : e ∈ mtab) : Cond.initialized (cR e.2.2.2.2.1) ∈ lwG := by
  have g := List.all_eq_true.mp mtab_cl e h
  simp only [decide_eq_true_eq] at g
  exact clsI _ g
theorem mtab_len : mtab.all (fun e => decide (e.2.2.1 ≤ 40)) = true := by decide +kernel
theorem exT_ok : exT.all (fun e => decide (lw_tbl[e.2.1]? = some (.classLink (cR e.1.1) e.1.2 (exN e.2.2)))) = true := by decide +kernel
