/-! constants and rows of the tables, one by one (wip/whole/gen4.py) -/
def imax (xv yv : Int32) : Int32 := if xv < yv then yv else xv
def imin (xv yv : Int32) : Int32 := if yv < xv then yv else xv
def iabs (xv : Int32) : Int32 := if 0 ≤ xv then xv else 0 - xv
theorem c_bipush_m100 : (Int8.ofInt (-100)).toInt32 = (-100) := by decide +kernel
theorem c_bipush_m2 : (Int8.ofInt (-2)).toInt32 = (-2) := by decide +kernel
theorem c_bipush_m3 : (Int8.ofInt (-3)).toInt32 = (-3) := by decide +kernel
theorem c_bipush_m33 : (Int8.ofInt (-33)).toInt32 = (-33) := by decide +kernel
theorem c_bipush_m5 : (Int8.ofInt (-5)).toInt32 = (-5) := by decide +kernel
theorem c_bipush_10 : (Int8.ofInt (10)).toInt32 = nI 10 := by decide +kernel
theorem c_bipush_100 : (Int8.ofInt (100)).toInt32 = nI 100 := by decide +kernel
theorem c_bipush_101 : (Int8.ofInt (101)).toInt32 = nI 101 := by decide +kernel
theorem c_bipush_102 : (Int8.ofInt (102)).toInt32 = nI 102 := by decide +kernel
theorem c_bipush_103 : (Int8.ofInt (103)).toInt32 = nI 103 := by decide +kernel
theorem c_bipush_105 : (Int8.ofInt (105)).toInt32 = nI 105 := by decide +kernel
theorem c_bipush_108 : (Int8.ofInt (108)).toInt32 = nI 108 := by decide +kernel
theorem c_bipush_110 : (Int8.ofInt (110)).toInt32 = nI 110 := by decide +kernel
theorem c_bipush_112 : (Int8.ofInt (112)).toInt32 = nI 112 := by decide +kernel
theorem c_bipush_115 : (Int8.ofInt (115)).toInt32 = nI 115 := by decide +kernel
theorem c_bipush_117 : (Int8.ofInt (117)).toInt32 = nI 117 := by decide +kernel
theorem c_bipush_118 : (Int8.ofInt (118)).toInt32 = nI 118 := by decide +kernel
theorem c_bipush_12 : (Int8.ofInt (12)).toInt32 = nI 12 := by decide +kernel
theorem c_bipush_122 : (Int8.ofInt (122)).toInt32 = nI 122 := by decide +kernel
theorem c_bipush_124 : (Int8.ofInt (124)).toInt32 = nI 124 := by decide +kernel
theorem c_bipush_14 : (Int8.ofInt (14)).toInt32 = nI 14 := by decide +kernel
theorem c_bipush_15 : (Int8.ofInt (15)).toInt32 = nI 15 := by decide +kernel
theorem c_bipush_16 : (Int8.ofInt (16)).toInt32 = nI 16 := by decide +kernel
theorem c_bipush_19 : (Int8.ofInt (19)).toInt32 = nI 19 := by decide +kernel
theorem c_bipush_20 : (Int8.ofInt (20)).toInt32 = nI 20 := by decide +kernel
theorem c_bipush_24 : (Int8.ofInt (24)).toInt32 = nI 24 := by decide +kernel
theorem c_bipush_30 : (Int8.ofInt (30)).toInt32 = nI 30 := by decide +kernel
theorem c_bipush_32 : (Int8.ofInt (32)).toInt32 = nI 32 := by decide +kernel
theorem c_bipush_33 : (Int8.ofInt (33)).toInt32 = nI 33 := by decide +kernel
theorem c_bipush_38 : (Int8.ofInt (38)).toInt32 = nI 38 := by decide +kernel
theorem c_bipush_40 : (Int8.ofInt (40)).toInt32 = nI 40 := by decide +kernel
theorem c_bipush_41 : (Int8.ofInt (41)).toInt32 = nI 41 := by decide +kernel
theorem c_bipush_42 : (Int8.ofInt (42)).toInt32 = nI 42 := by decide +kernel
theorem c_bipush_43 : (Int8.ofInt (43)).toInt32 = nI 43 := by decide +kernel
theorem c_bipush_45 : (Int8.ofInt (45)).toInt32 = nI 45 := by decide +kernel
theorem c_bipush_47 : (Int8.ofInt (47)).toInt32 = nI 47 := by decide +kernel
theorem c_bipush_48 : (Int8.ofInt (48)).toInt32 = nI 48 := by decide +kernel
theorem c_bipush_50 : (Int8.ofInt (50)).toInt32 = nI 50 := by decide +kernel
theorem c_bipush_51 : (Int8.ofInt (51)).toInt32 = nI 51 := by decide +kernel
theorem c_bipush_57 : (Int8.ofInt (57)).toInt32 = nI 57 := by decide +kernel
theorem c_bipush_6 : (Int8.ofInt (6)).toInt32 = nI 6 := by decide +kernel
theorem c_bipush_60 : (Int8.ofInt (60)).toInt32 = nI 60 := by decide +kernel
theorem c_bipush_61 : (Int8.ofInt (61)).toInt32 = nI 61 := by decide +kernel
theorem c_bipush_62 : (Int8.ofInt (62)).toInt32 = nI 62 := by decide +kernel
theorem c_bipush_63 : (Int8.ofInt (63)).toInt32 = nI 63 := by decide +kernel
theorem c_bipush_7 : (Int8.ofInt (7)).toInt32 = nI 7 := by decide +kernel
theorem c_bipush_8 : (Int8.ofInt (8)).toInt32 = nI 8 := by decide +kernel
theorem c_bipush_9 : (Int8.ofInt (9)).toInt32 = nI 9 := by decide +kernel
theorem c_bipush_96 : (Int8.ofInt (96)).toInt32 = nI 96 := by decide +kernel
theorem c_bipush_97 : (Int8.ofInt (97)).toInt32 = nI 97 := by decide +kernel
theorem c_iconst_m1 : Int32.ofInt (-1) = (-1) := by decide +kernel
theorem c_iconst_m8 : Int32.ofInt (-8) = (-8) := by decide +kernel
theorem c_iconst_0 : Int32.ofInt (0) = nI 0 := by decide +kernel
theorem c_iconst_1 : Int32.ofInt (1) = nI 1 := by decide +kernel
theorem c_iconst_2 : Int32.ofInt (2) = nI 2 := by decide +kernel
theorem c_iconst_3 : Int32.ofInt (3) = nI 3 := by decide +kernel
theorem c_iconst_4 : Int32.ofInt (4) = nI 4 := by decide +kernel
theorem c_iconst_5 : Int32.ofInt (5) = nI 5 := by decide +kernel
theorem c_iconst_6 : Int32.ofInt (6) = nI 6 := by decide +kernel
theorem l_1103515245 : (1103515245 : Int32) = nI 1103515245 := by decide +kernel
theorem l_1431655765 : (1431655765 : Int32) = nI 1431655765 := by decide +kernel
theorem l_252645135 : (252645135 : Int32) = nI 252645135 := by decide +kernel
theorem l_858993459 : (858993459 : Int32) = nI 858993459 := by decide +kernel
theorem l_99999 : (99999 : Int32) = nI 99999 := by decide +kernel
theorem c_sipush_12345 : (Int16.ofInt (12345)).toInt32 = nI 12345 := by decide +kernel
theorem c_sipush_194 : (Int16.ofInt (194)).toInt32 = nI 194 := by decide +kernel
theorem c_sipush_200 : (Int16.ofInt (200)).toInt32 = nI 200 := by decide +kernel
theorem c_sipush_255 : (Int16.ofInt (255)).toInt32 = nI 255 := by decide +kernel
theorem c_sipush_2851 : (Int16.ofInt (2851)).toInt32 = nI 2851 := by decide +kernel
theorem c_sipush_499 : (Int16.ofInt (499)).toInt32 = nI 499 := by decide +kernel
theorem c_sipush_9999 : (Int16.ofInt (9999)).toInt32 = nI 9999 := by decide +kernel
theorem ce_6_74 : cstE 6 74 = some (6, 74, 1103515245, 451) := by decide +kernel
theorem ce_7_75 : cstE 7 75 = some (7, 75, (-1000000001), 325) := by decide +kernel
theorem ce_7_80 : cstE 7 80 = some (7, 80, (-1000000002), 330) := by decide +kernel
theorem ce_7_84 : cstE 7 84 = some (7, 84, (-1000000003), 331) := by decide +kernel
theorem ce_7_123 : cstE 7 123 = some (7, 123, (-1000000012), 408) := by decide +kernel
theorem ce_7_134 : cstE 7 134 = some (7, 134, (-1000000005), 433) := by decide +kernel
theorem ce_7_200 : cstE 7 200 = some (7, 200, (-1000000011), 570) := by decide +kernel
theorem ce_7_235 : cstE 7 235 = some (7, 235, (-1000000014), 783) := by decide +kernel
theorem ce_7_245 : cstE 7 245 = some (7, 245, (-1000000013), 796) := by decide +kernel
theorem ce_7_249 : cstE 7 249 = some (7, 249, (-99999), 797) := by decide +kernel
theorem ce_7_250 : cstE 7 250 = some (7, 250, 99999, 798) := by decide +kernel
theorem ce_8_67 : cstE 8 67 = some (8, 67, (-1000000005), 1107) := by decide +kernel
theorem ce_8_72 : cstE 8 72 = some (8, 72, 1103515245, 1123) := by decide +kernel
theorem ce_8_108 : cstE 8 108 = some (8, 108, (-1000000001), 984) := by decide +kernel
theorem ce_8_112 : cstE 8 112 = some (8, 112, (-1000000002), 1001) := by decide +kernel
theorem ce_8_113 : cstE 8 113 = some (8, 113, (-1000000003), 1002) := by decide +kernel
theorem ce_8_163 : cstE 8 163 = some (8, 163, (-1000000012), 1079) := by decide +kernel
theorem ce_8_317 : cstE 8 317 = some (8, 317, (-1000000014), 1320) := by decide +kernel
theorem ce_8_318 : cstE 8 318 = some (8, 318, (-1000000011), 1325) := by decide +kernel
theorem ce_8_319 : cstE 8 319 = some (8, 319, (-1000000013), 1326) := by decide +kernel
theorem ce_12_265 : cstE 12 265 = some (12, 265, 1431655765, 390) := by decide +kernel
theorem ce_12_266 : cstE 12 266 = some (12, 266, 858993459, 391) := by decide +kernel
theorem ce_12_267 : cstE 12 267 = some (12, 267, 252645135, 392) := by decide +kernel
theorem le_8_73 : lngE 8 73 = some (8, 73, 19, 976) := by decide +kernel
theorem le_8_91 : lngE 8 91 = some (8, 91, 200, 980) := by decide +kernel
theorem le_8_93 : lngE 8 93 = some (8, 93, 50, 981) := by decide +kernel
theorem le_8_95 : lngE 8 95 = some (8, 95, (-1), 982) := by decide +kernel
theorem le_8_97 : lngE 8 97 = some (8, 97, 7, 983) := by decide +kernel
theorem le_8_99 : lngE 8 99 = some (8, 99, 5, 969) := by decide +kernel
theorem le_8_146 : lngE 8 146 = some (8, 146, 6, 1019) := by decide +kernel
theorem le_8_170 : lngE 8 170 = some (8, 170, 2, 1112) := by decide +kernel
theorem le_8_172 : lngE 8 172 = some (8, 172, 100, 1113) := by decide +kernel
theorem le_8_174 : lngE 8 174 = some (8, 174, 8, 1118) := by decide +kernel
theorem le_8_190 : lngE 8 190 = some (8, 190, 4, 1160) := by decide +kernel
theorem le_8_201 : lngE 8 201 = some (8, 201, 60, 1200) := by decide +kernel
theorem le_8_218 : lngE 8 218 = some (8, 218, 97, 1249) := by decide +kernel
theorem le_8_220 : lngE 8 220 = some (8, 220, 122, 1250) := by decide +kernel
theorem le_8_222 : lngE 8 222 = some (8, 222, 48, 1255) := by decide +kernel
theorem le_8_224 : lngE 8 224 = some (8, 224, 57, 1256) := by decide +kernel
theorem le_8_312 : lngE 8 312 = some (8, 312, 3, 1319) := by decide +kernel
theorem le_8_320 : lngE 8 320 = some (8, 320, (-99999), 1327) := by decide +kernel
theorem le_8_322 : lngE 8 322 = some (8, 322, 99999, 1328) := by decide +kernel
theorem le_8_333 : lngE 8 333 = some (8, 333, 30, 1376) := by decide +kernel
theorem se_2_48 : strE 2 48 = some (2, 48, 0, 614) := by decide +kernel
theorem se_2_54 : strE 2 54 = some (2, 54, 1, 667) := by decide +kernel
theorem se_2_56 : strE 2 56 = some (2, 56, 2, 668) := by decide +kernel
theorem se_2_87 : strE 2 87 = some (2, 87, 3, 766) := by decide +kernel
theorem se_2_89 : strE 2 89 = some (2, 89, 4, 767) := by decide +kernel
theorem se_2_91 : strE 2 91 = some (2, 91, 5, 768) := by decide +kernel
theorem se_2_93 : strE 2 93 = some (2, 93, 6, 769) := by decide +kernel
theorem se_2_95 : strE 2 95 = some (2, 95, 7, 770) := by decide +kernel
theorem se_2_130 : strE 2 130 = some (2, 130, 8, 697) := by decide +kernel
theorem se_2_132 : strE 2 132 = some (2, 132, 9, 698) := by decide +kernel
theorem se_2_134 : strE 2 134 = some (2, 134, 10, 699) := by decide +kernel
theorem fe_1_11 : fldE 1 11 = some (1, 11, 0, 0, 112) := by decide +kernel
theorem fe_1_17 : fldE 1 17 = some (1, 17, 0, 1, 114) := by decide +kernel
theorem fe_1_22 : fldE 1 22 = some (1, 22, 4, 1, 94) := by decide +kernel
theorem fe_1_26 : fldE 1 26 = some (1, 26, 4, 0, 92) := by decide +kernel
theorem fe_2_9 : fldE 2 9 = some (2, 9, 1, 0, 126) := by decide +kernel
theorem fe_2_15 : fldE 2 15 = some (2, 15, 1, 1, 127) := by decide +kernel
theorem fe_2_19 : fldE 2 19 = some (2, 19, 1, 2, 129) := by decide +kernel
theorem fe_2_22 : fldE 2 22 = some (2, 22, 1, 3, 130) := by decide +kernel
theorem fe_2_25 : fldE 2 25 = some (2, 25, 1, 4, 131) := by decide +kernel
theorem fe_2_28 : fldE 2 28 = some (2, 28, 1, 5, 132) := by decide +kernel
theorem fe_2_31 : fldE 2 31 = some (2, 31, 1, 6, 133) := by decide +kernel
theorem fe_2_34 : fldE 2 34 = some (2, 34, 1, 7, 134) := by decide +kernel
theorem fe_2_37 : fldE 2 37 = some (2, 37, 4, 1, 95) := by decide +kernel
theorem fe_2_42 : fldE 2 42 = some (2, 42, 4, 3, 100) := by decide +kernel
theorem fe_2_61 : fldE 2 61 = some (2, 61, 4, 2, 97) := by decide +kernel
theorem fe_3_9 : fldE 3 9 = some (3, 9, 2, 0, 240) := by decide +kernel
theorem fe_3_15 : fldE 3 15 = some (3, 15, 2, 1, 242) := by decide +kernel
theorem fe_3_19 : fldE 3 19 = some (3, 19, 2, 2, 244) := by decide +kernel
theorem fe_4_10 : fldE 4 10 = some (4, 10, 3, 0, 260) := by decide +kernel
theorem fe_4_16 : fldE 4 16 = some (4, 16, 3, 1, 262) := by decide +kernel
theorem fe_4_20 : fldE 4 20 = some (4, 20, 3, 2, 264) := by decide +kernel
theorem fe_4_23 : fldE 4 23 = some (4, 23, 3, 3, 266) := by decide +kernel
theorem fe_4_26 : fldE 4 26 = some (4, 26, 3, 4, 268) := by decide +kernel
theorem fe_5_9 : fldE 5 9 = some (5, 9, 4, 0, 91) := by decide +kernel
theorem fe_5_15 : fldE 5 15 = some (5, 15, 4, 1, 93) := by decide +kernel
theorem fe_5_19 : fldE 5 19 = some (5, 19, 4, 2, 96) := by decide +kernel
theorem fe_5_22 : fldE 5 22 = some (5, 22, 4, 3, 99) := by decide +kernel
theorem fe_6_9 : fldE 6 9 = some (6, 9, 5, 1, 160) := by decide +kernel
theorem fe_6_15 : fldE 6 15 = some (6, 15, 5, 2, 162) := by decide +kernel
theorem fe_6_18 : fldE 6 18 = some (6, 18, 5, 3, 164) := by decide +kernel
theorem fe_6_21 : fldE 6 21 = some (6, 21, 5, 4, 166) := by decide +kernel
theorem fe_6_24 : fldE 6 24 = some (6, 24, 5, 5, 168) := by decide +kernel
theorem fe_6_27 : fldE 6 27 = some (6, 27, 5, 6, 170) := by decide +kernel
theorem fe_6_30 : fldE 6 30 = some (6, 30, 5, 7, 172) := by decide +kernel
theorem fe_6_33 : fldE 6 33 = some (6, 33, 5, 8, 174) := by decide +kernel
theorem fe_6_36 : fldE 6 36 = some (6, 36, 5, 9, 176) := by decide +kernel
theorem fe_6_39 : fldE 6 39 = some (6, 39, 5, 10, 178) := by decide +kernel
theorem fe_6_43 : fldE 6 43 = some (6, 43, 5, 11, 180) := by decide +kernel
theorem fe_6_46 : fldE 6 46 = some (6, 46, 5, 12, 182) := by decide +kernel
theorem fe_6_49 : fldE 6 49 = some (6, 49, 5, 13, 184) := by decide +kernel
theorem fe_6_52 : fldE 6 52 = some (6, 52, 5, 14, 186) := by decide +kernel
theorem fe_6_55 : fldE 6 55 = some (6, 55, 5, 15, 188) := by decide +kernel
theorem fe_6_58 : fldE 6 58 = some (6, 58, 5, 16, 190) := by decide +kernel
theorem fe_6_61 : fldE 6 61 = some (6, 61, 5, 17, 192) := by decide +kernel
theorem fe_6_64 : fldE 6 64 = some (6, 64, 5, 0, 159) := by decide +kernel
theorem fe_7_10 : fldE 7 10 = some (7, 10, 6, 0, 281) := by decide +kernel
theorem fe_7_19 : fldE 7 19 = some (7, 19, 6, 1, 282) := by decide +kernel
theorem fe_7_28 : fldE 7 28 = some (7, 28, 6, 2, 283) := by decide +kernel
theorem fe_7_32 : fldE 7 32 = some (7, 32, 6, 3, 284) := by decide +kernel
theorem fe_7_35 : fldE 7 35 = some (7, 35, 6, 4, 285) := by decide +kernel
theorem fe_7_40 : fldE 7 40 = some (7, 40, 6, 5, 286) := by decide +kernel
theorem fe_7_46 : fldE 7 46 = some (7, 46, 6, 6, 287) := by decide +kernel
theorem fe_7_50 : fldE 7 50 = some (7, 50, 6, 7, 288) := by decide +kernel
theorem fe_7_54 : fldE 7 54 = some (7, 54, 6, 8, 289) := by decide +kernel
theorem fe_7_57 : fldE 7 57 = some (7, 57, 6, 9, 290) := by decide +kernel
theorem fe_7_61 : fldE 7 61 = some (7, 61, 6, 10, 291) := by decide +kernel
theorem fe_7_81 : fldE 7 81 = some (7, 81, 5, 10, 179) := by decide +kernel
theorem fe_7_92 : fldE 7 92 = some (7, 92, 5, 1, 161) := by decide +kernel
theorem fe_7_95 : fldE 7 95 = some (7, 95, 5, 2, 163) := by decide +kernel
theorem fe_7_98 : fldE 7 98 = some (7, 98, 5, 3, 165) := by decide +kernel
theorem fe_7_101 : fldE 7 101 = some (7, 101, 5, 4, 167) := by decide +kernel
theorem fe_7_104 : fldE 7 104 = some (7, 104, 5, 5, 169) := by decide +kernel
theorem fe_7_128 : fldE 7 128 = some (7, 128, 5, 7, 173) := by decide +kernel
theorem fe_7_131 : fldE 7 131 = some (7, 131, 5, 11, 181) := by decide +kernel
theorem fe_7_135 : fldE 7 135 = some (7, 135, 5, 8, 175) := by decide +kernel
theorem fe_7_147 : fldE 7 147 = some (7, 147, 5, 16, 191) := by decide +kernel
theorem fe_7_156 : fldE 7 156 = some (7, 156, 5, 6, 171) := by decide +kernel
theorem fe_7_162 : fldE 7 162 = some (7, 162, 5, 12, 183) := by decide +kernel
theorem fe_7_165 : fldE 7 165 = some (7, 165, 5, 15, 189) := by decide +kernel
theorem fe_7_172 : fldE 7 172 = some (7, 172, 5, 13, 185) := by decide +kernel
theorem fe_7_175 : fldE 7 175 = some (7, 175, 5, 14, 187) := by decide +kernel
theorem fe_7_197 : fldE 7 197 = some (7, 197, 2, 1, 243) := by decide +kernel
theorem fe_7_205 : fldE 7 205 = some (7, 205, 5, 9, 177) := by decide +kernel
theorem fe_7_211 : fldE 7 211 = some (7, 211, 1, 1, 128) := by decide +kernel
theorem fe_7_217 : fldE 7 217 = some (7, 217, 5, 17, 193) := by decide +kernel
theorem fe_7_220 : fldE 7 220 = some (7, 220, 0, 0, 113) := by decide +kernel
theorem fe_7_227 : fldE 7 227 = some (7, 227, 4, 2, 98) := by decide +kernel
theorem fe_7_232 : fldE 7 232 = some (7, 232, 4, 3, 101) := by decide +kernel
theorem fe_7_242 : fldE 7 242 = some (7, 242, 2, 2, 245) := by decide +kernel
theorem fe_7_246 : fldE 7 246 = some (7, 246, 2, 0, 241) := by decide +kernel
theorem fe_7_263 : fldE 7 263 = some (7, 263, 3, 1, 263) := by decide +kernel
theorem fe_7_266 : fldE 7 266 = some (7, 266, 3, 2, 265) := by decide +kernel
theorem fe_7_269 : fldE 7 269 = some (7, 269, 3, 3, 267) := by decide +kernel
theorem fe_7_272 : fldE 7 272 = some (7, 272, 3, 0, 261) := by decide +kernel
theorem fe_7_278 : fldE 7 278 = some (7, 278, 3, 4, 269) := by decide +kernel
theorem fe_8_7 : fldE 8 7 = some (8, 7, 7, 0, 868) := by decide +kernel
theorem fe_8_13 : fldE 8 13 = some (8, 13, 7, 1, 869) := by decide +kernel
theorem fe_8_16 : fldE 8 16 = some (8, 16, 7, 2, 870) := by decide +kernel
theorem fe_8_19 : fldE 8 19 = some (8, 19, 7, 4, 872) := by decide +kernel
theorem fe_8_22 : fldE 8 22 = some (8, 22, 7, 5, 873) := by decide +kernel
theorem fe_8_25 : fldE 8 25 = some (8, 25, 7, 6, 874) := by decide +kernel
theorem fe_8_28 : fldE 8 28 = some (8, 28, 7, 7, 875) := by decide +kernel
theorem fe_8_31 : fldE 8 31 = some (8, 31, 7, 8, 876) := by decide +kernel
theorem fe_8_34 : fldE 8 34 = some (8, 34, 7, 9, 877) := by decide +kernel
theorem fe_8_37 : fldE 8 37 = some (8, 37, 7, 10, 878) := by decide +kernel
theorem fe_8_40 : fldE 8 40 = some (8, 40, 7, 11, 879) := by decide +kernel
theorem fe_8_43 : fldE 8 43 = some (8, 43, 7, 12, 880) := by decide +kernel
theorem fe_8_46 : fldE 8 46 = some (8, 46, 7, 13, 881) := by decide +kernel
theorem fe_8_49 : fldE 8 49 = some (8, 49, 7, 14, 882) := by decide +kernel
theorem fe_8_52 : fldE 8 52 = some (8, 52, 7, 26, 894) := by decide +kernel
theorem fe_8_55 : fldE 8 55 = some (8, 55, 7, 27, 895) := by decide +kernel
theorem fe_8_58 : fldE 8 58 = some (8, 58, 7, 28, 896) := by decide +kernel
theorem fe_8_61 : fldE 8 61 = some (8, 61, 7, 29, 897) := by decide +kernel
theorem fe_8_64 : fldE 8 64 = some (8, 64, 7, 31, 899) := by decide +kernel
theorem fe_8_214 : fldE 8 214 = some (8, 214, 7, 15, 883) := by decide +kernel
theorem fe_8_226 : fldE 8 226 = some (8, 226, 7, 17, 885) := by decide +kernel
theorem fe_8_229 : fldE 8 229 = some (8, 229, 7, 18, 886) := by decide +kernel
theorem fe_8_232 : fldE 8 232 = some (8, 232, 7, 16, 884) := by decide +kernel
theorem fe_8_238 : fldE 8 238 = some (8, 238, 7, 20, 888) := by decide +kernel
theorem fe_8_244 : fldE 8 244 = some (8, 244, 7, 19, 887) := by decide +kernel
theorem fe_8_251 : fldE 8 251 = some (8, 251, 7, 24, 892) := by decide +kernel
theorem fe_8_254 : fldE 8 254 = some (8, 254, 7, 23, 891) := by decide +kernel
theorem fe_8_282 : fldE 8 282 = some (8, 282, 7, 25, 893) := by decide +kernel
theorem fe_8_288 : fldE 8 288 = some (8, 288, 7, 22, 890) := by decide +kernel
theorem fe_8_291 : fldE 8 291 = some (8, 291, 7, 21, 889) := by decide +kernel
theorem fe_8_330 : fldE 8 330 = some (8, 330, 7, 30, 898) := by decide +kernel
theorem fe_8_335 : fldE 8 335 = some (8, 335, 7, 3, 871) := by decide +kernel
theorem he_9_9 : sfdE 9 9 = some (9, 9, 0, 1393) := by decide +kernel
theorem he_9_15 : sfdE 9 15 = some (9, 15, 1, 1394) := by decide +kernel
theorem ge_0_9 : gstE 0 9 = some (0, 9, 0, 406) := by decide +kernel
theorem ge_9_38 : gstE 9 38 = some (9, 38, 1, 627) := by decide +kernel
theorem ge_9_1053 : gstE 9 1053 = some (9, 1053, 2, 643) := by decide +kernel
theorem ae_3_22 : acpE 3 22 = some (3, 22, 825) := by decide +kernel
theorem ae_6_68 : acpE 6 68 = some (6, 68, 519) := by decide +kernel
theorem ae_7_257 : acpE 7 257 = some (7, 257, 816) := by decide +kernel
theorem xe_2_72 : matE 2 72 = some (2, 72, 1, 613) := by decide +kernel
theorem xe_6_95 : matE 6 95 = some (6, 95, 0, 364) := by decide +kernel
theorem xe_6_107 : matE 6 107 = some (6, 107, 2, 371) := by decide +kernel
theorem xe_6_116 : matE 6 116 = some (6, 116, 1, 381) := by decide +kernel
theorem xe_7_138 : matE 7 138 = some (7, 138, 1, 442) := by decide +kernel
theorem xe_7_284 : matE 7 284 = some (7, 284, 0, 493) := by decide +kernel
theorem xe_7_291 : matE 7 291 = some (7, 291, 2, 575) := by decide +kernel
theorem xe_10_38 : matE 10 38 = some (10, 38, 1, 716) := by decide +kernel
theorem xe_10_92 : matE 10 92 = some (10, 92, 0, 715) := by decide +kernel
theorem ne_1_29 : mthE 1 29 = some (1, 29, 6, 0, 3, 378, 379, 0, 54, 380) ∧ acpE 1 29 = none ∧ matE 1 29 = none ∧ ((0 : Nat) = 0 ∨ (0 : Nat) = 3) := ⟨rfl, by decide +kernel, by decide +kernel, by decide⟩
theorem ne_2_45 : mthE 2 45 = some (2, 45, 10, 1, 0, 605, 606, 607, 56, 608) ∧ (1 : Nat) = 1 := ⟨rfl, rfl⟩
theorem ne_2_50 : mthE 2 50 = some (2, 50, 12, 1, 1, 615, 616, 617, 56, 618) ∧ (1 : Nat) = 1 := ⟨rfl, rfl⟩
theorem ne_2_58 : mthE 2 58 = some (2, 58, 14, 1, 0, 669, 670, 671, 56, 672) ∧ (1 : Nat) = 1 := ⟨rfl, rfl⟩
theorem ne_2_64 : mthE 2 64 = some (2, 64, 17, 1, 2, 673, 675, 4, 56, 676) ∧ (1 : Nat) = 1 := ⟨rfl, rfl⟩
theorem ne_2_68 : mthE 2 68 = some (2, 68, 11, 1, 1, 609, 610, 611, 56, 612) ∧ (1 : Nat) = 1 := ⟨rfl, rfl⟩
theorem ne_2_78 : mthE 2 78 = some (2, 78, 211, 1, 0, 619, 620, 621, 65, 622) ∧ (1 : Nat) = 1 := ⟨rfl, rfl⟩
theorem ne_2_83 : mthE 2 83 = some (2, 83, 212, 1, 1, 629, 630, 631, 65, 632) ∧ (1 : Nat) = 1 := ⟨rfl, rfl⟩
theorem ne_2_97 : mthE 2 97 = some (2, 97, 15, 0, 1, 763, 764, 0, 56, 765) ∧ acpE 2 97 = none ∧ matE 2 97 = none ∧ ((0 : Nat) = 0 ∨ (0 : Nat) = 3) := ⟨rfl, by decide +kernel, by decide +kernel, by decide⟩
theorem ne_2_101 : mthE 2 101 = some (2, 101, 213, 1, 1, 700, 701, 702, 65, 703) ∧ (1 : Nat) = 1 := ⟨rfl, rfl⟩
theorem ne_2_104 : mthE 2 104 = some (2, 104, 18, 1, 1, 677, 679, 5, 56, 680) ∧ (1 : Nat) = 1 := ⟨rfl, rfl⟩
theorem ne_2_108 : mthE 2 108 = some (2, 108, 16, 1, 1, 759, 760, 761, 56, 762) ∧ (1 : Nat) = 1 := ⟨rfl, rfl⟩
theorem ne_2_112 : mthE 2 112 = some (2, 112, 28, 1, 1, 689, 690, 691, 55, 692) ∧ (1 : Nat) = 1 := ⟨rfl, rfl⟩
theorem ne_2_116 : mthE 2 116 = some (2, 116, 20, 1, 0, 681, 682, 683, 56, 684) ∧ (1 : Nat) = 1 := ⟨rfl, rfl⟩
theorem ne_2_119 : mthE 2 119 = some (2, 119, 19, 1, 2, 685, 686, 687, 56, 688) ∧ (1 : Nat) = 1 := ⟨rfl, rfl⟩
theorem ne_2_123 : mthE 2 123 = some (2, 123, 21, 1, 1, 693, 694, 695, 56, 696) ∧ (1 : Nat) = 1 := ⟨rfl, rfl⟩
theorem ne_2_126 : mthE 2 126 = some (2, 126, 13, 1, 1, 755, 756, 757, 56, 758) ∧ (1 : Nat) = 1 := ⟨rfl, rfl⟩
theorem ne_6_75 : mthE 6 75 = some (6, 75, 37, 1, 0, 447, 448, 449, 57, 450) ∧ (1 : Nat) = 1 := ⟨rfl, rfl⟩
theorem ne_6_79 : mthE 6 79 = some (6, 79, 39, 1, 1, 452, 453, 454, 57, 455) ∧ (1 : Nat) = 1 := ⟨rfl, rfl⟩
theorem ne_6_83 : mthE 6 83 = some (6, 83, 33, 1, 5, 457, 333, 334, 57, 335) ∧ (1 : Nat) = 1 := ⟨rfl, rfl⟩
theorem ne_6_87 : mthE 6 87 = some (6, 87, 32, 1, 1, 456, 327, 328, 57, 329) ∧ (1 : Nat) = 1 := ⟨rfl, rfl⟩
theorem ne_6_91 : mthE 6 91 = some (6, 91, 41, 1, 3, 360, 361, 362, 57, 363) ∧ (1 : Nat) = 1 := ⟨rfl, rfl⟩
theorem ne_6_101 : mthE 6 101 = some (6, 101, 40, 1, 1, 356, 357, 358, 57, 359) ∧ (1 : Nat) = 1 := ⟨rfl, rfl⟩
theorem ne_6_104 : mthE 6 104 = some (6, 104, 43, 1, 2, 367, 368, 369, 57, 370) ∧ (1 : Nat) = 1 := ⟨rfl, rfl⟩
theorem ne_6_110 : mthE 6 110 = some (6, 110, 5, 1, 4, 374, 375, 376, 54, 377) ∧ (1 : Nat) = 1 := ⟨rfl, rfl⟩
theorem ne_6_119 : mthE 6 119 = some (6, 119, 2, 0, 2, 384, 385, 0, 62, 386) ∧ acpE 6 119 = none ∧ matE 6 119 = none ∧ ((0 : Nat) = 0 ∨ (0 : Nat) = 3) := ⟨rfl, by decide +kernel, by decide +kernel, by decide⟩
theorem ne_6_124 : mthE 6 124 = some (6, 124, 42, 1, 1, 352, 353, 354, 57, 355) ∧ (1 : Nat) = 1 := ⟨rfl, rfl⟩
theorem ne_6_127 : mthE 6 127 = some (6, 127, 44, 1, 0, 348, 349, 350, 57, 351) ∧ (1 : Nat) = 1 := ⟨rfl, rfl⟩
theorem ne_6_130 : mthE 6 130 = some (6, 130, 210, 0, 1, 387, 388, 0, 63, 389) ∧ acpE 6 130 = none ∧ matE 6 130 = none ∧ ((0 : Nat) = 0 ∨ (0 : Nat) = 3) := ⟨rfl, by decide +kernel, by decide +kernel, by decide⟩
theorem ne_6_135 : mthE 6 135 = some (6, 135, 47, 1, 0, 485, 486, 487, 57, 488) ∧ (1 : Nat) = 1 := ⟨rfl, rfl⟩
theorem ne_6_138 : mthE 6 138 = some (6, 138, 48, 1, 0, 494, 495, 496, 57, 497) ∧ (1 : Nat) = 1 := ⟨rfl, rfl⟩
theorem ne_6_141 : mthE 6 141 = some (6, 141, 49, 1, 0, 499, 500, 501, 57, 502) ∧ (1 : Nat) = 1 := ⟨rfl, rfl⟩
theorem ne_6_144 : mthE 6 144 = some (6, 144, 1, 0, 2, 489, 394, 0, 62, 395) ∧ acpE 6 144 = none ∧ matE 6 144 = none ∧ ((0 : Nat) = 0 ∨ (0 : Nat) = 3) := ⟨rfl, by decide +kernel, by decide +kernel, by decide⟩
theorem ne_6_147 : mthE 6 147 = some (6, 147, 98, 3, 3, 490, 491, 0, 53, 492) ∧ acpE 6 147 = none ∧ matE 6 147 = none ∧ ((3 : Nat) = 0 ∨ (3 : Nat) = 3) := ⟨rfl, by decide +kernel, by decide +kernel, by decide⟩
theorem ne_6_150 : mthE 6 150 = some (6, 150, 34, 1, 2, 498, 422, 423, 57, 424) ∧ (1 : Nat) = 1 := ⟨rfl, rfl⟩
theorem ne_7_67 : mthE 7 67 = some (7, 67, 97, 0, 3, 319, 320, 0, 53, 321) ∧ acpE 7 67 = none ∧ matE 7 67 = none ∧ ((0 : Nat) = 0 ∨ (0 : Nat) = 3) := ⟨rfl, by decide +kernel, by decide +kernel, by decide⟩
theorem ne_7_71 : mthE 7 71 = some (7, 71, 99, 0, 2, 322, 323, 0, 53, 324) ∧ acpE 7 71 = none ∧ matE 7 71 = none ∧ ((0 : Nat) = 0 ∨ (0 : Nat) = 3) := ⟨rfl, by decide +kernel, by decide +kernel, by decide⟩
theorem ne_7_76 : mthE 7 76 = some (7, 76, 32, 1, 1, 326, 327, 328, 57, 329) ∧ (1 : Nat) = 1 := ⟨rfl, rfl⟩
theorem ne_7_85 : mthE 7 85 = some (7, 85, 33, 1, 5, 332, 333, 334, 57, 335) ∧ (1 : Nat) = 1 := ⟨rfl, rfl⟩
theorem ne_7_89 : mthE 7 89 = some (7, 89, 31, 1, 1, 340, 341, 342, 57, 343) ∧ (1 : Nat) = 1 := ⟨rfl, rfl⟩
theorem ne_7_107 : mthE 7 107 = some (7, 107, 45, 1, 1, 344, 345, 346, 57, 347) ∧ (1 : Nat) = 1 := ⟨rfl, rfl⟩
theorem ne_7_111 : mthE 7 111 = some (7, 111, 1, 0, 2, 393, 394, 0, 62, 395) ∧ acpE 7 111 = none ∧ matE 7 111 = none ∧ ((0 : Nat) = 0 ∨ (0 : Nat) = 3) := ⟨rfl, by decide +kernel, by decide +kernel, by decide⟩
theorem ne_7_117 : mthE 7 117 = some (7, 117, 3, 0, 2, 396, 397, 0, 62, 398) ∧ acpE 7 117 = none ∧ matE 7 117 = none ∧ ((0 : Nat) = 0 ∨ (0 : Nat) = 3) := ⟨rfl, by decide +kernel, by decide +kernel, by decide⟩
theorem ne_7_120 : mthE 7 120 = some (7, 120, 0, 0, 2, 403, 404, 0, 62, 405) ∧ acpE 7 120 = none ∧ matE 7 120 = none ∧ ((0 : Nat) = 0 ∨ (0 : Nat) = 3) := ⟨rfl, by decide +kernel, by decide +kernel, by decide⟩
theorem ne_7_124 : mthE 7 124 = some (7, 124, 34, 1, 2, 421, 422, 423, 57, 424) ∧ (1 : Nat) = 1 := ⟨rfl, rfl⟩
theorem ne_7_143 : mthE 7 143 = some (7, 143, 38, 1, 0, 443, 444, 445, 57, 446) ∧ (1 : Nat) = 1 := ⟨rfl, rfl⟩
theorem ne_7_150 : mthE 7 150 = some (7, 150, 42, 1, 1, 466, 353, 354, 57, 355) ∧ (1 : Nat) = 1 := ⟨rfl, rfl⟩
theorem ne_7_153 : mthE 7 153 = some (7, 153, 44, 1, 0, 471, 349, 350, 57, 351) ∧ (1 : Nat) = 1 := ⟨rfl, rfl⟩
theorem ne_7_159 : mthE 7 159 = some (7, 159, 40, 1, 1, 476, 357, 358, 57, 359) ∧ (1 : Nat) = 1 := ⟨rfl, rfl⟩
theorem ne_7_168 : mthE 7 168 = some (7, 168, 46, 1, 1, 481, 482, 483, 57, 484) ∧ (1 : Nat) = 1 := ⟨rfl, rfl⟩
theorem ne_7_178 : mthE 7 178 = some (7, 178, 36, 1, 0, 507, 508, 509, 57, 510) ∧ (1 : Nat) = 1 := ⟨rfl, rfl⟩
theorem ne_7_182 : mthE 7 182 = some (7, 182, 30, 1, 1, 515, 516, 517, 57, 518) ∧ (1 : Nat) = 1 := ⟨rfl, rfl⟩
theorem ne_7_186 : mthE 7 186 = some (7, 186, 101, 1, 3, 534, 536, 0, 53, 537) ∧ (1 : Nat) = 1 := ⟨rfl, rfl⟩
theorem ne_7_190 : mthE 7 190 = some (7, 190, 100, 1, 3, 546, 548, 1, 53, 549) ∧ (1 : Nat) = 1 := ⟨rfl, rfl⟩
theorem ne_7_193 : mthE 7 193 = some (7, 193, 102, 1, 4, 550, 552, 2, 53, 553) ∧ (1 : Nat) = 1 := ⟨rfl, rfl⟩
theorem ne_7_201 : mthE 7 201 = some (7, 201, 103, 1, 1, 571, 573, 3, 53, 574) ∧ (1 : Nat) = 1 := ⟨rfl, rfl⟩
theorem ne_7_208 : mthE 7 208 = some (7, 208, 5, 1, 4, 580, 375, 376, 54, 377) ∧ (1 : Nat) = 1 := ⟨rfl, rfl⟩
theorem ne_7_214 : mthE 7 214 = some (7, 214, 8, 1, 1, 589, 590, 591, 56, 592) ∧ (1 : Nat) = 1 := ⟨rfl, rfl⟩
theorem ne_7_223 : mthE 7 223 = some (7, 223, 9, 1, 1, 601, 602, 603, 56, 604) ∧ (1 : Nat) = 1 := ⟨rfl, rfl⟩
theorem ne_7_236 : mthE 7 236 = some (7, 236, 23, 1, 2, 784, 785, 786, 58, 787) ∧ (1 : Nat) = 1 := ⟨rfl, rfl⟩
theorem ne_7_239 : mthE 7 239 = some (7, 239, 104, 1, 1, 792, 794, 6, 53, 795) ∧ (1 : Nat) = 1 := ⟨rfl, rfl⟩
theorem ne_7_251 : mthE 7 251 = some (7, 251, 98, 0, 3, 803, 491, 0, 53, 492) ∧ acpE 7 251 = none ∧ matE 7 251 = none ∧ ((0 : Nat) = 0 ∨ (0 : Nat) = 3) := ⟨rfl, by decide +kernel, by decide +kernel, by decide⟩
theorem ne_7_254 : mthE 7 254 = some (7, 254, 25, 1, 2, 812, 813, 814, 58, 815) ∧ (1 : Nat) = 1 := ⟨rfl, rfl⟩
theorem ne_7_276 : mthE 7 276 = some (7, 276, 24, 1, 1, 821, 822, 823, 58, 824) ∧ (1 : Nat) = 1 := ⟨rfl, rfl⟩
theorem ne_7_281 : mthE 7 281 = some (7, 281, 105, 1, 2, 830, 832, 7, 53, 833) ∧ (1 : Nat) = 1 := ⟨rfl, rfl⟩
theorem ne_7_287 : mthE 7 287 = some (7, 287, 35, 1, 3, 554, 555, 556, 57, 557) ∧ (1 : Nat) = 1 := ⟨rfl, rfl⟩
theorem ne_8_68 : mthE 8 68 = some (8, 68, 107, 0, 3, 970, 971, 0, 60, 972) ∧ acpE 8 68 = none ∧ matE 8 68 = none ∧ ((0 : Nat) = 0 ∨ (0 : Nat) = 3) := ⟨rfl, by decide +kernel, by decide +kernel, by decide⟩
theorem ne_8_75 : mthE 8 75 = some (8, 75, 113, 1, 2, 993, 995, 10, 60, 996) ∧ (1 : Nat) = 1 := ⟨rfl, rfl⟩
theorem ne_8_79 : mthE 8 79 = some (8, 79, 121, 1, 1, 989, 991, 9, 60, 992) ∧ (1 : Nat) = 1 := ⟨rfl, rfl⟩
theorem ne_8_83 : mthE 8 83 = some (8, 83, 120, 1, 1, 997, 999, 11, 60, 1000) ∧ (1 : Nat) = 1 := ⟨rfl, rfl⟩
theorem ne_8_87 : mthE 8 87 = some (8, 87, 114, 1, 3, 1007, 1009, 13, 60, 1010) ∧ (1 : Nat) = 1 := ⟨rfl, rfl⟩
theorem ne_8_101 : mthE 8 101 = some (8, 101, 119, 0, 1, 973, 974, 0, 60, 975) ∧ acpE 8 101 = none ∧ matE 8 101 = none ∧ ((0 : Nat) = 0 ∨ (0 : Nat) = 3) := ⟨rfl, by decide +kernel, by decide +kernel, by decide⟩
theorem ne_8_104 : mthE 8 104 = some (8, 104, 124, 0, 3, 977, 978, 0, 60, 979) ∧ acpE 8 104 = none ∧ matE 8 104 = none ∧ ((0 : Nat) = 0 ∨ (0 : Nat) = 3) := ⟨rfl, by decide +kernel, by decide +kernel, by decide⟩
theorem ne_8_109 : mthE 8 109 = some (8, 109, 122, 1, 1, 985, 987, 8, 60, 988) ∧ (1 : Nat) = 1 := ⟨rfl, rfl⟩
theorem ne_8_114 : mthE 8 114 = some (8, 114, 123, 1, 5, 1003, 1005, 12, 60, 1006) ∧ (1 : Nat) = 1 := ⟨rfl, rfl⟩
theorem ne_8_118 : mthE 8 118 = some (8, 118, 128, 1, 3, 1032, 1034, 18, 60, 1035) ∧ (1 : Nat) = 1 := ⟨rfl, rfl⟩
theorem ne_8_121 : mthE 8 121 = some (8, 121, 187, 1, 1, 1043, 1045, 20, 60, 1046) ∧ (1 : Nat) = 1 := ⟨rfl, rfl⟩
theorem ne_8_124 : mthE 8 124 = some (8, 124, 190, 1, 1, 1051, 1053, 22, 60, 1054) ∧ (1 : Nat) = 1 := ⟨rfl, rfl⟩
theorem ne_8_127 : mthE 8 127 = some (8, 127, 109, 0, 2, 1058, 1059, 0, 60, 1060) ∧ acpE 8 127 = none ∧ matE 8 127 = none ∧ ((0 : Nat) = 0 ∨ (0 : Nat) = 3) := ⟨rfl, by decide +kernel, by decide +kernel, by decide⟩
theorem ne_8_130 : mthE 8 130 = some (8, 130, 129, 1, 2, 1028, 1030, 17, 60, 1031) ∧ (1 : Nat) = 1 := ⟨rfl, rfl⟩
theorem ne_8_134 : mthE 8 134 = some (8, 134, 110, 0, 2, 1036, 1037, 0, 60, 1038) ∧ acpE 8 134 = none ∧ matE 8 134 = none ∧ ((0 : Nat) = 0 ∨ (0 : Nat) = 3) := ⟨rfl, by decide +kernel, by decide +kernel, by decide⟩
theorem ne_8_137 : mthE 8 137 = some (8, 137, 130, 1, 2, 1039, 1041, 19, 60, 1042) ∧ (1 : Nat) = 1 := ⟨rfl, rfl⟩
theorem ne_8_140 : mthE 8 140 = some (8, 140, 131, 1, 1, 1024, 1026, 16, 60, 1027) ∧ (1 : Nat) = 1 := ⟨rfl, rfl⟩
theorem ne_8_143 : mthE 8 143 = some (8, 143, 115, 1, 1, 1015, 1017, 14, 60, 1018) ∧ (1 : Nat) = 1 := ⟨rfl, rfl⟩
theorem ne_8_148 : mthE 8 148 = some (8, 148, 132, 1, 1, 1020, 1022, 15, 60, 1023) ∧ (1 : Nat) = 1 := ⟨rfl, rfl⟩
theorem ne_8_151 : mthE 8 151 = some (8, 151, 133, 0, 1, 1061, 1062, 0, 60, 1063) ∧ acpE 8 151 = none ∧ matE 8 151 = none ∧ ((0 : Nat) = 0 ∨ (0 : Nat) = 3) := ⟨rfl, by decide +kernel, by decide +kernel, by decide⟩
theorem ne_8_154 : mthE 8 154 = some (8, 154, 126, 1, 2, 1064, 1066, 23, 60, 1067) ∧ (1 : Nat) = 1 := ⟨rfl, rfl⟩
theorem ne_8_157 : mthE 8 157 = some (8, 157, 127, 1, 1, 1068, 1070, 24, 60, 1071) ∧ (1 : Nat) = 1 := ⟨rfl, rfl⟩
theorem ne_8_160 : mthE 8 160 = some (8, 160, 118, 0, 2, 1076, 1077, 0, 60, 1078) ∧ acpE 8 160 = none ∧ matE 8 160 = none ∧ ((0 : Nat) = 0 ∨ (0 : Nat) = 3) := ⟨rfl, by decide +kernel, by decide +kernel, by decide⟩
theorem ne_8_164 : mthE 8 164 = some (8, 164, 111, 1, 2, 1084, 1086, 25, 60, 1087) ∧ (1 : Nat) = 1 := ⟨rfl, rfl⟩
theorem ne_8_167 : mthE 8 167 = some (8, 167, 108, 0, 1, 1104, 1105, 0, 60, 1106) ∧ acpE 8 167 = none ∧ matE 8 167 = none ∧ ((0 : Nat) = 0 ∨ (0 : Nat) = 3) := ⟨rfl, by decide +kernel, by decide +kernel, by decide⟩
theorem ne_8_176 : mthE 8 176 = some (8, 176, 117, 1, 0, 1119, 1121, 26, 60, 1122) ∧ (1 : Nat) = 1 := ⟨rfl, rfl⟩
theorem ne_8_180 : mthE 8 180 = some (8, 180, 147, 1, 0, 1152, 1154, 29, 60, 1155) ∧ (1 : Nat) = 1 := ⟨rfl, rfl⟩
theorem ne_8_183 : mthE 8 183 = some (8, 183, 148, 1, 0, 1148, 1150, 28, 60, 1151) ∧ (1 : Nat) = 1 := ⟨rfl, rfl⟩
theorem ne_8_186 : mthE 8 186 = some (8, 186, 149, 1, 1, 1144, 1146, 27, 60, 1147) ∧ (1 : Nat) = 1 := ⟨rfl, rfl⟩
theorem ne_8_192 : mthE 8 192 = some (8, 192, 151, 1, 0, 1161, 1163, 30, 60, 1164) ∧ (1 : Nat) = 1 := ⟨rfl, rfl⟩
theorem ne_8_195 : mthE 8 195 = some (8, 195, 153, 1, 0, 1177, 1179, 31, 60, 1180) ∧ (1 : Nat) = 1 := ⟨rfl, rfl⟩
theorem ne_8_198 : mthE 8 198 = some (8, 198, 154, 1, 0, 1181, 1183, 32, 60, 1184) ∧ (1 : Nat) = 1 := ⟨rfl, rfl⟩
theorem ne_8_203 : mthE 8 203 = some (8, 203, 160, 0, 2, 1197, 1198, 0, 60, 1199) ∧ acpE 8 203 = none ∧ matE 8 203 = none ∧ ((0 : Nat) = 0 ∨ (0 : Nat) = 3) := ⟨rfl, by decide +kernel, by decide +kernel, by decide⟩
theorem ne_8_206 : mthE 8 206 = some (8, 206, 161, 1, 6, 1201, 1203, 33, 60, 1204) ∧ (1 : Nat) = 1 := ⟨rfl, rfl⟩
theorem ne_8_210 : mthE 8 210 = some (8, 210, 163, 1, 3, 1209, 1211, 34, 60, 1212) ∧ (1 : Nat) = 1 := ⟨rfl, rfl⟩
theorem ne_8_235 : mthE 8 235 = some (8, 235, 170, 1, 1, 1245, 1247, 37, 60, 1248) ∧ (1 : Nat) = 1 := ⟨rfl, rfl⟩
theorem ne_8_241 : mthE 8 241 = some (8, 241, 171, 1, 1, 1251, 1253, 38, 60, 1254) ∧ (1 : Nat) = 1 := ⟨rfl, rfl⟩
theorem ne_8_247 : mthE 8 247 = some (8, 247, 174, 1, 4, 1261, 1263, 40, 60, 1264) ∧ (1 : Nat) = 1 := ⟨rfl, rfl⟩
theorem ne_8_257 : mthE 8 257 = some (8, 257, 179, 1, 1, 1269, 1271, 42, 60, 1272) ∧ (1 : Nat) = 1 := ⟨rfl, rfl⟩
theorem ne_8_260 : mthE 8 260 = some (8, 260, 173, 1, 1, 1296, 1298, 48, 60, 1299) ∧ (1 : Nat) = 1 := ⟨rfl, rfl⟩
theorem ne_8_263 : mthE 8 263 = some (8, 263, 172, 1, 0, 1241, 1243, 36, 60, 1244) ∧ (1 : Nat) = 1 := ⟨rfl, rfl⟩
theorem ne_8_266 : mthE 8 266 = some (8, 266, 177, 1, 2, 1289, 1291, 47, 60, 1292) ∧ (1 : Nat) = 1 := ⟨rfl, rfl⟩
theorem ne_8_270 : mthE 8 270 = some (8, 270, 180, 1, 1, 1273, 1275, 43, 60, 1276) ∧ (1 : Nat) = 1 := ⟨rfl, rfl⟩
theorem ne_8_273 : mthE 8 273 = some (8, 273, 181, 1, 1, 1277, 1279, 44, 60, 1280) ∧ (1 : Nat) = 1 := ⟨rfl, rfl⟩
theorem ne_8_276 : mthE 8 276 = some (8, 276, 182, 1, 1, 1281, 1283, 45, 60, 1284) ∧ (1 : Nat) = 1 := ⟨rfl, rfl⟩
theorem ne_8_279 : mthE 8 279 = some (8, 279, 183, 1, 1, 1285, 1287, 46, 60, 1288) ∧ (1 : Nat) = 1 := ⟨rfl, rfl⟩
theorem ne_8_285 : mthE 8 285 = some (8, 285, 176, 0, 2, 1293, 1294, 0, 60, 1295) ∧ acpE 8 285 = none ∧ matE 8 285 = none ∧ ((0 : Nat) = 0 ∨ (0 : Nat) = 3) := ⟨rfl, by decide +kernel, by decide +kernel, by decide⟩
theorem ne_8_294 : mthE 8 294 = some (8, 294, 178, 1, 1, 1265, 1267, 41, 60, 1268) ∧ (1 : Nat) = 1 := ⟨rfl, rfl⟩
theorem ne_8_297 : mthE 8 297 = some (8, 297, 112, 1, 1, 1047, 1049, 21, 60, 1050) ∧ (1 : Nat) = 1 := ⟨rfl, rfl⟩
theorem ne_8_300 : mthE 8 300 = some (8, 300, 175, 1, 0, 1257, 1259, 39, 60, 1260) ∧ (1 : Nat) = 1 := ⟨rfl, rfl⟩
theorem ne_8_303 : mthE 8 303 = some (8, 303, 184, 1, 0, 1237, 1239, 35, 60, 1240) ∧ (1 : Nat) = 1 := ⟨rfl, rfl⟩
theorem ne_8_306 : mthE 8 306 = some (8, 306, 116, 1, 1, 1304, 1306, 49, 60, 1307) ∧ (1 : Nat) = 1 := ⟨rfl, rfl⟩
theorem ne_8_309 : mthE 8 309 = some (8, 309, 189, 0, 3, 1055, 1056, 0, 60, 1057) ∧ acpE 8 309 = none ∧ matE 8 309 = none ∧ ((0 : Nat) = 0 ∨ (0 : Nat) = 3) := ⟨rfl, by decide +kernel, by decide +kernel, by decide⟩
theorem ne_8_314 : mthE 8 314 = some (8, 314, 191, 0, 1, 1316, 1317, 0, 60, 1318) ∧ acpE 8 314 = none ∧ matE 8 314 = none ∧ ((0 : Nat) = 0 ∨ (0 : Nat) = 3) := ⟨rfl, by decide +kernel, by decide +kernel, by decide⟩
theorem ne_8_324 : mthE 8 324 = some (8, 324, 196, 1, 2, 1341, 1343, 50, 60, 1344) ∧ (1 : Nat) = 1 := ⟨rfl, rfl⟩
theorem ne_8_327 : mthE 8 327 = some (8, 327, 199, 0, 1, 1353, 1354, 0, 60, 1355) ∧ acpE 8 327 = none ∧ matE 8 327 = none ∧ ((0 : Nat) = 0 ∨ (0 : Nat) = 3) := ⟨rfl, by decide +kernel, by decide +kernel, by decide⟩
theorem ne_8_339 : mthE 8 339 = some (8, 339, 205, 1, 2, 1377, 1379, 51, 60, 1380) ∧ (1 : Nat) = 1 := ⟨rfl, rfl⟩
theorem ne_9_335 : mthE 9 335 = some (9, 335, 215, 1, 0, 623, 624, 625, 65, 626) ∧ (1 : Nat) = 1 := ⟨rfl, rfl⟩
theorem ne_9_492 : mthE 9 492 = some (9, 492, 216, 1, 0, 633, 634, 635, 65, 636) ∧ (1 : Nat) = 1 := ⟨rfl, rfl⟩
theorem ne_9_495 : mthE 9 495 = some (9, 495, 218, 0, 2, 637, 638, 0, 66, 639) ∧ acpE 9 495 = none ∧ matE 9 495 = none ∧ ((0 : Nat) = 0 ∨ (0 : Nat) = 3) := ⟨rfl, by decide +kernel, by decide +kernel, by decide⟩
theorem ne_9_505 : mthE 9 505 = some (9, 505, 211, 1, 0, 708, 620, 621, 65, 622) ∧ (1 : Nat) = 1 := ⟨rfl, rfl⟩
theorem ne_9_633 : mthE 9 633 = some (9, 633, 214, 1, 2, 704, 705, 706, 65, 707) ∧ (1 : Nat) = 1 := ⟨rfl, rfl⟩
theorem ne_9_637 : mthE 9 637 = some (9, 637, 220, 0, 4, 709, 710, 0, 66, 711) ∧ acpE 9 637 = none ∧ matE 9 637 = none ∧ ((0 : Nat) = 0 ∨ (0 : Nat) = 3) := ⟨rfl, by decide +kernel, by decide +kernel, by decide⟩
theorem ne_9_1059 : mthE 9 1059 = some (9, 1059, 222, 0, 3, 645, 646, 0, 67, 647) ∧ acpE 9 1059 = none ∧ matE 9 1059 = none ∧ ((0 : Nat) = 0 ∨ (0 : Nat) = 3) := ⟨rfl, by decide +kernel, by decide +kernel, by decide⟩
theorem ne_10_9 : mthE 10 9 = some (10, 9, 217, 0, 2, 640, 641, 0, 65, 642) ∧ acpE 10 9 = none ∧ matE 10 9 = none ∧ ((0 : Nat) = 0 ∨ (0 : Nat) = 3) := ⟨rfl, by decide +kernel, by decide +kernel, by decide⟩
theorem ne_10_88 : mthE 10 88 = some (10, 88, 219, 0, 1, 712, 713, 0, 66, 714) ∧ acpE 10 88 = none ∧ matE 10 88 = none ∧ ((0 : Nat) = 0 ∨ (0 : Nat) = 3) := ⟨rfl, by decide +kernel, by decide +kernel, by decide⟩
theorem ne_10_95 : mthE 10 95 = some (10, 95, 221, 0, 4, 717, 718, 0, 66, 719) ∧ acpE 10 95 = none ∧ matE 10 95 = none ∧ ((0 : Nat) = 0 ∨ (0 : Nat) = 3) := ⟨rfl, by decide +kernel, by decide +kernel, by decide⟩
theorem ne_14_13 : mthE 14 13 = some (14, 13, 51, 1, 5, 315, 316, 317, 53, 318) ∧ (1 : Nat) = 1 := ⟨rfl, rfl⟩
theorem ne_14_17 : mthE 14 17 = some (14, 17, 125, 1, 5, 965, 966, 967, 60, 968) ∧ (1 : Nat) = 1 := ⟨rfl, rfl⟩
theorem ne_14_18 : mthE 14 18 = some (14, 18, 52, 1, 2, 336, 337, 338, 53, 339) ∧ (1 : Nat) = 1 := ⟨rfl, rfl⟩
theorem ne_14_22 : mthE 14 22 = some (14, 22, 134, 1, 2, 1011, 1012, 1013, 60, 1014) ∧ (1 : Nat) = 1 := ⟨rfl, rfl⟩
theorem ne_14_23 : mthE 14 23 = some (14, 23, 53, 1, 2, 399, 400, 401, 53, 402) ∧ (1 : Nat) = 1 := ⟨rfl, rfl⟩
theorem ne_14_26 : mthE 14 26 = some (14, 26, 135, 1, 2, 1072, 1073, 1074, 60, 1075) ∧ (1 : Nat) = 1 := ⟨rfl, rfl⟩
theorem ne_14_27 : mthE 14 27 = some (14, 27, 54, 1, 2, 409, 410, 411, 53, 412) ∧ (1 : Nat) = 1 := ⟨rfl, rfl⟩
theorem ne_14_30 : mthE 14 30 = some (14, 30, 136, 1, 2, 1080, 1081, 1082, 60, 1083) ∧ (1 : Nat) = 1 := ⟨rfl, rfl⟩
theorem ne_14_31 : mthE 14 31 = some (14, 31, 55, 1, 3, 413, 414, 415, 53, 416) ∧ (1 : Nat) = 1 := ⟨rfl, rfl⟩
theorem ne_14_35 : mthE 14 35 = some (14, 35, 137, 1, 3, 1088, 1089, 1090, 60, 1091) ∧ (1 : Nat) = 1 := ⟨rfl, rfl⟩
theorem ne_14_36 : mthE 14 36 = some (14, 36, 56, 1, 2, 417, 418, 419, 53, 420) ∧ (1 : Nat) = 1 := ⟨rfl, rfl⟩
theorem ne_14_39 : mthE 14 39 = some (14, 39, 138, 1, 2, 1092, 1093, 1094, 60, 1095) ∧ (1 : Nat) = 1 := ⟨rfl, rfl⟩
theorem ne_14_40 : mthE 14 40 = some (14, 40, 57, 1, 2, 425, 426, 427, 53, 428) ∧ (1 : Nat) = 1 := ⟨rfl, rfl⟩
theorem ne_14_43 : mthE 14 43 = some (14, 43, 139, 1, 2, 1096, 1097, 1098, 60, 1099) ∧ (1 : Nat) = 1 := ⟨rfl, rfl⟩
theorem ne_14_44 : mthE 14 44 = some (14, 44, 58, 1, 1, 429, 430, 431, 53, 432) ∧ (1 : Nat) = 1 := ⟨rfl, rfl⟩
theorem ne_14_48 : mthE 14 48 = some (14, 48, 140, 1, 1, 1100, 1101, 1102, 60, 1103) ∧ (1 : Nat) = 1 := ⟨rfl, rfl⟩
theorem ne_14_49 : mthE 14 49 = some (14, 49, 59, 1, 2, 434, 435, 436, 53, 437) ∧ (1 : Nat) = 1 := ⟨rfl, rfl⟩
theorem ne_14_52 : mthE 14 52 = some (14, 52, 141, 1, 2, 1108, 1109, 1110, 60, 1111) ∧ (1 : Nat) = 1 := ⟨rfl, rfl⟩
theorem ne_14_53 : mthE 14 53 = some (14, 53, 60, 1, 1, 438, 439, 440, 53, 441) ∧ (1 : Nat) = 1 := ⟨rfl, rfl⟩
theorem ne_14_56 : mthE 14 56 = some (14, 56, 142, 1, 1, 1114, 1115, 1116, 60, 1117) ∧ (1 : Nat) = 1 := ⟨rfl, rfl⟩
theorem ne_14_57 : mthE 14 57 = some (14, 57, 61, 1, 1, 458, 459, 460, 53, 461) ∧ (1 : Nat) = 1 := ⟨rfl, rfl⟩
theorem ne_14_60 : mthE 14 60 = some (14, 60, 143, 1, 1, 1124, 1125, 1126, 60, 1127) ∧ (1 : Nat) = 1 := ⟨rfl, rfl⟩
theorem ne_14_61 : mthE 14 61 = some (14, 61, 62, 1, 1, 462, 463, 464, 53, 465) ∧ (1 : Nat) = 1 := ⟨rfl, rfl⟩
theorem ne_14_64 : mthE 14 64 = some (14, 64, 144, 1, 1, 1128, 1129, 1130, 60, 1131) ∧ (1 : Nat) = 1 := ⟨rfl, rfl⟩
theorem ne_14_65 : mthE 14 65 = some (14, 65, 63, 1, 1, 467, 468, 469, 53, 470) ∧ (1 : Nat) = 1 := ⟨rfl, rfl⟩
theorem ne_14_68 : mthE 14 68 = some (14, 68, 145, 1, 1, 1132, 1133, 1134, 60, 1135) ∧ (1 : Nat) = 1 := ⟨rfl, rfl⟩
theorem ne_14_69 : mthE 14 69 = some (14, 69, 64, 1, 1, 472, 473, 474, 53, 475) ∧ (1 : Nat) = 1 := ⟨rfl, rfl⟩
theorem ne_14_72 : mthE 14 72 = some (14, 72, 146, 1, 1, 1136, 1137, 1138, 60, 1139) ∧ (1 : Nat) = 1 := ⟨rfl, rfl⟩
theorem ne_14_73 : mthE 14 73 = some (14, 73, 65, 1, 1, 477, 478, 479, 53, 480) ∧ (1 : Nat) = 1 := ⟨rfl, rfl⟩
theorem ne_14_76 : mthE 14 76 = some (14, 76, 150, 1, 1, 1140, 1141, 1142, 60, 1143) ∧ (1 : Nat) = 1 := ⟨rfl, rfl⟩
theorem ne_14_77 : mthE 14 77 = some (14, 77, 66, 1, 1, 503, 504, 505, 53, 506) ∧ (1 : Nat) = 1 := ⟨rfl, rfl⟩
theorem ne_14_80 : mthE 14 80 = some (14, 80, 152, 1, 1, 1156, 1157, 1158, 60, 1159) ∧ (1 : Nat) = 1 := ⟨rfl, rfl⟩
theorem ne_14_81 : mthE 14 81 = some (14, 81, 67, 1, 2, 511, 512, 513, 53, 514) ∧ (1 : Nat) = 1 := ⟨rfl, rfl⟩
theorem ne_14_84 : mthE 14 84 = some (14, 84, 155, 1, 2, 1165, 1166, 1167, 60, 1168) ∧ (1 : Nat) = 1 := ⟨rfl, rfl⟩
theorem ne_14_85 : mthE 14 85 = some (14, 85, 68, 1, 2, 522, 523, 524, 53, 525) ∧ (1 : Nat) = 1 := ⟨rfl, rfl⟩
theorem ne_14_88 : mthE 14 88 = some (14, 88, 156, 1, 2, 1169, 1170, 1171, 60, 1172) ∧ (1 : Nat) = 1 := ⟨rfl, rfl⟩
theorem ne_14_89 : mthE 14 89 = some (14, 89, 69, 1, 2, 526, 527, 528, 53, 529) ∧ (1 : Nat) = 1 := ⟨rfl, rfl⟩
theorem ne_14_92 : mthE 14 92 = some (14, 92, 157, 1, 2, 1173, 1174, 1175, 60, 1176) ∧ (1 : Nat) = 1 := ⟨rfl, rfl⟩
theorem ne_14_93 : mthE 14 93 = some (14, 93, 70, 1, 1, 530, 531, 532, 53, 533) ∧ (1 : Nat) = 1 := ⟨rfl, rfl⟩
theorem ne_14_96 : mthE 14 96 = some (14, 96, 158, 1, 1, 1185, 1186, 1187, 60, 1188) ∧ (1 : Nat) = 1 := ⟨rfl, rfl⟩
theorem ne_14_97 : mthE 14 97 = some (14, 97, 71, 1, 1, 538, 539, 540, 53, 541) ∧ (1 : Nat) = 1 := ⟨rfl, rfl⟩
theorem ne_14_100 : mthE 14 100 = some (14, 100, 159, 1, 1, 1189, 1190, 1191, 60, 1192) ∧ (1 : Nat) = 1 := ⟨rfl, rfl⟩
theorem ne_14_101 : mthE 14 101 = some (14, 101, 72, 1, 3, 542, 543, 544, 53, 545) ∧ (1 : Nat) = 1 := ⟨rfl, rfl⟩
theorem ne_14_104 : mthE 14 104 = some (14, 104, 162, 1, 3, 1193, 1194, 1195, 60, 1196) ∧ (1 : Nat) = 1 := ⟨rfl, rfl⟩
theorem ne_14_105 : mthE 14 105 = some (14, 105, 73, 1, 3, 558, 559, 560, 53, 561) ∧ (1 : Nat) = 1 := ⟨rfl, rfl⟩
theorem ne_14_108 : mthE 14 108 = some (14, 108, 164, 1, 3, 1205, 1206, 1207, 60, 1208) ∧ (1 : Nat) = 1 := ⟨rfl, rfl⟩
theorem ne_14_109 : mthE 14 109 = some (14, 109, 74, 1, 3, 562, 563, 564, 53, 565) ∧ (1 : Nat) = 1 := ⟨rfl, rfl⟩
theorem ne_14_112 : mthE 14 112 = some (14, 112, 165, 1, 3, 1213, 1214, 1215, 60, 1216) ∧ (1 : Nat) = 1 := ⟨rfl, rfl⟩
theorem ne_14_113 : mthE 14 113 = some (14, 113, 75, 1, 2, 566, 567, 568, 53, 569) ∧ (1 : Nat) = 1 := ⟨rfl, rfl⟩
theorem ne_14_116 : mthE 14 116 = some (14, 116, 197, 1, 2, 1337, 1338, 1339, 60, 1340) ∧ (1 : Nat) = 1 := ⟨rfl, rfl⟩
theorem ne_14_117 : mthE 14 117 = some (14, 117, 76, 1, 0, 576, 577, 578, 53, 579) ∧ (1 : Nat) = 1 := ⟨rfl, rfl⟩
theorem ne_14_121 : mthE 14 121 = some (14, 121, 166, 1, 0, 1217, 1218, 1219, 60, 1220) ∧ (1 : Nat) = 1 := ⟨rfl, rfl⟩
theorem ne_14_122 : mthE 14 122 = some (14, 122, 77, 1, 1, 581, 582, 583, 53, 584) ∧ (1 : Nat) = 1 := ⟨rfl, rfl⟩
theorem ne_14_125 : mthE 14 125 = some (14, 125, 167, 1, 1, 1221, 1222, 1223, 60, 1224) ∧ (1 : Nat) = 1 := ⟨rfl, rfl⟩
theorem ne_14_126 : mthE 14 126 = some (14, 126, 78, 1, 3, 585, 586, 587, 53, 588) ∧ (1 : Nat) = 1 := ⟨rfl, rfl⟩
theorem ne_14_129 : mthE 14 129 = some (14, 129, 168, 1, 3, 1225, 1226, 1227, 60, 1228) ∧ (1 : Nat) = 1 := ⟨rfl, rfl⟩
theorem ne_14_130 : mthE 14 130 = some (14, 130, 79, 1, 1, 593, 594, 595, 53, 596) ∧ (1 : Nat) = 1 := ⟨rfl, rfl⟩
theorem ne_14_133 : mthE 14 133 = some (14, 133, 169, 1, 1, 1229, 1230, 1231, 60, 1232) ∧ (1 : Nat) = 1 := ⟨rfl, rfl⟩
theorem ne_14_134 : mthE 14 134 = some (14, 134, 80, 1, 0, 597, 598, 599, 53, 600) ∧ (1 : Nat) = 1 := ⟨rfl, rfl⟩
theorem ne_14_137 : mthE 14 137 = some (14, 137, 185, 1, 0, 1233, 1234, 1235, 60, 1236) ∧ (1 : Nat) = 1 := ⟨rfl, rfl⟩
theorem ne_14_138 : mthE 14 138 = some (14, 138, 81, 1, 2, 771, 772, 773, 53, 774) ∧ (1 : Nat) = 1 := ⟨rfl, rfl⟩
theorem ne_14_141 : mthE 14 141 = some (14, 141, 186, 1, 2, 1300, 1301, 1302, 60, 1303) ∧ (1 : Nat) = 1 := ⟨rfl, rfl⟩
theorem ne_14_142 : mthE 14 142 = some (14, 142, 82, 1, 1, 775, 776, 777, 53, 778) ∧ (1 : Nat) = 1 := ⟨rfl, rfl⟩
theorem ne_14_145 : mthE 14 145 = some (14, 145, 188, 1, 1, 1308, 1309, 1310, 60, 1311) ∧ (1 : Nat) = 1 := ⟨rfl, rfl⟩
theorem ne_14_146 : mthE 14 146 = some (14, 146, 83, 1, 3, 779, 780, 781, 53, 782) ∧ (1 : Nat) = 1 := ⟨rfl, rfl⟩
theorem ne_14_149 : mthE 14 149 = some (14, 149, 192, 1, 3, 1312, 1313, 1314, 60, 1315) ∧ (1 : Nat) = 1 := ⟨rfl, rfl⟩
theorem ne_14_150 : mthE 14 150 = some (14, 150, 84, 1, 3, 788, 789, 790, 53, 791) ∧ (1 : Nat) = 1 := ⟨rfl, rfl⟩
theorem ne_14_153 : mthE 14 153 = some (14, 153, 193, 1, 3, 1321, 1322, 1323, 60, 1324) ∧ (1 : Nat) = 1 := ⟨rfl, rfl⟩
theorem ne_14_154 : mthE 14 154 = some (14, 154, 85, 1, 1, 799, 800, 801, 53, 802) ∧ (1 : Nat) = 1 := ⟨rfl, rfl⟩
theorem ne_14_157 : mthE 14 157 = some (14, 157, 194, 1, 1, 1329, 1330, 1331, 60, 1332) ∧ (1 : Nat) = 1 := ⟨rfl, rfl⟩
theorem ne_14_158 : mthE 14 158 = some (14, 158, 86, 1, 1, 804, 805, 806, 53, 807) ∧ (1 : Nat) = 1 := ⟨rfl, rfl⟩
theorem ne_14_161 : mthE 14 161 = some (14, 161, 195, 1, 1, 1333, 1334, 1335, 60, 1336) ∧ (1 : Nat) = 1 := ⟨rfl, rfl⟩
theorem ne_14_162 : mthE 14 162 = some (14, 162, 87, 1, 5, 808, 809, 810, 53, 811) ∧ (1 : Nat) = 1 := ⟨rfl, rfl⟩
theorem ne_14_165 : mthE 14 165 = some (14, 165, 198, 1, 5, 1345, 1346, 1347, 60, 1348) ∧ (1 : Nat) = 1 := ⟨rfl, rfl⟩
theorem ne_14_166 : mthE 14 166 = some (14, 166, 88, 1, 3, 817, 818, 819, 53, 820) ∧ (1 : Nat) = 1 := ⟨rfl, rfl⟩
theorem ne_14_169 : mthE 14 169 = some (14, 169, 200, 1, 3, 1349, 1350, 1351, 60, 1352) ∧ (1 : Nat) = 1 := ⟨rfl, rfl⟩
theorem ne_14_170 : mthE 14 170 = some (14, 170, 89, 1, 2, 826, 827, 828, 53, 829) ∧ (1 : Nat) = 1 := ⟨rfl, rfl⟩
theorem ne_14_173 : mthE 14 173 = some (14, 173, 201, 1, 2, 1356, 1357, 1358, 60, 1359) ∧ (1 : Nat) = 1 := ⟨rfl, rfl⟩
theorem ne_14_174 : mthE 14 174 = some (14, 174, 90, 1, 2, 834, 835, 836, 53, 837) ∧ (1 : Nat) = 1 := ⟨rfl, rfl⟩
theorem ne_14_177 : mthE 14 177 = some (14, 177, 202, 1, 2, 1360, 1361, 1362, 60, 1363) ∧ (1 : Nat) = 1 := ⟨rfl, rfl⟩
theorem ne_14_178 : mthE 14 178 = some (14, 178, 91, 1, 2, 838, 839, 840, 53, 841) ∧ (1 : Nat) = 1 := ⟨rfl, rfl⟩
theorem ne_14_181 : mthE 14 181 = some (14, 181, 203, 1, 2, 1364, 1365, 1366, 60, 1367) ∧ (1 : Nat) = 1 := ⟨rfl, rfl⟩
theorem ne_14_182 : mthE 14 182 = some (14, 182, 92, 1, 1, 842, 843, 844, 53, 845) ∧ (1 : Nat) = 1 := ⟨rfl, rfl⟩
theorem ne_14_185 : mthE 14 185 = some (14, 185, 204, 1, 1, 1368, 1369, 1370, 60, 1371) ∧ (1 : Nat) = 1 := ⟨rfl, rfl⟩
theorem ne_14_186 : mthE 14 186 = some (14, 186, 93, 1, 1, 846, 847, 848, 53, 849) ∧ (1 : Nat) = 1 := ⟨rfl, rfl⟩
theorem ne_14_189 : mthE 14 189 = some (14, 189, 206, 1, 1, 1372, 1373, 1374, 60, 1375) ∧ (1 : Nat) = 1 := ⟨rfl, rfl⟩
theorem ne_14_190 : mthE 14 190 = some (14, 190, 94, 1, 0, 850, 851, 852, 53, 853) ∧ (1 : Nat) = 1 := ⟨rfl, rfl⟩
theorem ne_14_193 : mthE 14 193 = some (14, 193, 207, 1, 0, 1381, 1382, 1383, 60, 1384) ∧ (1 : Nat) = 1 := ⟨rfl, rfl⟩
theorem ne_14_194 : mthE 14 194 = some (14, 194, 95, 1, 0, 854, 855, 856, 53, 857) ∧ (1 : Nat) = 1 := ⟨rfl, rfl⟩
theorem ne_14_197 : mthE 14 197 = some (14, 197, 208, 1, 0, 1385, 1386, 1387, 60, 1388) ∧ (1 : Nat) = 1 := ⟨rfl, rfl⟩
theorem ne_14_198 : mthE 14 198 = some (14, 198, 96, 1, 1, 858, 859, 860, 53, 861) ∧ (1 : Nat) = 1 := ⟨rfl, rfl⟩
theorem ne_14_201 : mthE 14 201 = some (14, 201, 209, 1, 1, 1389, 1390, 1391, 60, 1392) ∧ (1 : Nat) = 1 := ⟨rfl, rfl⟩
