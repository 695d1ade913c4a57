/-! constants and rows of the tables, one by one (wip/whole/gen4.py) -/
def imax (xv yv : Int32) : Int32 := if xv < yv then yv else xv
def imin (xv yv : Int32) : Int32 := if yv < xv then yv else xv
def iabs (xv : Int32) : Int32 := if 0 ≤ xv then xv else 0 - xv
theorem c_bipush_m100 : (Int8.ofInt (-100)).toInt32 = (-100) := by decide +kernel
theorem c_bipush_m2 : (Int8.ofInt (-2)).toInt32 = (-2) := by decide +kernel
theorem c_bipush_m3 : (Int8.ofInt (-3)).toInt32 = (-3) := by decide +kernel
theorem c_bipush_m33 : (Int8.ofInt (-33)).toInt32 = (-33) := by decide +kernel
theorem c_bipush_m5 : (Int8.ofInt (-5)).toInt32 = (-5) := by decide +kernel
theorem c_bipush_10 : (Int8.ofInt (10)).toInt32 = nI 10 := by decide +kernel
theorem c_bipush_100 : (Int8.ofInt (100)).toInt32 = nI 100 := by decide +kernel
theorem c_bipush_101 : (Int8.ofInt (101)).toInt32 = nI 101 := by decide +kernel
theorem c_bipush_102 : (Int8.ofInt (102)).toInt32 = nI 102 := by decide +kernel
theorem c_bipush_103 : (Int8.ofInt (103)).toInt32 = nI 103 := by decide +kernel
theorem c_bipush_105 : (Int8.ofInt (105)).toInt32 = nI 105 := by decide +kernel
theorem c_bipush_108 : (Int8.ofInt (108)).toInt32 = nI 108 := by decide +kernel
theorem c_bipush_110 : (Int8.ofInt (110)).toInt32 = nI 110 := by decide +kernel
theorem c_bipush_112 : (Int8.ofInt (112)).toInt32 = nI 112 := by decide +kernel
theorem c_bipush_115 : (Int8.ofInt (115)).toInt32 = nI 115 := by decide +kernel
theorem c_bipush_117 : (Int8.ofInt (117)).toInt32 = nI 117 := by decide +kernel
theorem c_bipush_118 : (Int8.ofInt (118)).toInt32 = nI 118 := by decide +kernel
theorem c_bipush_12 : (Int8.ofInt (12)).toInt32 = nI 12 := by decide +kernel
theorem c_bipush_122 : (Int8.ofInt (122)).toInt32 = nI 122 := by decide +kernel
theorem c_bipush_124 : (Int8.ofInt (124)).toInt32 = nI 124 := by decide +kernel
theorem c_bipush_14 : (Int8.ofInt (14)).toInt32 = nI 14 := by decide +kernel
theorem c_bipush_15 : (Int8.ofInt (15)).toInt32 = nI 15 := by decide +kernel
theorem c_bipush_16 : (Int8.ofInt (16)).toInt32 = nI 16 := by decide +kernel
theorem c_bipush_19 : (Int8.ofInt (19)).toInt32 = nI 19 := by decide +kernel
theorem c_bipush_20 : (Int8.ofInt (20)).toInt32 = nI 20 := by decide +kernel
theorem c_bipush_24 : (Int8.ofInt (24)).toInt32 = nI 24 := by decide +kernel
theorem c_bipush_30 : (Int8.ofInt (30)).toInt32 = nI 30 := by decide +kernel
theorem c_bipush_32 : (Int8.ofInt (32)).toInt32 = nI 32 := by decide +kernel
theorem c_bipush_33 : (Int8.ofInt (33)).toInt32 = nI 33 := by decide +kernel
theorem c_bipush_38 : (Int8.ofInt (38)).toInt32 = nI 38 := by decide +kernel
theorem c_bipush_40 : (Int8.ofInt (40)).toInt32 = nI 40 := by decide +kernel
theorem c_bipush_41 : (Int8.ofInt (41)).toInt32 = nI 41 := by decide +kernel
theorem c_bipush_42 : (Int8.ofInt (42)).toInt32 = nI 42 := by decide +kernel
theorem c_bipush_43 : (Int8.ofInt (43)).toInt32 = nI 43 := by decide +kernel
theorem c_bipush_45 : (Int8.ofInt (45)).toInt32 = nI 45 := by decide +kernel
theorem c_bipush_47 : (Int8.ofInt (47)).toInt32 = nI 47 := by decide +kernel
theorem c_bipush_48 : (Int8.ofInt (48)).toInt32 = nI 48 := by decide +kernel
theorem c_bipush_50 : (Int8.ofInt (50)).toInt32 = nI 50 := by decide +kernel
theorem c_bipush_51 : (Int8.ofInt (51)).toInt32 = nI 51 := by decide +kernel
theorem c_bipush_57 : (Int8.ofInt (57)).toInt32 = nI 57 := by decide +kernel
theorem c_bipush_6 : (Int8.ofInt (6)).toInt32 = nI 6 := by decide +kernel
theorem c_bipush_60 : (Int8.ofInt (60)).toInt32 = nI 60 := by decide +kernel
theorem c_bipush_61 : (Int8.ofInt (61)).toInt32 = nI 61 := by decide +kernel
theorem c_bipush_62 : (Int8.ofInt (62)).toInt32 = nI 62 := by decide +kernel
theorem c_bipush_63 : (Int8.ofInt (63)).toInt32 = nI 63 := by decide +kernel
theorem c_bipush_7 : (Int8.ofInt (7)).toInt32 = nI 7 := by decide +kernel
theorem c_bipush_8 : (Int8.ofInt (8)).toInt32 = nI 8 := by decide +kernel
theorem c_bipush_9 : (Int8.ofInt (9)).toInt32 = nI 9 := by decide +kernel
theorem c_bipush_96 : (Int8.ofInt (96)).toInt32 = nI 96 := by decide +kernel
theorem c_bipush_97 : (Int8.ofInt (97)).toInt32 = nI 97 := by decide +kernel
theorem c_iconst_m1 : Int32.ofInt (-1) = (-1) := by decide +kernel
theorem c_iconst_m8 : Int32.ofInt (-8) = (-8) := by decide +kernel
theorem c_iconst_0 : Int32.ofInt (0) = nI 0 := by decide +kernel
theorem c_iconst_1 : Int32.ofInt (1) = nI 1 := by decide +kernel
theorem c_iconst_2 : Int32.ofInt (2) = nI 2 := by decide +kernel
theorem c_iconst_3 : Int32.ofInt (3) = nI 3 := by decide +kernel
theorem c_iconst_4 : Int32.ofInt (4) = nI 4 := by decide +kernel
theorem c_iconst_5 : Int32.ofInt (5) = nI 5 := by decide +kernel
theorem c_iconst_6 : Int32.ofInt (6) = nI 6 := by decide +kernel
theorem l_1103515245 : (1103515245 : Int32) = nI 1103515245 := by decide +kernel
theorem l_1431655765 : (1431655765 : Int32) = nI 1431655765 := by decide +kernel
theorem l_252645135 : (252645135 : Int32) = nI 252645135 := by decide +kernel
theorem l_858993459 : (858993459 : Int32) = nI 858993459 := by decide +kernel
theorem l_99999 : (99999 : Int32) = nI 99999 := by decide +kernel
theorem c_sipush_12345 : (Int16.ofInt (12345)).toInt32 = nI 12345 := by decide +kernel
theorem c_sipush_194 : (Int16.ofInt (194)).toInt32 = nI 194 := by decide +kernel
theorem c_sipush_200 : (Int16.ofInt (200)).toInt32 = nI 200 := by decide +kernel
theorem c_sipush_255 : (Int16.ofInt (255)).toInt32 = nI 255 := by decide +kernel
theorem c_sipush_2851 : (Int16.ofInt (2851)).toInt32 = nI 2851 := by decide +kernel
theorem c_sipush_499 : (Int16.ofInt (499)).toInt32 = nI 499 := by decide +kernel
theorem c_sipush_9999 : (Int16.ofInt (9999)).toInt32 = nI 9999 := by decide +kernel
theorem ce_6_74 : cstE 6 74 = some (6, 74, 1103515245, 449) := by decide +kernel
theorem ce_7_75 : cstE 7 75 = some (7, 75, (-1000000001), 323) := by decide +kernel
theorem ce_7_80 : cstE 7 80 = some (7, 80, (-1000000002), 328) := by decide +kernel
theorem ce_7_84 : cstE 7 84 = some (7, 84, (-1000000003), 329) := by decide +kernel
theorem ce_7_123 : cstE 7 123 = some (7, 123, (-1000000012), 406) := by decide +kernel
theorem ce_7_134 : cstE 7 134 = some (7, 134, (-1000000005), 431) := by decide +kernel
theorem ce_7_200 : cstE 7 200 = some (7, 200, (-1000000011), 568) := by decide +kernel
theorem ce_7_235 : cstE 7 235 = some (7, 235, (-1000000014), 781) := by decide +kernel
theorem ce_7_245 : cstE 7 245 = some (7, 245, (-1000000013), 794) := by decide +kernel
theorem ce_7_249 : cstE 7 249 = some (7, 249, (-99999), 795) := by decide +kernel
theorem ce_7_250 : cstE 7 250 = some (7, 250, 99999, 796) := by decide +kernel
theorem ce_8_67 : cstE 8 67 = some (8, 67, (-1000000005), 1105) := by decide +kernel
theorem ce_8_72 : cstE 8 72 = some (8, 72, 1103515245, 1121) := by decide +kernel
theorem ce_8_108 : cstE 8 108 = some (8, 108, (-1000000001), 982) := by decide +kernel
theorem ce_8_112 : cstE 8 112 = some (8, 112, (-1000000002), 999) := by decide +kernel
theorem ce_8_113 : cstE 8 113 = some (8, 113, (-1000000003), 1000) := by decide +kernel
theorem ce_8_163 : cstE 8 163 = some (8, 163, (-1000000012), 1077) := by decide +kernel
theorem ce_8_317 : cstE 8 317 = some (8, 317, (-1000000014), 1318) := by decide +kernel
theorem ce_8_318 : cstE 8 318 = some (8, 318, (-1000000011), 1323) := by decide +kernel
theorem ce_8_319 : cstE 8 319 = some (8, 319, (-1000000013), 1324) := by decide +kernel
theorem ce_12_265 : cstE 12 265 = some (12, 265, 1431655765, 388) := by decide +kernel
theorem ce_12_266 : cstE 12 266 = some (12, 266, 858993459, 389) := by decide +kernel
theorem ce_12_267 : cstE 12 267 = some (12, 267, 252645135, 390) := by decide +kernel
theorem le_8_73 : lngE 8 73 = some (8, 73, 19, 974) := by decide +kernel
theorem le_8_91 : lngE 8 91 = some (8, 91, 200, 978) := by decide +kernel
theorem le_8_93 : lngE 8 93 = some (8, 93, 50, 979) := by decide +kernel
theorem le_8_95 : lngE 8 95 = some (8, 95, (-1), 980) := by decide +kernel
theorem le_8_97 : lngE 8 97 = some (8, 97, 7, 981) := by decide +kernel
theorem le_8_99 : lngE 8 99 = some (8, 99, 5, 967) := by decide +kernel
theorem le_8_146 : lngE 8 146 = some (8, 146, 6, 1017) := by decide +kernel
theorem le_8_170 : lngE 8 170 = some (8, 170, 2, 1110) := by decide +kernel
theorem le_8_172 : lngE 8 172 = some (8, 172, 100, 1111) := by decide +kernel
theorem le_8_174 : lngE 8 174 = some (8, 174, 8, 1116) := by decide +kernel
theorem le_8_190 : lngE 8 190 = some (8, 190, 4, 1158) := by decide +kernel
theorem le_8_201 : lngE 8 201 = some (8, 201, 60, 1198) := by decide +kernel
theorem le_8_218 : lngE 8 218 = some (8, 218, 97, 1247) := by decide +kernel
theorem le_8_220 : lngE 8 220 = some (8, 220, 122, 1248) := by decide +kernel
theorem le_8_222 : lngE 8 222 = some (8, 222, 48, 1253) := by decide +kernel
theorem le_8_224 : lngE 8 224 = some (8, 224, 57, 1254) := by decide +kernel
theorem le_8_312 : lngE 8 312 = some (8, 312, 3, 1317) := by decide +kernel
theorem le_8_320 : lngE 8 320 = some (8, 320, (-99999), 1325) := by decide +kernel
theorem le_8_322 : lngE 8 322 = some (8, 322, 99999, 1326) := by decide +kernel
theorem le_8_333 : lngE 8 333 = some (8, 333, 30, 1374) := by decide +kernel
theorem se_2_48 : strE 2 48 = some (2, 48, 0, 612) := by decide +kernel
theorem se_2_54 : strE 2 54 = some (2, 54, 1, 665) := by decide +kernel
theorem se_2_56 : strE 2 56 = some (2, 56, 2, 666) := by decide +kernel
theorem se_2_87 : strE 2 87 = some (2, 87, 3, 764) := by decide +kernel
theorem se_2_89 : strE 2 89 = some (2, 89, 4, 765) := by decide +kernel
theorem se_2_91 : strE 2 91 = some (2, 91, 5, 766) := by decide +kernel
theorem se_2_93 : strE 2 93 = some (2, 93, 6, 767) := by decide +kernel
theorem se_2_95 : strE 2 95 = some (2, 95, 7, 768) := by decide +kernel
theorem se_2_130 : strE 2 130 = some (2, 130, 8, 695) := by decide +kernel
theorem se_2_132 : strE 2 132 = some (2, 132, 9, 696) := by decide +kernel
theorem se_2_134 : strE 2 134 = some (2, 134, 10, 697) := by decide +kernel
theorem fe_1_11 : fldE 1 11 = some (1, 11, 0, 0, 110) := by decide +kernel
theorem fe_1_17 : fldE 1 17 = some (1, 17, 0, 1, 112) := by decide +kernel
theorem fe_1_22 : fldE 1 22 = some (1, 22, 4, 1, 92) := by decide +kernel
theorem fe_1_26 : fldE 1 26 = some (1, 26, 4, 0, 90) := by decide +kernel
theorem fe_2_9 : fldE 2 9 = some (2, 9, 1, 0, 124) := by decide +kernel
theorem fe_2_15 : fldE 2 15 = some (2, 15, 1, 1, 125) := by decide +kernel
theorem fe_2_19 : fldE 2 19 = some (2, 19, 1, 2, 127) := by decide +kernel
theorem fe_2_22 : fldE 2 22 = some (2, 22, 1, 3, 128) := by decide +kernel
theorem fe_2_25 : fldE 2 25 = some (2, 25, 1, 4, 129) := by decide +kernel
theorem fe_2_28 : fldE 2 28 = some (2, 28, 1, 5, 130) := by decide +kernel
theorem fe_2_31 : fldE 2 31 = some (2, 31, 1, 6, 131) := by decide +kernel
theorem fe_2_34 : fldE 2 34 = some (2, 34, 1, 7, 132) := by decide +kernel
theorem fe_2_37 : fldE 2 37 = some (2, 37, 4, 1, 93) := by decide +kernel
theorem fe_2_42 : fldE 2 42 = some (2, 42, 4, 3, 98) := by decide +kernel
theorem fe_2_61 : fldE 2 61 = some (2, 61, 4, 2, 95) := by decide +kernel
theorem fe_3_9 : fldE 3 9 = some (3, 9, 2, 0, 238) := by decide +kernel
theorem fe_3_15 : fldE 3 15 = some (3, 15, 2, 1, 240) := by decide +kernel
theorem fe_3_19 : fldE 3 19 = some (3, 19, 2, 2, 242) := by decide +kernel
theorem fe_4_10 : fldE 4 10 = some (4, 10, 3, 0, 258) := by decide +kernel
theorem fe_4_16 : fldE 4 16 = some (4, 16, 3, 1, 260) := by decide +kernel
theorem fe_4_20 : fldE 4 20 = some (4, 20, 3, 2, 262) := by decide +kernel
theorem fe_4_23 : fldE 4 23 = some (4, 23, 3, 3, 264) := by decide +kernel
theorem fe_4_26 : fldE 4 26 = some (4, 26, 3, 4, 266) := by decide +kernel
theorem fe_5_9 : fldE 5 9 = some (5, 9, 4, 0, 89) := by decide +kernel
theorem fe_5_15 : fldE 5 15 = some (5, 15, 4, 1, 91) := by decide +kernel
theorem fe_5_19 : fldE 5 19 = some (5, 19, 4, 2, 94) := by decide +kernel
theorem fe_5_22 : fldE 5 22 = some (5, 22, 4, 3, 97) := by decide +kernel
theorem fe_6_9 : fldE 6 9 = some (6, 9, 5, 1, 158) := by decide +kernel
theorem fe_6_15 : fldE 6 15 = some (6, 15, 5, 2, 160) := by decide +kernel
theorem fe_6_18 : fldE 6 18 = some (6, 18, 5, 3, 162) := by decide +kernel
theorem fe_6_21 : fldE 6 21 = some (6, 21, 5, 4, 164) := by decide +kernel
theorem fe_6_24 : fldE 6 24 = some (6, 24, 5, 5, 166) := by decide +kernel
theorem fe_6_27 : fldE 6 27 = some (6, 27, 5, 6, 168) := by decide +kernel
theorem fe_6_30 : fldE 6 30 = some (6, 30, 5, 7, 170) := by decide +kernel
theorem fe_6_33 : fldE 6 33 = some (6, 33, 5, 8, 172) := by decide +kernel
theorem fe_6_36 : fldE 6 36 = some (6, 36, 5, 9, 174) := by decide +kernel
theorem fe_6_39 : fldE 6 39 = some (6, 39, 5, 10, 176) := by decide +kernel
theorem fe_6_43 : fldE 6 43 = some (6, 43, 5, 11, 178) := by decide +kernel
theorem fe_6_46 : fldE 6 46 = some (6, 46, 5, 12, 180) := by decide +kernel
theorem fe_6_49 : fldE 6 49 = some (6, 49, 5, 13, 182) := by decide +kernel
theorem fe_6_52 : fldE 6 52 = some (6, 52, 5, 14, 184) := by decide +kernel
theorem fe_6_55 : fldE 6 55 = some (6, 55, 5, 15, 186) := by decide +kernel
theorem fe_6_58 : fldE 6 58 = some (6, 58, 5, 16, 188) := by decide +kernel
theorem fe_6_61 : fldE 6 61 = some (6, 61, 5, 17, 190) := by decide +kernel
theorem fe_6_64 : fldE 6 64 = some (6, 64, 5, 0, 157) := by decide +kernel
theorem fe_7_10 : fldE 7 10 = some (7, 10, 6, 0, 279) := by decide +kernel
theorem fe_7_19 : fldE 7 19 = some (7, 19, 6, 1, 280) := by decide +kernel
theorem fe_7_28 : fldE 7 28 = some (7, 28, 6, 2, 281) := by decide +kernel
theorem fe_7_32 : fldE 7 32 = some (7, 32, 6, 3, 282) := by decide +kernel
theorem fe_7_35 : fldE 7 35 = some (7, 35, 6, 4, 283) := by decide +kernel
theorem fe_7_40 : fldE 7 40 = some (7, 40, 6, 5, 284) := by decide +kernel
theorem fe_7_46 : fldE 7 46 = some (7, 46, 6, 6, 285) := by decide +kernel
theorem fe_7_50 : fldE 7 50 = some (7, 50, 6, 7, 286) := by decide +kernel
theorem fe_7_54 : fldE 7 54 = some (7, 54, 6, 8, 287) := by decide +kernel
theorem fe_7_57 : fldE 7 57 = some (7, 57, 6, 9, 288) := by decide +kernel
theorem fe_7_61 : fldE 7 61 = some (7, 61, 6, 10, 289) := by decide +kernel
theorem fe_7_81 : fldE 7 81 = some (7, 81, 5, 10, 177) := by decide +kernel
theorem fe_7_92 : fldE 7 92 = some (7, 92, 5, 1, 159) := by decide +kernel
theorem fe_7_95 : fldE 7 95 = some (7, 95, 5, 2, 161) := by decide +kernel
theorem fe_7_98 : fldE 7 98 = some (7, 98, 5, 3, 163) := by decide +kernel
theorem fe_7_101 : fldE 7 101 = some (7, 101, 5, 4, 165) := by decide +kernel
theorem fe_7_104 : fldE 7 104 = some (7, 104, 5, 5, 167) := by decide +kernel
theorem fe_7_128 : fldE 7 128 = some (7, 128, 5, 7, 171) := by decide +kernel
theorem fe_7_131 : fldE 7 131 = some (7, 131, 5, 11, 179) := by decide +kernel
theorem fe_7_135 : fldE 7 135 = some (7, 135, 5, 8, 173) := by decide +kernel
theorem fe_7_147 : fldE 7 147 = some (7, 147, 5, 16, 189) := by decide +kernel
theorem fe_7_156 : fldE 7 156 = some (7, 156, 5, 6, 169) := by decide +kernel
theorem fe_7_162 : fldE 7 162 = some (7, 162, 5, 12, 181) := by decide +kernel
theorem fe_7_165 : fldE 7 165 = some (7, 165, 5, 15, 187) := by decide +kernel
theorem fe_7_172 : fldE 7 172 = some (7, 172, 5, 13, 183) := by decide +kernel
theorem fe_7_175 : fldE 7 175 = some (7, 175, 5, 14, 185) := by decide +kernel
theorem fe_7_197 : fldE 7 197 = some (7, 197, 2, 1, 241) := by decide +kernel
theorem fe_7_205 : fldE 7 205 = some (7, 205, 5, 9, 175) := by decide +kernel
theorem fe_7_211 : fldE 7 211 = some (7, 211, 1, 1, 126) := by decide +kernel
theorem fe_7_217 : fldE 7 217 = some (7, 217, 5, 17, 191) := by decide +kernel
theorem fe_7_220 : fldE 7 220 = some (7, 220, 0, 0, 111) := by decide +kernel
theorem fe_7_227 : fldE 7 227 = some (7, 227, 4, 2, 96) := by decide +kernel
theorem fe_7_232 : fldE 7 232 = some (7, 232, 4, 3, 99) := by decide +kernel
theorem fe_7_242 : fldE 7 242 = some (7, 242, 2, 2, 243) := by decide +kernel
theorem fe_7_246 : fldE 7 246 = some (7, 246, 2, 0, 239) := by decide +kernel
theorem fe_7_263 : fldE 7 263 = some (7, 263, 3, 1, 261) := by decide +kernel
theorem fe_7_266 : fldE 7 266 = some (7, 266, 3, 2, 263) := by decide +kernel
theorem fe_7_269 : fldE 7 269 = some (7, 269, 3, 3, 265) := by decide +kernel
theorem fe_7_272 : fldE 7 272 = some (7, 272, 3, 0, 259) := by decide +kernel
theorem fe_7_278 : fldE 7 278 = some (7, 278, 3, 4, 267) := by decide +kernel
theorem fe_8_7 : fldE 8 7 = some (8, 7, 7, 0, 866) := by decide +kernel
theorem fe_8_13 : fldE 8 13 = some (8, 13, 7, 1, 867) := by decide +kernel
theorem fe_8_16 : fldE 8 16 = some (8, 16, 7, 2, 868) := by decide +kernel
theorem fe_8_19 : fldE 8 19 = some (8, 19, 7, 4, 870) := by decide +kernel
theorem fe_8_22 : fldE 8 22 = some (8, 22, 7, 5, 871) := by decide +kernel
theorem fe_8_25 : fldE 8 25 = some (8, 25, 7, 6, 872) := by decide +kernel
theorem fe_8_28 : fldE 8 28 = some (8, 28, 7, 7, 873) := by decide +kernel
theorem fe_8_31 : fldE 8 31 = some (8, 31, 7, 8, 874) := by decide +kernel
theorem fe_8_34 : fldE 8 34 = some (8, 34, 7, 9, 875) := by decide +kernel
theorem fe_8_37 : fldE 8 37 = some (8, 37, 7, 10, 876) := by decide +kernel
theorem fe_8_40 : fldE 8 40 = some (8, 40, 7, 11, 877) := by decide +kernel
theorem fe_8_43 : fldE 8 43 = some (8, 43, 7, 12, 878) := by decide +kernel
theorem fe_8_46 : fldE 8 46 = some (8, 46, 7, 13, 879) := by decide +kernel
theorem fe_8_49 : fldE 8 49 = some (8, 49, 7, 14, 880) := by decide +kernel
theorem fe_8_52 : fldE 8 52 = some (8, 52, 7, 26, 892) := by decide +kernel
theorem fe_8_55 : fldE 8 55 = some (8, 55, 7, 27, 893) := by decide +kernel
theorem fe_8_58 : fldE 8 58 = some (8, 58, 7, 28, 894) := by decide +kernel
theorem fe_8_61 : fldE 8 61 = some (8, 61, 7, 29, 895) := by decide +kernel
theorem fe_8_64 : fldE 8 64 = some (8, 64, 7, 31, 897) := by decide +kernel
theorem fe_8_214 : fldE 8 214 = some (8, 214, 7, 15, 881) := by decide +kernel
theorem fe_8_226 : fldE 8 226 = some (8, 226, 7, 17, 883) := by decide +kernel
theorem fe_8_229 : fldE 8 229 = some (8, 229, 7, 18, 884) := by decide +kernel
theorem fe_8_232 : fldE 8 232 = some (8, 232, 7, 16, 882) := by decide +kernel
theorem fe_8_238 : fldE 8 238 = some (8, 238, 7, 20, 886) := by decide +kernel
theorem fe_8_244 : fldE 8 244 = some (8, 244, 7, 19, 885) := by decide +kernel
theorem fe_8_251 : fldE 8 251 = some (8, 251, 7, 24, 890) := by decide +kernel
theorem fe_8_254 : fldE 8 254 = some (8, 254, 7, 23, 889) := by decide +kernel
theorem fe_8_282 : fldE 8 282 = some (8, 282, 7, 25, 891) := by decide +kernel
theorem fe_8_288 : fldE 8 288 = some (8, 288, 7, 22, 888) := by decide +kernel
theorem fe_8_291 : fldE 8 291 = some (8, 291, 7, 21, 887) := by decide +kernel
theorem fe_8_330 : fldE 8 330 = some (8, 330, 7, 30, 896) := by decide +kernel
theorem fe_8_335 : fldE 8 335 = some (8, 335, 7, 3, 869) := by decide +kernel
theorem he_9_9 : sfdE 9 9 = some (9, 9, 0, 1391) := by decide +kernel
theorem he_9_15 : sfdE 9 15 = some (9, 15, 1, 1392) := by decide +kernel
theorem ge_0_9 : gstE 0 9 = some (0, 9, 0, 404) := by decide +kernel
theorem ge_9_38 : gstE 9 38 = some (9, 38, 1, 625) := by decide +kernel
theorem ge_9_1053 : gstE 9 1053 = some (9, 1053, 2, 641) := by decide +kernel
theorem ae_3_22 : acpE 3 22 = some (3, 22, 823) := by decide +kernel
theorem ae_6_68 : acpE 6 68 = some (6, 68, 517) := by decide +kernel
theorem ae_7_257 : acpE 7 257 = some (7, 257, 814) := by decide +kernel
theorem xe_2_72 : matE 2 72 = some (2, 72, 1, 611) := by decide +kernel
theorem xe_6_95 : matE 6 95 = some (6, 95, 0, 362) := by decide +kernel
theorem xe_6_107 : matE 6 107 = some (6, 107, 2, 369) := by decide +kernel
theorem xe_6_116 : matE 6 116 = some (6, 116, 1, 379) := by decide +kernel
theorem xe_7_138 : matE 7 138 = some (7, 138, 1, 440) := by decide +kernel
theorem xe_7_284 : matE 7 284 = some (7, 284, 0, 491) := by decide +kernel
theorem xe_7_291 : matE 7 291 = some (7, 291, 2, 573) := by decide +kernel
theorem xe_10_38 : matE 10 38 = some (10, 38, 1, 714) := by decide +kernel
theorem xe_10_92 : matE 10 92 = some (10, 92, 0, 713) := by decide +kernel
theorem ne_1_29 : mthE 1 29 = some (1, 29, 6, 0, 3, 376, 377, 0, 52, 378) ∧ acpE 1 29 = none ∧ matE 1 29 = none ∧ ((0 : Nat) = 0 ∨ (0 : Nat) = 3) := ⟨rfl, by decide +kernel, by decide +kernel, by decide⟩
theorem ne_2_45 : mthE 2 45 = some (2, 45, 10, 1, 0, 603, 604, 605, 54, 606) ∧ (1 : Nat) = 1 := ⟨rfl, rfl⟩
theorem ne_2_50 : mthE 2 50 = some (2, 50, 12, 1, 1, 613, 614, 615, 54, 616) ∧ (1 : Nat) = 1 := ⟨rfl, rfl⟩
theorem ne_2_58 : mthE 2 58 = some (2, 58, 14, 1, 0, 667, 668, 669, 54, 670) ∧ (1 : Nat) = 1 := ⟨rfl, rfl⟩
theorem ne_2_64 : mthE 2 64 = some (2, 64, 17, 1, 2, 671, 673, 4, 54, 674) ∧ (1 : Nat) = 1 := ⟨rfl, rfl⟩
theorem ne_2_68 : mthE 2 68 = some (2, 68, 11, 1, 1, 607, 608, 609, 54, 610) ∧ (1 : Nat) = 1 := ⟨rfl, rfl⟩
theorem ne_2_78 : mthE 2 78 = some (2, 78, 211, 1, 0, 617, 618, 619, 63, 620) ∧ (1 : Nat) = 1 := ⟨rfl, rfl⟩
theorem ne_2_83 : mthE 2 83 = some (2, 83, 212, 1, 1, 627, 628, 629, 63, 630) ∧ (1 : Nat) = 1 := ⟨rfl, rfl⟩
theorem ne_2_97 : mthE 2 97 = some (2, 97, 15, 0, 1, 761, 762, 0, 54, 763) ∧ acpE 2 97 = none ∧ matE 2 97 = none ∧ ((0 : Nat) = 0 ∨ (0 : Nat) = 3) := ⟨rfl, by decide +kernel, by decide +kernel, by decide⟩
theorem ne_2_101 : mthE 2 101 = some (2, 101, 213, 1, 1, 698, 699, 700, 63, 701) ∧ (1 : Nat) = 1 := ⟨rfl, rfl⟩
theorem ne_2_104 : mthE 2 104 = some (2, 104, 18, 1, 1, 675, 677, 5, 54, 678) ∧ (1 : Nat) = 1 := ⟨rfl, rfl⟩
theorem ne_2_108 : mthE 2 108 = some (2, 108, 16, 1, 1, 757, 758, 759, 54, 760) ∧ (1 : Nat) = 1 := ⟨rfl, rfl⟩
theorem ne_2_112 : mthE 2 112 = some (2, 112, 28, 1, 1, 687, 688, 689, 53, 690) ∧ (1 : Nat) = 1 := ⟨rfl, rfl⟩
theorem ne_2_116 : mthE 2 116 = some (2, 116, 20, 1, 0, 679, 680, 681, 54, 682) ∧ (1 : Nat) = 1 := ⟨rfl, rfl⟩
theorem ne_2_119 : mthE 2 119 = some (2, 119, 19, 1, 2, 683, 684, 685, 54, 686) ∧ (1 : Nat) = 1 := ⟨rfl, rfl⟩
theorem ne_2_123 : mthE 2 123 = some (2, 123, 21, 1, 1, 691, 692, 693, 54, 694) ∧ (1 : Nat) = 1 := ⟨rfl, rfl⟩
theorem ne_2_126 : mthE 2 126 = some (2, 126, 13, 1, 1, 753, 754, 755, 54, 756) ∧ (1 : Nat) = 1 := ⟨rfl, rfl⟩
theorem ne_6_75 : mthE 6 75 = some (6, 75, 37, 1, 0, 445, 446, 447, 55, 448) ∧ (1 : Nat) = 1 := ⟨rfl, rfl⟩
theorem ne_6_79 : mthE 6 79 = some (6, 79, 39, 1, 1, 450, 451, 452, 55, 453) ∧ (1 : Nat) = 1 := ⟨rfl, rfl⟩
theorem ne_6_83 : mthE 6 83 = some (6, 83, 33, 1, 5, 455, 331, 332, 55, 333) ∧ (1 : Nat) = 1 := ⟨rfl, rfl⟩
theorem ne_6_87 : mthE 6 87 = some (6, 87, 32, 1, 1, 454, 325, 326, 55, 327) ∧ (1 : Nat) = 1 := ⟨rfl, rfl⟩
theorem ne_6_91 : mthE 6 91 = some (6, 91, 41, 1, 3, 358, 359, 360, 55, 361) ∧ (1 : Nat) = 1 := ⟨rfl, rfl⟩
theorem ne_6_101 : mthE 6 101 = some (6, 101, 40, 1, 1, 354, 355, 356, 55, 357) ∧ (1 : Nat) = 1 := ⟨rfl, rfl⟩
theorem ne_6_104 : mthE 6 104 = some (6, 104, 43, 1, 2, 365, 366, 367, 55, 368) ∧ (1 : Nat) = 1 := ⟨rfl, rfl⟩
theorem ne_6_110 : mthE 6 110 = some (6, 110, 5, 1, 4, 372, 373, 374, 52, 375) ∧ (1 : Nat) = 1 := ⟨rfl, rfl⟩
theorem ne_6_119 : mthE 6 119 = some (6, 119, 2, 0, 2, 382, 383, 0, 60, 384) ∧ acpE 6 119 = none ∧ matE 6 119 = none ∧ ((0 : Nat) = 0 ∨ (0 : Nat) = 3) := ⟨rfl, by decide +kernel, by decide +kernel, by decide⟩
theorem ne_6_124 : mthE 6 124 = some (6, 124, 42, 1, 1, 350, 351, 352, 55, 353) ∧ (1 : Nat) = 1 := ⟨rfl, rfl⟩
theorem ne_6_127 : mthE 6 127 = some (6, 127, 44, 1, 0, 346, 347, 348, 55, 349) ∧ (1 : Nat) = 1 := ⟨rfl, rfl⟩
theorem ne_6_130 : mthE 6 130 = some (6, 130, 210, 0, 1, 385, 386, 0, 61, 387) ∧ acpE 6 130 = none ∧ matE 6 130 = none ∧ ((0 : Nat) = 0 ∨ (0 : Nat) = 3) := ⟨rfl, by decide +kernel, by decide +kernel, by decide⟩
theorem ne_6_135 : mthE 6 135 = some (6, 135, 47, 1, 0, 483, 484, 485, 55, 486) ∧ (1 : Nat) = 1 := ⟨rfl, rfl⟩
theorem ne_6_138 : mthE 6 138 = some (6, 138, 48, 1, 0, 492, 493, 494, 55, 495) ∧ (1 : Nat) = 1 := ⟨rfl, rfl⟩
theorem ne_6_141 : mthE 6 141 = some (6, 141, 49, 1, 0, 497, 498, 499, 55, 500) ∧ (1 : Nat) = 1 := ⟨rfl, rfl⟩
theorem ne_6_144 : mthE 6 144 = some (6, 144, 1, 0, 2, 487, 392, 0, 60, 393) ∧ acpE 6 144 = none ∧ matE 6 144 = none ∧ ((0 : Nat) = 0 ∨ (0 : Nat) = 3) := ⟨rfl, by decide +kernel, by decide +kernel, by decide⟩
theorem ne_6_147 : mthE 6 147 = some (6, 147, 98, 3, 3, 488, 489, 0, 51, 490) ∧ acpE 6 147 = none ∧ matE 6 147 = none ∧ ((3 : Nat) = 0 ∨ (3 : Nat) = 3) := ⟨rfl, by decide +kernel, by decide +kernel, by decide⟩
theorem ne_6_150 : mthE 6 150 = some (6, 150, 34, 1, 2, 496, 420, 421, 55, 422) ∧ (1 : Nat) = 1 := ⟨rfl, rfl⟩
theorem ne_7_67 : mthE 7 67 = some (7, 67, 97, 0, 3, 317, 318, 0, 51, 319) ∧ acpE 7 67 = none ∧ matE 7 67 = none ∧ ((0 : Nat) = 0 ∨ (0 : Nat) = 3) := ⟨rfl, by decide +kernel, by decide +kernel, by decide⟩
theorem ne_7_71 : mthE 7 71 = some (7, 71, 99, 0, 2, 320, 321, 0, 51, 322) ∧ acpE 7 71 = none ∧ matE 7 71 = none ∧ ((0 : Nat) = 0 ∨ (0 : Nat) = 3) := ⟨rfl, by decide +kernel, by decide +kernel, by decide⟩
theorem ne_7_76 : mthE 7 76 = some (7, 76, 32, 1, 1, 324, 325, 326, 55, 327) ∧ (1 : Nat) = 1 := ⟨rfl, rfl⟩
theorem ne_7_85 : mthE 7 85 = some (7, 85, 33, 1, 5, 330, 331, 332, 55, 333) ∧ (1 : Nat) = 1 := ⟨rfl, rfl⟩
theorem ne_7_89 : mthE 7 89 = some (7, 89, 31, 1, 1, 338, 339, 340, 55, 341) ∧ (1 : Nat) = 1 := ⟨rfl, rfl⟩
theorem ne_7_107 : mthE 7 107 = some (7, 107, 45, 1, 1, 342, 343, 344, 55, 345) ∧ (1 : Nat) = 1 := ⟨rfl, rfl⟩
theorem ne_7_111 : mthE 7 111 = some (7, 111, 1, 0, 2, 391, 392, 0, 60, 393) ∧ acpE 7 111 = none ∧ matE 7 111 = none ∧ ((0 : Nat) = 0 ∨ (0 : Nat) = 3) := ⟨rfl, by decide +kernel, by decide +kernel, by decide⟩
theorem ne_7_117 : mthE 7 117 = some (7, 117, 3, 0, 2, 394, 395, 0, 60, 396) ∧ acpE 7 117 = none ∧ matE 7 117 = none ∧ ((0 : Nat) = 0 ∨ (0 : Nat) = 3) := ⟨rfl, by decide +kernel, by decide +kernel, by decide⟩
theorem ne_7_120 : mthE 7 120 = some (7, 120, 0, 0, 2, 401, 402, 0, 60, 403) ∧ acpE 7 120 = none ∧ matE 7 120 = none ∧ ((0 : Nat) = 0 ∨ (0 : Nat) = 3) := ⟨rfl, by decide +kernel, by decide +kernel, by decide⟩
theorem ne_7_124 : mthE 7 124 = some (7, 124, 34, 1, 2, 419, 420, 421, 55, 422) ∧ (1 : Nat) = 1 := ⟨rfl, rfl⟩
theorem ne_7_143 : mthE 7 143 = some (7, 143, 38, 1, 0, 441, 442, 443, 55, 444) ∧ (1 : Nat) = 1 := ⟨rfl, rfl⟩
theorem ne_7_150 : mthE 7 150 = some (7, 150, 42, 1, 1, 464, 351, 352, 55, 353) ∧ (1 : Nat) = 1 := ⟨rfl, rfl⟩
theorem ne_7_153 : mthE 7 153 = some (7, 153, 44, 1, 0, 469, 347, 348, 55, 349) ∧ (1 : Nat) = 1 := ⟨rfl, rfl⟩
theorem ne_7_159 : mthE 7 159 = some (7, 159, 40, 1, 1, 474, 355, 356, 55, 357) ∧ (1 : Nat) = 1 := ⟨rfl, rfl⟩
theorem ne_7_168 : mthE 7 168 = some (7, 168, 46, 1, 1, 479, 480, 481, 55, 482) ∧ (1 : Nat) = 1 := ⟨rfl, rfl⟩
theorem ne_7_178 : mthE 7 178 = some (7, 178, 36, 1, 0, 505, 506, 507, 55, 508) ∧ (1 : Nat) = 1 := ⟨rfl, rfl⟩
theorem ne_7_182 : mthE 7 182 = some (7, 182, 30, 1, 1, 513, 514, 515, 55, 516) ∧ (1 : Nat) = 1 := ⟨rfl, rfl⟩
theorem ne_7_186 : mthE 7 186 = some (7, 186, 101, 1, 3, 532, 534, 0, 51, 535) ∧ (1 : Nat) = 1 := ⟨rfl, rfl⟩
theorem ne_7_190 : mthE 7 190 = some (7, 190, 100, 1, 3, 544, 546, 1, 51, 547) ∧ (1 : Nat) = 1 := ⟨rfl, rfl⟩
theorem ne_7_193 : mthE 7 193 = some (7, 193, 102, 1, 4, 548, 550, 2, 51, 551) ∧ (1 : Nat) = 1 := ⟨rfl, rfl⟩
theorem ne_7_201 : mthE 7 201 = some (7, 201, 103, 1, 1, 569, 571, 3, 51, 572) ∧ (1 : Nat) = 1 := ⟨rfl, rfl⟩
theorem ne_7_208 : mthE 7 208 = some (7, 208, 5, 1, 4, 578, 373, 374, 52, 375) ∧ (1 : Nat) = 1 := ⟨rfl, rfl⟩
theorem ne_7_214 : mthE 7 214 = some (7, 214, 8, 1, 1, 587, 588, 589, 54, 590) ∧ (1 : Nat) = 1 := ⟨rfl, rfl⟩
theorem ne_7_223 : mthE 7 223 = some (7, 223, 9, 1, 1, 599, 600, 601, 54, 602) ∧ (1 : Nat) = 1 := ⟨rfl, rfl⟩
theorem ne_7_236 : mthE 7 236 = some (7, 236, 23, 1, 2, 782, 783, 784, 56, 785) ∧ (1 : Nat) = 1 := ⟨rfl, rfl⟩
theorem ne_7_239 : mthE 7 239 = some (7, 239, 104, 1, 1, 790, 792, 6, 51, 793) ∧ (1 : Nat) = 1 := ⟨rfl, rfl⟩
theorem ne_7_251 : mthE 7 251 = some (7, 251, 98, 0, 3, 801, 489, 0, 51, 490) ∧ acpE 7 251 = none ∧ matE 7 251 = none ∧ ((0 : Nat) = 0 ∨ (0 : Nat) = 3) := ⟨rfl, by decide +kernel, by decide +kernel, by decide⟩
theorem ne_7_254 : mthE 7 254 = some (7, 254, 25, 1, 2, 810, 811, 812, 56, 813) ∧ (1 : Nat) = 1 := ⟨rfl, rfl⟩
theorem ne_7_276 : mthE 7 276 = some (7, 276, 24, 1, 1, 819, 820, 821, 56, 822) ∧ (1 : Nat) = 1 := ⟨rfl, rfl⟩
theorem ne_7_281 : mthE 7 281 = some (7, 281, 105, 1, 2, 828, 830, 7, 51, 831) ∧ (1 : Nat) = 1 := ⟨rfl, rfl⟩
theorem ne_7_287 : mthE 7 287 = some (7, 287, 35, 1, 3, 552, 553, 554, 55, 555) ∧ (1 : Nat) = 1 := ⟨rfl, rfl⟩
theorem ne_8_68 : mthE 8 68 = some (8, 68, 107, 0, 3, 968, 969, 0, 58, 970) ∧ acpE 8 68 = none ∧ matE 8 68 = none ∧ ((0 : Nat) = 0 ∨ (0 : Nat) = 3) := ⟨rfl, by decide +kernel, by decide +kernel, by decide⟩
theorem ne_8_75 : mthE 8 75 = some (8, 75, 113, 1, 2, 991, 993, 10, 58, 994) ∧ (1 : Nat) = 1 := ⟨rfl, rfl⟩
theorem ne_8_79 : mthE 8 79 = some (8, 79, 121, 1, 1, 987, 989, 9, 58, 990) ∧ (1 : Nat) = 1 := ⟨rfl, rfl⟩
theorem ne_8_83 : mthE 8 83 = some (8, 83, 120, 1, 1, 995, 997, 11, 58, 998) ∧ (1 : Nat) = 1 := ⟨rfl, rfl⟩
theorem ne_8_87 : mthE 8 87 = some (8, 87, 114, 1, 3, 1005, 1007, 13, 58, 1008) ∧ (1 : Nat) = 1 := ⟨rfl, rfl⟩
theorem ne_8_101 : mthE 8 101 = some (8, 101, 119, 0, 1, 971, 972, 0, 58, 973) ∧ acpE 8 101 = none ∧ matE 8 101 = none ∧ ((0 : Nat) = 0 ∨ (0 : Nat) = 3) := ⟨rfl, by decide +kernel, by decide +kernel, by decide⟩
theorem ne_8_104 : mthE 8 104 = some (8, 104, 124, 0, 3, 975, 976, 0, 58, 977) ∧ acpE 8 104 = none ∧ matE 8 104 = none ∧ ((0 : Nat) = 0 ∨ (0 : Nat) = 3) := ⟨rfl, by decide +kernel, by decide +kernel, by decide⟩
theorem ne_8_109 : mthE 8 109 = some (8, 109, 122, 1, 1, 983, 985, 8, 58, 986) ∧ (1 : Nat) = 1 := ⟨rfl, rfl⟩
theorem ne_8_114 : mthE 8 114 = some (8, 114, 123, 1, 5, 1001, 1003, 12, 58, 1004) ∧ (1 : Nat) = 1 := ⟨rfl, rfl⟩
theorem ne_8_118 : mthE 8 118 = some (8, 118, 128, 1, 3, 1030, 1032, 18, 58, 1033) ∧ (1 : Nat) = 1 := ⟨rfl, rfl⟩
theorem ne_8_121 : mthE 8 121 = some (8, 121, 187, 1, 1, 1041, 1043, 20, 58, 1044) ∧ (1 : Nat) = 1 := ⟨rfl, rfl⟩
theorem ne_8_124 : mthE 8 124 = some (8, 124, 190, 1, 1, 1049, 1051, 22, 58, 1052) ∧ (1 : Nat) = 1 := ⟨rfl, rfl⟩
theorem ne_8_127 : mthE 8 127 = some (8, 127, 109, 0, 2, 1056, 1057, 0, 58, 1058) ∧ acpE 8 127 = none ∧ matE 8 127 = none ∧ ((0 : Nat) = 0 ∨ (0 : Nat) = 3) := ⟨rfl, by decide +kernel, by decide +kernel, by decide⟩
theorem ne_8_130 : mthE 8 130 = some (8, 130, 129, 1, 2, 1026, 1028, 17, 58, 1029) ∧ (1 : Nat) = 1 := ⟨rfl, rfl⟩
theorem ne_8_134 : mthE 8 134 = some (8, 134, 110, 0, 2, 1034, 1035, 0, 58, 1036) ∧ acpE 8 134 = none ∧ matE 8 134 = none ∧ ((0 : Nat) = 0 ∨ (0 : Nat) = 3) := ⟨rfl, by decide +kernel, by decide +kernel, by decide⟩
theorem ne_8_137 : mthE 8 137 = some (8, 137, 130, 1, 2, 1037, 1039, 19, 58, 1040) ∧ (1 : Nat) = 1 := ⟨rfl, rfl⟩
theorem ne_8_140 : mthE 8 140 = some (8, 140, 131, 1, 1, 1022, 1024, 16, 58, 1025) ∧ (1 : Nat) = 1 := ⟨rfl, rfl⟩
theorem ne_8_143 : mthE 8 143 = some (8, 143, 115, 1, 1, 1013, 1015, 14, 58, 1016) ∧ (1 : Nat) = 1 := ⟨rfl, rfl⟩
theorem ne_8_148 : mthE 8 148 = some (8, 148, 132, 1, 1, 1018, 1020, 15, 58, 1021) ∧ (1 : Nat) = 1 := ⟨rfl, rfl⟩
theorem ne_8_151 : mthE 8 151 = some (8, 151, 133, 0, 1, 1059, 1060, 0, 58, 1061) ∧ acpE 8 151 = none ∧ matE 8 151 = none ∧ ((0 : Nat) = 0 ∨ (0 : Nat) = 3) := ⟨rfl, by decide +kernel, by decide +kernel, by decide⟩
theorem ne_8_154 : mthE 8 154 = some (8, 154, 126, 1, 2, 1062, 1064, 23, 58, 1065) ∧ (1 : Nat) = 1 := ⟨rfl, rfl⟩
theorem ne_8_157 : mthE 8 157 = some (8, 157, 127, 1, 1, 1066, 1068, 24, 58, 1069) ∧ (1 : Nat) = 1 := ⟨rfl, rfl⟩
theorem ne_8_160 : mthE 8 160 = some (8, 160, 118, 0, 2, 1074, 1075, 0, 58, 1076) ∧ acpE 8 160 = none ∧ matE 8 160 = none ∧ ((0 : Nat) = 0 ∨ (0 : Nat) = 3) := ⟨rfl, by decide +kernel, by decide +kernel, by decide⟩
theorem ne_8_164 : mthE 8 164 = some (8, 164, 111, 1, 2, 1082, 1084, 25, 58, 1085) ∧ (1 : Nat) = 1 := ⟨rfl, rfl⟩
theorem ne_8_167 : mthE 8 167 = some (8, 167, 108, 0, 1, 1102, 1103, 0, 58, 1104) ∧ acpE 8 167 = none ∧ matE 8 167 = none ∧ ((0 : Nat) = 0 ∨ (0 : Nat) = 3) := ⟨rfl, by decide +kernel, by decide +kernel, by decide⟩
theorem ne_8_176 : mthE 8 176 = some (8, 176, 117, 1, 0, 1117, 1119, 26, 58, 1120) ∧ (1 : Nat) = 1 := ⟨rfl, rfl⟩
theorem ne_8_180 : mthE 8 180 = some (8, 180, 147, 1, 0, 1150, 1152, 29, 58, 1153) ∧ (1 : Nat) = 1 := ⟨rfl, rfl⟩
theorem ne_8_183 : mthE 8 183 = some (8, 183, 148, 1, 0, 1146, 1148, 28, 58, 1149) ∧ (1 : Nat) = 1 := ⟨rfl, rfl⟩
theorem ne_8_186 : mthE 8 186 = some (8, 186, 149, 1, 1, 1142, 1144, 27, 58, 1145) ∧ (1 : Nat) = 1 := ⟨rfl, rfl⟩
theorem ne_8_192 : mthE 8 192 = some (8, 192, 151, 1, 0, 1159, 1161, 30, 58, 1162) ∧ (1 : Nat) = 1 := ⟨rfl, rfl⟩
theorem ne_8_195 : mthE 8 195 = some (8, 195, 153, 1, 0, 1175, 1177, 31, 58, 1178) ∧ (1 : Nat) = 1 := ⟨rfl, rfl⟩
theorem ne_8_198 : mthE 8 198 = some (8, 198, 154, 1, 0, 1179, 1181, 32, 58, 1182) ∧ (1 : Nat) = 1 := ⟨rfl, rfl⟩
theorem ne_8_203 : mthE 8 203 = some (8, 203, 160, 0, 2, 1195, 1196, 0, 58, 1197) ∧ acpE 8 203 = none ∧ matE 8 203 = none ∧ ((0 : Nat) = 0 ∨ (0 : Nat) = 3) := ⟨rfl, by decide +kernel, by decide +kernel, by decide⟩
theorem ne_8_206 : mthE 8 206 = some (8, 206, 161, 1, 6, 1199, 1201, 33, 58, 1202) ∧ (1 : Nat) = 1 := ⟨rfl, rfl⟩
theorem ne_8_210 : mthE 8 210 = some (8, 210, 163, 1, 3, 1207, 1209, 34, 58, 1210) ∧ (1 : Nat) = 1 := ⟨rfl, rfl⟩
theorem ne_8_235 : mthE 8 235 = some (8, 235, 170, 1, 1, 1243, 1245, 37, 58, 1246) ∧ (1 : Nat) = 1 := ⟨rfl, rfl⟩
theorem ne_8_241 : mthE 8 241 = some (8, 241, 171, 1, 1, 1249, 1251, 38, 58, 1252) ∧ (1 : Nat) = 1 := ⟨rfl, rfl⟩
theorem ne_8_247 : mthE 8 247 = some (8, 247, 174, 1, 4, 1259, 1261, 40, 58, 1262) ∧ (1 : Nat) = 1 := ⟨rfl, rfl⟩
theorem ne_8_257 : mthE 8 257 = some (8, 257, 179, 1, 1, 1267, 1269, 42, 58, 1270) ∧ (1 : Nat) = 1 := ⟨rfl, rfl⟩
theorem ne_8_260 : mthE 8 260 = some (8, 260, 173, 1, 1, 1294, 1296, 48, 58, 1297) ∧ (1 : Nat) = 1 := ⟨rfl, rfl⟩
theorem ne_8_263 : mthE 8 263 = some (8, 263, 172, 1, 0, 1239, 1241, 36, 58, 1242) ∧ (1 : Nat) = 1 := ⟨rfl, rfl⟩
theorem ne_8_266 : mthE 8 266 = some (8, 266, 177, 1, 2, 1287, 1289, 47, 58, 1290) ∧ (1 : Nat) = 1 := ⟨rfl, rfl⟩
theorem ne_8_270 : mthE 8 270 = some (8, 270, 180, 1, 1, 1271, 1273, 43, 58, 1274) ∧ (1 : Nat) = 1 := ⟨rfl, rfl⟩
theorem ne_8_273 : mthE 8 273 = some (8, 273, 181, 1, 1, 1275, 1277, 44, 58, 1278) ∧ (1 : Nat) = 1 := ⟨rfl, rfl⟩
theorem ne_8_276 : mthE 8 276 = some (8, 276, 182, 1, 1, 1279, 1281, 45, 58, 1282) ∧ (1 : Nat) = 1 := ⟨rfl, rfl⟩
theorem ne_8_279 : mthE 8 279 = some (8, 279, 183, 1, 1, 1283, 1285, 46, 58, 1286) ∧ (1 : Nat) = 1 := ⟨rfl, rfl⟩
theorem ne_8_285 : mthE 8 285 = some (8, 285, 176, 0, 2, 1291, 1292, 0, 58, 1293) ∧ acpE 8 285 = none ∧ matE 8 285 = none ∧ ((0 : Nat) = 0 ∨ (0 : Nat) = 3) := ⟨rfl, by decide +kernel, by decide +kernel, by decide⟩
theorem ne_8_294 : mthE 8 294 = some (8, 294, 178, 1, 1, 1263, 1265, 41, 58, 1266) ∧ (1 : Nat) = 1 := ⟨rfl, rfl⟩
theorem ne_8_297 : mthE 8 297 = some (8, 297, 112, 1, 1, 1045, 1047, 21, 58, 1048) ∧ (1 : Nat) = 1 := ⟨rfl, rfl⟩
theorem ne_8_300 : mthE 8 300 = some (8, 300, 175, 1, 0, 1255, 1257, 39, 58, 1258) ∧ (1 : Nat) = 1 := ⟨rfl, rfl⟩
theorem ne_8_303 : mthE 8 303 = some (8, 303, 184, 1, 0, 1235, 1237, 35, 58, 1238) ∧ (1 : Nat) = 1 := ⟨rfl, rfl⟩
theorem ne_8_306 : mthE 8 306 = some (8, 306, 116, 1, 1, 1302, 1304, 49, 58, 1305) ∧ (1 : Nat) = 1 := ⟨rfl, rfl⟩
theorem ne_8_309 : mthE 8 309 = some (8, 309, 189, 0, 3, 1053, 1054, 0, 58, 1055) ∧ acpE 8 309 = none ∧ matE 8 309 = none ∧ ((0 : Nat) = 0 ∨ (0 : Nat) = 3) := ⟨rfl, by decide +kernel, by decide +kernel, by decide⟩
theorem ne_8_314 : mthE 8 314 = some (8, 314, 191, 0, 1, 1314, 1315, 0, 58, 1316) ∧ acpE 8 314 = none ∧ matE 8 314 = none ∧ ((0 : Nat) = 0 ∨ (0 : Nat) = 3) := ⟨rfl, by decide +kernel, by decide +kernel, by decide⟩
theorem ne_8_324 : mthE 8 324 = some (8, 324, 196, 1, 2, 1339, 1341, 50, 58, 1342) ∧ (1 : Nat) = 1 := ⟨rfl, rfl⟩
theorem ne_8_327 : mthE 8 327 = some (8, 327, 199, 0, 1, 1351, 1352, 0, 58, 1353) ∧ acpE 8 327 = none ∧ matE 8 327 = none ∧ ((0 : Nat) = 0 ∨ (0 : Nat) = 3) := ⟨rfl, by decide +kernel, by decide +kernel, by decide⟩
theorem ne_8_339 : mthE 8 339 = some (8, 339, 205, 1, 2, 1375, 1377, 51, 58, 1378) ∧ (1 : Nat) = 1 := ⟨rfl, rfl⟩
theorem ne_9_335 : mthE 9 335 = some (9, 335, 215, 1, 0, 621, 622, 623, 63, 624) ∧ (1 : Nat) = 1 := ⟨rfl, rfl⟩
theorem ne_9_492 : mthE 9 492 = some (9, 492, 216, 1, 0, 631, 632, 633, 63, 634) ∧ (1 : Nat) = 1 := ⟨rfl, rfl⟩
theorem ne_9_495 : mthE 9 495 = some (9, 495, 218, 0, 2, 635, 636, 0, 64, 637) ∧ acpE 9 495 = none ∧ matE 9 495 = none ∧ ((0 : Nat) = 0 ∨ (0 : Nat) = 3) := ⟨rfl, by decide +kernel, by decide +kernel, by decide⟩
theorem ne_9_505 : mthE 9 505 = some (9, 505, 211, 1, 0, 706, 618, 619, 63, 620) ∧ (1 : Nat) = 1 := ⟨rfl, rfl⟩
theorem ne_9_633 : mthE 9 633 = some (9, 633, 214, 1, 2, 702, 703, 704, 63, 705) ∧ (1 : Nat) = 1 := ⟨rfl, rfl⟩
theorem ne_9_637 : mthE 9 637 = some (9, 637, 220, 0, 4, 707, 708, 0, 64, 709) ∧ acpE 9 637 = none ∧ matE 9 637 = none ∧ ((0 : Nat) = 0 ∨ (0 : Nat) = 3) := ⟨rfl, by decide +kernel, by decide +kernel, by decide⟩
theorem ne_9_1059 : mthE 9 1059 = some (9, 1059, 222, 0, 3, 643, 644, 0, 65, 645) ∧ acpE 9 1059 = none ∧ matE 9 1059 = none ∧ ((0 : Nat) = 0 ∨ (0 : Nat) = 3) := ⟨rfl, by decide +kernel, by decide +kernel, by decide⟩
theorem ne_10_9 : mthE 10 9 = some (10, 9, 217, 0, 2, 638, 639, 0, 63, 640) ∧ acpE 10 9 = none ∧ matE 10 9 = none ∧ ((0 : Nat) = 0 ∨ (0 : Nat) = 3) := ⟨rfl, by decide +kernel, by decide +kernel, by decide⟩
theorem ne_10_88 : mthE 10 88 = some (10, 88, 219, 0, 1, 710, 711, 0, 64, 712) ∧ acpE 10 88 = none ∧ matE 10 88 = none ∧ ((0 : Nat) = 0 ∨ (0 : Nat) = 3) := ⟨rfl, by decide +kernel, by decide +kernel, by decide⟩
theorem ne_10_95 : mthE 10 95 = some (10, 95, 221, 0, 4, 715, 716, 0, 64, 717) ∧ acpE 10 95 = none ∧ matE 10 95 = none ∧ ((0 : Nat) = 0 ∨ (0 : Nat) = 3) := ⟨rfl, by decide +kernel, by decide +kernel, by decide⟩
theorem ne_14_13 : mthE 14 13 = some (14, 13, 51, 1, 5, 313, 314, 315, 51, 316) ∧ (1 : Nat) = 1 := ⟨rfl, rfl⟩
theorem ne_14_17 : mthE 14 17 = some (14, 17, 125, 1, 5, 963, 964, 965, 58, 966) ∧ (1 : Nat) = 1 := ⟨rfl, rfl⟩
theorem ne_14_18 : mthE 14 18 = some (14, 18, 52, 1, 2, 334, 335, 336, 51, 337) ∧ (1 : Nat) = 1 := ⟨rfl, rfl⟩
theorem ne_14_22 : mthE 14 22 = some (14, 22, 134, 1, 2, 1009, 1010, 1011, 58, 1012) ∧ (1 : Nat) = 1 := ⟨rfl, rfl⟩
theorem ne_14_23 : mthE 14 23 = some (14, 23, 53, 1, 2, 397, 398, 399, 51, 400) ∧ (1 : Nat) = 1 := ⟨rfl, rfl⟩
theorem ne_14_26 : mthE 14 26 = some (14, 26, 135, 1, 2, 1070, 1071, 1072, 58, 1073) ∧ (1 : Nat) = 1 := ⟨rfl, rfl⟩
theorem ne_14_27 : mthE 14 27 = some (14, 27, 54, 1, 2, 407, 408, 409, 51, 410) ∧ (1 : Nat) = 1 := ⟨rfl, rfl⟩
theorem ne_14_30 : mthE 14 30 = some (14, 30, 136, 1, 2, 1078, 1079, 1080, 58, 1081) ∧ (1 : Nat) = 1 := ⟨rfl, rfl⟩
theorem ne_14_31 : mthE 14 31 = some (14, 31, 55, 1, 3, 411, 412, 413, 51, 414) ∧ (1 : Nat) = 1 := ⟨rfl, rfl⟩
theorem ne_14_35 : mthE 14 35 = some (14, 35, 137, 1, 3, 1086, 1087, 1088, 58, 1089) ∧ (1 : Nat) = 1 := ⟨rfl, rfl⟩
theorem ne_14_36 : mthE 14 36 = some (14, 36, 56, 1, 2, 415, 416, 417, 51, 418) ∧ (1 : Nat) = 1 := ⟨rfl, rfl⟩
theorem ne_14_39 : mthE 14 39 = some (14, 39, 138, 1, 2, 1090, 1091, 1092, 58, 1093) ∧ (1 : Nat) = 1 := ⟨rfl, rfl⟩
theorem ne_14_40 : mthE 14 40 = some (14, 40, 57, 1, 2, 423, 424, 425, 51, 426) ∧ (1 : Nat) = 1 := ⟨rfl, rfl⟩
theorem ne_14_43 : mthE 14 43 = some (14, 43, 139, 1, 2, 1094, 1095, 1096, 58, 1097) ∧ (1 : Nat) = 1 := ⟨rfl, rfl⟩
theorem ne_14_44 : mthE 14 44 = some (14, 44, 58, 1, 1, 427, 428, 429, 51, 430) ∧ (1 : Nat) = 1 := ⟨rfl, rfl⟩
theorem ne_14_48 : mthE 14 48 = some (14, 48, 140, 1, 1, 1098, 1099, 1100, 58, 1101) ∧ (1 : Nat) = 1 := ⟨rfl, rfl⟩
theorem ne_14_49 : mthE 14 49 = some (14, 49, 59, 1, 2, 432, 433, 434, 51, 435) ∧ (1 : Nat) = 1 := ⟨rfl, rfl⟩
theorem ne_14_52 : mthE 14 52 = some (14, 52, 141, 1, 2, 1106, 1107, 1108, 58, 1109) ∧ (1 : Nat) = 1 := ⟨rfl, rfl⟩
theorem ne_14_53 : mthE 14 53 = some (14, 53, 60, 1, 1, 436, 437, 438, 51, 439) ∧ (1 : Nat) = 1 := ⟨rfl, rfl⟩
theorem ne_14_56 : mthE 14 56 = some (14, 56, 142, 1, 1, 1112, 1113, 1114, 58, 1115) ∧ (1 : Nat) = 1 := ⟨rfl, rfl⟩
theorem ne_14_57 : mthE 14 57 = some (14, 57, 61, 1, 1, 456, 457, 458, 51, 459) ∧ (1 : Nat) = 1 := ⟨rfl, rfl⟩
theorem ne_14_60 : mthE 14 60 = some (14, 60, 143, 1, 1, 1122, 1123, 1124, 58, 1125) ∧ (1 : Nat) = 1 := ⟨rfl, rfl⟩
theorem ne_14_61 : mthE 14 61 = some (14, 61, 62, 1, 1, 460, 461, 462, 51, 463) ∧ (1 : Nat) = 1 := ⟨rfl, rfl⟩
theorem ne_14_64 : mthE 14 64 = some (14, 64, 144, 1, 1, 1126, 1127, 1128, 58, 1129) ∧ (1 : Nat) = 1 := ⟨rfl, rfl⟩
theorem ne_14_65 : mthE 14 65 = some (14, 65, 63, 1, 1, 465, 466, 467, 51, 468) ∧ (1 : Nat) = 1 := ⟨rfl, rfl⟩
theorem ne_14_68 : mthE 14 68 = some (14, 68, 145, 1, 1, 1130, 1131, 1132, 58, 1133) ∧ (1 : Nat) = 1 := ⟨rfl, rfl⟩
theorem ne_14_69 : mthE 14 69 = some (14, 69, 64, 1, 1, 470, 471, 472, 51, 473) ∧ (1 : Nat) = 1 := ⟨rfl, rfl⟩
theorem ne_14_72 : mthE 14 72 = some (14, 72, 146, 1, 1, 1134, 1135, 1136, 58, 1137) ∧ (1 : Nat) = 1 := ⟨rfl, rfl⟩
theorem ne_14_73 : mthE 14 73 = some (14, 73, 65, 1, 1, 475, 476, 477, 51, 478) ∧ (1 : Nat) = 1 := ⟨rfl, rfl⟩
theorem ne_14_76 : mthE 14 76 = some (14, 76, 150, 1, 1, 1138, 1139, 1140, 58, 1141) ∧ (1 : Nat) = 1 := ⟨rfl, rfl⟩
theorem ne_14_77 : mthE 14 77 = some (14, 77, 66, 1, 1, 501, 502, 503, 51, 504) ∧ (1 : Nat) = 1 := ⟨rfl, rfl⟩
theorem ne_14_80 : mthE 14 80 = some (14, 80, 152, 1, 1, 1154, 1155, 1156, 58, 1157) ∧ (1 : Nat) = 1 := ⟨rfl, rfl⟩
theorem ne_14_81 : mthE 14 81 = some (14, 81, 67, 1, 2, 509, 510, 511, 51, 512) ∧ (1 : Nat) = 1 := ⟨rfl, rfl⟩
theorem ne_14_84 : mthE 14 84 = some (14, 84, 155, 1, 2, 1163, 1164, 1165, 58, 1166) ∧ (1 : Nat) = 1 := ⟨rfl, rfl⟩
theorem ne_14_85 : mthE 14 85 = some (14, 85, 68, 1, 2, 520, 521, 522, 51, 523) ∧ (1 : Nat) = 1 := ⟨rfl, rfl⟩
theorem ne_14_88 : mthE 14 88 = some (14, 88, 156, 1, 2, 1167, 1168, 1169, 58, 1170) ∧ (1 : Nat) = 1 := ⟨rfl, rfl⟩
theorem ne_14_89 : mthE 14 89 = some (14, 89, 69, 1, 2, 524, 525, 526, 51, 527) ∧ (1 : Nat) = 1 := ⟨rfl, rfl⟩
theorem ne_14_92 : mthE 14 92 = some (14, 92, 157, 1, 2, 1171, 1172, 1173, 58, 1174) ∧ (1 : Nat) = 1 := ⟨rfl, rfl⟩
theorem ne_14_93 : mthE 14 93 = some (14, 93, 70, 1, 1, 528, 529, 530, 51, 531) ∧ (1 : Nat) = 1 := ⟨rfl, rfl⟩
theorem ne_14_96 : mthE 14 96 = some (14, 96, 158, 1, 1, 1183, 1184, 1185, 58, 1186) ∧ (1 : Nat) = 1 := ⟨rfl, rfl⟩
theorem ne_14_97 : mthE 14 97 = some (14, 97, 71, 1, 1, 536, 537, 538, 51, 539) ∧ (1 : Nat) = 1 := ⟨rfl, rfl⟩
theorem ne_14_100 : mthE 14 100 = some (14, 100, 159, 1, 1, 1187, 1188, 1189, 58, 1190) ∧ (1 : Nat) = 1 := ⟨rfl, rfl⟩
theorem ne_14_101 : mthE 14 101 = some (14, 101, 72, 1, 3, 540, 541, 542, 51, 543) ∧ (1 : Nat) = 1 := ⟨rfl, rfl⟩
theorem ne_14_104 : mthE 14 104 = some (14, 104, 162, 1, 3, 1191, 1192, 1193, 58, 1194) ∧ (1 : Nat) = 1 := ⟨rfl, rfl⟩
theorem ne_14_105 : mthE 14 105 = some (14, 105, 73, 1, 3, 556, 557, 558, 51, 559) ∧ (1 : Nat) = 1 := ⟨rfl, rfl⟩
theorem ne_14_108 : mthE 14 108 = some (14, 108, 164, 1, 3, 1203, 1204, 1205, 58, 1206) ∧ (1 : Nat) = 1 := ⟨rfl, rfl⟩
theorem ne_14_109 : mthE 14 109 = some (14, 109, 74, 1, 3, 560, 561, 562, 51, 563) ∧ (1 : Nat) = 1 := ⟨rfl, rfl⟩
theorem ne_14_112 : mthE 14 112 = some (14, 112, 165, 1, 3, 1211, 1212, 1213, 58, 1214) ∧ (1 : Nat) = 1 := ⟨rfl, rfl⟩
theorem ne_14_113 : mthE 14 113 = some (14, 113, 75, 1, 2, 564, 565, 566, 51, 567) ∧ (1 : Nat) = 1 := ⟨rfl, rfl⟩
theorem ne_14_116 : mthE 14 116 = some (14, 116, 197, 1, 2, 1335, 1336, 1337, 58, 1338) ∧ (1 : Nat) = 1 := ⟨rfl, rfl⟩
theorem ne_14_117 : mthE 14 117 = some (14, 117, 76, 1, 0, 574, 575, 576, 51, 577) ∧ (1 : Nat) = 1 := ⟨rfl, rfl⟩
theorem ne_14_121 : mthE 14 121 = some (14, 121, 166, 1, 0, 1215, 1216, 1217, 58, 1218) ∧ (1 : Nat) = 1 := ⟨rfl, rfl⟩
theorem ne_14_122 : mthE 14 122 = some (14, 122, 77, 1, 1, 579, 580, 581, 51, 582) ∧ (1 : Nat) = 1 := ⟨rfl, rfl⟩
theorem ne_14_125 : mthE 14 125 = some (14, 125, 167, 1, 1, 1219, 1220, 1221, 58, 1222) ∧ (1 : Nat) = 1 := ⟨rfl, rfl⟩
theorem ne_14_126 : mthE 14 126 = some (14, 126, 78, 1, 3, 583, 584, 585, 51, 586) ∧ (1 : Nat) = 1 := ⟨rfl, rfl⟩
theorem ne_14_129 : mthE 14 129 = some (14, 129, 168, 1, 3, 1223, 1224, 1225, 58, 1226) ∧ (1 : Nat) = 1 := ⟨rfl, rfl⟩
theorem ne_14_130 : mthE 14 130 = some (14, 130, 79, 1, 1, 591, 592, 593, 51, 594) ∧ (1 : Nat) = 1 := ⟨rfl, rfl⟩
theorem ne_14_133 : mthE 14 133 = some (14, 133, 169, 1, 1, 1227, 1228, 1229, 58, 1230) ∧ (1 : Nat) = 1 := ⟨rfl, rfl⟩
theorem ne_14_134 : mthE 14 134 = some (14, 134, 80, 1, 0, 595, 596, 597, 51, 598) ∧ (1 : Nat) = 1 := ⟨rfl, rfl⟩
theorem ne_14_137 : mthE 14 137 = some (14, 137, 185, 1, 0, 1231, 1232, 1233, 58, 1234) ∧ (1 : Nat) = 1 := ⟨rfl, rfl⟩
theorem ne_14_138 : mthE 14 138 = some (14, 138, 81, 1, 2, 769, 770, 771, 51, 772) ∧ (1 : Nat) = 1 := ⟨rfl, rfl⟩
theorem ne_14_141 : mthE 14 141 = some (14, 141, 186, 1, 2, 1298, 1299, 1300, 58, 1301) ∧ (1 : Nat) = 1 := ⟨rfl, rfl⟩
theorem ne_14_142 : mthE 14 142 = some (14, 142, 82, 1, 1, 773, 774, 775, 51, 776) ∧ (1 : Nat) = 1 := ⟨rfl, rfl⟩
theorem ne_14_145 : mthE 14 145 = some (14, 145, 188, 1, 1, 1306, 1307, 1308, 58, 1309) ∧ (1 : Nat) = 1 := ⟨rfl, rfl⟩
theorem ne_14_146 : mthE 14 146 = some (14, 146, 83, 1, 3, 777, 778, 779, 51, 780) ∧ (1 : Nat) = 1 := ⟨rfl, rfl⟩
theorem ne_14_149 : mthE 14 149 = some (14, 149, 192, 1, 3, 1310, 1311, 1312, 58, 1313) ∧ (1 : Nat) = 1 := ⟨rfl, rfl⟩
theorem ne_14_150 : mthE 14 150 = some (14, 150, 84, 1, 3, 786, 787, 788, 51, 789) ∧ (1 : Nat) = 1 := ⟨rfl, rfl⟩
theorem ne_14_153 : mthE 14 153 = some (14, 153, 193, 1, 3, 1319, 1320, 1321, 58, 1322) ∧ (1 : Nat) = 1 := ⟨rfl, rfl⟩
theorem ne_14_154 : mthE 14 154 = some (14, 154, 85, 1, 1, 797, 798, 799, 51, 800) ∧ (1 : Nat) = 1 := ⟨rfl, rfl⟩
theorem ne_14_157 : mthE 14 157 = some (14, 157, 194, 1, 1, 1327, 1328, 1329, 58, 1330) ∧ (1 : Nat) = 1 := ⟨rfl, rfl⟩
theorem ne_14_158 : mthE 14 158 = some (14, 158, 86, 1, 1, 802, 803, 804, 51, 805) ∧ (1 : Nat) = 1 := ⟨rfl, rfl⟩
theorem ne_14_161 : mthE 14 161 = some (14, 161, 195, 1, 1, 1331, 1332, 1333, 58, 1334) ∧ (1 : Nat) = 1 := ⟨rfl, rfl⟩
theorem ne_14_162 : mthE 14 162 = some (14, 162, 87, 1, 5, 806, 807, 808, 51, 809) ∧ (1 : Nat) = 1 := ⟨rfl, rfl⟩
theorem ne_14_165 : mthE 14 165 = some (14, 165, 198, 1, 5, 1343, 1344, 1345, 58, 1346) ∧ (1 : Nat) = 1 := ⟨rfl, rfl⟩
theorem ne_14_166 : mthE 14 166 = some (14, 166, 88, 1, 3, 815, 816, 817, 51, 818) ∧ (1 : Nat) = 1 := ⟨rfl, rfl⟩
theorem ne_14_169 : mthE 14 169 = some (14, 169, 200, 1, 3, 1347, 1348, 1349, 58, 1350) ∧ (1 : Nat) = 1 := ⟨rfl, rfl⟩
theorem ne_14_170 : mthE 14 170 = some (14, 170, 89, 1, 2, 824, 825, 826, 51, 827) ∧ (1 : Nat) = 1 := ⟨rfl, rfl⟩
theorem ne_14_173 : mthE 14 173 = some (14, 173, 201, 1, 2, 1354, 1355, 1356, 58, 1357) ∧ (1 : Nat) = 1 := ⟨rfl, rfl⟩
theorem ne_14_174 : mthE 14 174 = some (14, 174, 90, 1, 2, 832, 833, 834, 51, 835) ∧ (1 : Nat) = 1 := ⟨rfl, rfl⟩
theorem ne_14_177 : mthE 14 177 = some (14, 177, 202, 1, 2, 1358, 1359, 1360, 58, 1361) ∧ (1 : Nat) = 1 := ⟨rfl, rfl⟩
theorem ne_14_178 : mthE 14 178 = some (14, 178, 91, 1, 2, 836, 837, 838, 51, 839) ∧ (1 : Nat) = 1 := ⟨rfl, rfl⟩
theorem ne_14_181 : mthE 14 181 = some (14, 181, 203, 1, 2, 1362, 1363, 1364, 58, 1365) ∧ (1 : Nat) = 1 := ⟨rfl, rfl⟩
theorem ne_14_182 : mthE 14 182 = some (14, 182, 92, 1, 1, 840, 841, 842, 51, 843) ∧ (1 : Nat) = 1 := ⟨rfl, rfl⟩
theorem ne_14_185 : mthE 14 185 = some (14, 185, 204, 1, 1, 1366, 1367, 1368, 58, 1369) ∧ (1 : Nat) = 1 := ⟨rfl, rfl⟩
theorem ne_14_186 : mthE 14 186 = some (14, 186, 93, 1, 1, 844, 845, 846, 51, 847) ∧ (1 : Nat) = 1 := ⟨rfl, rfl⟩
theorem ne_14_189 : mthE 14 189 = some (14, 189, 206, 1, 1, 1370, 1371, 1372, 58, 1373) ∧ (1 : Nat) = 1 := ⟨rfl, rfl⟩
theorem ne_14_190 : mthE 14 190 = some (14, 190, 94, 1, 0, 848, 849, 850, 51, 851) ∧ (1 : Nat) = 1 := ⟨rfl, rfl⟩
theorem ne_14_193 : mthE 14 193 = some (14, 193, 207, 1, 0, 1379, 1380, 1381, 58, 1382) ∧ (1 : Nat) = 1 := ⟨rfl, rfl⟩
theorem ne_14_194 : mthE 14 194 = some (14, 194, 95, 1, 0, 852, 853, 854, 51, 855) ∧ (1 : Nat) = 1 := ⟨rfl, rfl⟩
theorem ne_14_197 : mthE 14 197 = some (14, 197, 208, 1, 0, 1383, 1384, 1385, 58, 1386) ∧ (1 : Nat) = 1 := ⟨rfl, rfl⟩
theorem ne_14_198 : mthE 14 198 = some (14, 198, 96, 1, 1, 856, 857, 858, 51, 859) ∧ (1 : Nat) = 1 := ⟨rfl, rfl⟩
theorem ne_14_201 : mthE 14 201 = some (14, 201, 209, 1, 1, 1387, 1388, 1389, 58, 1390) ∧ (1 : Nat) = 1 := ⟨rfl, rfl⟩
