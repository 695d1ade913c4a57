/-! instructions, decoded: out of the printed names -/
theorem dX8_init_0 : decode cX8_init 0 = .ok (.aload_n 0, 1) := by decide +kernel
theorem dX8_init_1 : decode cX8_init 1 = .ok (.invokespecial 1, 3) := by decide +kernel
theorem dX8_init_4 : decode cX8_init 4 = .ok (.aload_n 0, 1) := by decide +kernel
theorem dX8_init_5 : decode cX8_init 5 = .ok (.sipush 3051, 3) := by decide +kernel
theorem dX8_init_8 : decode cX8_init 8 = .ok (.newarray .int, 2) := by decide +kernel
theorem dX8_init_10 : decode cX8_init 10 = .ok (.putfield 7, 3) := by decide +kernel
theorem dX8_init_13 : decode cX8_init 13 = .ok (.aload_n 0, 1) := by decide +kernel
theorem dX8_init_14 : decode cX8_init 14 = .ok (.sipush 3051, 3) := by decide +kernel
theorem dX8_init_17 : decode cX8_init 17 = .ok (.newarray .int, 2) := by decide +kernel
theorem dX8_init_19 : decode cX8_init 19 = .ok (.putfield 13, 3) := by decide +kernel
theorem dX8_init_22 : decode cX8_init 22 = .ok (.aload_n 0, 1) := by decide +kernel
theorem dX8_init_23 : decode cX8_init 23 = .ok (.sipush 3051, 3) := by decide +kernel
theorem dX8_init_26 : decode cX8_init 26 = .ok (.newarray .int, 2) := by decide +kernel
theorem dX8_init_28 : decode cX8_init 28 = .ok (.putfield 16, 3) := by decide +kernel
theorem dX8_init_31 : decode cX8_init 31 = .ok (.aload_n 0, 1) := by decide +kernel
theorem dX8_init_32 : decode cX8_init 32 = .ok (.iconst 4, 1) := by decide +kernel
theorem dX8_init_33 : decode cX8_init 33 = .ok (.newarray .int, 2) := by decide +kernel
theorem dX8_init_35 : decode cX8_init 35 = .ok (.putfield 19, 3) := by decide +kernel
theorem dX8_init_38 : decode cX8_init 38 = .ok (.aload_n 0, 1) := by decide +kernel
theorem dX8_init_39 : decode cX8_init 39 = .ok (.iconst 4, 1) := by decide +kernel
theorem dX8_init_40 : decode cX8_init 40 = .ok (.newarray .int, 2) := by decide +kernel
theorem dX8_init_42 : decode cX8_init 42 = .ok (.putfield 22, 3) := by decide +kernel
theorem dX8_init_45 : decode cX8_init 45 = .ok (.aload_n 0, 1) := by decide +kernel
theorem dX8_init_46 : decode cX8_init 46 = .ok (.bipush 96, 2) := by decide +kernel
theorem dX8_init_48 : decode cX8_init 48 = .ok (.newarray .int, 2) := by decide +kernel
theorem dX8_init_50 : decode cX8_init 50 = .ok (.putfield 25, 3) := by decide +kernel
theorem dX8_init_53 : decode cX8_init 53 = .ok (.aload_n 0, 1) := by decide +kernel
theorem dX8_init_54 : decode cX8_init 54 = .ok (.iconst 5, 1) := by decide +kernel
theorem dX8_init_55 : decode cX8_init 55 = .ok (.newarray .int, 2) := by decide +kernel
theorem dX8_init_57 : decode cX8_init 57 = .ok (.putfield 28, 3) := by decide +kernel
theorem dX8_init_60 : decode cX8_init 60 = .ok (.aload_n 0, 1) := by decide +kernel
theorem dX8_init_61 : decode cX8_init 61 = .ok (.iconst 5, 1) := by decide +kernel
theorem dX8_init_62 : decode cX8_init 62 = .ok (.newarray .int, 2) := by decide +kernel
theorem dX8_init_64 : decode cX8_init 64 = .ok (.putfield 31, 3) := by decide +kernel
theorem dX8_init_67 : decode cX8_init 67 = .ok (.aload_n 0, 1) := by decide +kernel
theorem dX8_init_68 : decode cX8_init 68 = .ok (.iconst 5, 1) := by decide +kernel
theorem dX8_init_69 : decode cX8_init 69 = .ok (.newarray .int, 2) := by decide +kernel
theorem dX8_init_71 : decode cX8_init 71 = .ok (.putfield 34, 3) := by decide +kernel
theorem dX8_init_74 : decode cX8_init 74 = .ok (.aload_n 0, 1) := by decide +kernel
theorem dX8_init_75 : decode cX8_init 75 = .ok (.iconst 5, 1) := by decide +kernel
theorem dX8_init_76 : decode cX8_init 76 = .ok (.newarray .int, 2) := by decide +kernel
theorem dX8_init_78 : decode cX8_init 78 = .ok (.putfield 37, 3) := by decide +kernel
theorem dX8_init_81 : decode cX8_init 81 = .ok (.aload_n 0, 1) := by decide +kernel
theorem dX8_init_82 : decode cX8_init 82 = .ok (.bipush 120, 2) := by decide +kernel
theorem dX8_init_84 : decode cX8_init 84 = .ok (.newarray .int, 2) := by decide +kernel
theorem dX8_init_86 : decode cX8_init 86 = .ok (.putfield 40, 3) := by decide +kernel
theorem dX8_init_89 : decode cX8_init 89 = .ok (.aload_n 0, 1) := by decide +kernel
theorem dX8_init_90 : decode cX8_init 90 = .ok (.bipush 8, 2) := by decide +kernel
theorem dX8_init_92 : decode cX8_init 92 = .ok (.newarray .int, 2) := by decide +kernel
theorem dX8_init_94 : decode cX8_init 94 = .ok (.putfield 43, 3) := by decide +kernel
theorem dX8_init_97 : decode cX8_init 97 = .ok (.aload_n 0, 1) := by decide +kernel
theorem dX8_init_98 : decode cX8_init 98 = .ok (.bipush 51, 2) := by decide +kernel
theorem dX8_init_100 : decode cX8_init 100 = .ok (.newarray .int, 2) := by decide +kernel
theorem dX8_init_102 : decode cX8_init 102 = .ok (.putfield 46, 3) := by decide +kernel
theorem dX8_init_105 : decode cX8_init 105 = .ok (.aload_n 0, 1) := by decide +kernel
theorem dX8_init_106 : decode cX8_init 106 = .ok (.bipush 96, 2) := by decide +kernel
theorem dX8_init_108 : decode cX8_init 108 = .ok (.newarray .int, 2) := by decide +kernel
theorem dX8_init_110 : decode cX8_init 110 = .ok (.putfield 49, 3) := by decide +kernel
theorem dX8_init_113 : decode cX8_init 113 = .ok (.aload_n 0, 1) := by decide +kernel
theorem dX8_init_114 : decode cX8_init 114 = .ok (.sipush 128, 3) := by decide +kernel
theorem dX8_init_117 : decode cX8_init 117 = .ok (.newarray .int, 2) := by decide +kernel
theorem dX8_init_119 : decode cX8_init 119 = .ok (.putfield 52, 3) := by decide +kernel
theorem dX8_init_122 : decode cX8_init 122 = .ok (.aload_n 0, 1) := by decide +kernel
theorem dX8_init_123 : decode cX8_init 123 = .ok (.bipush 100, 2) := by decide +kernel
theorem dX8_init_125 : decode cX8_init 125 = .ok (.newarray .int, 2) := by decide +kernel
theorem dX8_init_127 : decode cX8_init 127 = .ok (.putfield 55, 3) := by decide +kernel
theorem dX8_init_130 : decode cX8_init 130 = .ok (.aload_n 0, 1) := by decide +kernel
theorem dX8_init_131 : decode cX8_init 131 = .ok (.bipush 24, 2) := by decide +kernel
theorem dX8_init_133 : decode cX8_init 133 = .ok (.newarray .int, 2) := by decide +kernel
theorem dX8_init_135 : decode cX8_init 135 = .ok (.putfield 58, 3) := by decide +kernel
theorem dX8_init_138 : decode cX8_init 138 = .ok (.aload_n 0, 1) := by decide +kernel
theorem dX8_init_139 : decode cX8_init 139 = .ok (.bipush 60, 2) := by decide +kernel
theorem dX8_init_141 : decode cX8_init 141 = .ok (.newarray .int, 2) := by decide +kernel
theorem dX8_init_143 : decode cX8_init 143 = .ok (.putfield 61, 3) := by decide +kernel
theorem dX8_init_146 : decode cX8_init 146 = .ok (.aload_n 0, 1) := by decide +kernel
theorem dX8_init_147 : decode cX8_init 147 = .ok (.bipush 60, 2) := by decide +kernel
theorem dX8_init_149 : decode cX8_init 149 = .ok (.newarray .int, 2) := by decide +kernel
theorem dX8_init_151 : decode cX8_init 151 = .ok (.putfield 64, 3) := by decide +kernel
theorem dX8_init_154 : decode cX8_init 154 = .ok (.aload_n 0, 1) := by decide +kernel
theorem dX8_init_155 : decode cX8_init 155 = .ok (.getfield 7, 3) := by decide +kernel
theorem dX8_init_158 : decode cX8_init 158 = .ok (.bipush 9, 2) := by decide +kernel
theorem dX8_init_160 : decode cX8_init 160 = .ok (.iconst 1, 1) := by decide +kernel
theorem dX8_init_161 : decode cX8_init 161 = .ok (.iastore, 1) := by decide +kernel
theorem dX8_init_162 : decode cX8_init 162 = .ok (.aload_n 0, 1) := by decide +kernel
theorem dX8_init_163 : decode cX8_init 163 = .ok (.getfield 7, 3) := by decide +kernel
theorem dX8_init_166 : decode cX8_init 166 = .ok (.bipush 6, 2) := by decide +kernel
theorem dX8_init_168 : decode cX8_init 168 = .ok (.bipush 120, 2) := by decide +kernel
theorem dX8_init_170 : decode cX8_init 170 = .ok (.iastore, 1) := by decide +kernel
theorem dX8_init_171 : decode cX8_init 171 = .ok (.aload_n 0, 1) := by decide +kernel
theorem dX8_init_172 : decode cX8_init 172 = .ok (.getfield 7, 3) := by decide +kernel
theorem dX8_init_175 : decode cX8_init 175 = .ok (.bipush 7, 2) := by decide +kernel
theorem dX8_init_177 : decode cX8_init 177 = .ok (.bipush 20, 2) := by decide +kernel
theorem dX8_init_179 : decode cX8_init 179 = .ok (.iastore, 1) := by decide +kernel
theorem dX8_init_180 : decode cX8_init 180 = .ok (.aload_n 0, 1) := by decide +kernel
theorem dX8_init_181 : decode cX8_init 181 = .ok (.getfield 7, 3) := by decide +kernel
theorem dX8_init_184 : decode cX8_init 184 = .ok (.bipush 8, 2) := by decide +kernel
theorem dX8_init_186 : decode cX8_init 186 = .ok (.bipush 20, 2) := by decide +kernel
theorem dX8_init_188 : decode cX8_init 188 = .ok (.iastore, 1) := by decide +kernel
theorem dX8_init_189 : decode cX8_init 189 = .ok (.iconst 0, 1) := by decide +kernel
theorem dX8_init_190 : decode cX8_init 190 = .ok (.istore_n 1, 1) := by decide +kernel
theorem dX8_init_191 : decode cX8_init 191 = .ok (.iload_n 1, 1) := by decide +kernel
theorem dX8_init_192 : decode cX8_init 192 = .ok (.iconst 4, 1) := by decide +kernel
theorem dX8_init_193 : decode cX8_init 193 = .ok (.if_icmp .ge 16, 3) := by decide +kernel
theorem dX8_init_196 : decode cX8_init 196 = .ok (.aload_n 0, 1) := by decide +kernel
theorem dX8_init_197 : decode cX8_init 197 = .ok (.getfield 19, 3) := by decide +kernel
theorem dX8_init_200 : decode cX8_init 200 = .ok (.iload_n 1, 1) := by decide +kernel
theorem dX8_init_201 : decode cX8_init 201 = .ok (.iconst (-1), 1) := by decide +kernel
theorem dX8_init_202 : decode cX8_init 202 = .ok (.iastore, 1) := by decide +kernel
theorem dX8_init_203 : decode cX8_init 203 = .ok (.iinc 1 1, 3) := by decide +kernel
theorem dX8_init_206 : decode cX8_init 206 = .ok (.goto (-15), 3) := by decide +kernel
theorem dX8_init_209 : decode cX8_init 209 = .ok (.return_, 1) := by decide +kernel
theorem dX8_isIn_0 : decode cX8_isIn 0 = .ok (.lload_n 0, 1) := by decide +kernel
theorem dX8_isIn_1 : decode cX8_isIn 1 = .ok (.lload_n 2, 1) := by decide +kernel
theorem dX8_isIn_2 : decode cX8_isIn 2 = .ok (.lcmp, 1) := by decide +kernel
theorem dX8_isIn_3 : decode cX8_isIn 3 = .ok (.ifCond .lt 14, 3) := by decide +kernel
theorem dX8_isIn_6 : decode cX8_isIn 6 = .ok (.lload_n 0, 1) := by decide +kernel
theorem dX8_isIn_7 : decode cX8_isIn 7 = .ok (.lload 4, 2) := by decide +kernel
theorem dX8_isIn_9 : decode cX8_isIn 9 = .ok (.lcmp, 1) := by decide +kernel
theorem dX8_isIn_10 : decode cX8_isIn 10 = .ok (.ifCond .gt 7, 3) := by decide +kernel
theorem dX8_isIn_13 : decode cX8_isIn 13 = .ok (.iconst 1, 1) := by decide +kernel
theorem dX8_isIn_14 : decode cX8_isIn 14 = .ok (.goto 4, 3) := by decide +kernel
theorem dX8_isIn_17 : decode cX8_isIn 17 = .ok (.iconst 0, 1) := by decide +kernel
theorem dX8_isIn_18 : decode cX8_isIn 18 = .ok (.ireturn, 1) := by decide +kernel
theorem dX8_orNone_0 : decode cX8_orNone 0 = .ok (.iload_n 0, 1) := by decide +kernel
theorem dX8_orNone_1 : decode cX8_orNone 1 = .ok (.ifCond .ge 8, 3) := by decide +kernel
theorem dX8_orNone_4 : decode cX8_orNone 4 = .ok (.ldc 67, 2) := by decide +kernel
theorem dX8_orNone_6 : decode cX8_orNone 6 = .ok (.goto 4, 3) := by decide +kernel
theorem dX8_orNone_9 : decode cX8_orNone 9 = .ok (.iload_n 0, 1) := by decide +kernel
theorem dX8_orNone_10 : decode cX8_orNone 10 = .ok (.ireturn, 1) := by decide +kernel
theorem dX8_within_0 : decode cX8_within 0 = .ok (.iload_n 0, 1) := by decide +kernel
theorem dX8_within_1 : decode cX8_within 1 = .ok (.ifCond .ge 7, 3) := by decide +kernel
theorem dX8_within_4 : decode cX8_within 4 = .ok (.iconst 0, 1) := by decide +kernel
theorem dX8_within_5 : decode cX8_within 5 = .ok (.goto 13, 3) := by decide +kernel
theorem dX8_within_8 : decode cX8_within 8 = .ok (.iload_n 0, 1) := by decide +kernel
theorem dX8_within_9 : decode cX8_within 9 = .ok (.iload_n 1, 1) := by decide +kernel
theorem dX8_within_10 : decode cX8_within 10 = .ok (.if_icmp .le 7, 3) := by decide +kernel
theorem dX8_within_13 : decode cX8_within 13 = .ok (.iload_n 1, 1) := by decide +kernel
theorem dX8_within_14 : decode cX8_within 14 = .ok (.goto 4, 3) := by decide +kernel
theorem dX8_within_17 : decode cX8_within 17 = .ok (.iload_n 0, 1) := by decide +kernel
theorem dX8_within_18 : decode cX8_within 18 = .ok (.ireturn, 1) := by decide +kernel
theorem dX8_off_0 : decode cX8_off 0 = .ok (.iload_n 0, 1) := by decide +kernel
theorem dX8_off_1 : decode cX8_off 1 = .ok (.iload_n 1, 1) := by decide +kernel
theorem dX8_off_2 : decode cX8_off 2 = .ok (.if_icmp .ge 9, 3) := by decide +kernel
theorem dX8_off_5 : decode cX8_off 5 = .ok (.iload_n 1, 1) := by decide +kernel
theorem dX8_off_6 : decode cX8_off 6 = .ok (.iload_n 0, 1) := by decide +kernel
theorem dX8_off_7 : decode cX8_off 7 = .ok (.isub, 1) := by decide +kernel
theorem dX8_off_8 : decode cX8_off 8 = .ok (.goto 6, 3) := by decide +kernel
theorem dX8_off_11 : decode cX8_off 11 = .ok (.iload_n 0, 1) := by decide +kernel
theorem dX8_off_12 : decode cX8_off 12 = .ok (.iload_n 1, 1) := by decide +kernel
theorem dX8_off_13 : decode cX8_off 13 = .ok (.isub, 1) := by decide +kernel
theorem dX8_off_14 : decode cX8_off 14 = .ok (.ireturn, 1) := by decide +kernel
theorem dX8_changes_0 : decode cX8_changes 0 = .ok (.aload_n 0, 1) := by decide +kernel
theorem dX8_changes_1 : decode cX8_changes 1 = .ok (.getfield 7, 3) := by decide +kernel
theorem dX8_changes_4 : decode cX8_changes 4 = .ok (.iload_n 1, 1) := by decide +kernel
theorem dX8_changes_5 : decode cX8_changes 5 = .ok (.iaload, 1) := by decide +kernel
theorem dX8_changes_6 : decode cX8_changes 6 = .ok (.istore_n 3, 1) := by decide +kernel
theorem dX8_changes_7 : decode cX8_changes 7 = .ok (.aload_n 0, 1) := by decide +kernel
theorem dX8_changes_8 : decode cX8_changes 8 = .ok (.getfield 7, 3) := by decide +kernel
theorem dX8_changes_11 : decode cX8_changes 11 = .ok (.iload_n 1, 1) := by decide +kernel
theorem dX8_changes_12 : decode cX8_changes 12 = .ok (.iload_n 2, 1) := by decide +kernel
theorem dX8_changes_13 : decode cX8_changes 13 = .ok (.iastore, 1) := by decide +kernel
theorem dX8_changes_14 : decode cX8_changes 14 = .ok (.iload_n 3, 1) := by decide +kernel
theorem dX8_changes_15 : decode cX8_changes 15 = .ok (.ireturn, 1) := by decide +kernel
theorem dX8_textAt_0 : decode cX8_textAt 0 = .ok (.bipush 51, 2) := by decide +kernel
theorem dX8_textAt_2 : decode cX8_textAt 2 = .ok (.sipush 200, 3) := by decide +kernel
theorem dX8_textAt_5 : decode cX8_textAt 5 = .ok (.iload_n 1, 1) := by decide +kernel
theorem dX8_textAt_6 : decode cX8_textAt 6 = .ok (.imul, 1) := by decide +kernel
theorem dX8_textAt_7 : decode cX8_textAt 7 = .ok (.iadd, 1) := by decide +kernel
theorem dX8_textAt_8 : decode cX8_textAt 8 = .ok (.ireturn, 1) := by decide +kernel
theorem dX8_of_0 : decode cX8_of 0 = .ok (.aload_n 0, 1) := by decide +kernel
theorem dX8_of_1 : decode cX8_of 1 = .ok (.getfield 7, 3) := by decide +kernel
theorem dX8_of_4 : decode cX8_of 4 = .ok (.bipush 10, 2) := by decide +kernel
theorem dX8_of_6 : decode cX8_of 6 = .ok (.iconst 5, 1) := by decide +kernel
theorem dX8_of_7 : decode cX8_of 7 = .ok (.iload_n 1, 1) := by decide +kernel
theorem dX8_of_8 : decode cX8_of 8 = .ok (.imul, 1) := by decide +kernel
theorem dX8_of_9 : decode cX8_of 9 = .ok (.iadd, 1) := by decide +kernel
theorem dX8_of_10 : decode cX8_of 10 = .ok (.iload_n 2, 1) := by decide +kernel
theorem dX8_of_11 : decode cX8_of 11 = .ok (.iadd, 1) := by decide +kernel
theorem dX8_of_12 : decode cX8_of 12 = .ok (.iaload, 1) := by decide +kernel
theorem dX8_of_13 : decode cX8_of 13 = .ok (.ireturn, 1) := by decide +kernel
theorem dX8_sets_0 : decode cX8_sets 0 = .ok (.aload_n 0, 1) := by decide +kernel
theorem dX8_sets_1 : decode cX8_sets 1 = .ok (.getfield 7, 3) := by decide +kernel
theorem dX8_sets_4 : decode cX8_sets 4 = .ok (.bipush 10, 2) := by decide +kernel
theorem dX8_sets_6 : decode cX8_sets 6 = .ok (.iconst 5, 1) := by decide +kernel
theorem dX8_sets_7 : decode cX8_sets 7 = .ok (.iload_n 1, 1) := by decide +kernel
theorem dX8_sets_8 : decode cX8_sets 8 = .ok (.imul, 1) := by decide +kernel
theorem dX8_sets_9 : decode cX8_sets 9 = .ok (.iadd, 1) := by decide +kernel
theorem dX8_sets_10 : decode cX8_sets 10 = .ok (.iload_n 2, 1) := by decide +kernel
theorem dX8_sets_11 : decode cX8_sets 11 = .ok (.iadd, 1) := by decide +kernel
theorem dX8_sets_12 : decode cX8_sets 12 = .ok (.iload_n 3, 1) := by decide +kernel
theorem dX8_sets_13 : decode cX8_sets 13 = .ok (.iastore, 1) := by decide +kernel
theorem dX8_sets_14 : decode cX8_sets 14 = .ok (.return_, 1) := by decide +kernel
theorem dX8_isOne_0 : decode cX8_isOne 0 = .ok (.iload_n 1, 1) := by decide +kernel
theorem dX8_isOne_1 : decode cX8_isOne 1 = .ok (.i2l, 1) := by decide +kernel
theorem dX8_isOne_2 : decode cX8_isOne 2 = .ok (.lconst 0, 1) := by decide +kernel
theorem dX8_isOne_3 : decode cX8_isOne 3 = .ok (.aload_n 0, 1) := by decide +kernel
theorem dX8_isOne_4 : decode cX8_isOne 4 = .ok (.getfield 7, 3) := by decide +kernel
theorem dX8_isOne_7 : decode cX8_isOne 7 = .ok (.iconst 0, 1) := by decide +kernel
theorem dX8_isOne_8 : decode cX8_isOne 8 = .ok (.iaload, 1) := by decide +kernel
theorem dX8_isOne_9 : decode cX8_isOne 9 = .ok (.iconst 1, 1) := by decide +kernel
theorem dX8_isOne_10 : decode cX8_isOne 10 = .ok (.isub, 1) := by decide +kernel
theorem dX8_isOne_11 : decode cX8_isOne 11 = .ok (.i2l, 1) := by decide +kernel
theorem dX8_isOne_12 : decode cX8_isOne 12 = .ok (.invokestatic 68, 3) := by decide +kernel
theorem dX8_isOne_15 : decode cX8_isOne 15 = .ok (.ireturn, 1) := by decide +kernel
theorem dX8_isText_0 : decode cX8_isText 0 = .ok (.iload_n 1, 1) := by decide +kernel
theorem dX8_isText_1 : decode cX8_isText 1 = .ok (.i2l, 1) := by decide +kernel
theorem dX8_isText_2 : decode cX8_isText 2 = .ok (.lconst 0, 1) := by decide +kernel
theorem dX8_isText_3 : decode cX8_isText 3 = .ok (.aload_n 0, 1) := by decide +kernel
theorem dX8_isText_4 : decode cX8_isText 4 = .ok (.getfield 7, 3) := by decide +kernel
theorem dX8_isText_7 : decode cX8_isText 7 = .ok (.iconst 1, 1) := by decide +kernel
theorem dX8_isText_8 : decode cX8_isText 8 = .ok (.iaload, 1) := by decide +kernel
theorem dX8_isText_9 : decode cX8_isText 9 = .ok (.iconst 1, 1) := by decide +kernel
theorem dX8_isText_10 : decode cX8_isText 10 = .ok (.isub, 1) := by decide +kernel
theorem dX8_isText_11 : decode cX8_isText 11 = .ok (.i2l, 1) := by decide +kernel
theorem dX8_isText_12 : decode cX8_isText 12 = .ok (.invokestatic 68, 3) := by decide +kernel
theorem dX8_isText_15 : decode cX8_isText 15 = .ok (.ireturn, 1) := by decide +kernel
theorem dX8_drawn_0 : decode cX8_drawn 0 = .ok (.aload_n 0, 1) := by decide +kernel
theorem dX8_drawn_1 : decode cX8_drawn 1 = .ok (.getfield 7, 3) := by decide +kernel
theorem dX8_drawn_4 : decode cX8_drawn 4 = .ok (.bipush 9, 2) := by decide +kernel
theorem dX8_drawn_6 : decode cX8_drawn 6 = .ok (.aload_n 0, 1) := by decide +kernel
theorem dX8_drawn_7 : decode cX8_drawn 7 = .ok (.getfield 7, 3) := by decide +kernel
theorem dX8_drawn_10 : decode cX8_drawn 10 = .ok (.bipush 9, 2) := by decide +kernel
theorem dX8_drawn_12 : decode cX8_drawn 12 = .ok (.iaload, 1) := by decide +kernel
theorem dX8_drawn_13 : decode cX8_drawn 13 = .ok (.ldc 72, 2) := by decide +kernel
theorem dX8_drawn_15 : decode cX8_drawn 15 = .ok (.imul, 1) := by decide +kernel
theorem dX8_drawn_16 : decode cX8_drawn 16 = .ok (.sipush 12345, 3) := by decide +kernel
theorem dX8_drawn_19 : decode cX8_drawn 19 = .ok (.iadd, 1) := by decide +kernel
theorem dX8_drawn_20 : decode cX8_drawn 20 = .ok (.iastore, 1) := by decide +kernel
theorem dX8_drawn_21 : decode cX8_drawn 21 = .ok (.aload_n 0, 1) := by decide +kernel
theorem dX8_drawn_22 : decode cX8_drawn 22 = .ok (.getfield 7, 3) := by decide +kernel
theorem dX8_drawn_25 : decode cX8_drawn 25 = .ok (.bipush 9, 2) := by decide +kernel
theorem dX8_drawn_27 : decode cX8_drawn 27 = .ok (.iaload, 1) := by decide +kernel
theorem dX8_drawn_28 : decode cX8_drawn 28 = .ok (.bipush 8, 2) := by decide +kernel
theorem dX8_drawn_30 : decode cX8_drawn 30 = .ok (.iushr, 1) := by decide +kernel
theorem dX8_drawn_31 : decode cX8_drawn 31 = .ok (.ireturn, 1) := by decide +kernel
theorem dX8_isOf_0 : decode cX8_isOf 0 = .ok (.iload_n 0, 1) := by decide +kernel
theorem dX8_isOf_1 : decode cX8_isOf 1 = .ok (.iload_n 1, 1) := by decide +kernel
theorem dX8_isOf_2 : decode cX8_isOf 2 = .ok (.if_icmp .eq 27, 3) := by decide +kernel
theorem dX8_isOf_5 : decode cX8_isOf 5 = .ok (.iload_n 1, 1) := by decide +kernel
theorem dX8_isOf_6 : decode cX8_isOf 6 = .ok (.ifCond .eq 23, 3) := by decide +kernel
theorem dX8_isOf_9 : decode cX8_isOf 9 = .ok (.iload_n 1, 1) := by decide +kernel
theorem dX8_isOf_10 : decode cX8_isOf 10 = .ok (.iconst 1, 1) := by decide +kernel
theorem dX8_isOf_11 : decode cX8_isOf 11 = .ok (.if_icmp .ne 8, 3) := by decide +kernel
theorem dX8_isOf_14 : decode cX8_isOf 14 = .ok (.iload_n 0, 1) := by decide +kernel
theorem dX8_isOf_15 : decode cX8_isOf 15 = .ok (.iconst 3, 1) := by decide +kernel
theorem dX8_isOf_16 : decode cX8_isOf 16 = .ok (.if_icmp .eq 13, 3) := by decide +kernel
theorem dX8_isOf_19 : decode cX8_isOf 19 = .ok (.iload_n 1, 1) := by decide +kernel
theorem dX8_isOf_20 : decode cX8_isOf 20 = .ok (.iconst 2, 1) := by decide +kernel
theorem dX8_isOf_21 : decode cX8_isOf 21 = .ok (.if_icmp .ne 12, 3) := by decide +kernel
theorem dX8_isOf_24 : decode cX8_isOf 24 = .ok (.iload_n 0, 1) := by decide +kernel
theorem dX8_isOf_25 : decode cX8_isOf 25 = .ok (.iconst 4, 1) := by decide +kernel
theorem dX8_isOf_26 : decode cX8_isOf 26 = .ok (.if_icmp .ne 7, 3) := by decide +kernel
theorem dX8_isOf_29 : decode cX8_isOf 29 = .ok (.iconst 1, 1) := by decide +kernel
theorem dX8_isOf_30 : decode cX8_isOf 30 = .ok (.goto 4, 3) := by decide +kernel
theorem dX8_isOf_33 : decode cX8_isOf 33 = .ok (.iconst 0, 1) := by decide +kernel
theorem dX8_isOf_34 : decode cX8_isOf 34 = .ok (.ireturn, 1) := by decide +kernel
theorem dX8_isPlace_0 : decode cX8_isPlace 0 = .ok (.iload_n 0, 1) := by decide +kernel
theorem dX8_isPlace_1 : decode cX8_isPlace 1 = .ok (.i2l, 1) := by decide +kernel
theorem dX8_isPlace_2 : decode cX8_isPlace 2 = .ok (.lconst 0, 1) := by decide +kernel
theorem dX8_isPlace_3 : decode cX8_isPlace 3 = .ok (.ldc2_w 73, 3) := by decide +kernel
theorem dX8_isPlace_6 : decode cX8_isPlace 6 = .ok (.invokestatic 68, 3) := by decide +kernel
theorem dX8_isPlace_9 : decode cX8_isPlace 9 = .ok (.ireturn, 1) := by decide +kernel
theorem dX8_isScreen_0 : decode cX8_isScreen 0 = .ok (.aload_n 0, 1) := by decide +kernel
theorem dX8_isScreen_1 : decode cX8_isScreen 1 = .ok (.getfield 7, 3) := by decide +kernel
theorem dX8_isScreen_4 : decode cX8_isScreen 4 = .ok (.bipush 50, 2) := by decide +kernel
theorem dX8_isScreen_6 : decode cX8_isScreen 6 = .ok (.iaload, 1) := by decide +kernel
theorem dX8_isScreen_7 : decode cX8_isScreen 7 = .ok (.iload_n 1, 1) := by decide +kernel
theorem dX8_isScreen_8 : decode cX8_isScreen 8 = .ok (.ishr, 1) := by decide +kernel
theorem dX8_isScreen_9 : decode cX8_isScreen 9 = .ok (.iconst 1, 1) := by decide +kernel
theorem dX8_isScreen_10 : decode cX8_isScreen 10 = .ok (.iand, 1) := by decide +kernel
theorem dX8_isScreen_11 : decode cX8_isScreen 11 = .ok (.iconst 1, 1) := by decide +kernel
theorem dX8_isScreen_12 : decode cX8_isScreen 12 = .ok (.if_icmp .ne 7, 3) := by decide +kernel
theorem dX8_isScreen_15 : decode cX8_isScreen 15 = .ok (.iconst 1, 1) := by decide +kernel
theorem dX8_isScreen_16 : decode cX8_isScreen 16 = .ok (.goto 4, 3) := by decide +kernel
theorem dX8_isScreen_19 : decode cX8_isScreen 19 = .ok (.iconst 0, 1) := by decide +kernel
theorem dX8_isScreen_20 : decode cX8_isScreen 20 = .ok (.ireturn, 1) := by decide +kernel
theorem dX8_whose_0 : decode cX8_whose 0 = .ok (.iconst 0, 1) := by decide +kernel
theorem dX8_whose_1 : decode cX8_whose 1 = .ok (.istore_n 2, 1) := by decide +kernel
theorem dX8_whose_2 : decode cX8_whose 2 = .ok (.iload_n 2, 1) := by decide +kernel
theorem dX8_whose_3 : decode cX8_whose 3 = .ok (.aload_n 0, 1) := by decide +kernel
theorem dX8_whose_4 : decode cX8_whose 4 = .ok (.getfield 7, 3) := by decide +kernel
theorem dX8_whose_7 : decode cX8_whose 7 = .ok (.iconst 0, 1) := by decide +kernel
theorem dX8_whose_8 : decode cX8_whose 8 = .ok (.iaload, 1) := by decide +kernel
theorem dX8_whose_9 : decode cX8_whose 9 = .ok (.if_icmp .ge 19, 3) := by decide +kernel
theorem dX8_whose_12 : decode cX8_whose 12 = .ok (.aload_n 0, 1) := by decide +kernel
theorem dX8_whose_13 : decode cX8_whose 13 = .ok (.iload_n 2, 1) := by decide +kernel
theorem dX8_whose_14 : decode cX8_whose 14 = .ok (.iconst 1, 1) := by decide +kernel
theorem dX8_whose_15 : decode cX8_whose 15 = .ok (.invokevirtual 75, 3) := by decide +kernel
theorem dX8_whose_18 : decode cX8_whose 18 = .ok (.iload_n 1, 1) := by decide +kernel
theorem dX8_whose_19 : decode cX8_whose 19 = .ok (.if_icmp .eq 9, 3) := by decide +kernel
theorem dX8_whose_22 : decode cX8_whose 22 = .ok (.iinc 2 1, 3) := by decide +kernel
theorem dX8_whose_25 : decode cX8_whose 25 = .ok (.goto (-23), 3) := by decide +kernel
theorem dX8_whose_28 : decode cX8_whose 28 = .ok (.iload_n 2, 1) := by decide +kernel
theorem dX8_whose_29 : decode cX8_whose 29 = .ok (.aload_n 0, 1) := by decide +kernel
theorem dX8_whose_30 : decode cX8_whose 30 = .ok (.getfield 7, 3) := by decide +kernel
theorem dX8_whose_33 : decode cX8_whose 33 = .ok (.iconst 0, 1) := by decide +kernel
theorem dX8_whose_34 : decode cX8_whose 34 = .ok (.iaload, 1) := by decide +kernel
theorem dX8_whose_35 : decode cX8_whose 35 = .ok (.if_icmp .ge 7, 3) := by decide +kernel
theorem dX8_whose_38 : decode cX8_whose 38 = .ok (.iload_n 2, 1) := by decide +kernel
theorem dX8_whose_39 : decode cX8_whose 39 = .ok (.goto 4, 3) := by decide +kernel
theorem dX8_whose_42 : decode cX8_whose 42 = .ok (.iconst (-1), 1) := by decide +kernel
theorem dX8_whose_43 : decode cX8_whose 43 = .ok (.ireturn, 1) := by decide +kernel
theorem dX8_isFree_0 : decode cX8_isFree 0 = .ok (.aload_n 0, 1) := by decide +kernel
theorem dX8_isFree_1 : decode cX8_isFree 1 = .ok (.iload_n 1, 1) := by decide +kernel
theorem dX8_isFree_2 : decode cX8_isFree 2 = .ok (.invokevirtual 79, 3) := by decide +kernel
theorem dX8_isFree_5 : decode cX8_isFree 5 = .ok (.ifCond .ge 15, 3) := by decide +kernel
theorem dX8_isFree_8 : decode cX8_isFree 8 = .ok (.aload_n 0, 1) := by decide +kernel
theorem dX8_isFree_9 : decode cX8_isFree 9 = .ok (.iload_n 1, 1) := by decide +kernel
theorem dX8_isFree_10 : decode cX8_isFree 10 = .ok (.invokevirtual 83, 3) := by decide +kernel
theorem dX8_isFree_13 : decode cX8_isFree 13 = .ok (.ifCond .ne 7, 3) := by decide +kernel
theorem dX8_isFree_16 : decode cX8_isFree 16 = .ok (.iconst 1, 1) := by decide +kernel
theorem dX8_isFree_17 : decode cX8_isFree 17 = .ok (.goto 4, 3) := by decide +kernel
theorem dX8_isFree_20 : decode cX8_isFree 20 = .ok (.iconst 0, 1) := by decide +kernel
theorem dX8_isFree_21 : decode cX8_isFree 21 = .ok (.ireturn, 1) := by decide +kernel
theorem dX8_comes_0 : decode cX8_comes 0 = .ok (.aload_n 0, 1) := by decide +kernel
theorem dX8_comes_1 : decode cX8_comes 1 = .ok (.getfield 7, 3) := by decide +kernel
theorem dX8_comes_4 : decode cX8_comes 4 = .ok (.iconst 0, 1) := by decide +kernel
theorem dX8_comes_5 : decode cX8_comes 5 = .ok (.iaload, 1) := by decide +kernel
theorem dX8_comes_6 : decode cX8_comes 6 = .ok (.istore 6, 2) := by decide +kernel
theorem dX8_comes_8 : decode cX8_comes 8 = .ok (.aload_n 0, 1) := by decide +kernel
theorem dX8_comes_9 : decode cX8_comes 9 = .ok (.getfield 7, 3) := by decide +kernel
theorem dX8_comes_12 : decode cX8_comes 12 = .ok (.iconst 0, 1) := by decide +kernel
theorem dX8_comes_13 : decode cX8_comes 13 = .ok (.dup2, 1) := by decide +kernel
theorem dX8_comes_14 : decode cX8_comes 14 = .ok (.iaload, 1) := by decide +kernel
theorem dX8_comes_15 : decode cX8_comes 15 = .ok (.iconst 1, 1) := by decide +kernel
theorem dX8_comes_16 : decode cX8_comes 16 = .ok (.iadd, 1) := by decide +kernel
theorem dX8_comes_17 : decode cX8_comes 17 = .ok (.iastore, 1) := by decide +kernel
theorem dX8_comes_18 : decode cX8_comes 18 = .ok (.aload_n 0, 1) := by decide +kernel
theorem dX8_comes_19 : decode cX8_comes 19 = .ok (.iload 6, 2) := by decide +kernel
theorem dX8_comes_21 : decode cX8_comes 21 = .ok (.iconst 0, 1) := by decide +kernel
theorem dX8_comes_22 : decode cX8_comes 22 = .ok (.iload_n 1, 1) := by decide +kernel
theorem dX8_comes_23 : decode cX8_comes 23 = .ok (.invokevirtual 87, 3) := by decide +kernel
theorem dX8_comes_26 : decode cX8_comes 26 = .ok (.aload_n 0, 1) := by decide +kernel
theorem dX8_comes_27 : decode cX8_comes 27 = .ok (.iload 6, 2) := by decide +kernel
theorem dX8_comes_29 : decode cX8_comes 29 = .ok (.iconst 1, 1) := by decide +kernel
theorem dX8_comes_30 : decode cX8_comes 30 = .ok (.iload_n 2, 1) := by decide +kernel
theorem dX8_comes_31 : decode cX8_comes 31 = .ok (.invokevirtual 87, 3) := by decide +kernel
theorem dX8_comes_34 : decode cX8_comes 34 = .ok (.aload_n 0, 1) := by decide +kernel
theorem dX8_comes_35 : decode cX8_comes 35 = .ok (.iload 6, 2) := by decide +kernel
theorem dX8_comes_37 : decode cX8_comes 37 = .ok (.iconst 2, 1) := by decide +kernel
theorem dX8_comes_38 : decode cX8_comes 38 = .ok (.iload_n 3, 1) := by decide +kernel
theorem dX8_comes_39 : decode cX8_comes 39 = .ok (.invokevirtual 87, 3) := by decide +kernel
theorem dX8_comes_42 : decode cX8_comes 42 = .ok (.aload_n 0, 1) := by decide +kernel
theorem dX8_comes_43 : decode cX8_comes 43 = .ok (.iload 6, 2) := by decide +kernel
theorem dX8_comes_45 : decode cX8_comes 45 = .ok (.iconst 3, 1) := by decide +kernel
theorem dX8_comes_46 : decode cX8_comes 46 = .ok (.iload 4, 2) := by decide +kernel
theorem dX8_comes_48 : decode cX8_comes 48 = .ok (.invokevirtual 87, 3) := by decide +kernel
theorem dX8_comes_51 : decode cX8_comes 51 = .ok (.aload_n 0, 1) := by decide +kernel
theorem dX8_comes_52 : decode cX8_comes 52 = .ok (.iload 6, 2) := by decide +kernel
theorem dX8_comes_54 : decode cX8_comes 54 = .ok (.iconst 4, 1) := by decide +kernel
theorem dX8_comes_55 : decode cX8_comes 55 = .ok (.iload 5, 2) := by decide +kernel
theorem dX8_comes_57 : decode cX8_comes 57 = .ok (.invokevirtual 87, 3) := by decide +kernel
theorem dX8_comes_60 : decode cX8_comes 60 = .ok (.return_, 1) := by decide +kernel
theorem dX8_isOneSo_0 : decode cX8_isOneSo 0 = .ok (.iload_n 0, 1) := by decide +kernel
theorem dX8_isOneSo_1 : decode cX8_isOneSo 1 = .ok (.i2l, 1) := by decide +kernel
theorem dX8_isOneSo_2 : decode cX8_isOneSo 2 = .ok (.lconst 0, 1) := by decide +kernel
theorem dX8_isOneSo_3 : decode cX8_isOneSo 3 = .ok (.ldc2_w 91, 3) := by decide +kernel
theorem dX8_isOneSo_6 : decode cX8_isOneSo 6 = .ok (.invokestatic 68, 3) := by decide +kernel
theorem dX8_isOneSo_9 : decode cX8_isOneSo 9 = .ok (.ifCond .eq 33, 3) := by decide +kernel
theorem dX8_isOneSo_12 : decode cX8_isOneSo 12 = .ok (.iload_n 1, 1) := by decide +kernel
theorem dX8_isOneSo_13 : decode cX8_isOneSo 13 = .ok (.i2l, 1) := by decide +kernel
theorem dX8_isOneSo_14 : decode cX8_isOneSo 14 = .ok (.lconst 0, 1) := by decide +kernel
theorem dX8_isOneSo_15 : decode cX8_isOneSo 15 = .ok (.ldc2_w 93, 3) := by decide +kernel
theorem dX8_isOneSo_18 : decode cX8_isOneSo 18 = .ok (.invokestatic 68, 3) := by decide +kernel
theorem dX8_isOneSo_21 : decode cX8_isOneSo 21 = .ok (.ifCond .eq 21, 3) := by decide +kernel
theorem dX8_isOneSo_24 : decode cX8_isOneSo 24 = .ok (.iload_n 2, 1) := by decide +kernel
theorem dX8_isOneSo_25 : decode cX8_isOneSo 25 = .ok (.i2l, 1) := by decide +kernel
theorem dX8_isOneSo_26 : decode cX8_isOneSo 26 = .ok (.ldc2_w 95, 3) := by decide +kernel
theorem dX8_isOneSo_29 : decode cX8_isOneSo 29 = .ok (.ldc2_w 97, 3) := by decide +kernel
theorem dX8_isOneSo_32 : decode cX8_isOneSo 32 = .ok (.invokestatic 68, 3) := by decide +kernel
theorem dX8_isOneSo_35 : decode cX8_isOneSo 35 = .ok (.ifCond .eq 7, 3) := by decide +kernel
theorem dX8_isOneSo_38 : decode cX8_isOneSo 38 = .ok (.iconst 1, 1) := by decide +kernel
theorem dX8_isOneSo_39 : decode cX8_isOneSo 39 = .ok (.goto 4, 3) := by decide +kernel
theorem dX8_isOneSo_42 : decode cX8_isOneSo 42 = .ok (.iconst 0, 1) := by decide +kernel
theorem dX8_isOneSo_43 : decode cX8_isOneSo 43 = .ok (.ireturn, 1) := by decide +kernel
theorem dX8_one_0 : decode cX8_one 0 = .ok (.iload_n 1, 1) := by decide +kernel
theorem dX8_one_1 : decode cX8_one 1 = .ok (.i2l, 1) := by decide +kernel
theorem dX8_one_2 : decode cX8_one 2 = .ok (.lconst 0, 1) := by decide +kernel
theorem dX8_one_3 : decode cX8_one 3 = .ok (.ldc2_w 99, 3) := by decide +kernel
theorem dX8_one_6 : decode cX8_one 6 = .ok (.invokestatic 68, 3) := by decide +kernel
theorem dX8_one_9 : decode cX8_one 9 = .ok (.ifCond .eq 21, 3) := by decide +kernel
theorem dX8_one_12 : decode cX8_one 12 = .ok (.iload_n 2, 1) := by decide +kernel
theorem dX8_one_13 : decode cX8_one 13 = .ok (.invokestatic 101, 3) := by decide +kernel
theorem dX8_one_16 : decode cX8_one 16 = .ok (.ifCond .eq 14, 3) := by decide +kernel
theorem dX8_one_19 : decode cX8_one 19 = .ok (.iload_n 3, 1) := by decide +kernel
theorem dX8_one_20 : decode cX8_one 20 = .ok (.iload 4, 2) := by decide +kernel
theorem dX8_one_22 : decode cX8_one 22 = .ok (.iload 5, 2) := by decide +kernel
theorem dX8_one_24 : decode cX8_one 24 = .ok (.invokestatic 104, 3) := by decide +kernel
theorem dX8_one_27 : decode cX8_one 27 = .ok (.ifCond .ne 6, 3) := by decide +kernel
theorem dX8_one_30 : decode cX8_one 30 = .ok (.ldc 108, 2) := by decide +kernel
theorem dX8_one_32 : decode cX8_one 32 = .ok (.ireturn, 1) := by decide +kernel
theorem dX8_one_33 : decode cX8_one 33 = .ok (.aload_n 0, 1) := by decide +kernel
theorem dX8_one_34 : decode cX8_one 34 = .ok (.iload_n 2, 1) := by decide +kernel
theorem dX8_one_35 : decode cX8_one 35 = .ok (.invokevirtual 109, 3) := by decide +kernel
theorem dX8_one_38 : decode cX8_one 38 = .ok (.ifCond .ne 6, 3) := by decide +kernel
theorem dX8_one_41 : decode cX8_one 41 = .ok (.ldc 112, 2) := by decide +kernel
theorem dX8_one_43 : decode cX8_one 43 = .ok (.ireturn, 1) := by decide +kernel
theorem dX8_one_44 : decode cX8_one 44 = .ok (.aload_n 0, 1) := by decide +kernel
theorem dX8_one_45 : decode cX8_one 45 = .ok (.getfield 7, 3) := by decide +kernel
theorem dX8_one_48 : decode cX8_one 48 = .ok (.iconst 0, 1) := by decide +kernel
theorem dX8_one_49 : decode cX8_one 49 = .ok (.iaload, 1) := by decide +kernel
theorem dX8_one_50 : decode cX8_one 50 = .ok (.bipush 8, 2) := by decide +kernel
theorem dX8_one_52 : decode cX8_one 52 = .ok (.if_icmp .ne 6, 3) := by decide +kernel
theorem dX8_one_55 : decode cX8_one 55 = .ok (.ldc 113, 2) := by decide +kernel
theorem dX8_one_57 : decode cX8_one 57 = .ok (.ireturn, 1) := by decide +kernel
theorem dX8_one_58 : decode cX8_one 58 = .ok (.aload_n 0, 1) := by decide +kernel
theorem dX8_one_59 : decode cX8_one 59 = .ok (.iload_n 1, 1) := by decide +kernel
theorem dX8_one_60 : decode cX8_one 60 = .ok (.iload_n 2, 1) := by decide +kernel
theorem dX8_one_61 : decode cX8_one 61 = .ok (.iload_n 3, 1) := by decide +kernel
theorem dX8_one_62 : decode cX8_one 62 = .ok (.iload 4, 2) := by decide +kernel
theorem dX8_one_64 : decode cX8_one 64 = .ok (.iload 5, 2) := by decide +kernel
theorem dX8_one_66 : decode cX8_one 66 = .ok (.invokevirtual 114, 3) := by decide +kernel
theorem dX8_one_69 : decode cX8_one 69 = .ok (.aload_n 0, 1) := by decide +kernel
theorem dX8_one_70 : decode cX8_one 70 = .ok (.getfield 7, 3) := by decide +kernel
theorem dX8_one_73 : decode cX8_one 73 = .ok (.iconst 0, 1) := by decide +kernel
theorem dX8_one_74 : decode cX8_one 74 = .ok (.iaload, 1) := by decide +kernel
theorem dX8_one_75 : decode cX8_one 75 = .ok (.iconst 1, 1) := by decide +kernel
theorem dX8_one_76 : decode cX8_one 76 = .ok (.isub, 1) := by decide +kernel
theorem dX8_one_77 : decode cX8_one 77 = .ok (.ireturn, 1) := by decide +kernel
theorem dX8_grows_0 : decode cX8_grows 0 = .ok (.iload_n 2, 1) := by decide +kernel
theorem dX8_grows_1 : decode cX8_grows 1 = .ok (.ifCond .le 7, 3) := by decide +kernel
theorem dX8_grows_4 : decode cX8_grows 4 = .ok (.iload_n 2, 1) := by decide +kernel
theorem dX8_grows_5 : decode cX8_grows 5 = .ok (.goto 5, 3) := by decide +kernel
theorem dX8_grows_8 : decode cX8_grows 8 = .ok (.bipush (-2), 2) := by decide +kernel
theorem dX8_grows_10 : decode cX8_grows 10 = .ok (.istore_n 3, 1) := by decide +kernel
theorem dX8_grows_11 : decode cX8_grows 11 = .ok (.iload_n 1, 1) := by decide +kernel
theorem dX8_grows_12 : decode cX8_grows 12 = .ok (.tableswitch 52 1 5 #[36, 40, 36, 44, 50], 36) := by decide +kernel
theorem dX8_grows_48 : decode cX8_grows 48 = .ok (.iconst 2, 1) := by decide +kernel
theorem dX8_grows_49 : decode cX8_grows 49 = .ok (.iload_n 3, 1) := by decide +kernel
theorem dX8_grows_50 : decode cX8_grows 50 = .ok (.imul, 1) := by decide +kernel
theorem dX8_grows_51 : decode cX8_grows 51 = .ok (.ireturn, 1) := by decide +kernel
theorem dX8_grows_52 : decode cX8_grows 52 = .ok (.iload_n 3, 1) := by decide +kernel
theorem dX8_grows_53 : decode cX8_grows 53 = .ok (.iconst 2, 1) := by decide +kernel
theorem dX8_grows_54 : decode cX8_grows 54 = .ok (.idiv, 1) := by decide +kernel
theorem dX8_grows_55 : decode cX8_grows 55 = .ok (.ireturn, 1) := by decide +kernel
theorem dX8_grows_56 : decode cX8_grows 56 = .ok (.iload_n 3, 1) := by decide +kernel
theorem dX8_grows_57 : decode cX8_grows 57 = .ok (.iconst 2, 1) := by decide +kernel
theorem dX8_grows_58 : decode cX8_grows 58 = .ok (.idiv, 1) := by decide +kernel
theorem dX8_grows_59 : decode cX8_grows 59 = .ok (.iconst 1, 1) := by decide +kernel
theorem dX8_grows_60 : decode cX8_grows 60 = .ok (.isub, 1) := by decide +kernel
theorem dX8_grows_61 : decode cX8_grows 61 = .ok (.ireturn, 1) := by decide +kernel
theorem dX8_grows_62 : decode cX8_grows 62 = .ok (.iconst 0, 1) := by decide +kernel
theorem dX8_grows_63 : decode cX8_grows 63 = .ok (.ireturn, 1) := by decide +kernel
theorem dX8_grows_64 : decode cX8_grows 64 = .ok (.iload_n 3, 1) := by decide +kernel
theorem dX8_grows_65 : decode cX8_grows 65 = .ok (.ireturn, 1) := by decide +kernel
theorem dX8_worth_0 : decode cX8_worth 0 = .ok (.aload_n 0, 1) := by decide +kernel
theorem dX8_worth_1 : decode cX8_worth 1 = .ok (.iload_n 1, 1) := by decide +kernel
theorem dX8_worth_2 : decode cX8_worth 2 = .ok (.iconst 2, 1) := by decide +kernel
theorem dX8_worth_3 : decode cX8_worth 3 = .ok (.invokevirtual 75, 3) := by decide +kernel
theorem dX8_worth_6 : decode cX8_worth 6 = .ok (.istore_n 2, 1) := by decide +kernel
theorem dX8_worth_7 : decode cX8_worth 7 = .ok (.aload_n 0, 1) := by decide +kernel
theorem dX8_worth_8 : decode cX8_worth 8 = .ok (.iload_n 1, 1) := by decide +kernel
theorem dX8_worth_9 : decode cX8_worth 9 = .ok (.iconst 0, 1) := by decide +kernel
theorem dX8_worth_10 : decode cX8_worth 10 = .ok (.invokevirtual 75, 3) := by decide +kernel
theorem dX8_worth_13 : decode cX8_worth 13 = .ok (.tableswitch 59 1 5 #[35, 45, 39, 51, 57], 35) := by decide +kernel
theorem dX8_worth_48 : decode cX8_worth 48 = .ok (.iload_n 2, 1) := by decide +kernel
theorem dX8_worth_49 : decode cX8_worth 49 = .ok (.iconst 5, 1) := by decide +kernel
theorem dX8_worth_50 : decode cX8_worth 50 = .ok (.iadd, 1) := by decide +kernel
theorem dX8_worth_51 : decode cX8_worth 51 = .ok (.ireturn, 1) := by decide +kernel
theorem dX8_worth_52 : decode cX8_worth 52 = .ok (.iconst 2, 1) := by decide +kernel
theorem dX8_worth_53 : decode cX8_worth 53 = .ok (.iload_n 2, 1) := by decide +kernel
theorem dX8_worth_54 : decode cX8_worth 54 = .ok (.iconst 5, 1) := by decide +kernel
theorem dX8_worth_55 : decode cX8_worth 55 = .ok (.iadd, 1) := by decide +kernel
theorem dX8_worth_56 : decode cX8_worth 56 = .ok (.imul, 1) := by decide +kernel
theorem dX8_worth_57 : decode cX8_worth 57 = .ok (.ireturn, 1) := by decide +kernel
theorem dX8_worth_58 : decode cX8_worth 58 = .ok (.sipush 200, 3) := by decide +kernel
theorem dX8_worth_61 : decode cX8_worth 61 = .ok (.iload_n 2, 1) := by decide +kernel
theorem dX8_worth_62 : decode cX8_worth 62 = .ok (.isub, 1) := by decide +kernel
theorem dX8_worth_63 : decode cX8_worth 63 = .ok (.ireturn, 1) := by decide +kernel
theorem dX8_worth_64 : decode cX8_worth 64 = .ok (.sipush 194, 3) := by decide +kernel
theorem dX8_worth_67 : decode cX8_worth 67 = .ok (.iload_n 2, 1) := by decide +kernel
theorem dX8_worth_68 : decode cX8_worth 68 = .ok (.isub, 1) := by decide +kernel
theorem dX8_worth_69 : decode cX8_worth 69 = .ok (.ireturn, 1) := by decide +kernel
theorem dX8_worth_70 : decode cX8_worth 70 = .ok (.iconst 3, 1) := by decide +kernel
theorem dX8_worth_71 : decode cX8_worth 71 = .ok (.ireturn, 1) := by decide +kernel
theorem dX8_worth_72 : decode cX8_worth 72 = .ok (.iload_n 2, 1) := by decide +kernel
theorem dX8_worth_73 : decode cX8_worth 73 = .ok (.ireturn, 1) := by decide +kernel
theorem dX8_isClear_0 : decode cX8_isClear 0 = .ok (.iload_n 1, 1) := by decide +kernel
theorem dX8_isClear_1 : decode cX8_isClear 1 = .ok (.iconst 5, 1) := by decide +kernel
theorem dX8_isClear_2 : decode cX8_isClear 2 = .ok (.idiv, 1) := by decide +kernel
theorem dX8_isClear_3 : decode cX8_isClear 3 = .ok (.iload_n 2, 1) := by decide +kernel
theorem dX8_isClear_4 : decode cX8_isClear 4 = .ok (.iconst 5, 1) := by decide +kernel
theorem dX8_isClear_5 : decode cX8_isClear 5 = .ok (.idiv, 1) := by decide +kernel
theorem dX8_isClear_6 : decode cX8_isClear 6 = .ok (.if_icmp .ne 7, 3) := by decide +kernel
theorem dX8_isClear_9 : decode cX8_isClear 9 = .ok (.iconst 1, 1) := by decide +kernel
theorem dX8_isClear_10 : decode cX8_isClear 10 = .ok (.goto 4, 3) := by decide +kernel
theorem dX8_isClear_13 : decode cX8_isClear 13 = .ok (.iconst 5, 1) := by decide +kernel
theorem dX8_isClear_14 : decode cX8_isClear 14 = .ok (.istore 4, 2) := by decide +kernel
theorem dX8_isClear_16 : decode cX8_isClear 16 = .ok (.iload_n 1, 1) := by decide +kernel
theorem dX8_isClear_17 : decode cX8_isClear 17 = .ok (.iload_n 2, 1) := by decide +kernel
theorem dX8_isClear_18 : decode cX8_isClear 18 = .ok (.if_icmp .ge 7, 3) := by decide +kernel
theorem dX8_isClear_21 : decode cX8_isClear 21 = .ok (.iload_n 1, 1) := by decide +kernel
theorem dX8_isClear_22 : decode cX8_isClear 22 = .ok (.goto 4, 3) := by decide +kernel
theorem dX8_isClear_25 : decode cX8_isClear 25 = .ok (.iload_n 2, 1) := by decide +kernel
theorem dX8_isClear_26 : decode cX8_isClear 26 = .ok (.istore 5, 2) := by decide +kernel
theorem dX8_isClear_28 : decode cX8_isClear 28 = .ok (.iload_n 1, 1) := by decide +kernel
theorem dX8_isClear_29 : decode cX8_isClear 29 = .ok (.iload_n 2, 1) := by decide +kernel
theorem dX8_isClear_30 : decode cX8_isClear 30 = .ok (.if_icmp .ge 7, 3) := by decide +kernel
theorem dX8_isClear_33 : decode cX8_isClear 33 = .ok (.iload_n 2, 1) := by decide +kernel
theorem dX8_isClear_34 : decode cX8_isClear 34 = .ok (.goto 4, 3) := by decide +kernel
theorem dX8_isClear_37 : decode cX8_isClear 37 = .ok (.iload_n 1, 1) := by decide +kernel
theorem dX8_isClear_38 : decode cX8_isClear 38 = .ok (.istore 6, 2) := by decide +kernel
theorem dX8_isClear_40 : decode cX8_isClear 40 = .ok (.iconst 1, 1) := by decide +kernel
theorem dX8_isClear_41 : decode cX8_isClear 41 = .ok (.istore 7, 2) := by decide +kernel
theorem dX8_isClear_43 : decode cX8_isClear 43 = .ok (.iload 5, 2) := by decide +kernel
theorem dX8_isClear_45 : decode cX8_isClear 45 = .ok (.iload 4, 2) := by decide +kernel
theorem dX8_isClear_47 : decode cX8_isClear 47 = .ok (.iadd, 1) := by decide +kernel
theorem dX8_isClear_48 : decode cX8_isClear 48 = .ok (.istore 8, 2) := by decide +kernel
theorem dX8_isClear_50 : decode cX8_isClear 50 = .ok (.iload 8, 2) := by decide +kernel
theorem dX8_isClear_52 : decode cX8_isClear 52 = .ok (.iload 6, 2) := by decide +kernel
theorem dX8_isClear_54 : decode cX8_isClear 54 = .ok (.if_icmp .ge 58, 3) := by decide +kernel
theorem dX8_isClear_57 : decode cX8_isClear 57 = .ok (.iload 7, 2) := by decide +kernel
theorem dX8_isClear_59 : decode cX8_isClear 59 = .ok (.ifCond .eq 53, 3) := by decide +kernel
theorem dX8_isClear_62 : decode cX8_isClear 62 = .ok (.aload_n 0, 1) := by decide +kernel
theorem dX8_isClear_63 : decode cX8_isClear 63 = .ok (.iload 8, 2) := by decide +kernel
theorem dX8_isClear_65 : decode cX8_isClear 65 = .ok (.invokevirtual 79, 3) := by decide +kernel
theorem dX8_isClear_68 : decode cX8_isClear 68 = .ok (.istore 9, 2) := by decide +kernel
theorem dX8_isClear_70 : decode cX8_isClear 70 = .ok (.aload_n 0, 1) := by decide +kernel
theorem dX8_isClear_71 : decode cX8_isClear 71 = .ok (.iload 8, 2) := by decide +kernel
theorem dX8_isClear_73 : decode cX8_isClear 73 = .ok (.invokevirtual 83, 3) := by decide +kernel
theorem dX8_isClear_76 : decode cX8_isClear 76 = .ok (.ifCond .ne 23, 3) := by decide +kernel
theorem dX8_isClear_79 : decode cX8_isClear 79 = .ok (.iload 9, 2) := by decide +kernel
theorem dX8_isClear_81 : decode cX8_isClear 81 = .ok (.ifCond .lt 14, 3) := by decide +kernel
theorem dX8_isClear_84 : decode cX8_isClear 84 = .ok (.aload_n 0, 1) := by decide +kernel
theorem dX8_isClear_85 : decode cX8_isClear 85 = .ok (.iload 9, 2) := by decide +kernel
theorem dX8_isClear_87 : decode cX8_isClear 87 = .ok (.iconst 2, 1) := by decide +kernel
theorem dX8_isClear_88 : decode cX8_isClear 88 = .ok (.invokevirtual 75, 3) := by decide +kernel
theorem dX8_isClear_91 : decode cX8_isClear 91 = .ok (.iload_n 3, 1) := by decide +kernel
theorem dX8_isClear_92 : decode cX8_isClear 92 = .ok (.if_icmp .gt 7, 3) := by decide +kernel
theorem dX8_isClear_95 : decode cX8_isClear 95 = .ok (.iconst 1, 1) := by decide +kernel
theorem dX8_isClear_96 : decode cX8_isClear 96 = .ok (.goto 4, 3) := by decide +kernel
theorem dX8_isClear_99 : decode cX8_isClear 99 = .ok (.iconst 0, 1) := by decide +kernel
theorem dX8_isClear_100 : decode cX8_isClear 100 = .ok (.istore 7, 2) := by decide +kernel
theorem dX8_isClear_102 : decode cX8_isClear 102 = .ok (.iload 8, 2) := by decide +kernel
theorem dX8_isClear_104 : decode cX8_isClear 104 = .ok (.iload 4, 2) := by decide +kernel
theorem dX8_isClear_106 : decode cX8_isClear 106 = .ok (.iadd, 1) := by decide +kernel
theorem dX8_isClear_107 : decode cX8_isClear 107 = .ok (.istore 8, 2) := by decide +kernel
theorem dX8_isClear_109 : decode cX8_isClear 109 = .ok (.goto (-59), 3) := by decide +kernel
theorem dX8_isClear_112 : decode cX8_isClear 112 = .ok (.iload 7, 2) := by decide +kernel
theorem dX8_isClear_114 : decode cX8_isClear 114 = .ok (.ireturn, 1) := by decide +kernel
theorem dX8_doesSee_0 : decode cX8_doesSee 0 = .ok (.aload_n 0, 1) := by decide +kernel
theorem dX8_doesSee_1 : decode cX8_doesSee 1 = .ok (.iload_n 1, 1) := by decide +kernel
theorem dX8_doesSee_2 : decode cX8_doesSee 2 = .ok (.iconst 1, 1) := by decide +kernel
theorem dX8_doesSee_3 : decode cX8_doesSee 3 = .ok (.invokevirtual 75, 3) := by decide +kernel
theorem dX8_doesSee_6 : decode cX8_doesSee 6 = .ok (.istore_n 3, 1) := by decide +kernel
theorem dX8_doesSee_7 : decode cX8_doesSee 7 = .ok (.aload_n 0, 1) := by decide +kernel
theorem dX8_doesSee_8 : decode cX8_doesSee 8 = .ok (.iload_n 2, 1) := by decide +kernel
theorem dX8_doesSee_9 : decode cX8_doesSee 9 = .ok (.iconst 1, 1) := by decide +kernel
theorem dX8_doesSee_10 : decode cX8_doesSee 10 = .ok (.invokevirtual 75, 3) := by decide +kernel
theorem dX8_doesSee_13 : decode cX8_doesSee 13 = .ok (.istore 4, 2) := by decide +kernel
theorem dX8_doesSee_15 : decode cX8_doesSee 15 = .ok (.iload_n 1, 1) := by decide +kernel
theorem dX8_doesSee_16 : decode cX8_doesSee 16 = .ok (.iload_n 2, 1) := by decide +kernel
theorem dX8_doesSee_17 : decode cX8_doesSee 17 = .ok (.if_icmp .eq 23, 3) := by decide +kernel
theorem dX8_doesSee_20 : decode cX8_doesSee 20 = .ok (.iload_n 3, 1) := by decide +kernel
theorem dX8_doesSee_21 : decode cX8_doesSee 21 = .ok (.iconst 5, 1) := by decide +kernel
theorem dX8_doesSee_22 : decode cX8_doesSee 22 = .ok (.idiv, 1) := by decide +kernel
theorem dX8_doesSee_23 : decode cX8_doesSee 23 = .ok (.iload 4, 2) := by decide +kernel
theorem dX8_doesSee_25 : decode cX8_doesSee 25 = .ok (.iconst 5, 1) := by decide +kernel
theorem dX8_doesSee_26 : decode cX8_doesSee 26 = .ok (.idiv, 1) := by decide +kernel
theorem dX8_doesSee_27 : decode cX8_doesSee 27 = .ok (.if_icmp .eq 15, 3) := by decide +kernel
theorem dX8_doesSee_30 : decode cX8_doesSee 30 = .ok (.iload_n 3, 1) := by decide +kernel
theorem dX8_doesSee_31 : decode cX8_doesSee 31 = .ok (.iconst 5, 1) := by decide +kernel
theorem dX8_doesSee_32 : decode cX8_doesSee 32 = .ok (.irem, 1) := by decide +kernel
theorem dX8_doesSee_33 : decode cX8_doesSee 33 = .ok (.iload 4, 2) := by decide +kernel
theorem dX8_doesSee_35 : decode cX8_doesSee 35 = .ok (.iconst 5, 1) := by decide +kernel
theorem dX8_doesSee_36 : decode cX8_doesSee 36 = .ok (.irem, 1) := by decide +kernel
theorem dX8_doesSee_37 : decode cX8_doesSee 37 = .ok (.if_icmp .eq 5, 3) := by decide +kernel
theorem dX8_doesSee_40 : decode cX8_doesSee 40 = .ok (.iconst 0, 1) := by decide +kernel
theorem dX8_doesSee_41 : decode cX8_doesSee 41 = .ok (.ireturn, 1) := by decide +kernel
theorem dX8_doesSee_42 : decode cX8_doesSee 42 = .ok (.aload_n 0, 1) := by decide +kernel
theorem dX8_doesSee_43 : decode cX8_doesSee 43 = .ok (.iload_n 3, 1) := by decide +kernel
theorem dX8_doesSee_44 : decode cX8_doesSee 44 = .ok (.iload 4, 2) := by decide +kernel
theorem dX8_doesSee_46 : decode cX8_doesSee 46 = .ok (.aload_n 0, 1) := by decide +kernel
theorem dX8_doesSee_47 : decode cX8_doesSee 47 = .ok (.iload_n 1, 1) := by decide +kernel
theorem dX8_doesSee_48 : decode cX8_doesSee 48 = .ok (.iconst 2, 1) := by decide +kernel
theorem dX8_doesSee_49 : decode cX8_doesSee 49 = .ok (.invokevirtual 75, 3) := by decide +kernel
theorem dX8_doesSee_52 : decode cX8_doesSee 52 = .ok (.aload_n 0, 1) := by decide +kernel
theorem dX8_doesSee_53 : decode cX8_doesSee 53 = .ok (.iload_n 2, 1) := by decide +kernel
theorem dX8_doesSee_54 : decode cX8_doesSee 54 = .ok (.iconst 2, 1) := by decide +kernel
theorem dX8_doesSee_55 : decode cX8_doesSee 55 = .ok (.invokevirtual 75, 3) := by decide +kernel
theorem dX8_doesSee_58 : decode cX8_doesSee 58 = .ok (.if_icmp .le 12, 3) := by decide +kernel
theorem dX8_doesSee_61 : decode cX8_doesSee 61 = .ok (.aload_n 0, 1) := by decide +kernel
theorem dX8_doesSee_62 : decode cX8_doesSee 62 = .ok (.iload_n 1, 1) := by decide +kernel
theorem dX8_doesSee_63 : decode cX8_doesSee 63 = .ok (.iconst 2, 1) := by decide +kernel
theorem dX8_doesSee_64 : decode cX8_doesSee 64 = .ok (.invokevirtual 75, 3) := by decide +kernel
theorem dX8_doesSee_67 : decode cX8_doesSee 67 = .ok (.goto 9, 3) := by decide +kernel
theorem dX8_doesSee_70 : decode cX8_doesSee 70 = .ok (.aload_n 0, 1) := by decide +kernel
theorem dX8_doesSee_71 : decode cX8_doesSee 71 = .ok (.iload_n 2, 1) := by decide +kernel
theorem dX8_doesSee_72 : decode cX8_doesSee 72 = .ok (.iconst 2, 1) := by decide +kernel
theorem dX8_doesSee_73 : decode cX8_doesSee 73 = .ok (.invokevirtual 75, 3) := by decide +kernel
theorem dX8_doesSee_76 : decode cX8_doesSee 76 = .ok (.invokevirtual 118, 3) := by decide +kernel
theorem dX8_doesSee_79 : decode cX8_doesSee 79 = .ok (.ireturn, 1) := by decide +kernel
theorem dX8_pulls_0 : decode cX8_pulls 0 = .ok (.aload_n 0, 1) := by decide +kernel
theorem dX8_pulls_1 : decode cX8_pulls 1 = .ok (.iconst 0, 1) := by decide +kernel
theorem dX8_pulls_2 : decode cX8_pulls 2 = .ok (.invokevirtual 121, 3) := by decide +kernel
theorem dX8_pulls_5 : decode cX8_pulls 5 = .ok (.istore_n 3, 1) := by decide +kernel
theorem dX8_pulls_6 : decode cX8_pulls 6 = .ok (.aload_n 0, 1) := by decide +kernel
theorem dX8_pulls_7 : decode cX8_pulls 7 = .ok (.iload_n 1, 1) := by decide +kernel
theorem dX8_pulls_8 : decode cX8_pulls 8 = .ok (.iconst 2, 1) := by decide +kernel
theorem dX8_pulls_9 : decode cX8_pulls 9 = .ok (.invokevirtual 75, 3) := by decide +kernel
theorem dX8_pulls_12 : decode cX8_pulls 12 = .ok (.aload_n 0, 1) := by decide +kernel
theorem dX8_pulls_13 : decode cX8_pulls 13 = .ok (.iload_n 1, 1) := by decide +kernel
theorem dX8_pulls_14 : decode cX8_pulls 14 = .ok (.iconst 3, 1) := by decide +kernel
theorem dX8_pulls_15 : decode cX8_pulls 15 = .ok (.invokevirtual 75, 3) := by decide +kernel
theorem dX8_pulls_18 : decode cX8_pulls 18 = .ok (.iadd, 1) := by decide +kernel
theorem dX8_pulls_19 : decode cX8_pulls 19 = .ok (.iconst 3, 1) := by decide +kernel
theorem dX8_pulls_20 : decode cX8_pulls 20 = .ok (.iload_n 2, 1) := by decide +kernel
theorem dX8_pulls_21 : decode cX8_pulls 21 = .ok (.imul, 1) := by decide +kernel
theorem dX8_pulls_22 : decode cX8_pulls 22 = .ok (.isub, 1) := by decide +kernel
theorem dX8_pulls_23 : decode cX8_pulls 23 = .ok (.istore 4, 2) := by decide +kernel
theorem dX8_pulls_25 : decode cX8_pulls 25 = .ok (.iload_n 3, 1) := by decide +kernel
theorem dX8_pulls_26 : decode cX8_pulls 26 = .ok (.ifCond .lt 44, 3) := by decide +kernel
theorem dX8_pulls_29 : decode cX8_pulls 29 = .ok (.aload_n 0, 1) := by decide +kernel
theorem dX8_pulls_30 : decode cX8_pulls 30 = .ok (.getfield 52, 3) := by decide +kernel
theorem dX8_pulls_33 : decode cX8_pulls 33 = .ok (.bipush 115, 2) := by decide +kernel
theorem dX8_pulls_35 : decode cX8_pulls 35 = .ok (.aload_n 0, 1) := by decide +kernel
theorem dX8_pulls_36 : decode cX8_pulls 36 = .ok (.iload_n 1, 1) := by decide +kernel
theorem dX8_pulls_37 : decode cX8_pulls 37 = .ok (.iconst 2, 1) := by decide +kernel
theorem dX8_pulls_38 : decode cX8_pulls 38 = .ok (.invokevirtual 75, 3) := by decide +kernel
theorem dX8_pulls_41 : decode cX8_pulls 41 = .ok (.iastore, 1) := by decide +kernel
theorem dX8_pulls_42 : decode cX8_pulls 42 = .ok (.aload_n 0, 1) := by decide +kernel
theorem dX8_pulls_43 : decode cX8_pulls 43 = .ok (.getfield 52, 3) := by decide +kernel
theorem dX8_pulls_46 : decode cX8_pulls 46 = .ok (.bipush 110, 2) := by decide +kernel
theorem dX8_pulls_48 : decode cX8_pulls 48 = .ok (.aload_n 0, 1) := by decide +kernel
theorem dX8_pulls_49 : decode cX8_pulls 49 = .ok (.iload_n 1, 1) := by decide +kernel
theorem dX8_pulls_50 : decode cX8_pulls 50 = .ok (.iconst 3, 1) := by decide +kernel
theorem dX8_pulls_51 : decode cX8_pulls 51 = .ok (.invokevirtual 75, 3) := by decide +kernel
theorem dX8_pulls_54 : decode cX8_pulls 54 = .ok (.iastore, 1) := by decide +kernel
theorem dX8_pulls_55 : decode cX8_pulls 55 = .ok (.aload_n 0, 1) := by decide +kernel
theorem dX8_pulls_56 : decode cX8_pulls 56 = .ok (.getfield 52, 3) := by decide +kernel
theorem dX8_pulls_59 : decode cX8_pulls 59 = .ok (.bipush 102, 2) := by decide +kernel
theorem dX8_pulls_61 : decode cX8_pulls 61 = .ok (.iload_n 2, 1) := by decide +kernel
theorem dX8_pulls_62 : decode cX8_pulls 62 = .ok (.iastore, 1) := by decide +kernel
theorem dX8_pulls_63 : decode cX8_pulls 63 = .ok (.aload_n 0, 1) := by decide +kernel
theorem dX8_pulls_64 : decode cX8_pulls 64 = .ok (.iload_n 3, 1) := by decide +kernel
theorem dX8_pulls_65 : decode cX8_pulls 65 = .ok (.invokevirtual 124, 3) := by decide +kernel
theorem dX8_pulls_68 : decode cX8_pulls 68 = .ok (.istore 4, 2) := by decide +kernel
theorem dX8_pulls_70 : decode cX8_pulls 70 = .ok (.iload 4, 2) := by decide +kernel
theorem dX8_pulls_72 : decode cX8_pulls 72 = .ok (.sipush 499, 3) := by decide +kernel
theorem dX8_pulls_75 : decode cX8_pulls 75 = .ok (.invokestatic 127, 3) := by decide +kernel
theorem dX8_pulls_78 : decode cX8_pulls 78 = .ok (.istore 4, 2) := by decide +kernel
theorem dX8_pulls_80 : decode cX8_pulls 80 = .ok (.aload_n 0, 1) := by decide +kernel
theorem dX8_pulls_81 : decode cX8_pulls 81 = .ok (.iload_n 1, 1) := by decide +kernel
theorem dX8_pulls_82 : decode cX8_pulls 82 = .ok (.iconst 0, 1) := by decide +kernel
theorem dX8_pulls_83 : decode cX8_pulls 83 = .ok (.invokevirtual 75, 3) := by decide +kernel
theorem dX8_pulls_86 : decode cX8_pulls 86 = .ok (.tableswitch 49 1 4 #[30, 44, 36, 44], 30) := by decide +kernel
theorem dX8_pulls_116 : decode cX8_pulls 116 = .ok (.iload 4, 2) := by decide +kernel
theorem dX8_pulls_118 : decode cX8_pulls 118 = .ok (.bipush 15, 2) := by decide +kernel
theorem dX8_pulls_120 : decode cX8_pulls 120 = .ok (.iadd, 1) := by decide +kernel
theorem dX8_pulls_121 : decode cX8_pulls 121 = .ok (.ireturn, 1) := by decide +kernel
theorem dX8_pulls_122 : decode cX8_pulls 122 = .ok (.iconst 2, 1) := by decide +kernel
theorem dX8_pulls_123 : decode cX8_pulls 123 = .ok (.iload 4, 2) := by decide +kernel
theorem dX8_pulls_125 : decode cX8_pulls 125 = .ok (.bipush 15, 2) := by decide +kernel
theorem dX8_pulls_127 : decode cX8_pulls 127 = .ok (.iadd, 1) := by decide +kernel
theorem dX8_pulls_128 : decode cX8_pulls 128 = .ok (.imul, 1) := by decide +kernel
theorem dX8_pulls_129 : decode cX8_pulls 129 = .ok (.ireturn, 1) := by decide +kernel
theorem dX8_pulls_130 : decode cX8_pulls 130 = .ok (.iload 4, 2) := by decide +kernel
theorem dX8_pulls_132 : decode cX8_pulls 132 = .ok (.iconst 2, 1) := by decide +kernel
theorem dX8_pulls_133 : decode cX8_pulls 133 = .ok (.idiv, 1) := by decide +kernel
theorem dX8_pulls_134 : decode cX8_pulls 134 = .ok (.ireturn, 1) := by decide +kernel
theorem dX8_pulls_135 : decode cX8_pulls 135 = .ok (.iload 4, 2) := by decide +kernel
theorem dX8_pulls_137 : decode cX8_pulls 137 = .ok (.ireturn, 1) := by decide +kernel
theorem dX8_looksAt_0 : decode cX8_looksAt 0 = .ok (.aload_n 0, 1) := by decide +kernel
theorem dX8_looksAt_1 : decode cX8_looksAt 1 = .ok (.iload_n 1, 1) := by decide +kernel
theorem dX8_looksAt_2 : decode cX8_looksAt 2 = .ok (.iconst 0, 1) := by decide +kernel
theorem dX8_looksAt_3 : decode cX8_looksAt 3 = .ok (.invokevirtual 75, 3) := by decide +kernel
theorem dX8_looksAt_6 : decode cX8_looksAt 6 = .ok (.iconst 3, 1) := by decide +kernel
theorem dX8_looksAt_7 : decode cX8_looksAt 7 = .ok (.if_icmp .ne 5, 3) := by decide +kernel
theorem dX8_looksAt_10 : decode cX8_looksAt 10 = .ok (.iconst (-1), 1) := by decide +kernel
theorem dX8_looksAt_11 : decode cX8_looksAt 11 = .ok (.ireturn, 1) := by decide +kernel
theorem dX8_looksAt_12 : decode cX8_looksAt 12 = .ok (.iconst (-1), 1) := by decide +kernel
theorem dX8_looksAt_13 : decode cX8_looksAt 13 = .ok (.istore_n 2, 1) := by decide +kernel
theorem dX8_looksAt_14 : decode cX8_looksAt 14 = .ok (.iconst (-1), 1) := by decide +kernel
theorem dX8_looksAt_15 : decode cX8_looksAt 15 = .ok (.istore_n 3, 1) := by decide +kernel
theorem dX8_looksAt_16 : decode cX8_looksAt 16 = .ok (.iconst 0, 1) := by decide +kernel
theorem dX8_looksAt_17 : decode cX8_looksAt 17 = .ok (.istore 4, 2) := by decide +kernel
theorem dX8_looksAt_19 : decode cX8_looksAt 19 = .ok (.iload 4, 2) := by decide +kernel
theorem dX8_looksAt_21 : decode cX8_looksAt 21 = .ok (.aload_n 0, 1) := by decide +kernel
theorem dX8_looksAt_22 : decode cX8_looksAt 22 = .ok (.getfield 7, 3) := by decide +kernel
theorem dX8_looksAt_25 : decode cX8_looksAt 25 = .ok (.iconst 0, 1) := by decide +kernel
theorem dX8_looksAt_26 : decode cX8_looksAt 26 = .ok (.iaload, 1) := by decide +kernel
theorem dX8_looksAt_27 : decode cX8_looksAt 27 = .ok (.if_icmp .ge 121, 3) := by decide +kernel
theorem dX8_looksAt_30 : decode cX8_looksAt 30 = .ok (.aload_n 0, 1) := by decide +kernel
theorem dX8_looksAt_31 : decode cX8_looksAt 31 = .ok (.iload 4, 2) := by decide +kernel
theorem dX8_looksAt_33 : decode cX8_looksAt 33 = .ok (.iconst 2, 1) := by decide +kernel
theorem dX8_looksAt_34 : decode cX8_looksAt 34 = .ok (.invokevirtual 75, 3) := by decide +kernel
theorem dX8_looksAt_37 : decode cX8_looksAt 37 = .ok (.ifCond .le 105, 3) := by decide +kernel
theorem dX8_looksAt_40 : decode cX8_looksAt 40 = .ok (.aload_n 0, 1) := by decide +kernel
theorem dX8_looksAt_41 : decode cX8_looksAt 41 = .ok (.iload_n 1, 1) := by decide +kernel
theorem dX8_looksAt_42 : decode cX8_looksAt 42 = .ok (.iload 4, 2) := by decide +kernel
theorem dX8_looksAt_44 : decode cX8_looksAt 44 = .ok (.invokevirtual 130, 3) := by decide +kernel
theorem dX8_looksAt_47 : decode cX8_looksAt 47 = .ok (.ifCond .eq 95, 3) := by decide +kernel
theorem dX8_looksAt_50 : decode cX8_looksAt 50 = .ok (.aload_n 0, 1) := by decide +kernel
theorem dX8_looksAt_51 : decode cX8_looksAt 51 = .ok (.iload_n 1, 1) := by decide +kernel
theorem dX8_looksAt_52 : decode cX8_looksAt 52 = .ok (.iconst 1, 1) := by decide +kernel
theorem dX8_looksAt_53 : decode cX8_looksAt 53 = .ok (.invokevirtual 75, 3) := by decide +kernel
theorem dX8_looksAt_56 : decode cX8_looksAt 56 = .ok (.istore 5, 2) := by decide +kernel
theorem dX8_looksAt_58 : decode cX8_looksAt 58 = .ok (.aload_n 0, 1) := by decide +kernel
theorem dX8_looksAt_59 : decode cX8_looksAt 59 = .ok (.iload 4, 2) := by decide +kernel
theorem dX8_looksAt_61 : decode cX8_looksAt 61 = .ok (.iconst 1, 1) := by decide +kernel
theorem dX8_looksAt_62 : decode cX8_looksAt 62 = .ok (.invokevirtual 75, 3) := by decide +kernel
theorem dX8_looksAt_65 : decode cX8_looksAt 65 = .ok (.istore 6, 2) := by decide +kernel
theorem dX8_looksAt_67 : decode cX8_looksAt 67 = .ok (.aload_n 0, 1) := by decide +kernel
theorem dX8_looksAt_68 : decode cX8_looksAt 68 = .ok (.iload 4, 2) := by decide +kernel
theorem dX8_looksAt_70 : decode cX8_looksAt 70 = .ok (.iload 5, 2) := by decide +kernel
theorem dX8_looksAt_72 : decode cX8_looksAt 72 = .ok (.iconst 5, 1) := by decide +kernel
theorem dX8_looksAt_73 : decode cX8_looksAt 73 = .ok (.idiv, 1) := by decide +kernel
theorem dX8_looksAt_74 : decode cX8_looksAt 74 = .ok (.iload 6, 2) := by decide +kernel
theorem dX8_looksAt_76 : decode cX8_looksAt 76 = .ok (.iconst 5, 1) := by decide +kernel
theorem dX8_looksAt_77 : decode cX8_looksAt 77 = .ok (.idiv, 1) := by decide +kernel
theorem dX8_looksAt_78 : decode cX8_looksAt 78 = .ok (.invokestatic 134, 3) := by decide +kernel
theorem dX8_looksAt_81 : decode cX8_looksAt 81 = .ok (.iload 5, 2) := by decide +kernel
theorem dX8_looksAt_83 : decode cX8_looksAt 83 = .ok (.iconst 5, 1) := by decide +kernel
theorem dX8_looksAt_84 : decode cX8_looksAt 84 = .ok (.irem, 1) := by decide +kernel
theorem dX8_looksAt_85 : decode cX8_looksAt 85 = .ok (.iload 6, 2) := by decide +kernel
theorem dX8_looksAt_87 : decode cX8_looksAt 87 = .ok (.iconst 5, 1) := by decide +kernel
theorem dX8_looksAt_88 : decode cX8_looksAt 88 = .ok (.irem, 1) := by decide +kernel
theorem dX8_looksAt_89 : decode cX8_looksAt 89 = .ok (.invokestatic 134, 3) := by decide +kernel
theorem dX8_looksAt_92 : decode cX8_looksAt 92 = .ok (.iadd, 1) := by decide +kernel
theorem dX8_looksAt_93 : decode cX8_looksAt 93 = .ok (.invokevirtual 137, 3) := by decide +kernel
theorem dX8_looksAt_96 : decode cX8_looksAt 96 = .ok (.aload_n 0, 1) := by decide +kernel
theorem dX8_looksAt_97 : decode cX8_looksAt 97 = .ok (.iload_n 1, 1) := by decide +kernel
theorem dX8_looksAt_98 : decode cX8_looksAt 98 = .ok (.iconst 4, 1) := by decide +kernel
theorem dX8_looksAt_99 : decode cX8_looksAt 99 = .ok (.invokevirtual 75, 3) := by decide +kernel
theorem dX8_looksAt_102 : decode cX8_looksAt 102 = .ok (.iload 4, 2) := by decide +kernel
theorem dX8_looksAt_104 : decode cX8_looksAt 104 = .ok (.if_icmp .ne 8, 3) := by decide +kernel
theorem dX8_looksAt_107 : decode cX8_looksAt 107 = .ok (.bipush 40, 2) := by decide +kernel
theorem dX8_looksAt_109 : decode cX8_looksAt 109 = .ok (.goto 4, 3) := by decide +kernel
theorem dX8_looksAt_112 : decode cX8_looksAt 112 = .ok (.iconst 0, 1) := by decide +kernel
theorem dX8_looksAt_113 : decode cX8_looksAt 113 = .ok (.iadd, 1) := by decide +kernel
theorem dX8_looksAt_114 : decode cX8_looksAt 114 = .ok (.istore 7, 2) := by decide +kernel
theorem dX8_looksAt_116 : decode cX8_looksAt 116 = .ok (.iload 7, 2) := by decide +kernel
theorem dX8_looksAt_118 : decode cX8_looksAt 118 = .ok (.iload_n 3, 1) := by decide +kernel
theorem dX8_looksAt_119 : decode cX8_looksAt 119 = .ok (.if_icmp .le 8, 3) := by decide +kernel
theorem dX8_looksAt_122 : decode cX8_looksAt 122 = .ok (.iload 4, 2) := by decide +kernel
theorem dX8_looksAt_124 : decode cX8_looksAt 124 = .ok (.goto 4, 3) := by decide +kernel
theorem dX8_looksAt_127 : decode cX8_looksAt 127 = .ok (.iload_n 2, 1) := by decide +kernel
theorem dX8_looksAt_128 : decode cX8_looksAt 128 = .ok (.istore_n 2, 1) := by decide +kernel
theorem dX8_looksAt_129 : decode cX8_looksAt 129 = .ok (.iload 7, 2) := by decide +kernel
theorem dX8_looksAt_131 : decode cX8_looksAt 131 = .ok (.iload_n 3, 1) := by decide +kernel
theorem dX8_looksAt_132 : decode cX8_looksAt 132 = .ok (.if_icmp .le 8, 3) := by decide +kernel
theorem dX8_looksAt_135 : decode cX8_looksAt 135 = .ok (.iload 7, 2) := by decide +kernel
theorem dX8_looksAt_137 : decode cX8_looksAt 137 = .ok (.goto 4, 3) := by decide +kernel
theorem dX8_looksAt_140 : decode cX8_looksAt 140 = .ok (.iload_n 3, 1) := by decide +kernel
theorem dX8_looksAt_141 : decode cX8_looksAt 141 = .ok (.istore_n 3, 1) := by decide +kernel
theorem dX8_looksAt_142 : decode cX8_looksAt 142 = .ok (.iinc 4 1, 3) := by decide +kernel
theorem dX8_looksAt_145 : decode cX8_looksAt 145 = .ok (.goto (-126), 3) := by decide +kernel
theorem dX8_looksAt_148 : decode cX8_looksAt 148 = .ok (.iload_n 2, 1) := by decide +kernel
theorem dX8_looksAt_149 : decode cX8_looksAt 149 = .ok (.ireturn, 1) := by decide +kernel
theorem dX8_eyesOf_0 : decode cX8_eyesOf 0 = .ok (.iconst 0, 1) := by decide +kernel
theorem dX8_eyesOf_1 : decode cX8_eyesOf 1 = .ok (.istore_n 2, 1) := by decide +kernel
theorem dX8_eyesOf_2 : decode cX8_eyesOf 2 = .ok (.iconst 0, 1) := by decide +kernel
theorem dX8_eyesOf_3 : decode cX8_eyesOf 3 = .ok (.istore_n 3, 1) := by decide +kernel
theorem dX8_eyesOf_4 : decode cX8_eyesOf 4 = .ok (.iload_n 3, 1) := by decide +kernel
theorem dX8_eyesOf_5 : decode cX8_eyesOf 5 = .ok (.aload_n 0, 1) := by decide +kernel
theorem dX8_eyesOf_6 : decode cX8_eyesOf 6 = .ok (.getfield 7, 3) := by decide +kernel
theorem dX8_eyesOf_9 : decode cX8_eyesOf 9 = .ok (.iconst 0, 1) := by decide +kernel
theorem dX8_eyesOf_10 : decode cX8_eyesOf 10 = .ok (.iaload, 1) := by decide +kernel
theorem dX8_eyesOf_11 : decode cX8_eyesOf 11 = .ok (.if_icmp .ge 28, 3) := by decide +kernel
theorem dX8_eyesOf_14 : decode cX8_eyesOf 14 = .ok (.iload_n 2, 1) := by decide +kernel
theorem dX8_eyesOf_15 : decode cX8_eyesOf 15 = .ok (.aload_n 0, 1) := by decide +kernel
theorem dX8_eyesOf_16 : decode cX8_eyesOf 16 = .ok (.iload_n 3, 1) := by decide +kernel
theorem dX8_eyesOf_17 : decode cX8_eyesOf 17 = .ok (.invokevirtual 140, 3) := by decide +kernel
theorem dX8_eyesOf_20 : decode cX8_eyesOf 20 = .ok (.iload_n 1, 1) := by decide +kernel
theorem dX8_eyesOf_21 : decode cX8_eyesOf 21 = .ok (.if_icmp .ne 9, 3) := by decide +kernel
theorem dX8_eyesOf_24 : decode cX8_eyesOf 24 = .ok (.iconst 1, 1) := by decide +kernel
theorem dX8_eyesOf_25 : decode cX8_eyesOf 25 = .ok (.iload_n 3, 1) := by decide +kernel
theorem dX8_eyesOf_26 : decode cX8_eyesOf 26 = .ok (.ishl, 1) := by decide +kernel
theorem dX8_eyesOf_27 : decode cX8_eyesOf 27 = .ok (.goto 4, 3) := by decide +kernel
theorem dX8_eyesOf_30 : decode cX8_eyesOf 30 = .ok (.iconst 0, 1) := by decide +kernel
theorem dX8_eyesOf_31 : decode cX8_eyesOf 31 = .ok (.ior, 1) := by decide +kernel
theorem dX8_eyesOf_32 : decode cX8_eyesOf 32 = .ok (.istore_n 2, 1) := by decide +kernel
theorem dX8_eyesOf_33 : decode cX8_eyesOf 33 = .ok (.iinc 3 1, 3) := by decide +kernel
theorem dX8_eyesOf_36 : decode cX8_eyesOf 36 = .ok (.goto (-32), 3) := by decide +kernel
theorem dX8_eyesOf_39 : decode cX8_eyesOf 39 = .ok (.iload_n 2, 1) := by decide +kernel
theorem dX8_eyesOf_40 : decode cX8_eyesOf 40 = .ok (.ireturn, 1) := by decide +kernel
theorem dX8_many_0 : decode cX8_many 0 = .ok (.iconst 0, 1) := by decide +kernel
theorem dX8_many_1 : decode cX8_many 1 = .ok (.istore_n 1, 1) := by decide +kernel
theorem dX8_many_2 : decode cX8_many 2 = .ok (.iconst 0, 1) := by decide +kernel
theorem dX8_many_3 : decode cX8_many 3 = .ok (.istore_n 2, 1) := by decide +kernel
theorem dX8_many_4 : decode cX8_many 4 = .ok (.iload_n 2, 1) := by decide +kernel
theorem dX8_many_5 : decode cX8_many 5 = .ok (.bipush 8, 2) := by decide +kernel
theorem dX8_many_7 : decode cX8_many 7 = .ok (.if_icmp .ge 17, 3) := by decide +kernel
theorem dX8_many_10 : decode cX8_many 10 = .ok (.iload_n 1, 1) := by decide +kernel
theorem dX8_many_11 : decode cX8_many 11 = .ok (.iload_n 0, 1) := by decide +kernel
theorem dX8_many_12 : decode cX8_many 12 = .ok (.iload_n 2, 1) := by decide +kernel
theorem dX8_many_13 : decode cX8_many 13 = .ok (.ishr, 1) := by decide +kernel
theorem dX8_many_14 : decode cX8_many 14 = .ok (.iconst 1, 1) := by decide +kernel
theorem dX8_many_15 : decode cX8_many 15 = .ok (.iand, 1) := by decide +kernel
theorem dX8_many_16 : decode cX8_many 16 = .ok (.iadd, 1) := by decide +kernel
theorem dX8_many_17 : decode cX8_many 17 = .ok (.istore_n 1, 1) := by decide +kernel
theorem dX8_many_18 : decode cX8_many 18 = .ok (.iinc 2 1, 3) := by decide +kernel
theorem dX8_many_21 : decode cX8_many 21 = .ok (.goto (-17), 3) := by decide +kernel
theorem dX8_many_24 : decode cX8_many 24 = .ok (.iload_n 1, 1) := by decide +kernel
theorem dX8_many_25 : decode cX8_many 25 = .ok (.ireturn, 1) := by decide +kernel
theorem dX8_told_0 : decode cX8_told 0 = .ok (.aload_n 0, 1) := by decide +kernel
theorem dX8_told_1 : decode cX8_told 1 = .ok (.iload_n 1, 1) := by decide +kernel
theorem dX8_told_2 : decode cX8_told 2 = .ok (.invokevirtual 143, 3) := by decide +kernel
theorem dX8_told_5 : decode cX8_told 5 = .ok (.ifCond .eq 15, 3) := by decide +kernel
theorem dX8_told_8 : decode cX8_told 8 = .ok (.iload_n 2, 1) := by decide +kernel
theorem dX8_told_9 : decode cX8_told 9 = .ok (.i2l, 1) := by decide +kernel
theorem dX8_told_10 : decode cX8_told 10 = .ok (.lconst 0, 1) := by decide +kernel
theorem dX8_told_11 : decode cX8_told 11 = .ok (.ldc2_w 146, 3) := by decide +kernel
theorem dX8_told_14 : decode cX8_told 14 = .ok (.invokestatic 68, 3) := by decide +kernel
theorem dX8_told_17 : decode cX8_told 17 = .ok (.ifCond .ne 6, 3) := by decide +kernel
theorem dX8_told_20 : decode cX8_told 20 = .ok (.ldc 108, 2) := by decide +kernel
theorem dX8_told_22 : decode cX8_told 22 = .ok (.ireturn, 1) := by decide +kernel
theorem dX8_told_23 : decode cX8_told 23 = .ok (.iload_n 2, 1) := by decide +kernel
theorem dX8_told_24 : decode cX8_told 24 = .ok (.iconst 5, 1) := by decide +kernel
theorem dX8_told_25 : decode cX8_told 25 = .ok (.if_icmp .ge 12, 3) := by decide +kernel
theorem dX8_told_28 : decode cX8_told 28 = .ok (.aload_n 0, 1) := by decide +kernel
theorem dX8_told_29 : decode cX8_told 29 = .ok (.iload_n 1, 1) := by decide +kernel
theorem dX8_told_30 : decode cX8_told 30 = .ok (.iload_n 2, 1) := by decide +kernel
theorem dX8_told_31 : decode cX8_told 31 = .ok (.invokevirtual 75, 3) := by decide +kernel
theorem dX8_told_34 : decode cX8_told 34 = .ok (.goto 34, 3) := by decide +kernel
theorem dX8_told_37 : decode cX8_told 37 = .ok (.iload_n 2, 1) := by decide +kernel
theorem dX8_told_38 : decode cX8_told 38 = .ok (.iconst 5, 1) := by decide +kernel
theorem dX8_told_39 : decode cX8_told 39 = .ok (.if_icmp .ne 24, 3) := by decide +kernel
theorem dX8_told_42 : decode cX8_told 42 = .ok (.aload_n 0, 1) := by decide +kernel
theorem dX8_told_43 : decode cX8_told 43 = .ok (.aload_n 0, 1) := by decide +kernel
theorem dX8_told_44 : decode cX8_told 44 = .ok (.iload_n 1, 1) := by decide +kernel
theorem dX8_told_45 : decode cX8_told 45 = .ok (.iconst 0, 1) := by decide +kernel
theorem dX8_told_46 : decode cX8_told 46 = .ok (.invokevirtual 75, 3) := by decide +kernel
theorem dX8_told_49 : decode cX8_told 49 = .ok (.aload_n 0, 1) := by decide +kernel
theorem dX8_told_50 : decode cX8_told 50 = .ok (.iload_n 1, 1) := by decide +kernel
theorem dX8_told_51 : decode cX8_told 51 = .ok (.invokevirtual 148, 3) := by decide +kernel
theorem dX8_told_54 : decode cX8_told 54 = .ok (.invokestatic 151, 3) := by decide +kernel
theorem dX8_told_57 : decode cX8_told 57 = .ok (.invokevirtual 154, 3) := by decide +kernel
theorem dX8_told_60 : decode cX8_told 60 = .ok (.goto 8, 3) := by decide +kernel
theorem dX8_told_63 : decode cX8_told 63 = .ok (.aload_n 0, 1) := by decide +kernel
theorem dX8_told_64 : decode cX8_told 64 = .ok (.iload_n 1, 1) := by decide +kernel
theorem dX8_told_65 : decode cX8_told 65 = .ok (.invokevirtual 157, 3) := by decide +kernel
theorem dX8_told_68 : decode cX8_told 68 = .ok (.ireturn, 1) := by decide +kernel
theorem dX8_as_0 : decode cX8_as 0 = .ok (.aload_n 0, 1) := by decide +kernel
theorem dX8_as_1 : decode cX8_as 1 = .ok (.iload_n 1, 1) := by decide +kernel
theorem dX8_as_2 : decode cX8_as 2 = .ok (.invokevirtual 143, 3) := by decide +kernel
theorem dX8_as_5 : decode cX8_as 5 = .ok (.ifCond .eq 15, 3) := by decide +kernel
theorem dX8_as_8 : decode cX8_as 8 = .ok (.iload_n 2, 1) := by decide +kernel
theorem dX8_as_9 : decode cX8_as 9 = .ok (.i2l, 1) := by decide +kernel
theorem dX8_as_10 : decode cX8_as 10 = .ok (.lconst 0, 1) := by decide +kernel
theorem dX8_as_11 : decode cX8_as 11 = .ok (.ldc2_w 99, 3) := by decide +kernel
theorem dX8_as_14 : decode cX8_as 14 = .ok (.invokestatic 68, 3) := by decide +kernel
theorem dX8_as_17 : decode cX8_as 17 = .ok (.ifCond .ne 6, 3) := by decide +kernel
theorem dX8_as_20 : decode cX8_as 20 = .ok (.ldc 108, 2) := by decide +kernel
theorem dX8_as_22 : decode cX8_as 22 = .ok (.ireturn, 1) := by decide +kernel
theorem dX8_as_23 : decode cX8_as 23 = .ok (.aload_n 0, 1) := by decide +kernel
theorem dX8_as_24 : decode cX8_as 24 = .ok (.iload_n 1, 1) := by decide +kernel
theorem dX8_as_25 : decode cX8_as 25 = .ok (.iconst 0, 1) := by decide +kernel
theorem dX8_as_26 : decode cX8_as 26 = .ok (.invokevirtual 75, 3) := by decide +kernel
theorem dX8_as_29 : decode cX8_as 29 = .ok (.iload_n 2, 1) := by decide +kernel
theorem dX8_as_30 : decode cX8_as 30 = .ok (.invokestatic 160, 3) := by decide +kernel
theorem dX8_as_33 : decode cX8_as 33 = .ok (.ifCond .eq 12, 3) := by decide +kernel
theorem dX8_as_36 : decode cX8_as 36 = .ok (.aload_n 0, 1) := by decide +kernel
theorem dX8_as_37 : decode cX8_as 37 = .ok (.iload_n 1, 1) := by decide +kernel
theorem dX8_as_38 : decode cX8_as 38 = .ok (.iconst 2, 1) := by decide +kernel
theorem dX8_as_39 : decode cX8_as 39 = .ok (.invokevirtual 75, 3) := by decide +kernel
theorem dX8_as_42 : decode cX8_as 42 = .ok (.goto 5, 3) := by decide +kernel
theorem dX8_as_45 : decode cX8_as 45 = .ok (.ldc 163, 2) := by decide +kernel
theorem dX8_as_47 : decode cX8_as 47 = .ok (.ireturn, 1) := by decide +kernel
theorem dX8_turns_0 : decode cX8_turns 0 = .ok (.aload_n 0, 1) := by decide +kernel
theorem dX8_turns_1 : decode cX8_turns 1 = .ok (.iload_n 1, 1) := by decide +kernel
theorem dX8_turns_2 : decode cX8_turns 2 = .ok (.invokevirtual 143, 3) := by decide +kernel
theorem dX8_turns_5 : decode cX8_turns 5 = .ok (.ifCond .eq 29, 3) := by decide +kernel
theorem dX8_turns_8 : decode cX8_turns 8 = .ok (.iload_n 2, 1) := by decide +kernel
theorem dX8_turns_9 : decode cX8_turns 9 = .ok (.i2l, 1) := by decide +kernel
theorem dX8_turns_10 : decode cX8_turns 10 = .ok (.lconst 0, 1) := by decide +kernel
theorem dX8_turns_11 : decode cX8_turns 11 = .ok (.ldc2_w 99, 3) := by decide +kernel
theorem dX8_turns_14 : decode cX8_turns 14 = .ok (.invokestatic 68, 3) := by decide +kernel
theorem dX8_turns_17 : decode cX8_turns 17 = .ok (.ifCond .eq 17, 3) := by decide +kernel
theorem dX8_turns_20 : decode cX8_turns 20 = .ok (.aload_n 0, 1) := by decide +kernel
theorem dX8_turns_21 : decode cX8_turns 21 = .ok (.bipush 10, 2) := by decide +kernel
theorem dX8_turns_23 : decode cX8_turns 23 = .ok (.iconst 5, 1) := by decide +kernel
theorem dX8_turns_24 : decode cX8_turns 24 = .ok (.iload_n 1, 1) := by decide +kernel
theorem dX8_turns_25 : decode cX8_turns 25 = .ok (.imul, 1) := by decide +kernel
theorem dX8_turns_26 : decode cX8_turns 26 = .ok (.iadd, 1) := by decide +kernel
theorem dX8_turns_27 : decode cX8_turns 27 = .ok (.iload_n 2, 1) := by decide +kernel
theorem dX8_turns_28 : decode cX8_turns 28 = .ok (.invokevirtual 164, 3) := by decide +kernel
theorem dX8_turns_31 : decode cX8_turns 31 = .ok (.goto 5, 3) := by decide +kernel
theorem dX8_turns_34 : decode cX8_turns 34 = .ok (.ldc 108, 2) := by decide +kernel
theorem dX8_turns_36 : decode cX8_turns 36 = .ok (.ireturn, 1) := by decide +kernel
theorem dX8_set_0 : decode cX8_set 0 = .ok (.iload_n 2, 1) := by decide +kernel
theorem dX8_set_1 : decode cX8_set 1 = .ok (.iconst 2, 1) := by decide +kernel
theorem dX8_set_2 : decode cX8_set 2 = .ok (.if_icmp .ne 15, 3) := by decide +kernel
theorem dX8_set_5 : decode cX8_set 5 = .ok (.iload_n 3, 1) := by decide +kernel
theorem dX8_set_6 : decode cX8_set 6 = .ok (.i2l, 1) := by decide +kernel
theorem dX8_set_7 : decode cX8_set 7 = .ok (.lconst 0, 1) := by decide +kernel
theorem dX8_set_8 : decode cX8_set 8 = .ok (.ldc2_w 91, 3) := by decide +kernel
theorem dX8_set_11 : decode cX8_set 11 = .ok (.invokestatic 68, 3) := by decide +kernel
theorem dX8_set_14 : decode cX8_set 14 = .ok (.goto 44, 3) := by decide +kernel
theorem dX8_set_17 : decode cX8_set 17 = .ok (.iload_n 2, 1) := by decide +kernel
theorem dX8_set_18 : decode cX8_set 18 = .ok (.iconst 3, 1) := by decide +kernel
theorem dX8_set_19 : decode cX8_set 19 = .ok (.if_icmp .ne 15, 3) := by decide +kernel
theorem dX8_set_22 : decode cX8_set 22 = .ok (.iload_n 3, 1) := by decide +kernel
theorem dX8_set_23 : decode cX8_set 23 = .ok (.i2l, 1) := by decide +kernel
theorem dX8_set_24 : decode cX8_set 24 = .ok (.lconst 0, 1) := by decide +kernel
theorem dX8_set_25 : decode cX8_set 25 = .ok (.ldc2_w 93, 3) := by decide +kernel
theorem dX8_set_28 : decode cX8_set 28 = .ok (.invokestatic 68, 3) := by decide +kernel
theorem dX8_set_31 : decode cX8_set 31 = .ok (.goto 27, 3) := by decide +kernel
theorem dX8_set_34 : decode cX8_set 34 = .ok (.iload_n 2, 1) := by decide +kernel
theorem dX8_set_35 : decode cX8_set 35 = .ok (.iconst 4, 1) := by decide +kernel
theorem dX8_set_36 : decode cX8_set 36 = .ok (.if_icmp .ne 21, 3) := by decide +kernel
theorem dX8_set_39 : decode cX8_set 39 = .ok (.iload_n 3, 1) := by decide +kernel
theorem dX8_set_40 : decode cX8_set 40 = .ok (.i2l, 1) := by decide +kernel
theorem dX8_set_41 : decode cX8_set 41 = .ok (.ldc2_w 95, 3) := by decide +kernel
theorem dX8_set_44 : decode cX8_set 44 = .ok (.ldc2_w 97, 3) := by decide +kernel
theorem dX8_set_47 : decode cX8_set 47 = .ok (.invokestatic 68, 3) := by decide +kernel
theorem dX8_set_50 : decode cX8_set 50 = .ok (.ifCond .eq 7, 3) := by decide +kernel
theorem dX8_set_53 : decode cX8_set 53 = .ok (.iconst 1, 1) := by decide +kernel
theorem dX8_set_54 : decode cX8_set 54 = .ok (.goto 4, 3) := by decide +kernel
theorem dX8_set_57 : decode cX8_set 57 = .ok (.iconst 0, 1) := by decide +kernel
theorem dX8_set_58 : decode cX8_set 58 = .ok (.istore 4, 2) := by decide +kernel
theorem dX8_set_60 : decode cX8_set 60 = .ok (.aload_n 0, 1) := by decide +kernel
theorem dX8_set_61 : decode cX8_set 61 = .ok (.iload_n 1, 1) := by decide +kernel
theorem dX8_set_62 : decode cX8_set 62 = .ok (.invokevirtual 143, 3) := by decide +kernel
theorem dX8_set_65 : decode cX8_set 65 = .ok (.ifCond .eq 24, 3) := by decide +kernel
theorem dX8_set_68 : decode cX8_set 68 = .ok (.iload 4, 2) := by decide +kernel
theorem dX8_set_70 : decode cX8_set 70 = .ok (.ifCond .eq 19, 3) := by decide +kernel
theorem dX8_set_73 : decode cX8_set 73 = .ok (.aload_n 0, 1) := by decide +kernel
theorem dX8_set_74 : decode cX8_set 74 = .ok (.bipush 10, 2) := by decide +kernel
theorem dX8_set_76 : decode cX8_set 76 = .ok (.iconst 5, 1) := by decide +kernel
theorem dX8_set_77 : decode cX8_set 77 = .ok (.iload_n 1, 1) := by decide +kernel
theorem dX8_set_78 : decode cX8_set 78 = .ok (.imul, 1) := by decide +kernel
theorem dX8_set_79 : decode cX8_set 79 = .ok (.iadd, 1) := by decide +kernel
theorem dX8_set_80 : decode cX8_set 80 = .ok (.iload_n 2, 1) := by decide +kernel
theorem dX8_set_81 : decode cX8_set 81 = .ok (.iadd, 1) := by decide +kernel
theorem dX8_set_82 : decode cX8_set 82 = .ok (.iload_n 3, 1) := by decide +kernel
theorem dX8_set_83 : decode cX8_set 83 = .ok (.invokevirtual 164, 3) := by decide +kernel
theorem dX8_set_86 : decode cX8_set 86 = .ok (.goto 5, 3) := by decide +kernel
theorem dX8_set_89 : decode cX8_set 89 = .ok (.ldc 108, 2) := by decide +kernel
theorem dX8_set_91 : decode cX8_set 91 = .ok (.ireturn, 1) := by decide +kernel
theorem dX8_moves_0 : decode cX8_moves 0 = .ok (.aload_n 0, 1) := by decide +kernel
theorem dX8_moves_1 : decode cX8_moves 1 = .ok (.iload_n 1, 1) := by decide +kernel
theorem dX8_moves_2 : decode cX8_moves 2 = .ok (.invokevirtual 143, 3) := by decide +kernel
theorem dX8_moves_5 : decode cX8_moves 5 = .ok (.ifCond .eq 10, 3) := by decide +kernel
theorem dX8_moves_8 : decode cX8_moves 8 = .ok (.iload_n 2, 1) := by decide +kernel
theorem dX8_moves_9 : decode cX8_moves 9 = .ok (.invokestatic 101, 3) := by decide +kernel
theorem dX8_moves_12 : decode cX8_moves 12 = .ok (.ifCond .ne 6, 3) := by decide +kernel
theorem dX8_moves_15 : decode cX8_moves 15 = .ok (.ldc 108, 2) := by decide +kernel
theorem dX8_moves_17 : decode cX8_moves 17 = .ok (.ireturn, 1) := by decide +kernel
theorem dX8_moves_18 : decode cX8_moves 18 = .ok (.aload_n 0, 1) := by decide +kernel
theorem dX8_moves_19 : decode cX8_moves 19 = .ok (.iload_n 2, 1) := by decide +kernel
theorem dX8_moves_20 : decode cX8_moves 20 = .ok (.invokevirtual 109, 3) := by decide +kernel
theorem dX8_moves_23 : decode cX8_moves 23 = .ok (.ifCond .eq 19, 3) := by decide +kernel
theorem dX8_moves_26 : decode cX8_moves 26 = .ok (.aload_n 0, 1) := by decide +kernel
theorem dX8_moves_27 : decode cX8_moves 27 = .ok (.bipush 10, 2) := by decide +kernel
theorem dX8_moves_29 : decode cX8_moves 29 = .ok (.iconst 5, 1) := by decide +kernel
theorem dX8_moves_30 : decode cX8_moves 30 = .ok (.iload_n 1, 1) := by decide +kernel
theorem dX8_moves_31 : decode cX8_moves 31 = .ok (.imul, 1) := by decide +kernel
theorem dX8_moves_32 : decode cX8_moves 32 = .ok (.iadd, 1) := by decide +kernel
theorem dX8_moves_33 : decode cX8_moves 33 = .ok (.iconst 1, 1) := by decide +kernel
theorem dX8_moves_34 : decode cX8_moves 34 = .ok (.iadd, 1) := by decide +kernel
theorem dX8_moves_35 : decode cX8_moves 35 = .ok (.iload_n 2, 1) := by decide +kernel
theorem dX8_moves_36 : decode cX8_moves 36 = .ok (.invokevirtual 164, 3) := by decide +kernel
theorem dX8_moves_39 : decode cX8_moves 39 = .ok (.goto 5, 3) := by decide +kernel
theorem dX8_moves_42 : decode cX8_moves 42 = .ok (.ldc 112, 2) := by decide +kernel
theorem dX8_moves_44 : decode cX8_moves 44 = .ok (.ireturn, 1) := by decide +kernel
theorem dX8_screen_0 : decode cX8_screen 0 = .ok (.iload_n 1, 1) := by decide +kernel
theorem dX8_screen_1 : decode cX8_screen 1 = .ok (.invokestatic 101, 3) := by decide +kernel
theorem dX8_screen_4 : decode cX8_screen 4 = .ok (.ifCond .eq 13, 3) := by decide +kernel
theorem dX8_screen_7 : decode cX8_screen 7 = .ok (.iload_n 2, 1) := by decide +kernel
theorem dX8_screen_8 : decode cX8_screen 8 = .ok (.i2l, 1) := by decide +kernel
theorem dX8_screen_9 : decode cX8_screen 9 = .ok (.lconst 0, 1) := by decide +kernel
theorem dX8_screen_10 : decode cX8_screen 10 = .ok (.lconst 1, 1) := by decide +kernel
theorem dX8_screen_11 : decode cX8_screen 11 = .ok (.invokestatic 68, 3) := by decide +kernel
theorem dX8_screen_14 : decode cX8_screen 14 = .ok (.ifCond .ne 6, 3) := by decide +kernel
theorem dX8_screen_17 : decode cX8_screen 17 = .ok (.ldc 108, 2) := by decide +kernel
theorem dX8_screen_19 : decode cX8_screen 19 = .ok (.ireturn, 1) := by decide +kernel
theorem dX8_screen_20 : decode cX8_screen 20 = .ok (.iload_n 2, 1) := by decide +kernel
theorem dX8_screen_21 : decode cX8_screen 21 = .ok (.iconst 1, 1) := by decide +kernel
theorem dX8_screen_22 : decode cX8_screen 22 = .ok (.if_icmp .ne 14, 3) := by decide +kernel
theorem dX8_screen_25 : decode cX8_screen 25 = .ok (.aload_n 0, 1) := by decide +kernel
theorem dX8_screen_26 : decode cX8_screen 26 = .ok (.iload_n 1, 1) := by decide +kernel
theorem dX8_screen_27 : decode cX8_screen 27 = .ok (.invokevirtual 79, 3) := by decide +kernel
theorem dX8_screen_30 : decode cX8_screen 30 = .ok (.ifCond .lt 6, 3) := by decide +kernel
theorem dX8_screen_33 : decode cX8_screen 33 = .ok (.ldc 112, 2) := by decide +kernel
theorem dX8_screen_35 : decode cX8_screen 35 = .ok (.ireturn, 1) := by decide +kernel
theorem dX8_screen_36 : decode cX8_screen 36 = .ok (.aload_n 0, 1) := by decide +kernel
theorem dX8_screen_37 : decode cX8_screen 37 = .ok (.iload_n 1, 1) := by decide +kernel
theorem dX8_screen_38 : decode cX8_screen 38 = .ok (.invokevirtual 83, 3) := by decide +kernel
theorem dX8_screen_41 : decode cX8_screen 41 = .ok (.ifCond .eq 7, 3) := by decide +kernel
theorem dX8_screen_44 : decode cX8_screen 44 = .ok (.iconst 1, 1) := by decide +kernel
theorem dX8_screen_45 : decode cX8_screen 45 = .ok (.goto 4, 3) := by decide +kernel
theorem dX8_screen_48 : decode cX8_screen 48 = .ok (.iconst 0, 1) := by decide +kernel
theorem dX8_screen_49 : decode cX8_screen 49 = .ok (.istore_n 3, 1) := by decide +kernel
theorem dX8_screen_50 : decode cX8_screen 50 = .ok (.aload_n 0, 1) := by decide +kernel
theorem dX8_screen_51 : decode cX8_screen 51 = .ok (.getfield 7, 3) := by decide +kernel
theorem dX8_screen_54 : decode cX8_screen 54 = .ok (.bipush 50, 2) := by decide +kernel
theorem dX8_screen_56 : decode cX8_screen 56 = .ok (.iload_n 3, 1) := by decide +kernel
theorem dX8_screen_57 : decode cX8_screen 57 = .ok (.iload_n 2, 1) := by decide +kernel
theorem dX8_screen_58 : decode cX8_screen 58 = .ok (.if_icmp .ne 13, 3) := by decide +kernel
theorem dX8_screen_61 : decode cX8_screen 61 = .ok (.aload_n 0, 1) := by decide +kernel
theorem dX8_screen_62 : decode cX8_screen 62 = .ok (.getfield 7, 3) := by decide +kernel
theorem dX8_screen_65 : decode cX8_screen 65 = .ok (.bipush 50, 2) := by decide +kernel
theorem dX8_screen_67 : decode cX8_screen 67 = .ok (.iaload, 1) := by decide +kernel
theorem dX8_screen_68 : decode cX8_screen 68 = .ok (.goto 14, 3) := by decide +kernel
theorem dX8_screen_71 : decode cX8_screen 71 = .ok (.aload_n 0, 1) := by decide +kernel
theorem dX8_screen_72 : decode cX8_screen 72 = .ok (.getfield 7, 3) := by decide +kernel
theorem dX8_screen_75 : decode cX8_screen 75 = .ok (.bipush 50, 2) := by decide +kernel
theorem dX8_screen_77 : decode cX8_screen 77 = .ok (.iaload, 1) := by decide +kernel
theorem dX8_screen_78 : decode cX8_screen 78 = .ok (.iconst 1, 1) := by decide +kernel
theorem dX8_screen_79 : decode cX8_screen 79 = .ok (.iload_n 1, 1) := by decide +kernel
theorem dX8_screen_80 : decode cX8_screen 80 = .ok (.ishl, 1) := by decide +kernel
theorem dX8_screen_81 : decode cX8_screen 81 = .ok (.ixor, 1) := by decide +kernel
theorem dX8_screen_82 : decode cX8_screen 82 = .ok (.iastore, 1) := by decide +kernel
theorem dX8_screen_83 : decode cX8_screen 83 = .ok (.iload_n 3, 1) := by decide +kernel
theorem dX8_screen_84 : decode cX8_screen 84 = .ok (.ireturn, 1) := by decide +kernel
theorem dX8_at_0 : decode cX8_at 0 = .ok (.iload_n 1, 1) := by decide +kernel
theorem dX8_at_1 : decode cX8_at 1 = .ok (.invokestatic 101, 3) := by decide +kernel
theorem dX8_at_4 : decode cX8_at 4 = .ok (.ifCond .eq 14, 3) := by decide +kernel
theorem dX8_at_7 : decode cX8_at 7 = .ok (.aload_n 0, 1) := by decide +kernel
theorem dX8_at_8 : decode cX8_at 8 = .ok (.iload_n 1, 1) := by decide +kernel
theorem dX8_at_9 : decode cX8_at 9 = .ok (.invokevirtual 79, 3) := by decide +kernel
theorem dX8_at_12 : decode cX8_at 12 = .ok (.invokestatic 167, 3) := by decide +kernel
theorem dX8_at_15 : decode cX8_at 15 = .ok (.goto 5, 3) := by decide +kernel
theorem dX8_at_18 : decode cX8_at 18 = .ok (.ldc 108, 2) := by decide +kernel
theorem dX8_at_20 : decode cX8_at 20 = .ok (.ireturn, 1) := by decide +kernel
theorem dX8_rule_0 : decode cX8_rule 0 = .ok (.iload_n 1, 1) := by decide +kernel
theorem dX8_rule_1 : decode cX8_rule 1 = .ok (.i2l, 1) := by decide +kernel
theorem dX8_rule_2 : decode cX8_rule 2 = .ok (.lconst 0, 1) := by decide +kernel
theorem dX8_rule_3 : decode cX8_rule 3 = .ok (.ldc2_w 170, 3) := by decide +kernel
theorem dX8_rule_6 : decode cX8_rule 6 = .ok (.invokestatic 68, 3) := by decide +kernel
theorem dX8_rule_9 : decode cX8_rule 9 = .ok (.ifCond .eq 37, 3) := by decide +kernel
theorem dX8_rule_12 : decode cX8_rule 12 = .ok (.iload_n 2, 1) := by decide +kernel
theorem dX8_rule_13 : decode cX8_rule 13 = .ok (.i2l, 1) := by decide +kernel
theorem dX8_rule_14 : decode cX8_rule 14 = .ok (.lconst 0, 1) := by decide +kernel
theorem dX8_rule_15 : decode cX8_rule 15 = .ok (.iload_n 1, 1) := by decide +kernel
theorem dX8_rule_16 : decode cX8_rule 16 = .ok (.ifCond .ne 9, 3) := by decide +kernel
theorem dX8_rule_19 : decode cX8_rule 19 = .ok (.ldc2_w 91, 3) := by decide +kernel
theorem dX8_rule_22 : decode cX8_rule 22 = .ok (.goto 6, 3) := by decide +kernel
theorem dX8_rule_25 : decode cX8_rule 25 = .ok (.ldc2_w 172, 3) := by decide +kernel
theorem dX8_rule_28 : decode cX8_rule 28 = .ok (.invokestatic 68, 3) := by decide +kernel
theorem dX8_rule_31 : decode cX8_rule 31 = .ok (.ifCond .eq 15, 3) := by decide +kernel
theorem dX8_rule_34 : decode cX8_rule 34 = .ok (.aload_n 0, 1) := by decide +kernel
theorem dX8_rule_35 : decode cX8_rule 35 = .ok (.bipush 6, 2) := by decide +kernel
theorem dX8_rule_37 : decode cX8_rule 37 = .ok (.iload_n 1, 1) := by decide +kernel
theorem dX8_rule_38 : decode cX8_rule 38 = .ok (.iadd, 1) := by decide +kernel
theorem dX8_rule_39 : decode cX8_rule 39 = .ok (.iload_n 2, 1) := by decide +kernel
theorem dX8_rule_40 : decode cX8_rule 40 = .ok (.invokevirtual 164, 3) := by decide +kernel
theorem dX8_rule_43 : decode cX8_rule 43 = .ok (.goto 5, 3) := by decide +kernel
theorem dX8_rule_46 : decode cX8_rule 46 = .ok (.ldc 108, 2) := by decide +kernel
theorem dX8_rule_48 : decode cX8_rule 48 = .ok (.ireturn, 1) := by decide +kernel
theorem dX8_deal_0 : decode cX8_deal 0 = .ok (.iload_n 1, 1) := by decide +kernel
theorem dX8_deal_1 : decode cX8_deal 1 = .ok (.i2l, 1) := by decide +kernel
theorem dX8_deal_2 : decode cX8_deal 2 = .ok (.lconst 1, 1) := by decide +kernel
theorem dX8_deal_3 : decode cX8_deal 3 = .ok (.ldc2_w 174, 3) := by decide +kernel
theorem dX8_deal_6 : decode cX8_deal 6 = .ok (.invokestatic 68, 3) := by decide +kernel
theorem dX8_deal_9 : decode cX8_deal 9 = .ok (.ifCond .ne 6, 3) := by decide +kernel
theorem dX8_deal_12 : decode cX8_deal 12 = .ok (.ldc 108, 2) := by decide +kernel
theorem dX8_deal_14 : decode cX8_deal 14 = .ok (.ireturn, 1) := by decide +kernel
theorem dX8_deal_15 : decode cX8_deal 15 = .ok (.iconst 0, 1) := by decide +kernel
theorem dX8_deal_16 : decode cX8_deal 16 = .ok (.istore_n 2, 1) := by decide +kernel
theorem dX8_deal_17 : decode cX8_deal 17 = .ok (.iconst 1, 1) := by decide +kernel
theorem dX8_deal_18 : decode cX8_deal 18 = .ok (.istore_n 3, 1) := by decide +kernel
theorem dX8_deal_19 : decode cX8_deal 19 = .ok (.iload_n 2, 1) := by decide +kernel
theorem dX8_deal_20 : decode cX8_deal 20 = .ok (.iload_n 1, 1) := by decide +kernel
theorem dX8_deal_21 : decode cX8_deal 21 = .ok (.if_icmp .ge 139, 3) := by decide +kernel
theorem dX8_deal_24 : decode cX8_deal 24 = .ok (.aload_n 0, 1) := by decide +kernel
theorem dX8_deal_25 : decode cX8_deal 25 = .ok (.getfield 7, 3) := by decide +kernel
theorem dX8_deal_28 : decode cX8_deal 28 = .ok (.iconst 0, 1) := by decide +kernel
theorem dX8_deal_29 : decode cX8_deal 29 = .ok (.iaload, 1) := by decide +kernel
theorem dX8_deal_30 : decode cX8_deal 30 = .ok (.bipush 8, 2) := by decide +kernel
theorem dX8_deal_32 : decode cX8_deal 32 = .ok (.if_icmp .ge 128, 3) := by decide +kernel
theorem dX8_deal_35 : decode cX8_deal 35 = .ok (.iload_n 3, 1) := by decide +kernel
theorem dX8_deal_36 : decode cX8_deal 36 = .ok (.ifCond .eq 124, 3) := by decide +kernel
theorem dX8_deal_39 : decode cX8_deal 39 = .ok (.aload_n 0, 1) := by decide +kernel
theorem dX8_deal_40 : decode cX8_deal 40 = .ok (.invokevirtual 176, 3) := by decide +kernel
theorem dX8_deal_43 : decode cX8_deal 43 = .ok (.bipush 6, 2) := by decide +kernel
theorem dX8_deal_45 : decode cX8_deal 45 = .ok (.irem, 1) := by decide +kernel
theorem dX8_deal_46 : decode cX8_deal 46 = .ok (.istore 4, 2) := by decide +kernel
theorem dX8_deal_48 : decode cX8_deal 48 = .ok (.aload_n 0, 1) := by decide +kernel
theorem dX8_deal_49 : decode cX8_deal 49 = .ok (.invokevirtual 176, 3) := by decide +kernel
theorem dX8_deal_52 : decode cX8_deal 52 = .ok (.bipush 20, 2) := by decide +kernel
theorem dX8_deal_54 : decode cX8_deal 54 = .ok (.irem, 1) := by decide +kernel
theorem dX8_deal_55 : decode cX8_deal 55 = .ok (.istore 5, 2) := by decide +kernel
theorem dX8_deal_57 : decode cX8_deal 57 = .ok (.bipush 20, 2) := by decide +kernel
theorem dX8_deal_59 : decode cX8_deal 59 = .ok (.aload_n 0, 1) := by decide +kernel
theorem dX8_deal_60 : decode cX8_deal 60 = .ok (.invokevirtual 176, 3) := by decide +kernel
theorem dX8_deal_63 : decode cX8_deal 63 = .ok (.bipush 60, 2) := by decide +kernel
theorem dX8_deal_65 : decode cX8_deal 65 = .ok (.irem, 1) := by decide +kernel
theorem dX8_deal_66 : decode cX8_deal 66 = .ok (.iadd, 1) := by decide +kernel
theorem dX8_deal_67 : decode cX8_deal 67 = .ok (.istore 6, 2) := by decide +kernel
theorem dX8_deal_69 : decode cX8_deal 69 = .ok (.aload_n 0, 1) := by decide +kernel
theorem dX8_deal_70 : decode cX8_deal 70 = .ok (.invokevirtual 176, 3) := by decide +kernel
theorem dX8_deal_73 : decode cX8_deal 73 = .ok (.bipush 30, 2) := by decide +kernel
theorem dX8_deal_75 : decode cX8_deal 75 = .ok (.irem, 1) := by decide +kernel
theorem dX8_deal_76 : decode cX8_deal 76 = .ok (.istore 7, 2) := by decide +kernel
theorem dX8_deal_78 : decode cX8_deal 78 = .ok (.aload_n 0, 1) := by decide +kernel
theorem dX8_deal_79 : decode cX8_deal 79 = .ok (.invokevirtual 176, 3) := by decide +kernel
theorem dX8_deal_82 : decode cX8_deal 82 = .ok (.bipush 9, 2) := by decide +kernel
theorem dX8_deal_84 : decode cX8_deal 84 = .ok (.irem, 1) := by decide +kernel
theorem dX8_deal_85 : decode cX8_deal 85 = .ok (.iconst 1, 1) := by decide +kernel
theorem dX8_deal_86 : decode cX8_deal 86 = .ok (.isub, 1) := by decide +kernel
theorem dX8_deal_87 : decode cX8_deal 87 = .ok (.istore 8, 2) := by decide +kernel
theorem dX8_deal_89 : decode cX8_deal 89 = .ok (.iconst 0, 1) := by decide +kernel
theorem dX8_deal_90 : decode cX8_deal 90 = .ok (.istore 9, 2) := by decide +kernel
theorem dX8_deal_92 : decode cX8_deal 92 = .ok (.iload 9, 2) := by decide +kernel
theorem dX8_deal_94 : decode cX8_deal 94 = .ok (.bipush 20, 2) := by decide +kernel
theorem dX8_deal_96 : decode cX8_deal 96 = .ok (.if_icmp .ge 27, 3) := by decide +kernel
theorem dX8_deal_99 : decode cX8_deal 99 = .ok (.aload_n 0, 1) := by decide +kernel
theorem dX8_deal_100 : decode cX8_deal 100 = .ok (.iload 5, 2) := by decide +kernel
theorem dX8_deal_102 : decode cX8_deal 102 = .ok (.invokevirtual 109, 3) := by decide +kernel
theorem dX8_deal_105 : decode cX8_deal 105 = .ok (.ifCond .ne 18, 3) := by decide +kernel
theorem dX8_deal_108 : decode cX8_deal 108 = .ok (.iload 5, 2) := by decide +kernel
theorem dX8_deal_110 : decode cX8_deal 110 = .ok (.iconst 1, 1) := by decide +kernel
theorem dX8_deal_111 : decode cX8_deal 111 = .ok (.iadd, 1) := by decide +kernel
theorem dX8_deal_112 : decode cX8_deal 112 = .ok (.bipush 20, 2) := by decide +kernel
theorem dX8_deal_114 : decode cX8_deal 114 = .ok (.irem, 1) := by decide +kernel
theorem dX8_deal_115 : decode cX8_deal 115 = .ok (.istore 5, 2) := by decide +kernel
theorem dX8_deal_117 : decode cX8_deal 117 = .ok (.iinc 9 1, 3) := by decide +kernel
theorem dX8_deal_120 : decode cX8_deal 120 = .ok (.goto (-28), 3) := by decide +kernel
theorem dX8_deal_123 : decode cX8_deal 123 = .ok (.iload 9, 2) := by decide +kernel
theorem dX8_deal_125 : decode cX8_deal 125 = .ok (.bipush 20, 2) := by decide +kernel
theorem dX8_deal_127 : decode cX8_deal 127 = .ok (.if_icmp .ge 7, 3) := by decide +kernel
theorem dX8_deal_130 : decode cX8_deal 130 = .ok (.iconst 1, 1) := by decide +kernel
theorem dX8_deal_131 : decode cX8_deal 131 = .ok (.goto 4, 3) := by decide +kernel
theorem dX8_deal_134 : decode cX8_deal 134 = .ok (.iconst 0, 1) := by decide +kernel
theorem dX8_deal_135 : decode cX8_deal 135 = .ok (.istore_n 3, 1) := by decide +kernel
theorem dX8_deal_136 : decode cX8_deal 136 = .ok (.iload_n 3, 1) := by decide +kernel
theorem dX8_deal_137 : decode cX8_deal 137 = .ok (.ifCond .eq 20, 3) := by decide +kernel
theorem dX8_deal_140 : decode cX8_deal 140 = .ok (.aload_n 0, 1) := by decide +kernel
theorem dX8_deal_141 : decode cX8_deal 141 = .ok (.iload 4, 2) := by decide +kernel
theorem dX8_deal_143 : decode cX8_deal 143 = .ok (.iload 5, 2) := by decide +kernel
theorem dX8_deal_145 : decode cX8_deal 145 = .ok (.iload 6, 2) := by decide +kernel
theorem dX8_deal_147 : decode cX8_deal 147 = .ok (.iload 7, 2) := by decide +kernel
theorem dX8_deal_149 : decode cX8_deal 149 = .ok (.iload 8, 2) := by decide +kernel
theorem dX8_deal_151 : decode cX8_deal 151 = .ok (.invokevirtual 114, 3) := by decide +kernel
theorem dX8_deal_154 : decode cX8_deal 154 = .ok (.iinc 2 1, 3) := by decide +kernel
theorem dX8_deal_157 : decode cX8_deal 157 = .ok (.goto (-138), 3) := by decide +kernel
theorem dX8_deal_160 : decode cX8_deal 160 = .ok (.iload_n 2, 1) := by decide +kernel
theorem dX8_deal_161 : decode cX8_deal 161 = .ok (.ireturn, 1) := by decide +kernel
theorem dX8_seed_0 : decode cX8_seed 0 = .ok (.aload_n 0, 1) := by decide +kernel
theorem dX8_seed_1 : decode cX8_seed 1 = .ok (.bipush 9, 2) := by decide +kernel
theorem dX8_seed_3 : decode cX8_seed 3 = .ok (.iload_n 1, 1) := by decide +kernel
theorem dX8_seed_4 : decode cX8_seed 4 = .ok (.invokevirtual 164, 3) := by decide +kernel
theorem dX8_seed_7 : decode cX8_seed 7 = .ok (.ireturn, 1) := by decide +kernel
theorem dX8_looks_0 : decode cX8_looks 0 = .ok (.aload_n 0, 1) := by decide +kernel
theorem dX8_looks_1 : decode cX8_looks 1 = .ok (.iload_n 1, 1) := by decide +kernel
theorem dX8_looks_2 : decode cX8_looks 2 = .ok (.invokevirtual 143, 3) := by decide +kernel
theorem dX8_looks_5 : decode cX8_looks 5 = .ok (.ifCond .eq 14, 3) := by decide +kernel
theorem dX8_looks_8 : decode cX8_looks 8 = .ok (.aload_n 0, 1) := by decide +kernel
theorem dX8_looks_9 : decode cX8_looks 9 = .ok (.iload_n 1, 1) := by decide +kernel
theorem dX8_looks_10 : decode cX8_looks 10 = .ok (.invokevirtual 140, 3) := by decide +kernel
theorem dX8_looks_13 : decode cX8_looks 13 = .ok (.invokestatic 167, 3) := by decide +kernel
theorem dX8_looks_16 : decode cX8_looks 16 = .ok (.goto 5, 3) := by decide +kernel
theorem dX8_looks_19 : decode cX8_looks 19 = .ok (.ldc 108, 2) := by decide +kernel
theorem dX8_looks_21 : decode cX8_looks 21 = .ok (.ireturn, 1) := by decide +kernel
theorem dX8_eyes_0 : decode cX8_eyes 0 = .ok (.aload_n 0, 1) := by decide +kernel
theorem dX8_eyes_1 : decode cX8_eyes 1 = .ok (.iload_n 1, 1) := by decide +kernel
theorem dX8_eyes_2 : decode cX8_eyes 2 = .ok (.invokevirtual 143, 3) := by decide +kernel
theorem dX8_eyes_5 : decode cX8_eyes 5 = .ok (.ifCond .eq 11, 3) := by decide +kernel
theorem dX8_eyes_8 : decode cX8_eyes 8 = .ok (.aload_n 0, 1) := by decide +kernel
theorem dX8_eyes_9 : decode cX8_eyes 9 = .ok (.iload_n 1, 1) := by decide +kernel
theorem dX8_eyes_10 : decode cX8_eyes 10 = .ok (.invokevirtual 148, 3) := by decide +kernel
theorem dX8_eyes_13 : decode cX8_eyes 13 = .ok (.goto 5, 3) := by decide +kernel
theorem dX8_eyes_16 : decode cX8_eyes 16 = .ok (.ldc 108, 2) := by decide +kernel
theorem dX8_eyes_18 : decode cX8_eyes 18 = .ok (.ireturn, 1) := by decide +kernel
theorem dX8_sees_0 : decode cX8_sees 0 = .ok (.aload_n 0, 1) := by decide +kernel
theorem dX8_sees_1 : decode cX8_sees 1 = .ok (.iload_n 1, 1) := by decide +kernel
theorem dX8_sees_2 : decode cX8_sees 2 = .ok (.invokevirtual 143, 3) := by decide +kernel
theorem dX8_sees_5 : decode cX8_sees 5 = .ok (.ifCond .ne 6, 3) := by decide +kernel
theorem dX8_sees_8 : decode cX8_sees 8 = .ok (.ldc 108, 2) := by decide +kernel
theorem dX8_sees_10 : decode cX8_sees 10 = .ok (.ireturn, 1) := by decide +kernel
theorem dX8_sees_11 : decode cX8_sees 11 = .ok (.iconst 0, 1) := by decide +kernel
theorem dX8_sees_12 : decode cX8_sees 12 = .ok (.istore_n 2, 1) := by decide +kernel
theorem dX8_sees_13 : decode cX8_sees 13 = .ok (.iconst 0, 1) := by decide +kernel
theorem dX8_sees_14 : decode cX8_sees 14 = .ok (.istore_n 3, 1) := by decide +kernel
theorem dX8_sees_15 : decode cX8_sees 15 = .ok (.iload_n 3, 1) := by decide +kernel
theorem dX8_sees_16 : decode cX8_sees 16 = .ok (.aload_n 0, 1) := by decide +kernel
theorem dX8_sees_17 : decode cX8_sees 17 = .ok (.getfield 7, 3) := by decide +kernel
theorem dX8_sees_20 : decode cX8_sees 20 = .ok (.iconst 0, 1) := by decide +kernel
theorem dX8_sees_21 : decode cX8_sees 21 = .ok (.iaload, 1) := by decide +kernel
theorem dX8_sees_22 : decode cX8_sees 22 = .ok (.if_icmp .ge 28, 3) := by decide +kernel
theorem dX8_sees_25 : decode cX8_sees 25 = .ok (.iload_n 2, 1) := by decide +kernel
theorem dX8_sees_26 : decode cX8_sees 26 = .ok (.aload_n 0, 1) := by decide +kernel
theorem dX8_sees_27 : decode cX8_sees 27 = .ok (.iload_n 1, 1) := by decide +kernel
theorem dX8_sees_28 : decode cX8_sees 28 = .ok (.iload_n 3, 1) := by decide +kernel
theorem dX8_sees_29 : decode cX8_sees 29 = .ok (.invokevirtual 130, 3) := by decide +kernel
theorem dX8_sees_32 : decode cX8_sees 32 = .ok (.ifCond .eq 9, 3) := by decide +kernel
theorem dX8_sees_35 : decode cX8_sees 35 = .ok (.iconst 1, 1) := by decide +kernel
theorem dX8_sees_36 : decode cX8_sees 36 = .ok (.iload_n 3, 1) := by decide +kernel
theorem dX8_sees_37 : decode cX8_sees 37 = .ok (.ishl, 1) := by decide +kernel
theorem dX8_sees_38 : decode cX8_sees 38 = .ok (.goto 4, 3) := by decide +kernel
theorem dX8_sees_41 : decode cX8_sees 41 = .ok (.iconst 0, 1) := by decide +kernel
theorem dX8_sees_42 : decode cX8_sees 42 = .ok (.ior, 1) := by decide +kernel
theorem dX8_sees_43 : decode cX8_sees 43 = .ok (.istore_n 2, 1) := by decide +kernel
theorem dX8_sees_44 : decode cX8_sees 44 = .ok (.iinc 3 1, 3) := by decide +kernel
theorem dX8_sees_47 : decode cX8_sees 47 = .ok (.goto (-32), 3) := by decide +kernel
theorem dX8_sees_50 : decode cX8_sees 50 = .ok (.iload_n 2, 1) := by decide +kernel
theorem dX8_sees_51 : decode cX8_sees 51 = .ok (.ireturn, 1) := by decide +kernel
theorem dX8_allLook_0 : decode cX8_allLook 0 = .ok (.iconst 0, 1) := by decide +kernel
theorem dX8_allLook_1 : decode cX8_allLook 1 = .ok (.istore_n 1, 1) := by decide +kernel
theorem dX8_allLook_2 : decode cX8_allLook 2 = .ok (.iload_n 1, 1) := by decide +kernel
theorem dX8_allLook_3 : decode cX8_allLook 3 = .ok (.aload_n 0, 1) := by decide +kernel
theorem dX8_allLook_4 : decode cX8_allLook 4 = .ok (.getfield 7, 3) := by decide +kernel
theorem dX8_allLook_7 : decode cX8_allLook 7 = .ok (.iconst 0, 1) := by decide +kernel
theorem dX8_allLook_8 : decode cX8_allLook 8 = .ok (.iaload, 1) := by decide +kernel
theorem dX8_allLook_9 : decode cX8_allLook 9 = .ok (.if_icmp .ge 16, 3) := by decide +kernel
theorem dX8_allLook_12 : decode cX8_allLook 12 = .ok (.aload_n 0, 1) := by decide +kernel
theorem dX8_allLook_13 : decode cX8_allLook 13 = .ok (.getfield 43, 3) := by decide +kernel
theorem dX8_allLook_16 : decode cX8_allLook 16 = .ok (.iload_n 1, 1) := by decide +kernel
theorem dX8_allLook_17 : decode cX8_allLook 17 = .ok (.iconst 0, 1) := by decide +kernel
theorem dX8_allLook_18 : decode cX8_allLook 18 = .ok (.iastore, 1) := by decide +kernel
theorem dX8_allLook_19 : decode cX8_allLook 19 = .ok (.iinc 1 1, 3) := by decide +kernel
theorem dX8_allLook_22 : decode cX8_allLook 22 = .ok (.goto (-20), 3) := by decide +kernel
theorem dX8_allLook_25 : decode cX8_allLook 25 = .ok (.iconst 0, 1) := by decide +kernel
theorem dX8_allLook_26 : decode cX8_allLook 26 = .ok (.istore_n 1, 1) := by decide +kernel
theorem dX8_allLook_27 : decode cX8_allLook 27 = .ok (.iload_n 1, 1) := by decide +kernel
theorem dX8_allLook_28 : decode cX8_allLook 28 = .ok (.aload_n 0, 1) := by decide +kernel
theorem dX8_allLook_29 : decode cX8_allLook 29 = .ok (.getfield 7, 3) := by decide +kernel
theorem dX8_allLook_32 : decode cX8_allLook 32 = .ok (.iconst 0, 1) := by decide +kernel
theorem dX8_allLook_33 : decode cX8_allLook 33 = .ok (.iaload, 1) := by decide +kernel
theorem dX8_allLook_34 : decode cX8_allLook 34 = .ok (.if_icmp .ge 39, 3) := by decide +kernel
theorem dX8_allLook_37 : decode cX8_allLook 37 = .ok (.aload_n 0, 1) := by decide +kernel
theorem dX8_allLook_38 : decode cX8_allLook 38 = .ok (.iload_n 1, 1) := by decide +kernel
theorem dX8_allLook_39 : decode cX8_allLook 39 = .ok (.invokevirtual 140, 3) := by decide +kernel
theorem dX8_allLook_42 : decode cX8_allLook 42 = .ok (.istore_n 2, 1) := by decide +kernel
theorem dX8_allLook_43 : decode cX8_allLook 43 = .ok (.iload_n 2, 1) := by decide +kernel
theorem dX8_allLook_44 : decode cX8_allLook 44 = .ok (.ifCond .lt 23, 3) := by decide +kernel
theorem dX8_allLook_47 : decode cX8_allLook 47 = .ok (.aload_n 0, 1) := by decide +kernel
theorem dX8_allLook_48 : decode cX8_allLook 48 = .ok (.getfield 43, 3) := by decide +kernel
theorem dX8_allLook_51 : decode cX8_allLook 51 = .ok (.iload_n 2, 1) := by decide +kernel
theorem dX8_allLook_52 : decode cX8_allLook 52 = .ok (.dup2, 1) := by decide +kernel
theorem dX8_allLook_53 : decode cX8_allLook 53 = .ok (.iaload, 1) := by decide +kernel
theorem dX8_allLook_54 : decode cX8_allLook 54 = .ok (.iconst 1, 1) := by decide +kernel
theorem dX8_allLook_55 : decode cX8_allLook 55 = .ok (.iadd, 1) := by decide +kernel
theorem dX8_allLook_56 : decode cX8_allLook 56 = .ok (.iastore, 1) := by decide +kernel
theorem dX8_allLook_57 : decode cX8_allLook 57 = .ok (.aload_n 0, 1) := by decide +kernel
theorem dX8_allLook_58 : decode cX8_allLook 58 = .ok (.getfield 7, 3) := by decide +kernel
theorem dX8_allLook_61 : decode cX8_allLook 61 = .ok (.iconst 3, 1) := by decide +kernel
theorem dX8_allLook_62 : decode cX8_allLook 62 = .ok (.dup2, 1) := by decide +kernel
theorem dX8_allLook_63 : decode cX8_allLook 63 = .ok (.iaload, 1) := by decide +kernel
theorem dX8_allLook_64 : decode cX8_allLook 64 = .ok (.iconst 1, 1) := by decide +kernel
theorem dX8_allLook_65 : decode cX8_allLook 65 = .ok (.iadd, 1) := by decide +kernel
theorem dX8_allLook_66 : decode cX8_allLook 66 = .ok (.iastore, 1) := by decide +kernel
theorem dX8_allLook_67 : decode cX8_allLook 67 = .ok (.iinc 1 1, 3) := by decide +kernel
theorem dX8_allLook_70 : decode cX8_allLook 70 = .ok (.goto (-43), 3) := by decide +kernel
theorem dX8_allLook_73 : decode cX8_allLook 73 = .ok (.return_, 1) := by decide +kernel
theorem dX8_goesOn_0 : decode cX8_goesOn 0 = .ok (.aload_n 0, 1) := by decide +kernel
theorem dX8_goesOn_1 : decode cX8_goesOn 1 = .ok (.invokevirtual 180, 3) := by decide +kernel
theorem dX8_goesOn_4 : decode cX8_goesOn 4 = .ok (.iconst 0, 1) := by decide +kernel
theorem dX8_goesOn_5 : decode cX8_goesOn 5 = .ok (.istore_n 1, 1) := by decide +kernel
theorem dX8_goesOn_6 : decode cX8_goesOn 6 = .ok (.iload_n 1, 1) := by decide +kernel
theorem dX8_goesOn_7 : decode cX8_goesOn 7 = .ok (.aload_n 0, 1) := by decide +kernel
theorem dX8_goesOn_8 : decode cX8_goesOn 8 = .ok (.getfield 7, 3) := by decide +kernel
theorem dX8_goesOn_11 : decode cX8_goesOn 11 = .ok (.iconst 0, 1) := by decide +kernel
theorem dX8_goesOn_12 : decode cX8_goesOn 12 = .ok (.iaload, 1) := by decide +kernel
theorem dX8_goesOn_13 : decode cX8_goesOn 13 = .ok (.if_icmp .ge 95, 3) := by decide +kernel
theorem dX8_goesOn_16 : decode cX8_goesOn 16 = .ok (.aload_n 0, 1) := by decide +kernel
theorem dX8_goesOn_17 : decode cX8_goesOn 17 = .ok (.iload_n 1, 1) := by decide +kernel
theorem dX8_goesOn_18 : decode cX8_goesOn 18 = .ok (.iconst 2, 1) := by decide +kernel
theorem dX8_goesOn_19 : decode cX8_goesOn 19 = .ok (.invokevirtual 75, 3) := by decide +kernel
theorem dX8_goesOn_22 : decode cX8_goesOn 22 = .ok (.istore_n 2, 1) := by decide +kernel
theorem dX8_goesOn_23 : decode cX8_goesOn 23 = .ok (.iload_n 2, 1) := by decide +kernel
theorem dX8_goesOn_24 : decode cX8_goesOn 24 = .ok (.aload_n 0, 1) := by decide +kernel
theorem dX8_goesOn_25 : decode cX8_goesOn 25 = .ok (.aload_n 0, 1) := by decide +kernel
theorem dX8_goesOn_26 : decode cX8_goesOn 26 = .ok (.iload_n 1, 1) := by decide +kernel
theorem dX8_goesOn_27 : decode cX8_goesOn 27 = .ok (.iconst 0, 1) := by decide +kernel
theorem dX8_goesOn_28 : decode cX8_goesOn 28 = .ok (.invokevirtual 75, 3) := by decide +kernel
theorem dX8_goesOn_31 : decode cX8_goesOn 31 = .ok (.aload_n 0, 1) := by decide +kernel
theorem dX8_goesOn_32 : decode cX8_goesOn 32 = .ok (.getfield 43, 3) := by decide +kernel
theorem dX8_goesOn_35 : decode cX8_goesOn 35 = .ok (.iload_n 1, 1) := by decide +kernel
theorem dX8_goesOn_36 : decode cX8_goesOn 36 = .ok (.iaload, 1) := by decide +kernel
theorem dX8_goesOn_37 : decode cX8_goesOn 37 = .ok (.invokevirtual 154, 3) := by decide +kernel
theorem dX8_goesOn_40 : decode cX8_goesOn 40 = .ok (.iadd, 1) := by decide +kernel
theorem dX8_goesOn_41 : decode cX8_goesOn 41 = .ok (.sipush 200, 3) := by decide +kernel
theorem dX8_goesOn_44 : decode cX8_goesOn 44 = .ok (.invokestatic 127, 3) := by decide +kernel
theorem dX8_goesOn_47 : decode cX8_goesOn 47 = .ok (.istore_n 3, 1) := by decide +kernel
theorem dX8_goesOn_48 : decode cX8_goesOn 48 = .ok (.aload_n 0, 1) := by decide +kernel
theorem dX8_goesOn_49 : decode cX8_goesOn 49 = .ok (.iload_n 1, 1) := by decide +kernel
theorem dX8_goesOn_50 : decode cX8_goesOn 50 = .ok (.iconst 2, 1) := by decide +kernel
theorem dX8_goesOn_51 : decode cX8_goesOn 51 = .ok (.iload_n 3, 1) := by decide +kernel
theorem dX8_goesOn_52 : decode cX8_goesOn 52 = .ok (.invokevirtual 87, 3) := by decide +kernel
theorem dX8_goesOn_55 : decode cX8_goesOn 55 = .ok (.aload_n 0, 1) := by decide +kernel
theorem dX8_goesOn_56 : decode cX8_goesOn 56 = .ok (.getfield 7, 3) := by decide +kernel
theorem dX8_goesOn_59 : decode cX8_goesOn 59 = .ok (.iconst 4, 1) := by decide +kernel
theorem dX8_goesOn_60 : decode cX8_goesOn 60 = .ok (.dup2, 1) := by decide +kernel
theorem dX8_goesOn_61 : decode cX8_goesOn 61 = .ok (.iaload, 1) := by decide +kernel
theorem dX8_goesOn_62 : decode cX8_goesOn 62 = .ok (.iload_n 3, 1) := by decide +kernel
theorem dX8_goesOn_63 : decode cX8_goesOn 63 = .ok (.ifCond .ne 11, 3) := by decide +kernel
theorem dX8_goesOn_66 : decode cX8_goesOn 66 = .ok (.iload_n 2, 1) := by decide +kernel
theorem dX8_goesOn_67 : decode cX8_goesOn 67 = .ok (.ifCond .le 7, 3) := by decide +kernel
theorem dX8_goesOn_70 : decode cX8_goesOn 70 = .ok (.iconst 1, 1) := by decide +kernel
theorem dX8_goesOn_71 : decode cX8_goesOn 71 = .ok (.goto 4, 3) := by decide +kernel
theorem dX8_goesOn_74 : decode cX8_goesOn 74 = .ok (.iconst 0, 1) := by decide +kernel
theorem dX8_goesOn_75 : decode cX8_goesOn 75 = .ok (.iadd, 1) := by decide +kernel
theorem dX8_goesOn_76 : decode cX8_goesOn 76 = .ok (.iastore, 1) := by decide +kernel
theorem dX8_goesOn_77 : decode cX8_goesOn 77 = .ok (.aload_n 0, 1) := by decide +kernel
theorem dX8_goesOn_78 : decode cX8_goesOn 78 = .ok (.getfield 7, 3) := by decide +kernel
theorem dX8_goesOn_81 : decode cX8_goesOn 81 = .ok (.iconst 5, 1) := by decide +kernel
theorem dX8_goesOn_82 : decode cX8_goesOn 82 = .ok (.dup2, 1) := by decide +kernel
theorem dX8_goesOn_83 : decode cX8_goesOn 83 = .ok (.iaload, 1) := by decide +kernel
theorem dX8_goesOn_84 : decode cX8_goesOn 84 = .ok (.iload_n 3, 1) := by decide +kernel
theorem dX8_goesOn_85 : decode cX8_goesOn 85 = .ok (.aload_n 0, 1) := by decide +kernel
theorem dX8_goesOn_86 : decode cX8_goesOn 86 = .ok (.getfield 7, 3) := by decide +kernel
theorem dX8_goesOn_89 : decode cX8_goesOn 89 = .ok (.bipush 6, 2) := by decide +kernel
theorem dX8_goesOn_91 : decode cX8_goesOn 91 = .ok (.iaload, 1) := by decide +kernel
theorem dX8_goesOn_92 : decode cX8_goesOn 92 = .ok (.if_icmp .le 7, 3) := by decide +kernel
theorem dX8_goesOn_95 : decode cX8_goesOn 95 = .ok (.iconst 1, 1) := by decide +kernel
theorem dX8_goesOn_96 : decode cX8_goesOn 96 = .ok (.goto 4, 3) := by decide +kernel
theorem dX8_goesOn_99 : decode cX8_goesOn 99 = .ok (.iconst 0, 1) := by decide +kernel
theorem dX8_goesOn_100 : decode cX8_goesOn 100 = .ok (.iadd, 1) := by decide +kernel
theorem dX8_goesOn_101 : decode cX8_goesOn 101 = .ok (.iastore, 1) := by decide +kernel
theorem dX8_goesOn_102 : decode cX8_goesOn 102 = .ok (.iinc 1 1, 3) := by decide +kernel
theorem dX8_goesOn_105 : decode cX8_goesOn 105 = .ok (.goto (-99), 3) := by decide +kernel
theorem dX8_goesOn_108 : decode cX8_goesOn 108 = .ok (.aload_n 0, 1) := by decide +kernel
theorem dX8_goesOn_109 : decode cX8_goesOn 109 = .ok (.invokevirtual 176, 3) := by decide +kernel
theorem dX8_goesOn_112 : decode cX8_goesOn 112 = .ok (.bipush 100, 2) := by decide +kernel
theorem dX8_goesOn_114 : decode cX8_goesOn 114 = .ok (.irem, 1) := by decide +kernel
theorem dX8_goesOn_115 : decode cX8_goesOn 115 = .ok (.aload_n 0, 1) := by decide +kernel
theorem dX8_goesOn_116 : decode cX8_goesOn 116 = .ok (.getfield 7, 3) := by decide +kernel
theorem dX8_goesOn_119 : decode cX8_goesOn 119 = .ok (.bipush 7, 2) := by decide +kernel
theorem dX8_goesOn_121 : decode cX8_goesOn 121 = .ok (.iaload, 1) := by decide +kernel
theorem dX8_goesOn_122 : decode cX8_goesOn 122 = .ok (.if_icmp .ge 56, 3) := by decide +kernel
theorem dX8_goesOn_125 : decode cX8_goesOn 125 = .ok (.aload_n 0, 1) := by decide +kernel
theorem dX8_goesOn_126 : decode cX8_goesOn 126 = .ok (.getfield 7, 3) := by decide +kernel
theorem dX8_goesOn_129 : decode cX8_goesOn 129 = .ok (.iconst 0, 1) := by decide +kernel
theorem dX8_goesOn_130 : decode cX8_goesOn 130 = .ok (.iaload, 1) := by decide +kernel
theorem dX8_goesOn_131 : decode cX8_goesOn 131 = .ok (.ifCond .le 47, 3) := by decide +kernel
theorem dX8_goesOn_134 : decode cX8_goesOn 134 = .ok (.aload_n 0, 1) := by decide +kernel
theorem dX8_goesOn_135 : decode cX8_goesOn 135 = .ok (.invokevirtual 176, 3) := by decide +kernel
theorem dX8_goesOn_138 : decode cX8_goesOn 138 = .ok (.aload_n 0, 1) := by decide +kernel
theorem dX8_goesOn_139 : decode cX8_goesOn 139 = .ok (.getfield 7, 3) := by decide +kernel
theorem dX8_goesOn_142 : decode cX8_goesOn 142 = .ok (.iconst 0, 1) := by decide +kernel
theorem dX8_goesOn_143 : decode cX8_goesOn 143 = .ok (.iaload, 1) := by decide +kernel
theorem dX8_goesOn_144 : decode cX8_goesOn 144 = .ok (.irem, 1) := by decide +kernel
theorem dX8_goesOn_145 : decode cX8_goesOn 145 = .ok (.istore_n 1, 1) := by decide +kernel
theorem dX8_goesOn_146 : decode cX8_goesOn 146 = .ok (.aload_n 0, 1) := by decide +kernel
theorem dX8_goesOn_147 : decode cX8_goesOn 147 = .ok (.invokevirtual 176, 3) := by decide +kernel
theorem dX8_goesOn_150 : decode cX8_goesOn 150 = .ok (.bipush 20, 2) := by decide +kernel
theorem dX8_goesOn_152 : decode cX8_goesOn 152 = .ok (.irem, 1) := by decide +kernel
theorem dX8_goesOn_153 : decode cX8_goesOn 153 = .ok (.istore_n 2, 1) := by decide +kernel
theorem dX8_goesOn_154 : decode cX8_goesOn 154 = .ok (.aload_n 0, 1) := by decide +kernel
theorem dX8_goesOn_155 : decode cX8_goesOn 155 = .ok (.iload_n 1, 1) := by decide +kernel
theorem dX8_goesOn_156 : decode cX8_goesOn 156 = .ok (.iconst 1, 1) := by decide +kernel
theorem dX8_goesOn_157 : decode cX8_goesOn 157 = .ok (.aload_n 0, 1) := by decide +kernel
theorem dX8_goesOn_158 : decode cX8_goesOn 158 = .ok (.iload_n 2, 1) := by decide +kernel
theorem dX8_goesOn_159 : decode cX8_goesOn 159 = .ok (.invokevirtual 109, 3) := by decide +kernel
theorem dX8_goesOn_162 : decode cX8_goesOn 162 = .ok (.ifCond .eq 7, 3) := by decide +kernel
theorem dX8_goesOn_165 : decode cX8_goesOn 165 = .ok (.iload_n 2, 1) := by decide +kernel
theorem dX8_goesOn_166 : decode cX8_goesOn 166 = .ok (.goto 9, 3) := by decide +kernel
theorem dX8_goesOn_169 : decode cX8_goesOn 169 = .ok (.aload_n 0, 1) := by decide +kernel
theorem dX8_goesOn_170 : decode cX8_goesOn 170 = .ok (.iload_n 1, 1) := by decide +kernel
theorem dX8_goesOn_171 : decode cX8_goesOn 171 = .ok (.iconst 1, 1) := by decide +kernel
theorem dX8_goesOn_172 : decode cX8_goesOn 172 = .ok (.invokevirtual 75, 3) := by decide +kernel
theorem dX8_goesOn_175 : decode cX8_goesOn 175 = .ok (.invokevirtual 87, 3) := by decide +kernel
theorem dX8_goesOn_178 : decode cX8_goesOn 178 = .ok (.aload_n 0, 1) := by decide +kernel
theorem dX8_goesOn_179 : decode cX8_goesOn 179 = .ok (.invokevirtual 176, 3) := by decide +kernel
theorem dX8_goesOn_182 : decode cX8_goesOn 182 = .ok (.bipush 100, 2) := by decide +kernel
theorem dX8_goesOn_184 : decode cX8_goesOn 184 = .ok (.irem, 1) := by decide +kernel
theorem dX8_goesOn_185 : decode cX8_goesOn 185 = .ok (.aload_n 0, 1) := by decide +kernel
theorem dX8_goesOn_186 : decode cX8_goesOn 186 = .ok (.getfield 7, 3) := by decide +kernel
theorem dX8_goesOn_189 : decode cX8_goesOn 189 = .ok (.bipush 8, 2) := by decide +kernel
theorem dX8_goesOn_191 : decode cX8_goesOn 191 = .ok (.iaload, 1) := by decide +kernel
theorem dX8_goesOn_192 : decode cX8_goesOn 192 = .ok (.if_icmp .ge 37, 3) := by decide +kernel
theorem dX8_goesOn_195 : decode cX8_goesOn 195 = .ok (.aload_n 0, 1) := by decide +kernel
theorem dX8_goesOn_196 : decode cX8_goesOn 196 = .ok (.getfield 7, 3) := by decide +kernel
theorem dX8_goesOn_199 : decode cX8_goesOn 199 = .ok (.iconst 0, 1) := by decide +kernel
theorem dX8_goesOn_200 : decode cX8_goesOn 200 = .ok (.iaload, 1) := by decide +kernel
theorem dX8_goesOn_201 : decode cX8_goesOn 201 = .ok (.ifCond .le 28, 3) := by decide +kernel
theorem dX8_goesOn_204 : decode cX8_goesOn 204 = .ok (.aload_n 0, 1) := by decide +kernel
theorem dX8_goesOn_205 : decode cX8_goesOn 205 = .ok (.invokevirtual 176, 3) := by decide +kernel
theorem dX8_goesOn_208 : decode cX8_goesOn 208 = .ok (.aload_n 0, 1) := by decide +kernel
theorem dX8_goesOn_209 : decode cX8_goesOn 209 = .ok (.getfield 7, 3) := by decide +kernel
theorem dX8_goesOn_212 : decode cX8_goesOn 212 = .ok (.iconst 0, 1) := by decide +kernel
theorem dX8_goesOn_213 : decode cX8_goesOn 213 = .ok (.iaload, 1) := by decide +kernel
theorem dX8_goesOn_214 : decode cX8_goesOn 214 = .ok (.irem, 1) := by decide +kernel
theorem dX8_goesOn_215 : decode cX8_goesOn 215 = .ok (.istore_n 1, 1) := by decide +kernel
theorem dX8_goesOn_216 : decode cX8_goesOn 216 = .ok (.aload_n 0, 1) := by decide +kernel
theorem dX8_goesOn_217 : decode cX8_goesOn 217 = .ok (.iload_n 1, 1) := by decide +kernel
theorem dX8_goesOn_218 : decode cX8_goesOn 218 = .ok (.iconst 3, 1) := by decide +kernel
theorem dX8_goesOn_219 : decode cX8_goesOn 219 = .ok (.aload_n 0, 1) := by decide +kernel
theorem dX8_goesOn_220 : decode cX8_goesOn 220 = .ok (.invokevirtual 176, 3) := by decide +kernel
theorem dX8_goesOn_223 : decode cX8_goesOn 223 = .ok (.bipush 30, 2) := by decide +kernel
theorem dX8_goesOn_225 : decode cX8_goesOn 225 = .ok (.irem, 1) := by decide +kernel
theorem dX8_goesOn_226 : decode cX8_goesOn 226 = .ok (.invokevirtual 87, 3) := by decide +kernel
theorem dX8_goesOn_229 : decode cX8_goesOn 229 = .ok (.aload_n 0, 1) := by decide +kernel
theorem dX8_goesOn_230 : decode cX8_goesOn 230 = .ok (.getfield 7, 3) := by decide +kernel
theorem dX8_goesOn_233 : decode cX8_goesOn 233 = .ok (.iconst 2, 1) := by decide +kernel
theorem dX8_goesOn_234 : decode cX8_goesOn 234 = .ok (.dup2, 1) := by decide +kernel
theorem dX8_goesOn_235 : decode cX8_goesOn 235 = .ok (.iaload, 1) := by decide +kernel
theorem dX8_goesOn_236 : decode cX8_goesOn 236 = .ok (.iconst 1, 1) := by decide +kernel
theorem dX8_goesOn_237 : decode cX8_goesOn 237 = .ok (.iadd, 1) := by decide +kernel
theorem dX8_goesOn_238 : decode cX8_goesOn 238 = .ok (.iastore, 1) := by decide +kernel
theorem dX8_goesOn_239 : decode cX8_goesOn 239 = .ok (.return_, 1) := by decide +kernel
theorem dX8_goesOnMany_0 : decode cX8_goesOnMany 0 = .ok (.iconst 0, 1) := by decide +kernel
theorem dX8_goesOnMany_1 : decode cX8_goesOnMany 1 = .ok (.istore_n 2, 1) := by decide +kernel
theorem dX8_goesOnMany_2 : decode cX8_goesOnMany 2 = .ok (.iload_n 2, 1) := by decide +kernel
theorem dX8_goesOnMany_3 : decode cX8_goesOnMany 3 = .ok (.iload_n 1, 1) := by decide +kernel
theorem dX8_goesOnMany_4 : decode cX8_goesOnMany 4 = .ok (.if_icmp .ge 13, 3) := by decide +kernel
theorem dX8_goesOnMany_7 : decode cX8_goesOnMany 7 = .ok (.aload_n 0, 1) := by decide +kernel
theorem dX8_goesOnMany_8 : decode cX8_goesOnMany 8 = .ok (.invokevirtual 183, 3) := by decide +kernel
theorem dX8_goesOnMany_11 : decode cX8_goesOnMany 11 = .ok (.iinc 2 1, 3) := by decide +kernel
theorem dX8_goesOnMany_14 : decode cX8_goesOnMany 14 = .ok (.goto (-12), 3) := by decide +kernel
theorem dX8_goesOnMany_17 : decode cX8_goesOnMany 17 = .ok (.return_, 1) := by decide +kernel
theorem dX8_days_0 : decode cX8_days 0 = .ok (.iload_n 1, 1) := by decide +kernel
theorem dX8_days_1 : decode cX8_days 1 = .ok (.i2l, 1) := by decide +kernel
theorem dX8_days_2 : decode cX8_days 2 = .ok (.lconst 1, 1) := by decide +kernel
theorem dX8_days_3 : decode cX8_days 3 = .ok (.ldc2_w 172, 3) := by decide +kernel
theorem dX8_days_6 : decode cX8_days 6 = .ok (.invokestatic 68, 3) := by decide +kernel
theorem dX8_days_9 : decode cX8_days 9 = .ok (.ifCond .ne 6, 3) := by decide +kernel
theorem dX8_days_12 : decode cX8_days 12 = .ok (.ldc 108, 2) := by decide +kernel
theorem dX8_days_14 : decode cX8_days 14 = .ok (.ireturn, 1) := by decide +kernel
theorem dX8_days_15 : decode cX8_days 15 = .ok (.aload_n 0, 1) := by decide +kernel
theorem dX8_days_16 : decode cX8_days 16 = .ok (.getfield 7, 3) := by decide +kernel
theorem dX8_days_19 : decode cX8_days 19 = .ok (.iconst 3, 1) := by decide +kernel
theorem dX8_days_20 : decode cX8_days 20 = .ok (.iaload, 1) := by decide +kernel
theorem dX8_days_21 : decode cX8_days 21 = .ok (.istore_n 2, 1) := by decide +kernel
theorem dX8_days_22 : decode cX8_days 22 = .ok (.sipush 9999, 3) := by decide +kernel
theorem dX8_days_25 : decode cX8_days 25 = .ok (.aload_n 0, 1) := by decide +kernel
theorem dX8_days_26 : decode cX8_days 26 = .ok (.getfield 7, 3) := by decide +kernel
theorem dX8_days_29 : decode cX8_days 29 = .ok (.iconst 2, 1) := by decide +kernel
theorem dX8_days_30 : decode cX8_days 30 = .ok (.iaload, 1) := by decide +kernel
theorem dX8_days_31 : decode cX8_days 31 = .ok (.isub, 1) := by decide +kernel
theorem dX8_days_32 : decode cX8_days 32 = .ok (.istore_n 3, 1) := by decide +kernel
theorem dX8_days_33 : decode cX8_days 33 = .ok (.aload_n 0, 1) := by decide +kernel
theorem dX8_days_34 : decode cX8_days 34 = .ok (.iload_n 1, 1) := by decide +kernel
theorem dX8_days_35 : decode cX8_days 35 = .ok (.iload_n 3, 1) := by decide +kernel
theorem dX8_days_36 : decode cX8_days 36 = .ok (.if_icmp .ge 7, 3) := by decide +kernel
theorem dX8_days_39 : decode cX8_days 39 = .ok (.iload_n 1, 1) := by decide +kernel
theorem dX8_days_40 : decode cX8_days 40 = .ok (.goto 4, 3) := by decide +kernel
theorem dX8_days_43 : decode cX8_days 43 = .ok (.iload_n 3, 1) := by decide +kernel
theorem dX8_days_44 : decode cX8_days 44 = .ok (.invokevirtual 186, 3) := by decide +kernel
theorem dX8_days_47 : decode cX8_days 47 = .ok (.aload_n 0, 1) := by decide +kernel
theorem dX8_days_48 : decode cX8_days 48 = .ok (.getfield 7, 3) := by decide +kernel
theorem dX8_days_51 : decode cX8_days 51 = .ok (.iconst 3, 1) := by decide +kernel
theorem dX8_days_52 : decode cX8_days 52 = .ok (.iaload, 1) := by decide +kernel
theorem dX8_days_53 : decode cX8_days 53 = .ok (.iload_n 2, 1) := by decide +kernel
theorem dX8_days_54 : decode cX8_days 54 = .ok (.isub, 1) := by decide +kernel
theorem dX8_days_55 : decode cX8_days 55 = .ok (.ireturn, 1) := by decide +kernel
theorem dX8_sizes_0 : decode cX8_sizes 0 = .ok (.iconst 0, 1) := by decide +kernel
theorem dX8_sizes_1 : decode cX8_sizes 1 = .ok (.istore_n 1, 1) := by decide +kernel
theorem dX8_sizes_2 : decode cX8_sizes 2 = .ok (.iconst 0, 1) := by decide +kernel
theorem dX8_sizes_3 : decode cX8_sizes 3 = .ok (.istore_n 2, 1) := by decide +kernel
theorem dX8_sizes_4 : decode cX8_sizes 4 = .ok (.iload_n 2, 1) := by decide +kernel
theorem dX8_sizes_5 : decode cX8_sizes 5 = .ok (.aload_n 0, 1) := by decide +kernel
theorem dX8_sizes_6 : decode cX8_sizes 6 = .ok (.getfield 7, 3) := by decide +kernel
theorem dX8_sizes_9 : decode cX8_sizes 9 = .ok (.iconst 0, 1) := by decide +kernel
theorem dX8_sizes_10 : decode cX8_sizes 10 = .ok (.iaload, 1) := by decide +kernel
theorem dX8_sizes_11 : decode cX8_sizes 11 = .ok (.if_icmp .ge 18, 3) := by decide +kernel
theorem dX8_sizes_14 : decode cX8_sizes 14 = .ok (.iload_n 1, 1) := by decide +kernel
theorem dX8_sizes_15 : decode cX8_sizes 15 = .ok (.aload_n 0, 1) := by decide +kernel
theorem dX8_sizes_16 : decode cX8_sizes 16 = .ok (.iload_n 2, 1) := by decide +kernel
theorem dX8_sizes_17 : decode cX8_sizes 17 = .ok (.iconst 2, 1) := by decide +kernel
theorem dX8_sizes_18 : decode cX8_sizes 18 = .ok (.invokevirtual 75, 3) := by decide +kernel
theorem dX8_sizes_21 : decode cX8_sizes 21 = .ok (.iadd, 1) := by decide +kernel
theorem dX8_sizes_22 : decode cX8_sizes 22 = .ok (.istore_n 1, 1) := by decide +kernel
theorem dX8_sizes_23 : decode cX8_sizes 23 = .ok (.iinc 2 1, 3) := by decide +kernel
theorem dX8_sizes_26 : decode cX8_sizes 26 = .ok (.goto (-22), 3) := by decide +kernel
theorem dX8_sizes_29 : decode cX8_sizes 29 = .ok (.iload_n 1, 1) := by decide +kernel
theorem dX8_sizes_30 : decode cX8_sizes 30 = .ok (.ireturn, 1) := by decide +kernel
theorem dX8_town_0 : decode cX8_town 0 = .ok (.iload_n 1, 1) := by decide +kernel
theorem dX8_town_1 : decode cX8_town 1 = .ok (.i2l, 1) := by decide +kernel
theorem dX8_town_2 : decode cX8_town 2 = .ok (.lconst 0, 1) := by decide +kernel
theorem dX8_town_3 : decode cX8_town 3 = .ok (.ldc2_w 190, 3) := by decide +kernel
theorem dX8_town_6 : decode cX8_town 6 = .ok (.invokestatic 68, 3) := by decide +kernel
theorem dX8_town_9 : decode cX8_town 9 = .ok (.ifCond .ne 6, 3) := by decide +kernel
theorem dX8_town_12 : decode cX8_town 12 = .ok (.ldc 108, 2) := by decide +kernel
theorem dX8_town_14 : decode cX8_town 14 = .ok (.ireturn, 1) := by decide +kernel
theorem dX8_town_15 : decode cX8_town 15 = .ok (.iload_n 1, 1) := by decide +kernel
theorem dX8_town_16 : decode cX8_town 16 = .ok (.iconst 3, 1) := by decide +kernel
theorem dX8_town_17 : decode cX8_town 17 = .ok (.if_icmp .ge 14, 3) := by decide +kernel
theorem dX8_town_20 : decode cX8_town 20 = .ok (.aload_n 0, 1) := by decide +kernel
theorem dX8_town_21 : decode cX8_town 21 = .ok (.getfield 7, 3) := by decide +kernel
theorem dX8_town_24 : decode cX8_town 24 = .ok (.iconst 3, 1) := by decide +kernel
theorem dX8_town_25 : decode cX8_town 25 = .ok (.iload_n 1, 1) := by decide +kernel
theorem dX8_town_26 : decode cX8_town 26 = .ok (.iadd, 1) := by decide +kernel
theorem dX8_town_27 : decode cX8_town 27 = .ok (.iaload, 1) := by decide +kernel
theorem dX8_town_28 : decode cX8_town 28 = .ok (.goto 22, 3) := by decide +kernel
theorem dX8_town_31 : decode cX8_town 31 = .ok (.iload_n 1, 1) := by decide +kernel
theorem dX8_town_32 : decode cX8_town 32 = .ok (.iconst 3, 1) := by decide +kernel
theorem dX8_town_33 : decode cX8_town 33 = .ok (.if_icmp .ne 10, 3) := by decide +kernel
theorem dX8_town_36 : decode cX8_town 36 = .ok (.aload_n 0, 1) := by decide +kernel
theorem dX8_town_37 : decode cX8_town 37 = .ok (.invokevirtual 192, 3) := by decide +kernel
theorem dX8_town_40 : decode cX8_town 40 = .ok (.goto 10, 3) := by decide +kernel
theorem dX8_town_43 : decode cX8_town 43 = .ok (.aload_n 0, 1) := by decide +kernel
theorem dX8_town_44 : decode cX8_town 44 = .ok (.getfield 7, 3) := by decide +kernel
theorem dX8_town_47 : decode cX8_town 47 = .ok (.bipush 50, 2) := by decide +kernel
theorem dX8_town_49 : decode cX8_town 49 = .ok (.iaload, 1) := by decide +kernel
theorem dX8_town_50 : decode cX8_town 50 = .ok (.ireturn, 1) := by decide +kernel
theorem dX8_laysBy_0 : decode cX8_laysBy 0 = .ok (.iconst 0, 1) := by decide +kernel
theorem dX8_laysBy_1 : decode cX8_laysBy 1 = .ok (.istore_n 1, 1) := by decide +kernel
theorem dX8_laysBy_2 : decode cX8_laysBy 2 = .ok (.iload_n 1, 1) := by decide +kernel
theorem dX8_laysBy_3 : decode cX8_laysBy 3 = .ok (.bipush 51, 2) := by decide +kernel
theorem dX8_laysBy_5 : decode cX8_laysBy 5 = .ok (.if_icmp .ge 21, 3) := by decide +kernel
theorem dX8_laysBy_8 : decode cX8_laysBy 8 = .ok (.aload_n 0, 1) := by decide +kernel
theorem dX8_laysBy_9 : decode cX8_laysBy 9 = .ok (.getfield 46, 3) := by decide +kernel
theorem dX8_laysBy_12 : decode cX8_laysBy 12 = .ok (.iload_n 1, 1) := by decide +kernel
theorem dX8_laysBy_13 : decode cX8_laysBy 13 = .ok (.aload_n 0, 1) := by decide +kernel
theorem dX8_laysBy_14 : decode cX8_laysBy 14 = .ok (.getfield 7, 3) := by decide +kernel
theorem dX8_laysBy_17 : decode cX8_laysBy 17 = .ok (.iload_n 1, 1) := by decide +kernel
theorem dX8_laysBy_18 : decode cX8_laysBy 18 = .ok (.iaload, 1) := by decide +kernel
theorem dX8_laysBy_19 : decode cX8_laysBy 19 = .ok (.iastore, 1) := by decide +kernel
theorem dX8_laysBy_20 : decode cX8_laysBy 20 = .ok (.iinc 1 1, 3) := by decide +kernel
theorem dX8_laysBy_23 : decode cX8_laysBy 23 = .ok (.goto (-21), 3) := by decide +kernel
theorem dX8_laysBy_26 : decode cX8_laysBy 26 = .ok (.return_, 1) := by decide +kernel
theorem dX8_laysBack_0 : decode cX8_laysBack 0 = .ok (.iconst 0, 1) := by decide +kernel
theorem dX8_laysBack_1 : decode cX8_laysBack 1 = .ok (.istore_n 1, 1) := by decide +kernel
theorem dX8_laysBack_2 : decode cX8_laysBack 2 = .ok (.iload_n 1, 1) := by decide +kernel
theorem dX8_laysBack_3 : decode cX8_laysBack 3 = .ok (.bipush 51, 2) := by decide +kernel
theorem dX8_laysBack_5 : decode cX8_laysBack 5 = .ok (.if_icmp .ge 21, 3) := by decide +kernel
theorem dX8_laysBack_8 : decode cX8_laysBack 8 = .ok (.aload_n 0, 1) := by decide +kernel
theorem dX8_laysBack_9 : decode cX8_laysBack 9 = .ok (.getfield 7, 3) := by decide +kernel
theorem dX8_laysBack_12 : decode cX8_laysBack 12 = .ok (.iload_n 1, 1) := by decide +kernel
theorem dX8_laysBack_13 : decode cX8_laysBack 13 = .ok (.aload_n 0, 1) := by decide +kernel
theorem dX8_laysBack_14 : decode cX8_laysBack 14 = .ok (.getfield 46, 3) := by decide +kernel
theorem dX8_laysBack_17 : decode cX8_laysBack 17 = .ok (.iload_n 1, 1) := by decide +kernel
theorem dX8_laysBack_18 : decode cX8_laysBack 18 = .ok (.iaload, 1) := by decide +kernel
theorem dX8_laysBack_19 : decode cX8_laysBack 19 = .ok (.iastore, 1) := by decide +kernel
theorem dX8_laysBack_20 : decode cX8_laysBack 20 = .ok (.iinc 1 1, 3) := by decide +kernel
theorem dX8_laysBack_23 : decode cX8_laysBack 23 = .ok (.goto (-21), 3) := by decide +kernel
theorem dX8_laysBack_26 : decode cX8_laysBack 26 = .ok (.return_, 1) := by decide +kernel
theorem dX8_curtain_0 : decode cX8_curtain 0 = .ok (.aload_n 0, 1) := by decide +kernel
theorem dX8_curtain_1 : decode cX8_curtain 1 = .ok (.iload_n 1, 1) := by decide +kernel
theorem dX8_curtain_2 : decode cX8_curtain 2 = .ok (.invokevirtual 143, 3) := by decide +kernel
theorem dX8_curtain_5 : decode cX8_curtain 5 = .ok (.ifCond .eq 13, 3) := by decide +kernel
theorem dX8_curtain_8 : decode cX8_curtain 8 = .ok (.iload_n 2, 1) := by decide +kernel
theorem dX8_curtain_9 : decode cX8_curtain 9 = .ok (.i2l, 1) := by decide +kernel
theorem dX8_curtain_10 : decode cX8_curtain 10 = .ok (.lconst 0, 1) := by decide +kernel
theorem dX8_curtain_11 : decode cX8_curtain 11 = .ok (.lconst 1, 1) := by decide +kernel
theorem dX8_curtain_12 : decode cX8_curtain 12 = .ok (.invokestatic 68, 3) := by decide +kernel
theorem dX8_curtain_15 : decode cX8_curtain 15 = .ok (.ifCond .ne 6, 3) := by decide +kernel
theorem dX8_curtain_18 : decode cX8_curtain 18 = .ok (.ldc 108, 2) := by decide +kernel
theorem dX8_curtain_20 : decode cX8_curtain 20 = .ok (.ireturn, 1) := by decide +kernel
theorem dX8_curtain_21 : decode cX8_curtain 21 = .ok (.iconst (-1), 1) := by decide +kernel
theorem dX8_curtain_22 : decode cX8_curtain 22 = .ok (.istore_n 3, 1) := by decide +kernel
theorem dX8_curtain_23 : decode cX8_curtain 23 = .ok (.iconst 0, 1) := by decide +kernel
theorem dX8_curtain_24 : decode cX8_curtain 24 = .ok (.istore 4, 2) := by decide +kernel
theorem dX8_curtain_26 : decode cX8_curtain 26 = .ok (.iconst 0, 1) := by decide +kernel
theorem dX8_curtain_27 : decode cX8_curtain 27 = .ok (.istore 5, 2) := by decide +kernel
theorem dX8_curtain_29 : decode cX8_curtain 29 = .ok (.iload 5, 2) := by decide +kernel
theorem dX8_curtain_31 : decode cX8_curtain 31 = .ok (.bipush 20, 2) := by decide +kernel
theorem dX8_curtain_33 : decode cX8_curtain 33 = .ok (.if_icmp .ge 100, 3) := by decide +kernel
theorem dX8_curtain_36 : decode cX8_curtain 36 = .ok (.aload_n 0, 1) := by decide +kernel
theorem dX8_curtain_37 : decode cX8_curtain 37 = .ok (.iload 5, 2) := by decide +kernel
theorem dX8_curtain_39 : decode cX8_curtain 39 = .ok (.invokevirtual 109, 3) := by decide +kernel
theorem dX8_curtain_42 : decode cX8_curtain 42 = .ok (.ifCond .eq 85, 3) := by decide +kernel
theorem dX8_curtain_45 : decode cX8_curtain 45 = .ok (.aload_n 0, 1) := by decide +kernel
theorem dX8_curtain_46 : decode cX8_curtain 46 = .ok (.getfield 7, 3) := by decide +kernel
theorem dX8_curtain_49 : decode cX8_curtain 49 = .ok (.bipush 50, 2) := by decide +kernel
theorem dX8_curtain_51 : decode cX8_curtain 51 = .ok (.dup2, 1) := by decide +kernel
theorem dX8_curtain_52 : decode cX8_curtain 52 = .ok (.iaload, 1) := by decide +kernel
theorem dX8_curtain_53 : decode cX8_curtain 53 = .ok (.iconst 1, 1) := by decide +kernel
theorem dX8_curtain_54 : decode cX8_curtain 54 = .ok (.iload 5, 2) := by decide +kernel
theorem dX8_curtain_56 : decode cX8_curtain 56 = .ok (.ishl, 1) := by decide +kernel
theorem dX8_curtain_57 : decode cX8_curtain 57 = .ok (.ixor, 1) := by decide +kernel
theorem dX8_curtain_58 : decode cX8_curtain 58 = .ok (.iastore, 1) := by decide +kernel
theorem dX8_curtain_59 : decode cX8_curtain 59 = .ok (.aload_n 0, 1) := by decide +kernel
theorem dX8_curtain_60 : decode cX8_curtain 60 = .ok (.iload_n 1, 1) := by decide +kernel
theorem dX8_curtain_61 : decode cX8_curtain 61 = .ok (.invokevirtual 148, 3) := by decide +kernel
theorem dX8_curtain_64 : decode cX8_curtain 64 = .ok (.invokestatic 151, 3) := by decide +kernel
theorem dX8_curtain_67 : decode cX8_curtain 67 = .ok (.istore 6, 2) := by decide +kernel
theorem dX8_curtain_69 : decode cX8_curtain 69 = .ok (.aload_n 0, 1) := by decide +kernel
theorem dX8_curtain_70 : decode cX8_curtain 70 = .ok (.getfield 7, 3) := by decide +kernel
theorem dX8_curtain_73 : decode cX8_curtain 73 = .ok (.bipush 50, 2) := by decide +kernel
theorem dX8_curtain_75 : decode cX8_curtain 75 = .ok (.dup2, 1) := by decide +kernel
theorem dX8_curtain_76 : decode cX8_curtain 76 = .ok (.iaload, 1) := by decide +kernel
theorem dX8_curtain_77 : decode cX8_curtain 77 = .ok (.iconst 1, 1) := by decide +kernel
theorem dX8_curtain_78 : decode cX8_curtain 78 = .ok (.iload 5, 2) := by decide +kernel
theorem dX8_curtain_80 : decode cX8_curtain 80 = .ok (.ishl, 1) := by decide +kernel
theorem dX8_curtain_81 : decode cX8_curtain 81 = .ok (.ixor, 1) := by decide +kernel
theorem dX8_curtain_82 : decode cX8_curtain 82 = .ok (.iastore, 1) := by decide +kernel
theorem dX8_curtain_83 : decode cX8_curtain 83 = .ok (.iload_n 3, 1) := by decide +kernel
theorem dX8_curtain_84 : decode cX8_curtain 84 = .ok (.ifCond .lt 10, 3) := by decide +kernel
theorem dX8_curtain_87 : decode cX8_curtain 87 = .ok (.iload 6, 2) := by decide +kernel
theorem dX8_curtain_89 : decode cX8_curtain 89 = .ok (.iload 4, 2) := by decide +kernel
theorem dX8_curtain_91 : decode cX8_curtain 91 = .ok (.if_icmp .ge 7, 3) := by decide +kernel
theorem dX8_curtain_94 : decode cX8_curtain 94 = .ok (.iconst 1, 1) := by decide +kernel
theorem dX8_curtain_95 : decode cX8_curtain 95 = .ok (.goto 4, 3) := by decide +kernel
theorem dX8_curtain_98 : decode cX8_curtain 98 = .ok (.iconst 0, 1) := by decide +kernel
theorem dX8_curtain_99 : decode cX8_curtain 99 = .ok (.istore 7, 2) := by decide +kernel
theorem dX8_curtain_101 : decode cX8_curtain 101 = .ok (.iload 7, 2) := by decide +kernel
theorem dX8_curtain_103 : decode cX8_curtain 103 = .ok (.ifCond .eq 8, 3) := by decide +kernel
theorem dX8_curtain_106 : decode cX8_curtain 106 = .ok (.iload 5, 2) := by decide +kernel
theorem dX8_curtain_108 : decode cX8_curtain 108 = .ok (.goto 4, 3) := by decide +kernel
theorem dX8_curtain_111 : decode cX8_curtain 111 = .ok (.iload_n 3, 1) := by decide +kernel
theorem dX8_curtain_112 : decode cX8_curtain 112 = .ok (.istore_n 3, 1) := by decide +kernel
theorem dX8_curtain_113 : decode cX8_curtain 113 = .ok (.iload 7, 2) := by decide +kernel
theorem dX8_curtain_115 : decode cX8_curtain 115 = .ok (.ifCond .eq 8, 3) := by decide +kernel
theorem dX8_curtain_118 : decode cX8_curtain 118 = .ok (.iload 6, 2) := by decide +kernel
theorem dX8_curtain_120 : decode cX8_curtain 120 = .ok (.goto 5, 3) := by decide +kernel
theorem dX8_curtain_123 : decode cX8_curtain 123 = .ok (.iload 4, 2) := by decide +kernel
theorem dX8_curtain_125 : decode cX8_curtain 125 = .ok (.istore 4, 2) := by decide +kernel
theorem dX8_curtain_127 : decode cX8_curtain 127 = .ok (.iinc 5 1, 3) := by decide +kernel
theorem dX8_curtain_130 : decode cX8_curtain 130 = .ok (.goto (-101), 3) := by decide +kernel
theorem dX8_curtain_133 : decode cX8_curtain 133 = .ok (.iload_n 3, 1) := by decide +kernel
theorem dX8_curtain_134 : decode cX8_curtain 134 = .ok (.ifCond .ge 8, 3) := by decide +kernel
theorem dX8_curtain_137 : decode cX8_curtain 137 = .ok (.ldc 67, 2) := by decide +kernel
theorem dX8_curtain_139 : decode cX8_curtain 139 = .ok (.goto 13, 3) := by decide +kernel
theorem dX8_curtain_142 : decode cX8_curtain 142 = .ok (.iload_n 2, 1) := by decide +kernel
theorem dX8_curtain_143 : decode cX8_curtain 143 = .ok (.ifCond .ne 7, 3) := by decide +kernel
theorem dX8_curtain_146 : decode cX8_curtain 146 = .ok (.iload_n 3, 1) := by decide +kernel
theorem dX8_curtain_147 : decode cX8_curtain 147 = .ok (.goto 5, 3) := by decide +kernel
theorem dX8_curtain_150 : decode cX8_curtain 150 = .ok (.iload 4, 2) := by decide +kernel
theorem dX8_curtain_152 : decode cX8_curtain 152 = .ok (.ireturn, 1) := by decide +kernel
theorem dX8_seat_0 : decode cX8_seat 0 = .ok (.aload_n 0, 1) := by decide +kernel
theorem dX8_seat_1 : decode cX8_seat 1 = .ok (.iload_n 1, 1) := by decide +kernel
theorem dX8_seat_2 : decode cX8_seat 2 = .ok (.invokevirtual 143, 3) := by decide +kernel
theorem dX8_seat_5 : decode cX8_seat 5 = .ok (.ifCond .eq 13, 3) := by decide +kernel
theorem dX8_seat_8 : decode cX8_seat 8 = .ok (.iload_n 2, 1) := by decide +kernel
theorem dX8_seat_9 : decode cX8_seat 9 = .ok (.i2l, 1) := by decide +kernel
theorem dX8_seat_10 : decode cX8_seat 10 = .ok (.lconst 0, 1) := by decide +kernel
theorem dX8_seat_11 : decode cX8_seat 11 = .ok (.lconst 1, 1) := by decide +kernel
theorem dX8_seat_12 : decode cX8_seat 12 = .ok (.invokestatic 68, 3) := by decide +kernel
theorem dX8_seat_15 : decode cX8_seat 15 = .ok (.ifCond .ne 6, 3) := by decide +kernel
theorem dX8_seat_18 : decode cX8_seat 18 = .ok (.ldc 108, 2) := by decide +kernel
theorem dX8_seat_20 : decode cX8_seat 20 = .ok (.ireturn, 1) := by decide +kernel
theorem dX8_seat_21 : decode cX8_seat 21 = .ok (.aload_n 0, 1) := by decide +kernel
theorem dX8_seat_22 : decode cX8_seat 22 = .ok (.iload_n 1, 1) := by decide +kernel
theorem dX8_seat_23 : decode cX8_seat 23 = .ok (.iconst 1, 1) := by decide +kernel
theorem dX8_seat_24 : decode cX8_seat 24 = .ok (.invokevirtual 75, 3) := by decide +kernel
theorem dX8_seat_27 : decode cX8_seat 27 = .ok (.istore_n 3, 1) := by decide +kernel
theorem dX8_seat_28 : decode cX8_seat 28 = .ok (.iconst (-1), 1) := by decide +kernel
theorem dX8_seat_29 : decode cX8_seat 29 = .ok (.istore 4, 2) := by decide +kernel
theorem dX8_seat_31 : decode cX8_seat 31 = .ok (.iconst (-1), 1) := by decide +kernel
theorem dX8_seat_32 : decode cX8_seat 32 = .ok (.istore 5, 2) := by decide +kernel
theorem dX8_seat_34 : decode cX8_seat 34 = .ok (.iconst 0, 1) := by decide +kernel
theorem dX8_seat_35 : decode cX8_seat 35 = .ok (.istore 6, 2) := by decide +kernel
theorem dX8_seat_37 : decode cX8_seat 37 = .ok (.iload 6, 2) := by decide +kernel
theorem dX8_seat_39 : decode cX8_seat 39 = .ok (.bipush 20, 2) := by decide +kernel
theorem dX8_seat_41 : decode cX8_seat 41 = .ok (.if_icmp .ge 81, 3) := by decide +kernel
theorem dX8_seat_44 : decode cX8_seat 44 = .ok (.iload 6, 2) := by decide +kernel
theorem dX8_seat_46 : decode cX8_seat 46 = .ok (.iload_n 3, 1) := by decide +kernel
theorem dX8_seat_47 : decode cX8_seat 47 = .ok (.if_icmp .eq 12, 3) := by decide +kernel
theorem dX8_seat_50 : decode cX8_seat 50 = .ok (.aload_n 0, 1) := by decide +kernel
theorem dX8_seat_51 : decode cX8_seat 51 = .ok (.iload 6, 2) := by decide +kernel
theorem dX8_seat_53 : decode cX8_seat 53 = .ok (.invokevirtual 109, 3) := by decide +kernel
theorem dX8_seat_56 : decode cX8_seat 56 = .ok (.ifCond .eq 60, 3) := by decide +kernel
theorem dX8_seat_59 : decode cX8_seat 59 = .ok (.aload_n 0, 1) := by decide +kernel
theorem dX8_seat_60 : decode cX8_seat 60 = .ok (.iload_n 1, 1) := by decide +kernel
theorem dX8_seat_61 : decode cX8_seat 61 = .ok (.iconst 1, 1) := by decide +kernel
theorem dX8_seat_62 : decode cX8_seat 62 = .ok (.iload 6, 2) := by decide +kernel
theorem dX8_seat_64 : decode cX8_seat 64 = .ok (.invokevirtual 87, 3) := by decide +kernel
theorem dX8_seat_67 : decode cX8_seat 67 = .ok (.aload_n 0, 1) := by decide +kernel
theorem dX8_seat_68 : decode cX8_seat 68 = .ok (.iload_n 1, 1) := by decide +kernel
theorem dX8_seat_69 : decode cX8_seat 69 = .ok (.invokevirtual 148, 3) := by decide +kernel
theorem dX8_seat_72 : decode cX8_seat 72 = .ok (.invokestatic 151, 3) := by decide +kernel
theorem dX8_seat_75 : decode cX8_seat 75 = .ok (.istore 7, 2) := by decide +kernel
theorem dX8_seat_77 : decode cX8_seat 77 = .ok (.aload_n 0, 1) := by decide +kernel
theorem dX8_seat_78 : decode cX8_seat 78 = .ok (.iload_n 1, 1) := by decide +kernel
theorem dX8_seat_79 : decode cX8_seat 79 = .ok (.iconst 1, 1) := by decide +kernel
theorem dX8_seat_80 : decode cX8_seat 80 = .ok (.iload_n 3, 1) := by decide +kernel
theorem dX8_seat_81 : decode cX8_seat 81 = .ok (.invokevirtual 87, 3) := by decide +kernel
theorem dX8_seat_84 : decode cX8_seat 84 = .ok (.iload 7, 2) := by decide +kernel
theorem dX8_seat_86 : decode cX8_seat 86 = .ok (.iload 5, 2) := by decide +kernel
theorem dX8_seat_88 : decode cX8_seat 88 = .ok (.if_icmp .le 8, 3) := by decide +kernel
theorem dX8_seat_91 : decode cX8_seat 91 = .ok (.iload 6, 2) := by decide +kernel
theorem dX8_seat_93 : decode cX8_seat 93 = .ok (.goto 5, 3) := by decide +kernel
theorem dX8_seat_96 : decode cX8_seat 96 = .ok (.iload 4, 2) := by decide +kernel
theorem dX8_seat_98 : decode cX8_seat 98 = .ok (.istore 4, 2) := by decide +kernel
theorem dX8_seat_100 : decode cX8_seat 100 = .ok (.iload 7, 2) := by decide +kernel
theorem dX8_seat_102 : decode cX8_seat 102 = .ok (.iload 5, 2) := by decide +kernel
theorem dX8_seat_104 : decode cX8_seat 104 = .ok (.if_icmp .le 8, 3) := by decide +kernel
theorem dX8_seat_107 : decode cX8_seat 107 = .ok (.iload 7, 2) := by decide +kernel
theorem dX8_seat_109 : decode cX8_seat 109 = .ok (.goto 5, 3) := by decide +kernel
theorem dX8_seat_112 : decode cX8_seat 112 = .ok (.iload 5, 2) := by decide +kernel
theorem dX8_seat_114 : decode cX8_seat 114 = .ok (.istore 5, 2) := by decide +kernel
theorem dX8_seat_116 : decode cX8_seat 116 = .ok (.iinc 6 1, 3) := by decide +kernel
theorem dX8_seat_119 : decode cX8_seat 119 = .ok (.goto (-82), 3) := by decide +kernel
theorem dX8_seat_122 : decode cX8_seat 122 = .ok (.iload_n 2, 1) := by decide +kernel
theorem dX8_seat_123 : decode cX8_seat 123 = .ok (.ifCond .ne 8, 3) := by decide +kernel
theorem dX8_seat_126 : decode cX8_seat 126 = .ok (.iload 4, 2) := by decide +kernel
theorem dX8_seat_128 : decode cX8_seat 128 = .ok (.goto 5, 3) := by decide +kernel
theorem dX8_seat_131 : decode cX8_seat 131 = .ok (.iload 5, 2) := by decide +kernel
theorem dX8_seat_133 : decode cX8_seat 133 = .ok (.ireturn, 1) := by decide +kernel
theorem dX8_behind_0 : decode cX8_behind 0 = .ok (.iload_n 1, 1) := by decide +kernel
theorem dX8_behind_1 : decode cX8_behind 1 = .ok (.i2l, 1) := by decide +kernel
theorem dX8_behind_2 : decode cX8_behind 2 = .ok (.lconst 0, 1) := by decide +kernel
theorem dX8_behind_3 : decode cX8_behind 3 = .ok (.ldc2_w 172, 3) := by decide +kernel
theorem dX8_behind_6 : decode cX8_behind 6 = .ok (.invokestatic 68, 3) := by decide +kernel
theorem dX8_behind_9 : decode cX8_behind 9 = .ok (.ifCond .eq 22, 3) := by decide +kernel
theorem dX8_behind_12 : decode cX8_behind 12 = .ok (.iload_n 2, 1) := by decide +kernel
theorem dX8_behind_13 : decode cX8_behind 13 = .ok (.ifCond .lt 18, 3) := by decide +kernel
theorem dX8_behind_16 : decode cX8_behind 16 = .ok (.iload_n 2, 1) := by decide +kernel
theorem dX8_behind_17 : decode cX8_behind 17 = .ok (.iconst 2, 1) := by decide +kernel
theorem dX8_behind_18 : decode cX8_behind 18 = .ok (.if_icmp .le 16, 3) := by decide +kernel
theorem dX8_behind_21 : decode cX8_behind 21 = .ok (.aload_n 0, 1) := by decide +kernel
theorem dX8_behind_22 : decode cX8_behind 22 = .ok (.iload_n 2, 1) := by decide +kernel
theorem dX8_behind_23 : decode cX8_behind 23 = .ok (.iconst 3, 1) := by decide +kernel
theorem dX8_behind_24 : decode cX8_behind 24 = .ok (.isub, 1) := by decide +kernel
theorem dX8_behind_25 : decode cX8_behind 25 = .ok (.invokevirtual 143, 3) := by decide +kernel
theorem dX8_behind_28 : decode cX8_behind 28 = .ok (.ifCond .ne 6, 3) := by decide +kernel
theorem dX8_behind_31 : decode cX8_behind 31 = .ok (.ldc 108, 2) := by decide +kernel
theorem dX8_behind_33 : decode cX8_behind 33 = .ok (.ireturn, 1) := by decide +kernel
theorem dX8_behind_34 : decode cX8_behind 34 = .ok (.aload_n 0, 1) := by decide +kernel
theorem dX8_behind_35 : decode cX8_behind 35 = .ok (.invokevirtual 195, 3) := by decide +kernel
theorem dX8_behind_38 : decode cX8_behind 38 = .ok (.aload_n 0, 1) := by decide +kernel
theorem dX8_behind_39 : decode cX8_behind 39 = .ok (.iload_n 1, 1) := by decide +kernel
theorem dX8_behind_40 : decode cX8_behind 40 = .ok (.invokevirtual 186, 3) := by decide +kernel
theorem dX8_behind_43 : decode cX8_behind 43 = .ok (.iload_n 2, 1) := by decide +kernel
theorem dX8_behind_44 : decode cX8_behind 44 = .ok (.iconst 3, 1) := by decide +kernel
theorem dX8_behind_45 : decode cX8_behind 45 = .ok (.if_icmp .ge 14, 3) := by decide +kernel
theorem dX8_behind_48 : decode cX8_behind 48 = .ok (.aload_n 0, 1) := by decide +kernel
theorem dX8_behind_49 : decode cX8_behind 49 = .ok (.getfield 7, 3) := by decide +kernel
theorem dX8_behind_52 : decode cX8_behind 52 = .ok (.iconst 3, 1) := by decide +kernel
theorem dX8_behind_53 : decode cX8_behind 53 = .ok (.iload_n 2, 1) := by decide +kernel
theorem dX8_behind_54 : decode cX8_behind 54 = .ok (.iadd, 1) := by decide +kernel
theorem dX8_behind_55 : decode cX8_behind 55 = .ok (.iaload, 1) := by decide +kernel
theorem dX8_behind_56 : decode cX8_behind 56 = .ok (.goto 11, 3) := by decide +kernel
theorem dX8_behind_59 : decode cX8_behind 59 = .ok (.aload_n 0, 1) := by decide +kernel
theorem dX8_behind_60 : decode cX8_behind 60 = .ok (.iload_n 2, 1) := by decide +kernel
theorem dX8_behind_61 : decode cX8_behind 61 = .ok (.iconst 3, 1) := by decide +kernel
theorem dX8_behind_62 : decode cX8_behind 62 = .ok (.isub, 1) := by decide +kernel
theorem dX8_behind_63 : decode cX8_behind 63 = .ok (.iconst 2, 1) := by decide +kernel
theorem dX8_behind_64 : decode cX8_behind 64 = .ok (.invokevirtual 75, 3) := by decide +kernel
theorem dX8_behind_67 : decode cX8_behind 67 = .ok (.istore_n 3, 1) := by decide +kernel
theorem dX8_behind_68 : decode cX8_behind 68 = .ok (.aload_n 0, 1) := by decide +kernel
theorem dX8_behind_69 : decode cX8_behind 69 = .ok (.invokevirtual 198, 3) := by decide +kernel
theorem dX8_behind_72 : decode cX8_behind 72 = .ok (.iload_n 3, 1) := by decide +kernel
theorem dX8_behind_73 : decode cX8_behind 73 = .ok (.ireturn, 1) := by decide +kernel
theorem dX8_vanishes_0 : decode cX8_vanishes 0 = .ok (.aload_n 0, 1) := by decide +kernel
theorem dX8_vanishes_1 : decode cX8_vanishes 1 = .ok (.iload_n 1, 1) := by decide +kernel
theorem dX8_vanishes_2 : decode cX8_vanishes 2 = .ok (.invokevirtual 143, 3) := by decide +kernel
theorem dX8_vanishes_5 : decode cX8_vanishes 5 = .ok (.ifCond .ne 6, 3) := by decide +kernel
theorem dX8_vanishes_8 : decode cX8_vanishes 8 = .ok (.ldc 108, 2) := by decide +kernel
theorem dX8_vanishes_10 : decode cX8_vanishes 10 = .ok (.ireturn, 1) := by decide +kernel
theorem dX8_vanishes_11 : decode cX8_vanishes 11 = .ok (.aload_n 0, 1) := by decide +kernel
theorem dX8_vanishes_12 : decode cX8_vanishes 12 = .ok (.invokevirtual 195, 3) := by decide +kernel
theorem dX8_vanishes_15 : decode cX8_vanishes 15 = .ok (.iconst 0, 1) := by decide +kernel
theorem dX8_vanishes_16 : decode cX8_vanishes 16 = .ok (.istore_n 2, 1) := by decide +kernel
theorem dX8_vanishes_17 : decode cX8_vanishes 17 = .ok (.iload_n 2, 1) := by decide +kernel
theorem dX8_vanishes_18 : decode cX8_vanishes 18 = .ok (.sipush 200, 3) := by decide +kernel
theorem dX8_vanishes_21 : decode cX8_vanishes 21 = .ok (.if_icmp .gt 22, 3) := by decide +kernel
theorem dX8_vanishes_24 : decode cX8_vanishes 24 = .ok (.aload_n 0, 1) := by decide +kernel
theorem dX8_vanishes_25 : decode cX8_vanishes 25 = .ok (.iload_n 1, 1) := by decide +kernel
theorem dX8_vanishes_26 : decode cX8_vanishes 26 = .ok (.iconst 2, 1) := by decide +kernel
theorem dX8_vanishes_27 : decode cX8_vanishes 27 = .ok (.invokevirtual 75, 3) := by decide +kernel
theorem dX8_vanishes_30 : decode cX8_vanishes 30 = .ok (.ifCond .le 13, 3) := by decide +kernel
theorem dX8_vanishes_33 : decode cX8_vanishes 33 = .ok (.aload_n 0, 1) := by decide +kernel
theorem dX8_vanishes_34 : decode cX8_vanishes 34 = .ok (.invokevirtual 183, 3) := by decide +kernel
theorem dX8_vanishes_37 : decode cX8_vanishes 37 = .ok (.iinc 2 1, 3) := by decide +kernel
theorem dX8_vanishes_40 : decode cX8_vanishes 40 = .ok (.goto (-23), 3) := by decide +kernel
theorem dX8_vanishes_43 : decode cX8_vanishes 43 = .ok (.aload_n 0, 1) := by decide +kernel
theorem dX8_vanishes_44 : decode cX8_vanishes 44 = .ok (.invokevirtual 198, 3) := by decide +kernel
theorem dX8_vanishes_47 : decode cX8_vanishes 47 = .ok (.iload_n 2, 1) := by decide +kernel
theorem dX8_vanishes_48 : decode cX8_vanishes 48 = .ok (.sipush 200, 3) := by decide +kernel
theorem dX8_vanishes_51 : decode cX8_vanishes 51 = .ok (.if_icmp .gt 7, 3) := by decide +kernel
theorem dX8_vanishes_54 : decode cX8_vanishes 54 = .ok (.iload_n 2, 1) := by decide +kernel
theorem dX8_vanishes_55 : decode cX8_vanishes 55 = .ok (.goto 5, 3) := by decide +kernel
theorem dX8_vanishes_58 : decode cX8_vanishes 58 = .ok (.ldc 67, 2) := by decide +kernel
theorem dX8_vanishes_60 : decode cX8_vanishes 60 = .ok (.ireturn, 1) := by decide +kernel
theorem dX8_bumps_0 : decode cX8_bumps 0 = .ok (.aload_n 0, 1) := by decide +kernel
theorem dX8_bumps_1 : decode cX8_bumps 1 = .ok (.iload_n 1, 1) := by decide +kernel
theorem dX8_bumps_2 : decode cX8_bumps 2 = .ok (.invokevirtual 143, 3) := by decide +kernel
theorem dX8_bumps_5 : decode cX8_bumps 5 = .ok (.ifCond .ne 6, 3) := by decide +kernel
theorem dX8_bumps_8 : decode cX8_bumps 8 = .ok (.ldc 108, 2) := by decide +kernel
theorem dX8_bumps_10 : decode cX8_bumps 10 = .ok (.ireturn, 1) := by decide +kernel
theorem dX8_bumps_11 : decode cX8_bumps 11 = .ok (.aload_n 0, 1) := by decide +kernel
theorem dX8_bumps_12 : decode cX8_bumps 12 = .ok (.invokevirtual 195, 3) := by decide +kernel
theorem dX8_bumps_15 : decode cX8_bumps 15 = .ok (.iconst 0, 1) := by decide +kernel
theorem dX8_bumps_16 : decode cX8_bumps 16 = .ok (.istore_n 2, 1) := by decide +kernel
theorem dX8_bumps_17 : decode cX8_bumps 17 = .ok (.iload_n 2, 1) := by decide +kernel
theorem dX8_bumps_18 : decode cX8_bumps 18 = .ok (.sipush 200, 3) := by decide +kernel
theorem dX8_bumps_21 : decode cX8_bumps 21 = .ok (.if_icmp .gt 29, 3) := by decide +kernel
theorem dX8_bumps_24 : decode cX8_bumps 24 = .ok (.aload_n 0, 1) := by decide +kernel
theorem dX8_bumps_25 : decode cX8_bumps 25 = .ok (.iload_n 1, 1) := by decide +kernel
theorem dX8_bumps_26 : decode cX8_bumps 26 = .ok (.iconst 2, 1) := by decide +kernel
theorem dX8_bumps_27 : decode cX8_bumps 27 = .ok (.invokevirtual 75, 3) := by decide +kernel
theorem dX8_bumps_30 : decode cX8_bumps 30 = .ok (.aload_n 0, 1) := by decide +kernel
theorem dX8_bumps_31 : decode cX8_bumps 31 = .ok (.getfield 7, 3) := by decide +kernel
theorem dX8_bumps_34 : decode cX8_bumps 34 = .ok (.bipush 6, 2) := by decide +kernel
theorem dX8_bumps_36 : decode cX8_bumps 36 = .ok (.iaload, 1) := by decide +kernel
theorem dX8_bumps_37 : decode cX8_bumps 37 = .ok (.if_icmp .gt 13, 3) := by decide +kernel
theorem dX8_bumps_40 : decode cX8_bumps 40 = .ok (.aload_n 0, 1) := by decide +kernel
theorem dX8_bumps_41 : decode cX8_bumps 41 = .ok (.invokevirtual 183, 3) := by decide +kernel
theorem dX8_bumps_44 : decode cX8_bumps 44 = .ok (.iinc 2 1, 3) := by decide +kernel
theorem dX8_bumps_47 : decode cX8_bumps 47 = .ok (.goto (-30), 3) := by decide +kernel
theorem dX8_bumps_50 : decode cX8_bumps 50 = .ok (.aload_n 0, 1) := by decide +kernel
theorem dX8_bumps_51 : decode cX8_bumps 51 = .ok (.invokevirtual 198, 3) := by decide +kernel
theorem dX8_bumps_54 : decode cX8_bumps 54 = .ok (.iload_n 2, 1) := by decide +kernel
theorem dX8_bumps_55 : decode cX8_bumps 55 = .ok (.sipush 200, 3) := by decide +kernel
theorem dX8_bumps_58 : decode cX8_bumps 58 = .ok (.if_icmp .gt 7, 3) := by decide +kernel
theorem dX8_bumps_61 : decode cX8_bumps 61 = .ok (.iload_n 2, 1) := by decide +kernel
theorem dX8_bumps_62 : decode cX8_bumps 62 = .ok (.goto 5, 3) := by decide +kernel
theorem dX8_bumps_65 : decode cX8_bumps 65 = .ok (.ldc 67, 2) := by decide +kernel
theorem dX8_bumps_67 : decode cX8_bumps 67 = .ok (.ireturn, 1) := by decide +kernel
theorem dX8_isAsked_0 : decode cX8_isAsked 0 = .ok (.iload_n 0, 1) := by decide +kernel
theorem dX8_isAsked_1 : decode cX8_isAsked 1 = .ok (.i2l, 1) := by decide +kernel
theorem dX8_isAsked_2 : decode cX8_isAsked 2 = .ok (.lconst 1, 1) := by decide +kernel
theorem dX8_isAsked_3 : decode cX8_isAsked 3 = .ok (.ldc2_w 201, 3) := by decide +kernel
theorem dX8_isAsked_6 : decode cX8_isAsked 6 = .ok (.invokestatic 68, 3) := by decide +kernel
theorem dX8_isAsked_9 : decode cX8_isAsked 9 = .ok (.ifCond .eq 17, 3) := by decide +kernel
theorem dX8_isAsked_12 : decode cX8_isAsked 12 = .ok (.iload_n 1, 1) := by decide +kernel
theorem dX8_isAsked_13 : decode cX8_isAsked 13 = .ok (.i2l, 1) := by decide +kernel
theorem dX8_isAsked_14 : decode cX8_isAsked 14 = .ok (.lconst 0, 1) := by decide +kernel
theorem dX8_isAsked_15 : decode cX8_isAsked 15 = .ok (.lconst 1, 1) := by decide +kernel
theorem dX8_isAsked_16 : decode cX8_isAsked 16 = .ok (.invokestatic 68, 3) := by decide +kernel
theorem dX8_isAsked_19 : decode cX8_isAsked 19 = .ok (.ifCond .eq 7, 3) := by decide +kernel
theorem dX8_isAsked_22 : decode cX8_isAsked 22 = .ok (.iconst 1, 1) := by decide +kernel
theorem dX8_isAsked_23 : decode cX8_isAsked 23 = .ok (.goto 4, 3) := by decide +kernel
theorem dX8_isAsked_26 : decode cX8_isAsked 26 = .ok (.iconst 0, 1) := by decide +kernel
theorem dX8_isAsked_27 : decode cX8_isAsked 27 = .ok (.ireturn, 1) := by decide +kernel
theorem dX8_tallest_0 : decode cX8_tallest 0 = .ok (.aload_n 0, 1) := by decide +kernel
theorem dX8_tallest_1 : decode cX8_tallest 1 = .ok (.invokevirtual 195, 3) := by decide +kernel
theorem dX8_tallest_4 : decode cX8_tallest 4 = .ok (.iconst (-1), 1) := by decide +kernel
theorem dX8_tallest_5 : decode cX8_tallest 5 = .ok (.istore 7, 2) := by decide +kernel
theorem dX8_tallest_7 : decode cX8_tallest 7 = .ok (.iconst (-1), 1) := by decide +kernel
theorem dX8_tallest_8 : decode cX8_tallest 8 = .ok (.istore 8, 2) := by decide +kernel
theorem dX8_tallest_10 : decode cX8_tallest 10 = .ok (.iconst 0, 1) := by decide +kernel
theorem dX8_tallest_11 : decode cX8_tallest 11 = .ok (.istore 9, 2) := by decide +kernel
theorem dX8_tallest_13 : decode cX8_tallest 13 = .ok (.iload 9, 2) := by decide +kernel
theorem dX8_tallest_15 : decode cX8_tallest 15 = .ok (.iload 4, 2) := by decide +kernel
theorem dX8_tallest_17 : decode cX8_tallest 17 = .ok (.if_icmp .gt 70, 3) := by decide +kernel
theorem dX8_tallest_20 : decode cX8_tallest 20 = .ok (.aload_n 0, 1) := by decide +kernel
theorem dX8_tallest_21 : decode cX8_tallest 21 = .ok (.iload_n 1, 1) := by decide +kernel
theorem dX8_tallest_22 : decode cX8_tallest 22 = .ok (.iload_n 2, 1) := by decide +kernel
theorem dX8_tallest_23 : decode cX8_tallest 23 = .ok (.iload 9, 2) := by decide +kernel
theorem dX8_tallest_25 : decode cX8_tallest 25 = .ok (.invokevirtual 87, 3) := by decide +kernel
theorem dX8_tallest_28 : decode cX8_tallest 28 = .ok (.aload_n 0, 1) := by decide +kernel
theorem dX8_tallest_29 : decode cX8_tallest 29 = .ok (.iload 5, 2) := by decide +kernel
theorem dX8_tallest_31 : decode cX8_tallest 31 = .ok (.invokevirtual 186, 3) := by decide +kernel
theorem dX8_tallest_34 : decode cX8_tallest 34 = .ok (.aload_n 0, 1) := by decide +kernel
theorem dX8_tallest_35 : decode cX8_tallest 35 = .ok (.iload_n 1, 1) := by decide +kernel
theorem dX8_tallest_36 : decode cX8_tallest 36 = .ok (.iconst 2, 1) := by decide +kernel
theorem dX8_tallest_37 : decode cX8_tallest 37 = .ok (.invokevirtual 75, 3) := by decide +kernel
theorem dX8_tallest_40 : decode cX8_tallest 40 = .ok (.istore 10, 2) := by decide +kernel
theorem dX8_tallest_42 : decode cX8_tallest 42 = .ok (.aload_n 0, 1) := by decide +kernel
theorem dX8_tallest_43 : decode cX8_tallest 43 = .ok (.invokevirtual 198, 3) := by decide +kernel
theorem dX8_tallest_46 : decode cX8_tallest 46 = .ok (.iload 10, 2) := by decide +kernel
theorem dX8_tallest_48 : decode cX8_tallest 48 = .ok (.iload 8, 2) := by decide +kernel
theorem dX8_tallest_50 : decode cX8_tallest 50 = .ok (.if_icmp .le 8, 3) := by decide +kernel
theorem dX8_tallest_53 : decode cX8_tallest 53 = .ok (.iload 9, 2) := by decide +kernel
theorem dX8_tallest_55 : decode cX8_tallest 55 = .ok (.goto 5, 3) := by decide +kernel
theorem dX8_tallest_58 : decode cX8_tallest 58 = .ok (.iload 7, 2) := by decide +kernel
theorem dX8_tallest_60 : decode cX8_tallest 60 = .ok (.istore 7, 2) := by decide +kernel
theorem dX8_tallest_62 : decode cX8_tallest 62 = .ok (.iload 10, 2) := by decide +kernel
theorem dX8_tallest_64 : decode cX8_tallest 64 = .ok (.iload 8, 2) := by decide +kernel
theorem dX8_tallest_66 : decode cX8_tallest 66 = .ok (.if_icmp .le 8, 3) := by decide +kernel
theorem dX8_tallest_69 : decode cX8_tallest 69 = .ok (.iload 10, 2) := by decide +kernel
theorem dX8_tallest_71 : decode cX8_tallest 71 = .ok (.goto 5, 3) := by decide +kernel
theorem dX8_tallest_74 : decode cX8_tallest 74 = .ok (.iload 8, 2) := by decide +kernel
theorem dX8_tallest_76 : decode cX8_tallest 76 = .ok (.istore 8, 2) := by decide +kernel
theorem dX8_tallest_78 : decode cX8_tallest 78 = .ok (.iload 9, 2) := by decide +kernel
theorem dX8_tallest_80 : decode cX8_tallest 80 = .ok (.iload_n 3, 1) := by decide +kernel
theorem dX8_tallest_81 : decode cX8_tallest 81 = .ok (.iadd, 1) := by decide +kernel
theorem dX8_tallest_82 : decode cX8_tallest 82 = .ok (.istore 9, 2) := by decide +kernel
theorem dX8_tallest_84 : decode cX8_tallest 84 = .ok (.goto (-71), 3) := by decide +kernel
theorem dX8_tallest_87 : decode cX8_tallest 87 = .ok (.iload 6, 2) := by decide +kernel
theorem dX8_tallest_89 : decode cX8_tallest 89 = .ok (.ifCond .ne 8, 3) := by decide +kernel
theorem dX8_tallest_92 : decode cX8_tallest 92 = .ok (.iload 7, 2) := by decide +kernel
theorem dX8_tallest_94 : decode cX8_tallest 94 = .ok (.goto 5, 3) := by decide +kernel
theorem dX8_tallest_97 : decode cX8_tallest 97 = .ok (.iload 8, 2) := by decide +kernel
theorem dX8_tallest_99 : decode cX8_tallest 99 = .ok (.ireturn, 1) := by decide +kernel
theorem dX8_loud_0 : decode cX8_loud 0 = .ok (.aload_n 0, 1) := by decide +kernel
theorem dX8_loud_1 : decode cX8_loud 1 = .ok (.iload_n 1, 1) := by decide +kernel
theorem dX8_loud_2 : decode cX8_loud 2 = .ok (.invokevirtual 143, 3) := by decide +kernel
theorem dX8_loud_5 : decode cX8_loud 5 = .ok (.ifCond .eq 25, 3) := by decide +kernel
theorem dX8_loud_8 : decode cX8_loud 8 = .ok (.iload_n 2, 1) := by decide +kernel
theorem dX8_loud_9 : decode cX8_loud 9 = .ok (.iload_n 3, 1) := by decide +kernel
theorem dX8_loud_10 : decode cX8_loud 10 = .ok (.invokestatic 203, 3) := by decide +kernel
theorem dX8_loud_13 : decode cX8_loud 13 = .ok (.ifCond .eq 17, 3) := by decide +kernel
theorem dX8_loud_16 : decode cX8_loud 16 = .ok (.aload_n 0, 1) := by decide +kernel
theorem dX8_loud_17 : decode cX8_loud 17 = .ok (.iload_n 1, 1) := by decide +kernel
theorem dX8_loud_18 : decode cX8_loud 18 = .ok (.iconst 3, 1) := by decide +kernel
theorem dX8_loud_19 : decode cX8_loud 19 = .ok (.iconst 5, 1) := by decide +kernel
theorem dX8_loud_20 : decode cX8_loud 20 = .ok (.bipush 50, 2) := by decide +kernel
theorem dX8_loud_22 : decode cX8_loud 22 = .ok (.iload_n 2, 1) := by decide +kernel
theorem dX8_loud_23 : decode cX8_loud 23 = .ok (.iload_n 3, 1) := by decide +kernel
theorem dX8_loud_24 : decode cX8_loud 24 = .ok (.invokevirtual 206, 3) := by decide +kernel
theorem dX8_loud_27 : decode cX8_loud 27 = .ok (.goto 5, 3) := by decide +kernel
theorem dX8_loud_30 : decode cX8_loud 30 = .ok (.ldc 108, 2) := by decide +kernel
theorem dX8_loud_32 : decode cX8_loud 32 = .ok (.ireturn, 1) := by decide +kernel
theorem dX8_lovedMost_0 : decode cX8_lovedMost 0 = .ok (.aload_n 0, 1) := by decide +kernel
theorem dX8_lovedMost_1 : decode cX8_lovedMost 1 = .ok (.invokevirtual 195, 3) := by decide +kernel
theorem dX8_lovedMost_4 : decode cX8_lovedMost 4 = .ok (.iconst (-1), 1) := by decide +kernel
theorem dX8_lovedMost_5 : decode cX8_lovedMost 5 = .ok (.istore 4, 2) := by decide +kernel
theorem dX8_lovedMost_7 : decode cX8_lovedMost 7 = .ok (.iconst (-1), 1) := by decide +kernel
theorem dX8_lovedMost_8 : decode cX8_lovedMost 8 = .ok (.istore 5, 2) := by decide +kernel
theorem dX8_lovedMost_10 : decode cX8_lovedMost 10 = .ok (.iconst 0, 1) := by decide +kernel
theorem dX8_lovedMost_11 : decode cX8_lovedMost 11 = .ok (.istore 6, 2) := by decide +kernel
theorem dX8_lovedMost_13 : decode cX8_lovedMost 13 = .ok (.iload 6, 2) := by decide +kernel
theorem dX8_lovedMost_15 : decode cX8_lovedMost 15 = .ok (.aload_n 0, 1) := by decide +kernel
theorem dX8_lovedMost_16 : decode cX8_lovedMost 16 = .ok (.getfield 7, 3) := by decide +kernel
theorem dX8_lovedMost_19 : decode cX8_lovedMost 19 = .ok (.iconst 0, 1) := by decide +kernel
theorem dX8_lovedMost_20 : decode cX8_lovedMost 20 = .ok (.iaload, 1) := by decide +kernel
theorem dX8_lovedMost_21 : decode cX8_lovedMost 21 = .ok (.if_icmp .ge 72, 3) := by decide +kernel
theorem dX8_lovedMost_24 : decode cX8_lovedMost 24 = .ok (.iload 6, 2) := by decide +kernel
theorem dX8_lovedMost_26 : decode cX8_lovedMost 26 = .ok (.iload_n 1, 1) := by decide +kernel
theorem dX8_lovedMost_27 : decode cX8_lovedMost 27 = .ok (.if_icmp .eq 60, 3) := by decide +kernel
theorem dX8_lovedMost_30 : decode cX8_lovedMost 30 = .ok (.aload_n 0, 1) := by decide +kernel
theorem dX8_lovedMost_31 : decode cX8_lovedMost 31 = .ok (.iload 6, 2) := by decide +kernel
theorem dX8_lovedMost_33 : decode cX8_lovedMost 33 = .ok (.iconst 4, 1) := by decide +kernel
theorem dX8_lovedMost_34 : decode cX8_lovedMost 34 = .ok (.iload_n 1, 1) := by decide +kernel
theorem dX8_lovedMost_35 : decode cX8_lovedMost 35 = .ok (.invokevirtual 87, 3) := by decide +kernel
theorem dX8_lovedMost_38 : decode cX8_lovedMost 38 = .ok (.aload_n 0, 1) := by decide +kernel
theorem dX8_lovedMost_39 : decode cX8_lovedMost 39 = .ok (.iload_n 2, 1) := by decide +kernel
theorem dX8_lovedMost_40 : decode cX8_lovedMost 40 = .ok (.invokevirtual 186, 3) := by decide +kernel
theorem dX8_lovedMost_43 : decode cX8_lovedMost 43 = .ok (.aload_n 0, 1) := by decide +kernel
theorem dX8_lovedMost_44 : decode cX8_lovedMost 44 = .ok (.iload_n 1, 1) := by decide +kernel
theorem dX8_lovedMost_45 : decode cX8_lovedMost 45 = .ok (.iconst 2, 1) := by decide +kernel
theorem dX8_lovedMost_46 : decode cX8_lovedMost 46 = .ok (.invokevirtual 75, 3) := by decide +kernel
theorem dX8_lovedMost_49 : decode cX8_lovedMost 49 = .ok (.istore 7, 2) := by decide +kernel
theorem dX8_lovedMost_51 : decode cX8_lovedMost 51 = .ok (.aload_n 0, 1) := by decide +kernel
theorem dX8_lovedMost_52 : decode cX8_lovedMost 52 = .ok (.invokevirtual 198, 3) := by decide +kernel
theorem dX8_lovedMost_55 : decode cX8_lovedMost 55 = .ok (.iload 7, 2) := by decide +kernel
theorem dX8_lovedMost_57 : decode cX8_lovedMost 57 = .ok (.iload 5, 2) := by decide +kernel
theorem dX8_lovedMost_59 : decode cX8_lovedMost 59 = .ok (.if_icmp .le 8, 3) := by decide +kernel
theorem dX8_lovedMost_62 : decode cX8_lovedMost 62 = .ok (.iload 6, 2) := by decide +kernel
theorem dX8_lovedMost_64 : decode cX8_lovedMost 64 = .ok (.goto 5, 3) := by decide +kernel
theorem dX8_lovedMost_67 : decode cX8_lovedMost 67 = .ok (.iload 4, 2) := by decide +kernel
theorem dX8_lovedMost_69 : decode cX8_lovedMost 69 = .ok (.istore 4, 2) := by decide +kernel
theorem dX8_lovedMost_71 : decode cX8_lovedMost 71 = .ok (.iload 7, 2) := by decide +kernel
theorem dX8_lovedMost_73 : decode cX8_lovedMost 73 = .ok (.iload 5, 2) := by decide +kernel
theorem dX8_lovedMost_75 : decode cX8_lovedMost 75 = .ok (.if_icmp .le 8, 3) := by decide +kernel
theorem dX8_lovedMost_78 : decode cX8_lovedMost 78 = .ok (.iload 7, 2) := by decide +kernel
theorem dX8_lovedMost_80 : decode cX8_lovedMost 80 = .ok (.goto 5, 3) := by decide +kernel
theorem dX8_lovedMost_83 : decode cX8_lovedMost 83 = .ok (.iload 5, 2) := by decide +kernel
theorem dX8_lovedMost_85 : decode cX8_lovedMost 85 = .ok (.istore 5, 2) := by decide +kernel
theorem dX8_lovedMost_87 : decode cX8_lovedMost 87 = .ok (.iinc 6 1, 3) := by decide +kernel
theorem dX8_lovedMost_90 : decode cX8_lovedMost 90 = .ok (.goto (-77), 3) := by decide +kernel
theorem dX8_lovedMost_93 : decode cX8_lovedMost 93 = .ok (.iload 4, 2) := by decide +kernel
theorem dX8_lovedMost_95 : decode cX8_lovedMost 95 = .ok (.ifCond .ge 8, 3) := by decide +kernel
theorem dX8_lovedMost_98 : decode cX8_lovedMost 98 = .ok (.ldc 67, 2) := by decide +kernel
theorem dX8_lovedMost_100 : decode cX8_lovedMost 100 = .ok (.goto 14, 3) := by decide +kernel
theorem dX8_lovedMost_103 : decode cX8_lovedMost 103 = .ok (.iload_n 3, 1) := by decide +kernel
theorem dX8_lovedMost_104 : decode cX8_lovedMost 104 = .ok (.ifCond .ne 8, 3) := by decide +kernel
theorem dX8_lovedMost_107 : decode cX8_lovedMost 107 = .ok (.iload 4, 2) := by decide +kernel
theorem dX8_lovedMost_109 : decode cX8_lovedMost 109 = .ok (.goto 5, 3) := by decide +kernel
theorem dX8_lovedMost_112 : decode cX8_lovedMost 112 = .ok (.iload 5, 2) := by decide +kernel
theorem dX8_lovedMost_114 : decode cX8_lovedMost 114 = .ok (.ireturn, 1) := by decide +kernel
theorem dX8_loved_0 : decode cX8_loved 0 = .ok (.aload_n 0, 1) := by decide +kernel
theorem dX8_loved_1 : decode cX8_loved 1 = .ok (.iload_n 1, 1) := by decide +kernel
theorem dX8_loved_2 : decode cX8_loved 2 = .ok (.invokevirtual 143, 3) := by decide +kernel
theorem dX8_loved_5 : decode cX8_loved 5 = .ok (.ifCond .eq 21, 3) := by decide +kernel
theorem dX8_loved_8 : decode cX8_loved 8 = .ok (.iload_n 2, 1) := by decide +kernel
theorem dX8_loved_9 : decode cX8_loved 9 = .ok (.iload_n 3, 1) := by decide +kernel
theorem dX8_loved_10 : decode cX8_loved 10 = .ok (.invokestatic 203, 3) := by decide +kernel
theorem dX8_loved_13 : decode cX8_loved 13 = .ok (.ifCond .eq 13, 3) := by decide +kernel
theorem dX8_loved_16 : decode cX8_loved 16 = .ok (.aload_n 0, 1) := by decide +kernel
theorem dX8_loved_17 : decode cX8_loved 17 = .ok (.iload_n 1, 1) := by decide +kernel
theorem dX8_loved_18 : decode cX8_loved 18 = .ok (.iload_n 2, 1) := by decide +kernel
theorem dX8_loved_19 : decode cX8_loved 19 = .ok (.iload_n 3, 1) := by decide +kernel
theorem dX8_loved_20 : decode cX8_loved 20 = .ok (.invokevirtual 210, 3) := by decide +kernel
theorem dX8_loved_23 : decode cX8_loved 23 = .ok (.goto 5, 3) := by decide +kernel
theorem dX8_loved_26 : decode cX8_loved 26 = .ok (.ldc 108, 2) := by decide +kernel
theorem dX8_loved_28 : decode cX8_loved 28 = .ok (.ireturn, 1) := by decide +kernel
theorem dX8_becomes_0 : decode cX8_becomes 0 = .ok (.aload_n 0, 1) := by decide +kernel
theorem dX8_becomes_1 : decode cX8_becomes 1 = .ok (.iload_n 1, 1) := by decide +kernel
theorem dX8_becomes_2 : decode cX8_becomes 2 = .ok (.invokevirtual 143, 3) := by decide +kernel
theorem dX8_becomes_5 : decode cX8_becomes 5 = .ok (.ifCond .eq 24, 3) := by decide +kernel
theorem dX8_becomes_8 : decode cX8_becomes 8 = .ok (.iload_n 2, 1) := by decide +kernel
theorem dX8_becomes_9 : decode cX8_becomes 9 = .ok (.iload_n 3, 1) := by decide +kernel
theorem dX8_becomes_10 : decode cX8_becomes 10 = .ok (.invokestatic 203, 3) := by decide +kernel
theorem dX8_becomes_13 : decode cX8_becomes 13 = .ok (.ifCond .eq 16, 3) := by decide +kernel
theorem dX8_becomes_16 : decode cX8_becomes 16 = .ok (.aload_n 0, 1) := by decide +kernel
theorem dX8_becomes_17 : decode cX8_becomes 17 = .ok (.iload_n 1, 1) := by decide +kernel
theorem dX8_becomes_18 : decode cX8_becomes 18 = .ok (.iconst 0, 1) := by decide +kernel
theorem dX8_becomes_19 : decode cX8_becomes 19 = .ok (.iconst 1, 1) := by decide +kernel
theorem dX8_becomes_20 : decode cX8_becomes 20 = .ok (.iconst 5, 1) := by decide +kernel
theorem dX8_becomes_21 : decode cX8_becomes 21 = .ok (.iload_n 2, 1) := by decide +kernel
theorem dX8_becomes_22 : decode cX8_becomes 22 = .ok (.iload_n 3, 1) := by decide +kernel
theorem dX8_becomes_23 : decode cX8_becomes 23 = .ok (.invokevirtual 206, 3) := by decide +kernel
theorem dX8_becomes_26 : decode cX8_becomes 26 = .ok (.goto 5, 3) := by decide +kernel
theorem dX8_becomes_29 : decode cX8_becomes 29 = .ok (.ldc 108, 2) := by decide +kernel
theorem dX8_becomes_31 : decode cX8_becomes 31 = .ok (.ireturn, 1) := by decide +kernel
theorem dX8_fee_0 : decode cX8_fee 0 = .ok (.aload_n 0, 1) := by decide +kernel
theorem dX8_fee_1 : decode cX8_fee 1 = .ok (.iconst 1, 1) := by decide +kernel
theorem dX8_fee_2 : decode cX8_fee 2 = .ok (.invokevirtual 121, 3) := by decide +kernel
theorem dX8_fee_5 : decode cX8_fee 5 = .ok (.istore_n 1, 1) := by decide +kernel
theorem dX8_fee_6 : decode cX8_fee 6 = .ok (.iload_n 1, 1) := by decide +kernel
theorem dX8_fee_7 : decode cX8_fee 7 = .ok (.ifCond .ge 10, 3) := by decide +kernel
theorem dX8_fee_10 : decode cX8_fee 10 = .ok (.aload_n 0, 1) := by decide +kernel
theorem dX8_fee_11 : decode cX8_fee 11 = .ok (.getfield 7, 3) := by decide +kernel
theorem dX8_fee_14 : decode cX8_fee 14 = .ok (.iconst 3, 1) := by decide +kernel
theorem dX8_fee_15 : decode cX8_fee 15 = .ok (.iaload, 1) := by decide +kernel
theorem dX8_fee_16 : decode cX8_fee 16 = .ok (.ireturn, 1) := by decide +kernel
theorem dX8_fee_17 : decode cX8_fee 17 = .ok (.aload_n 0, 1) := by decide +kernel
theorem dX8_fee_18 : decode cX8_fee 18 = .ok (.getfield 52, 3) := by decide +kernel
theorem dX8_fee_21 : decode cX8_fee 21 = .ok (.bipush 103, 2) := by decide +kernel
theorem dX8_fee_23 : decode cX8_fee 23 = .ok (.aload_n 0, 1) := by decide +kernel
theorem dX8_fee_24 : decode cX8_fee 24 = .ok (.getfield 7, 3) := by decide +kernel
theorem dX8_fee_27 : decode cX8_fee 27 = .ok (.iconst 3, 1) := by decide +kernel
theorem dX8_fee_28 : decode cX8_fee 28 = .ok (.iaload, 1) := by decide +kernel
theorem dX8_fee_29 : decode cX8_fee 29 = .ok (.iastore, 1) := by decide +kernel
theorem dX8_fee_30 : decode cX8_fee 30 = .ok (.aload_n 0, 1) := by decide +kernel
theorem dX8_fee_31 : decode cX8_fee 31 = .ok (.getfield 52, 3) := by decide +kernel
theorem dX8_fee_34 : decode cX8_fee 34 = .ok (.bipush 118, 2) := by decide +kernel
theorem dX8_fee_36 : decode cX8_fee 36 = .ok (.aload_n 0, 1) := by decide +kernel
theorem dX8_fee_37 : decode cX8_fee 37 = .ok (.getfield 7, 3) := by decide +kernel
theorem dX8_fee_40 : decode cX8_fee 40 = .ok (.iconst 4, 1) := by decide +kernel
theorem dX8_fee_41 : decode cX8_fee 41 = .ok (.iaload, 1) := by decide +kernel
theorem dX8_fee_42 : decode cX8_fee 42 = .ok (.iastore, 1) := by decide +kernel
theorem dX8_fee_43 : decode cX8_fee 43 = .ok (.aload_n 0, 1) := by decide +kernel
theorem dX8_fee_44 : decode cX8_fee 44 = .ok (.iload_n 1, 1) := by decide +kernel
theorem dX8_fee_45 : decode cX8_fee 45 = .ok (.invokevirtual 124, 3) := by decide +kernel
theorem dX8_fee_48 : decode cX8_fee 48 = .ok (.ireturn, 1) := by decide +kernel
theorem dX8_fine_0 : decode cX8_fine 0 = .ok (.aload_n 0, 1) := by decide +kernel
theorem dX8_fine_1 : decode cX8_fine 1 = .ok (.iload_n 1, 1) := by decide +kernel
theorem dX8_fine_2 : decode cX8_fine 2 = .ok (.invokevirtual 143, 3) := by decide +kernel
theorem dX8_fine_5 : decode cX8_fine 5 = .ok (.ifCond .ne 6, 3) := by decide +kernel
theorem dX8_fine_8 : decode cX8_fine 8 = .ok (.ldc 108, 2) := by decide +kernel
theorem dX8_fine_10 : decode cX8_fine 10 = .ok (.ireturn, 1) := by decide +kernel
theorem dX8_fine_11 : decode cX8_fine 11 = .ok (.aload_n 0, 1) := by decide +kernel
theorem dX8_fine_12 : decode cX8_fine 12 = .ok (.iconst 2, 1) := by decide +kernel
theorem dX8_fine_13 : decode cX8_fine 13 = .ok (.invokevirtual 121, 3) := by decide +kernel
theorem dX8_fine_16 : decode cX8_fine 16 = .ok (.istore_n 2, 1) := by decide +kernel
theorem dX8_fine_17 : decode cX8_fine 17 = .ok (.iload_n 2, 1) := by decide +kernel
theorem dX8_fine_18 : decode cX8_fine 18 = .ok (.ifCond .ge 10, 3) := by decide +kernel
theorem dX8_fine_21 : decode cX8_fine 21 = .ok (.aload_n 0, 1) := by decide +kernel
theorem dX8_fine_22 : decode cX8_fine 22 = .ok (.iload_n 1, 1) := by decide +kernel
theorem dX8_fine_23 : decode cX8_fine 23 = .ok (.iconst 3, 1) := by decide +kernel
theorem dX8_fine_24 : decode cX8_fine 24 = .ok (.invokevirtual 75, 3) := by decide +kernel
theorem dX8_fine_27 : decode cX8_fine 27 = .ok (.ireturn, 1) := by decide +kernel
theorem dX8_fine_28 : decode cX8_fine 28 = .ok (.aload_n 0, 1) := by decide +kernel
theorem dX8_fine_29 : decode cX8_fine 29 = .ok (.getfield 52, 3) := by decide +kernel
theorem dX8_fine_32 : decode cX8_fine 32 = .ok (.bipush 115, 2) := by decide +kernel
theorem dX8_fine_34 : decode cX8_fine 34 = .ok (.aload_n 0, 1) := by decide +kernel
theorem dX8_fine_35 : decode cX8_fine 35 = .ok (.iload_n 1, 1) := by decide +kernel
theorem dX8_fine_36 : decode cX8_fine 36 = .ok (.iconst 2, 1) := by decide +kernel
theorem dX8_fine_37 : decode cX8_fine 37 = .ok (.invokevirtual 75, 3) := by decide +kernel
theorem dX8_fine_40 : decode cX8_fine 40 = .ok (.iastore, 1) := by decide +kernel
theorem dX8_fine_41 : decode cX8_fine 41 = .ok (.aload_n 0, 1) := by decide +kernel
theorem dX8_fine_42 : decode cX8_fine 42 = .ok (.getfield 52, 3) := by decide +kernel
theorem dX8_fine_45 : decode cX8_fine 45 = .ok (.bipush 112, 2) := by decide +kernel
theorem dX8_fine_47 : decode cX8_fine 47 = .ok (.aload_n 0, 1) := by decide +kernel
theorem dX8_fine_48 : decode cX8_fine 48 = .ok (.iload_n 1, 1) := by decide +kernel
theorem dX8_fine_49 : decode cX8_fine 49 = .ok (.iconst 1, 1) := by decide +kernel
theorem dX8_fine_50 : decode cX8_fine 50 = .ok (.invokevirtual 75, 3) := by decide +kernel
theorem dX8_fine_53 : decode cX8_fine 53 = .ok (.iastore, 1) := by decide +kernel
theorem dX8_fine_54 : decode cX8_fine 54 = .ok (.aload_n 0, 1) := by decide +kernel
theorem dX8_fine_55 : decode cX8_fine 55 = .ok (.iload_n 2, 1) := by decide +kernel
theorem dX8_fine_56 : decode cX8_fine 56 = .ok (.invokevirtual 124, 3) := by decide +kernel
theorem dX8_fine_59 : decode cX8_fine 59 = .ok (.ireturn, 1) := by decide +kernel
theorem dX8_feed_0 : decode cX8_feed 0 = .ok (.aload_n 0, 1) := by decide +kernel
theorem dX8_feed_1 : decode cX8_feed 1 = .ok (.getfield 214, 3) := by decide +kernel
theorem dX8_feed_4 : decode cX8_feed 4 = .ok (.bipush 12, 2) := by decide +kernel
theorem dX8_feed_6 : decode cX8_feed 6 = .ok (.iadd, 1) := by decide +kernel
theorem dX8_feed_7 : decode cX8_feed 7 = .ok (.bipush 96, 2) := by decide +kernel
theorem dX8_feed_9 : decode cX8_feed 9 = .ok (.if_icmp .le 6, 3) := by decide +kernel
theorem dX8_feed_12 : decode cX8_feed 12 = .ok (.ldc 113, 2) := by decide +kernel
theorem dX8_feed_14 : decode cX8_feed 14 = .ok (.ireturn, 1) := by decide +kernel
theorem dX8_feed_15 : decode cX8_feed 15 = .ok (.iconst 0, 1) := by decide +kernel
theorem dX8_feed_16 : decode cX8_feed 16 = .ok (.istore 4, 2) := by decide +kernel
theorem dX8_feed_18 : decode cX8_feed 18 = .ok (.iload 4, 2) := by decide +kernel
theorem dX8_feed_20 : decode cX8_feed 20 = .ok (.bipush 12, 2) := by decide +kernel
theorem dX8_feed_22 : decode cX8_feed 22 = .ok (.if_icmp .ge 69, 3) := by decide +kernel
theorem dX8_feed_25 : decode cX8_feed 25 = .ok (.iload 4, 2) := by decide +kernel
theorem dX8_feed_27 : decode cX8_feed 27 = .ok (.iconst 4, 1) := by decide +kernel
theorem dX8_feed_28 : decode cX8_feed 28 = .ok (.if_icmp .ge 7, 3) := by decide +kernel
theorem dX8_feed_31 : decode cX8_feed 31 = .ok (.iload_n 1, 1) := by decide +kernel
theorem dX8_feed_32 : decode cX8_feed 32 = .ok (.goto 15, 3) := by decide +kernel
theorem dX8_feed_35 : decode cX8_feed 35 = .ok (.iload 4, 2) := by decide +kernel
theorem dX8_feed_37 : decode cX8_feed 37 = .ok (.bipush 8, 2) := by decide +kernel
theorem dX8_feed_39 : decode cX8_feed 39 = .ok (.if_icmp .ge 7, 3) := by decide +kernel
theorem dX8_feed_42 : decode cX8_feed 42 = .ok (.iload_n 2, 1) := by decide +kernel
theorem dX8_feed_43 : decode cX8_feed 43 = .ok (.goto 4, 3) := by decide +kernel
theorem dX8_feed_46 : decode cX8_feed 46 = .ok (.iload_n 3, 1) := by decide +kernel
theorem dX8_feed_47 : decode cX8_feed 47 = .ok (.istore 5, 2) := by decide +kernel
theorem dX8_feed_49 : decode cX8_feed 49 = .ok (.aload_n 0, 1) := by decide +kernel
theorem dX8_feed_50 : decode cX8_feed 50 = .ok (.getfield 49, 3) := by decide +kernel
theorem dX8_feed_53 : decode cX8_feed 53 = .ok (.aload_n 0, 1) := by decide +kernel
theorem dX8_feed_54 : decode cX8_feed 54 = .ok (.getfield 214, 3) := by decide +kernel
theorem dX8_feed_57 : decode cX8_feed 57 = .ok (.iload 5, 2) := by decide +kernel
theorem dX8_feed_59 : decode cX8_feed 59 = .ok (.bipush 24, 2) := by decide +kernel
theorem dX8_feed_61 : decode cX8_feed 61 = .ok (.bipush 8, 2) := by decide +kernel
theorem dX8_feed_63 : decode cX8_feed 63 = .ok (.iload 4, 2) := by decide +kernel
theorem dX8_feed_65 : decode cX8_feed 65 = .ok (.iconst 4, 1) := by decide +kernel
theorem dX8_feed_66 : decode cX8_feed 66 = .ok (.irem, 1) := by decide +kernel
theorem dX8_feed_67 : decode cX8_feed 67 = .ok (.imul, 1) := by decide +kernel
theorem dX8_feed_68 : decode cX8_feed 68 = .ok (.isub, 1) := by decide +kernel
theorem dX8_feed_69 : decode cX8_feed 69 = .ok (.ishr, 1) := by decide +kernel
theorem dX8_feed_70 : decode cX8_feed 70 = .ok (.sipush 255, 3) := by decide +kernel
theorem dX8_feed_73 : decode cX8_feed 73 = .ok (.iand, 1) := by decide +kernel
theorem dX8_feed_74 : decode cX8_feed 74 = .ok (.iastore, 1) := by decide +kernel
theorem dX8_feed_75 : decode cX8_feed 75 = .ok (.aload_n 0, 1) := by decide +kernel
theorem dX8_feed_76 : decode cX8_feed 76 = .ok (.dup, 1) := by decide +kernel
theorem dX8_feed_77 : decode cX8_feed 77 = .ok (.getfield 214, 3) := by decide +kernel
theorem dX8_feed_80 : decode cX8_feed 80 = .ok (.iconst 1, 1) := by decide +kernel
theorem dX8_feed_81 : decode cX8_feed 81 = .ok (.iadd, 1) := by decide +kernel
theorem dX8_feed_82 : decode cX8_feed 82 = .ok (.putfield 214, 3) := by decide +kernel
theorem dX8_feed_85 : decode cX8_feed 85 = .ok (.iinc 4 1, 3) := by decide +kernel
theorem dX8_feed_88 : decode cX8_feed 88 = .ok (.goto (-70), 3) := by decide +kernel
theorem dX8_feed_91 : decode cX8_feed 91 = .ok (.aload_n 0, 1) := by decide +kernel
theorem dX8_feed_92 : decode cX8_feed 92 = .ok (.getfield 214, 3) := by decide +kernel
theorem dX8_feed_95 : decode cX8_feed 95 = .ok (.ireturn, 1) := by decide +kernel
theorem dX8_trim_0 : decode cX8_trim 0 = .ok (.iload_n 1, 1) := by decide +kernel
theorem dX8_trim_1 : decode cX8_trim 1 = .ok (.i2l, 1) := by decide +kernel
theorem dX8_trim_2 : decode cX8_trim 2 = .ok (.lconst 0, 1) := by decide +kernel
theorem dX8_trim_3 : decode cX8_trim 3 = .ok (.aload_n 0, 1) := by decide +kernel
theorem dX8_trim_4 : decode cX8_trim 4 = .ok (.getfield 214, 3) := by decide +kernel
theorem dX8_trim_7 : decode cX8_trim 7 = .ok (.i2l, 1) := by decide +kernel
theorem dX8_trim_8 : decode cX8_trim 8 = .ok (.invokestatic 68, 3) := by decide +kernel
theorem dX8_trim_11 : decode cX8_trim 11 = .ok (.ifCond .ne 6, 3) := by decide +kernel
theorem dX8_trim_14 : decode cX8_trim 14 = .ok (.ldc 108, 2) := by decide +kernel
theorem dX8_trim_16 : decode cX8_trim 16 = .ok (.ireturn, 1) := by decide +kernel
theorem dX8_trim_17 : decode cX8_trim 17 = .ok (.aload_n 0, 1) := by decide +kernel
theorem dX8_trim_18 : decode cX8_trim 18 = .ok (.iload_n 1, 1) := by decide +kernel
theorem dX8_trim_19 : decode cX8_trim 19 = .ok (.putfield 214, 3) := by decide +kernel
theorem dX8_trim_22 : decode cX8_trim 22 = .ok (.iload_n 1, 1) := by decide +kernel
theorem dX8_trim_23 : decode cX8_trim 23 = .ok (.ireturn, 1) := by decide +kernel
theorem dX8_isLetter_0 : decode cX8_isLetter 0 = .ok (.iload_n 1, 1) := by decide +kernel
theorem dX8_isLetter_1 : decode cX8_isLetter 1 = .ok (.aload_n 0, 1) := by decide +kernel
theorem dX8_isLetter_2 : decode cX8_isLetter 2 = .ok (.getfield 214, 3) := by decide +kernel
theorem dX8_isLetter_5 : decode cX8_isLetter 5 = .ok (.if_icmp .ge 26, 3) := by decide +kernel
theorem dX8_isLetter_8 : decode cX8_isLetter 8 = .ok (.aload_n 0, 1) := by decide +kernel
theorem dX8_isLetter_9 : decode cX8_isLetter 9 = .ok (.getfield 49, 3) := by decide +kernel
theorem dX8_isLetter_12 : decode cX8_isLetter 12 = .ok (.iload_n 1, 1) := by decide +kernel
theorem dX8_isLetter_13 : decode cX8_isLetter 13 = .ok (.iaload, 1) := by decide +kernel
theorem dX8_isLetter_14 : decode cX8_isLetter 14 = .ok (.i2l, 1) := by decide +kernel
theorem dX8_isLetter_15 : decode cX8_isLetter 15 = .ok (.ldc2_w 218, 3) := by decide +kernel
theorem dX8_isLetter_18 : decode cX8_isLetter 18 = .ok (.ldc2_w 220, 3) := by decide +kernel
theorem dX8_isLetter_21 : decode cX8_isLetter 21 = .ok (.invokestatic 68, 3) := by decide +kernel
theorem dX8_isLetter_24 : decode cX8_isLetter 24 = .ok (.ifCond .eq 7, 3) := by decide +kernel
theorem dX8_isLetter_27 : decode cX8_isLetter 27 = .ok (.iconst 1, 1) := by decide +kernel
theorem dX8_isLetter_28 : decode cX8_isLetter 28 = .ok (.goto 4, 3) := by decide +kernel
theorem dX8_isLetter_31 : decode cX8_isLetter 31 = .ok (.iconst 0, 1) := by decide +kernel
theorem dX8_isLetter_32 : decode cX8_isLetter 32 = .ok (.ireturn, 1) := by decide +kernel
theorem dX8_isDigit_0 : decode cX8_isDigit 0 = .ok (.iload_n 1, 1) := by decide +kernel
theorem dX8_isDigit_1 : decode cX8_isDigit 1 = .ok (.aload_n 0, 1) := by decide +kernel
theorem dX8_isDigit_2 : decode cX8_isDigit 2 = .ok (.getfield 214, 3) := by decide +kernel
theorem dX8_isDigit_5 : decode cX8_isDigit 5 = .ok (.if_icmp .ge 26, 3) := by decide +kernel
theorem dX8_isDigit_8 : decode cX8_isDigit 8 = .ok (.aload_n 0, 1) := by decide +kernel
theorem dX8_isDigit_9 : decode cX8_isDigit 9 = .ok (.getfield 49, 3) := by decide +kernel
theorem dX8_isDigit_12 : decode cX8_isDigit 12 = .ok (.iload_n 1, 1) := by decide +kernel
theorem dX8_isDigit_13 : decode cX8_isDigit 13 = .ok (.iaload, 1) := by decide +kernel
theorem dX8_isDigit_14 : decode cX8_isDigit 14 = .ok (.i2l, 1) := by decide +kernel
theorem dX8_isDigit_15 : decode cX8_isDigit 15 = .ok (.ldc2_w 222, 3) := by decide +kernel
theorem dX8_isDigit_18 : decode cX8_isDigit 18 = .ok (.ldc2_w 224, 3) := by decide +kernel
theorem dX8_isDigit_21 : decode cX8_isDigit 21 = .ok (.invokestatic 68, 3) := by decide +kernel
theorem dX8_isDigit_24 : decode cX8_isDigit 24 = .ok (.ifCond .eq 7, 3) := by decide +kernel
theorem dX8_isDigit_27 : decode cX8_isDigit 27 = .ok (.iconst 1, 1) := by decide +kernel
theorem dX8_isDigit_28 : decode cX8_isDigit 28 = .ok (.goto 4, 3) := by decide +kernel
theorem dX8_isDigit_31 : decode cX8_isDigit 31 = .ok (.iconst 0, 1) := by decide +kernel
theorem dX8_isDigit_32 : decode cX8_isDigit 32 = .ok (.ireturn, 1) := by decide +kernel
theorem dX8_nextToken_0 : decode cX8_nextToken 0 = .ok (.aload_n 0, 1) := by decide +kernel
theorem dX8_nextToken_1 : decode cX8_nextToken 1 = .ok (.getfield 226, 3) := by decide +kernel
theorem dX8_nextToken_4 : decode cX8_nextToken 4 = .ok (.ifCond .le 23, 3) := by decide +kernel
theorem dX8_nextToken_7 : decode cX8_nextToken 7 = .ok (.aload_n 0, 1) := by decide +kernel
theorem dX8_nextToken_8 : decode cX8_nextToken 8 = .ok (.getfield 229, 3) := by decide +kernel
theorem dX8_nextToken_11 : decode cX8_nextToken 11 = .ok (.iconst 1, 1) := by decide +kernel
theorem dX8_nextToken_12 : decode cX8_nextToken 12 = .ok (.if_icmp .eq 11, 3) := by decide +kernel
theorem dX8_nextToken_15 : decode cX8_nextToken 15 = .ok (.aload_n 0, 1) := by decide +kernel
theorem dX8_nextToken_16 : decode cX8_nextToken 16 = .ok (.getfield 229, 3) := by decide +kernel
theorem dX8_nextToken_19 : decode cX8_nextToken 19 = .ok (.iconst 2, 1) := by decide +kernel
theorem dX8_nextToken_20 : decode cX8_nextToken 20 = .ok (.if_icmp .ne 7, 3) := by decide +kernel
theorem dX8_nextToken_23 : decode cX8_nextToken 23 = .ok (.iconst 1, 1) := by decide +kernel
theorem dX8_nextToken_24 : decode cX8_nextToken 24 = .ok (.goto 4, 3) := by decide +kernel
theorem dX8_nextToken_27 : decode cX8_nextToken 27 = .ok (.iconst 0, 1) := by decide +kernel
theorem dX8_nextToken_28 : decode cX8_nextToken 28 = .ok (.istore_n 1, 1) := by decide +kernel
theorem dX8_nextToken_29 : decode cX8_nextToken 29 = .ok (.aload_n 0, 1) := by decide +kernel
theorem dX8_nextToken_30 : decode cX8_nextToken 30 = .ok (.getfield 226, 3) := by decide +kernel
theorem dX8_nextToken_33 : decode cX8_nextToken 33 = .ok (.istore_n 2, 1) := by decide +kernel
theorem dX8_nextToken_34 : decode cX8_nextToken 34 = .ok (.aload_n 0, 1) := by decide +kernel
theorem dX8_nextToken_35 : decode cX8_nextToken 35 = .ok (.getfield 226, 3) := by decide +kernel
theorem dX8_nextToken_38 : decode cX8_nextToken 38 = .ok (.aload_n 0, 1) := by decide +kernel
theorem dX8_nextToken_39 : decode cX8_nextToken 39 = .ok (.getfield 214, 3) := by decide +kernel
theorem dX8_nextToken_42 : decode cX8_nextToken 42 = .ok (.if_icmp .ge 30, 3) := by decide +kernel
theorem dX8_nextToken_45 : decode cX8_nextToken 45 = .ok (.aload_n 0, 1) := by decide +kernel
theorem dX8_nextToken_46 : decode cX8_nextToken 46 = .ok (.getfield 49, 3) := by decide +kernel
theorem dX8_nextToken_49 : decode cX8_nextToken 49 = .ok (.aload_n 0, 1) := by decide +kernel
theorem dX8_nextToken_50 : decode cX8_nextToken 50 = .ok (.getfield 226, 3) := by decide +kernel
theorem dX8_nextToken_53 : decode cX8_nextToken 53 = .ok (.iaload, 1) := by decide +kernel
theorem dX8_nextToken_54 : decode cX8_nextToken 54 = .ok (.bipush 32, 2) := by decide +kernel
theorem dX8_nextToken_56 : decode cX8_nextToken 56 = .ok (.if_icmp .ne 16, 3) := by decide +kernel
theorem dX8_nextToken_59 : decode cX8_nextToken 59 = .ok (.aload_n 0, 1) := by decide +kernel
theorem dX8_nextToken_60 : decode cX8_nextToken 60 = .ok (.dup, 1) := by decide +kernel
theorem dX8_nextToken_61 : decode cX8_nextToken 61 = .ok (.getfield 226, 3) := by decide +kernel
theorem dX8_nextToken_64 : decode cX8_nextToken 64 = .ok (.iconst 1, 1) := by decide +kernel
theorem dX8_nextToken_65 : decode cX8_nextToken 65 = .ok (.iadd, 1) := by decide +kernel
theorem dX8_nextToken_66 : decode cX8_nextToken 66 = .ok (.putfield 226, 3) := by decide +kernel
theorem dX8_nextToken_69 : decode cX8_nextToken 69 = .ok (.goto (-35), 3) := by decide +kernel
theorem dX8_nextToken_72 : decode cX8_nextToken 72 = .ok (.iload_n 1, 1) := by decide +kernel
theorem dX8_nextToken_73 : decode cX8_nextToken 73 = .ok (.ifCond .eq 15, 3) := by decide +kernel
theorem dX8_nextToken_76 : decode cX8_nextToken 76 = .ok (.iload_n 2, 1) := by decide +kernel
theorem dX8_nextToken_77 : decode cX8_nextToken 77 = .ok (.aload_n 0, 1) := by decide +kernel
theorem dX8_nextToken_78 : decode cX8_nextToken 78 = .ok (.getfield 226, 3) := by decide +kernel
theorem dX8_nextToken_81 : decode cX8_nextToken 81 = .ok (.if_icmp .ne 7, 3) := by decide +kernel
theorem dX8_nextToken_84 : decode cX8_nextToken 84 = .ok (.iconst 1, 1) := by decide +kernel
theorem dX8_nextToken_85 : decode cX8_nextToken 85 = .ok (.goto 4, 3) := by decide +kernel
theorem dX8_nextToken_88 : decode cX8_nextToken 88 = .ok (.iconst 0, 1) := by decide +kernel
theorem dX8_nextToken_89 : decode cX8_nextToken 89 = .ok (.istore_n 1, 1) := by decide +kernel
theorem dX8_nextToken_90 : decode cX8_nextToken 90 = .ok (.aload_n 0, 1) := by decide +kernel
theorem dX8_nextToken_91 : decode cX8_nextToken 91 = .ok (.aload_n 0, 1) := by decide +kernel
theorem dX8_nextToken_92 : decode cX8_nextToken 92 = .ok (.getfield 226, 3) := by decide +kernel
theorem dX8_nextToken_95 : decode cX8_nextToken 95 = .ok (.putfield 232, 3) := by decide +kernel
theorem dX8_nextToken_98 : decode cX8_nextToken 98 = .ok (.aload_n 0, 1) := by decide +kernel
theorem dX8_nextToken_99 : decode cX8_nextToken 99 = .ok (.getfield 232, 3) := by decide +kernel
theorem dX8_nextToken_102 : decode cX8_nextToken 102 = .ok (.aload_n 0, 1) := by decide +kernel
theorem dX8_nextToken_103 : decode cX8_nextToken 103 = .ok (.getfield 214, 3) := by decide +kernel
theorem dX8_nextToken_106 : decode cX8_nextToken 106 = .ok (.if_icmp .ne 11, 3) := by decide +kernel
theorem dX8_nextToken_109 : decode cX8_nextToken 109 = .ok (.aload_n 0, 1) := by decide +kernel
theorem dX8_nextToken_110 : decode cX8_nextToken 110 = .ok (.iconst 0, 1) := by decide +kernel
theorem dX8_nextToken_111 : decode cX8_nextToken 111 = .ok (.putfield 229, 3) := by decide +kernel
theorem dX8_nextToken_114 : decode cX8_nextToken 114 = .ok (.goto 225, 3) := by decide +kernel
theorem dX8_nextToken_117 : decode cX8_nextToken 117 = .ok (.aload_n 0, 1) := by decide +kernel
theorem dX8_nextToken_118 : decode cX8_nextToken 118 = .ok (.aload_n 0, 1) := by decide +kernel
theorem dX8_nextToken_119 : decode cX8_nextToken 119 = .ok (.getfield 232, 3) := by decide +kernel
theorem dX8_nextToken_122 : decode cX8_nextToken 122 = .ok (.invokevirtual 235, 3) := by decide +kernel
theorem dX8_nextToken_125 : decode cX8_nextToken 125 = .ok (.ifCond .eq 73, 3) := by decide +kernel
theorem dX8_nextToken_128 : decode cX8_nextToken 128 = .ok (.aload_n 0, 1) := by decide +kernel
theorem dX8_nextToken_129 : decode cX8_nextToken 129 = .ok (.aload_n 0, 1) := by decide +kernel
theorem dX8_nextToken_130 : decode cX8_nextToken 130 = .ok (.getfield 226, 3) := by decide +kernel
theorem dX8_nextToken_133 : decode cX8_nextToken 133 = .ok (.invokevirtual 235, 3) := by decide +kernel
theorem dX8_nextToken_136 : decode cX8_nextToken 136 = .ok (.ifCond .eq 16, 3) := by decide +kernel
theorem dX8_nextToken_139 : decode cX8_nextToken 139 = .ok (.aload_n 0, 1) := by decide +kernel
theorem dX8_nextToken_140 : decode cX8_nextToken 140 = .ok (.dup, 1) := by decide +kernel
theorem dX8_nextToken_141 : decode cX8_nextToken 141 = .ok (.getfield 226, 3) := by decide +kernel
theorem dX8_nextToken_144 : decode cX8_nextToken 144 = .ok (.iconst 1, 1) := by decide +kernel
theorem dX8_nextToken_145 : decode cX8_nextToken 145 = .ok (.iadd, 1) := by decide +kernel
theorem dX8_nextToken_146 : decode cX8_nextToken 146 = .ok (.putfield 226, 3) := by decide +kernel
theorem dX8_nextToken_149 : decode cX8_nextToken 149 = .ok (.goto (-21), 3) := by decide +kernel
theorem dX8_nextToken_152 : decode cX8_nextToken 152 = .ok (.aload_n 0, 1) := by decide +kernel
theorem dX8_nextToken_153 : decode cX8_nextToken 153 = .ok (.iload_n 1, 1) := by decide +kernel
theorem dX8_nextToken_154 : decode cX8_nextToken 154 = .ok (.ifCond .eq 7, 3) := by decide +kernel
theorem dX8_nextToken_157 : decode cX8_nextToken 157 = .ok (.iconst 4, 1) := by decide +kernel
theorem dX8_nextToken_158 : decode cX8_nextToken 158 = .ok (.goto 4, 3) := by decide +kernel
theorem dX8_nextToken_161 : decode cX8_nextToken 161 = .ok (.iconst 1, 1) := by decide +kernel
theorem dX8_nextToken_162 : decode cX8_nextToken 162 = .ok (.putfield 229, 3) := by decide +kernel
theorem dX8_nextToken_165 : decode cX8_nextToken 165 = .ok (.aload_n 0, 1) := by decide +kernel
theorem dX8_nextToken_166 : decode cX8_nextToken 166 = .ok (.aload_n 0, 1) := by decide +kernel
theorem dX8_nextToken_167 : decode cX8_nextToken 167 = .ok (.getfield 226, 3) := by decide +kernel
theorem dX8_nextToken_170 : decode cX8_nextToken 170 = .ok (.aload_n 0, 1) := by decide +kernel
theorem dX8_nextToken_171 : decode cX8_nextToken 171 = .ok (.getfield 232, 3) := by decide +kernel
theorem dX8_nextToken_174 : decode cX8_nextToken 174 = .ok (.isub, 1) := by decide +kernel
theorem dX8_nextToken_175 : decode cX8_nextToken 175 = .ok (.iconst 1, 1) := by decide +kernel
theorem dX8_nextToken_176 : decode cX8_nextToken 176 = .ok (.if_icmp .ne 15, 3) := by decide +kernel
theorem dX8_nextToken_179 : decode cX8_nextToken 179 = .ok (.aload_n 0, 1) := by decide +kernel
theorem dX8_nextToken_180 : decode cX8_nextToken 180 = .ok (.getfield 49, 3) := by decide +kernel
theorem dX8_nextToken_183 : decode cX8_nextToken 183 = .ok (.aload_n 0, 1) := by decide +kernel
theorem dX8_nextToken_184 : decode cX8_nextToken 184 = .ok (.getfield 232, 3) := by decide +kernel
theorem dX8_nextToken_187 : decode cX8_nextToken 187 = .ok (.iaload, 1) := by decide +kernel
theorem dX8_nextToken_188 : decode cX8_nextToken 188 = .ok (.goto 4, 3) := by decide +kernel
theorem dX8_nextToken_191 : decode cX8_nextToken 191 = .ok (.iconst 0, 1) := by decide +kernel
theorem dX8_nextToken_192 : decode cX8_nextToken 192 = .ok (.putfield 238, 3) := by decide +kernel
theorem dX8_nextToken_195 : decode cX8_nextToken 195 = .ok (.goto 144, 3) := by decide +kernel
theorem dX8_nextToken_198 : decode cX8_nextToken 198 = .ok (.aload_n 0, 1) := by decide +kernel
theorem dX8_nextToken_199 : decode cX8_nextToken 199 = .ok (.aload_n 0, 1) := by decide +kernel
theorem dX8_nextToken_200 : decode cX8_nextToken 200 = .ok (.getfield 232, 3) := by decide +kernel
theorem dX8_nextToken_203 : decode cX8_nextToken 203 = .ok (.invokevirtual 241, 3) := by decide +kernel
theorem dX8_nextToken_206 : decode cX8_nextToken 206 = .ok (.ifCond .eq 105, 3) := by decide +kernel
theorem dX8_nextToken_209 : decode cX8_nextToken 209 = .ok (.aload_n 0, 1) := by decide +kernel
theorem dX8_nextToken_210 : decode cX8_nextToken 210 = .ok (.iconst 0, 1) := by decide +kernel
theorem dX8_nextToken_211 : decode cX8_nextToken 211 = .ok (.putfield 244, 3) := by decide +kernel
theorem dX8_nextToken_214 : decode cX8_nextToken 214 = .ok (.aload_n 0, 1) := by decide +kernel
theorem dX8_nextToken_215 : decode cX8_nextToken 215 = .ok (.aload_n 0, 1) := by decide +kernel
theorem dX8_nextToken_216 : decode cX8_nextToken 216 = .ok (.getfield 226, 3) := by decide +kernel
theorem dX8_nextToken_219 : decode cX8_nextToken 219 = .ok (.invokevirtual 241, 3) := by decide +kernel
theorem dX8_nextToken_222 : decode cX8_nextToken 222 = .ok (.ifCond .eq 60, 3) := by decide +kernel
theorem dX8_nextToken_225 : decode cX8_nextToken 225 = .ok (.aload_n 0, 1) := by decide +kernel
theorem dX8_nextToken_226 : decode cX8_nextToken 226 = .ok (.aload_n 0, 1) := by decide +kernel
theorem dX8_nextToken_227 : decode cX8_nextToken 227 = .ok (.getfield 226, 3) := by decide +kernel
theorem dX8_nextToken_230 : decode cX8_nextToken 230 = .ok (.aload_n 0, 1) := by decide +kernel
theorem dX8_nextToken_231 : decode cX8_nextToken 231 = .ok (.getfield 232, 3) := by decide +kernel
theorem dX8_nextToken_234 : decode cX8_nextToken 234 = .ok (.isub, 1) := by decide +kernel
theorem dX8_nextToken_235 : decode cX8_nextToken 235 = .ok (.iconst 4, 1) := by decide +kernel
theorem dX8_nextToken_236 : decode cX8_nextToken 236 = .ok (.if_icmp .ge 26, 3) := by decide +kernel
theorem dX8_nextToken_239 : decode cX8_nextToken 239 = .ok (.bipush 10, 2) := by decide +kernel
theorem dX8_nextToken_241 : decode cX8_nextToken 241 = .ok (.aload_n 0, 1) := by decide +kernel
theorem dX8_nextToken_242 : decode cX8_nextToken 242 = .ok (.getfield 244, 3) := by decide +kernel
theorem dX8_nextToken_245 : decode cX8_nextToken 245 = .ok (.imul, 1) := by decide +kernel
theorem dX8_nextToken_246 : decode cX8_nextToken 246 = .ok (.aload_n 0, 1) := by decide +kernel
theorem dX8_nextToken_247 : decode cX8_nextToken 247 = .ok (.getfield 49, 3) := by decide +kernel
theorem dX8_nextToken_250 : decode cX8_nextToken 250 = .ok (.aload_n 0, 1) := by decide +kernel
theorem dX8_nextToken_251 : decode cX8_nextToken 251 = .ok (.getfield 226, 3) := by decide +kernel
theorem dX8_nextToken_254 : decode cX8_nextToken 254 = .ok (.iaload, 1) := by decide +kernel
theorem dX8_nextToken_255 : decode cX8_nextToken 255 = .ok (.iadd, 1) := by decide +kernel
theorem dX8_nextToken_256 : decode cX8_nextToken 256 = .ok (.bipush 48, 2) := by decide +kernel
theorem dX8_nextToken_258 : decode cX8_nextToken 258 = .ok (.isub, 1) := by decide +kernel
theorem dX8_nextToken_259 : decode cX8_nextToken 259 = .ok (.goto 7, 3) := by decide +kernel
theorem dX8_nextToken_262 : decode cX8_nextToken 262 = .ok (.aload_n 0, 1) := by decide +kernel
theorem dX8_nextToken_263 : decode cX8_nextToken 263 = .ok (.getfield 244, 3) := by decide +kernel
theorem dX8_nextToken_266 : decode cX8_nextToken 266 = .ok (.putfield 244, 3) := by decide +kernel
theorem dX8_nextToken_269 : decode cX8_nextToken 269 = .ok (.aload_n 0, 1) := by decide +kernel
theorem dX8_nextToken_270 : decode cX8_nextToken 270 = .ok (.dup, 1) := by decide +kernel
theorem dX8_nextToken_271 : decode cX8_nextToken 271 = .ok (.getfield 226, 3) := by decide +kernel
theorem dX8_nextToken_274 : decode cX8_nextToken 274 = .ok (.iconst 1, 1) := by decide +kernel
theorem dX8_nextToken_275 : decode cX8_nextToken 275 = .ok (.iadd, 1) := by decide +kernel
theorem dX8_nextToken_276 : decode cX8_nextToken 276 = .ok (.putfield 226, 3) := by decide +kernel
theorem dX8_nextToken_279 : decode cX8_nextToken 279 = .ok (.goto (-65), 3) := by decide +kernel
theorem dX8_nextToken_282 : decode cX8_nextToken 282 = .ok (.aload_n 0, 1) := by decide +kernel
theorem dX8_nextToken_283 : decode cX8_nextToken 283 = .ok (.iload_n 1, 1) := by decide +kernel
theorem dX8_nextToken_284 : decode cX8_nextToken 284 = .ok (.ifCond .ne 16, 3) := by decide +kernel
theorem dX8_nextToken_287 : decode cX8_nextToken 287 = .ok (.aload_n 0, 1) := by decide +kernel
theorem dX8_nextToken_288 : decode cX8_nextToken 288 = .ok (.getfield 226, 3) := by decide +kernel
theorem dX8_nextToken_291 : decode cX8_nextToken 291 = .ok (.aload_n 0, 1) := by decide +kernel
theorem dX8_nextToken_292 : decode cX8_nextToken 292 = .ok (.getfield 232, 3) := by decide +kernel
theorem dX8_nextToken_295 : decode cX8_nextToken 295 = .ok (.isub, 1) := by decide +kernel
theorem dX8_nextToken_296 : decode cX8_nextToken 296 = .ok (.iconst 4, 1) := by decide +kernel
theorem dX8_nextToken_297 : decode cX8_nextToken 297 = .ok (.if_icmp .le 7, 3) := by decide +kernel
theorem dX8_nextToken_300 : decode cX8_nextToken 300 = .ok (.iconst 4, 1) := by decide +kernel
theorem dX8_nextToken_301 : decode cX8_nextToken 301 = .ok (.goto 4, 3) := by decide +kernel
theorem dX8_nextToken_304 : decode cX8_nextToken 304 = .ok (.iconst 2, 1) := by decide +kernel
theorem dX8_nextToken_305 : decode cX8_nextToken 305 = .ok (.putfield 229, 3) := by decide +kernel
theorem dX8_nextToken_308 : decode cX8_nextToken 308 = .ok (.goto 31, 3) := by decide +kernel
theorem dX8_nextToken_311 : decode cX8_nextToken 311 = .ok (.aload_n 0, 1) := by decide +kernel
theorem dX8_nextToken_312 : decode cX8_nextToken 312 = .ok (.iconst 3, 1) := by decide +kernel
theorem dX8_nextToken_313 : decode cX8_nextToken 313 = .ok (.putfield 229, 3) := by decide +kernel
theorem dX8_nextToken_316 : decode cX8_nextToken 316 = .ok (.aload_n 0, 1) := by decide +kernel
theorem dX8_nextToken_317 : decode cX8_nextToken 317 = .ok (.aload_n 0, 1) := by decide +kernel
theorem dX8_nextToken_318 : decode cX8_nextToken 318 = .ok (.getfield 49, 3) := by decide +kernel
theorem dX8_nextToken_321 : decode cX8_nextToken 321 = .ok (.aload_n 0, 1) := by decide +kernel
theorem dX8_nextToken_322 : decode cX8_nextToken 322 = .ok (.getfield 232, 3) := by decide +kernel
theorem dX8_nextToken_325 : decode cX8_nextToken 325 = .ok (.iaload, 1) := by decide +kernel
theorem dX8_nextToken_326 : decode cX8_nextToken 326 = .ok (.putfield 238, 3) := by decide +kernel
theorem dX8_nextToken_329 : decode cX8_nextToken 329 = .ok (.aload_n 0, 1) := by decide +kernel
theorem dX8_nextToken_330 : decode cX8_nextToken 330 = .ok (.dup, 1) := by decide +kernel
theorem dX8_nextToken_331 : decode cX8_nextToken 331 = .ok (.getfield 226, 3) := by decide +kernel
theorem dX8_nextToken_334 : decode cX8_nextToken 334 = .ok (.iconst 1, 1) := by decide +kernel
theorem dX8_nextToken_335 : decode cX8_nextToken 335 = .ok (.iadd, 1) := by decide +kernel
theorem dX8_nextToken_336 : decode cX8_nextToken 336 = .ok (.putfield 226, 3) := by decide +kernel
theorem dX8_nextToken_339 : decode cX8_nextToken 339 = .ok (.return_, 1) := by decide +kernel
theorem dX8_isSign_0 : decode cX8_isSign 0 = .ok (.aload_n 0, 1) := by decide +kernel
theorem dX8_isSign_1 : decode cX8_isSign 1 = .ok (.getfield 229, 3) := by decide +kernel
theorem dX8_isSign_4 : decode cX8_isSign 4 = .ok (.iconst 3, 1) := by decide +kernel
theorem dX8_isSign_5 : decode cX8_isSign 5 = .ok (.if_icmp .ne 15, 3) := by decide +kernel
theorem dX8_isSign_8 : decode cX8_isSign 8 = .ok (.aload_n 0, 1) := by decide +kernel
theorem dX8_isSign_9 : decode cX8_isSign 9 = .ok (.getfield 238, 3) := by decide +kernel
theorem dX8_isSign_12 : decode cX8_isSign 12 = .ok (.iload_n 1, 1) := by decide +kernel
theorem dX8_isSign_13 : decode cX8_isSign 13 = .ok (.if_icmp .ne 7, 3) := by decide +kernel
theorem dX8_isSign_16 : decode cX8_isSign 16 = .ok (.iconst 1, 1) := by decide +kernel
theorem dX8_isSign_17 : decode cX8_isSign 17 = .ok (.goto 4, 3) := by decide +kernel
theorem dX8_isSign_20 : decode cX8_isSign 20 = .ok (.iconst 0, 1) := by decide +kernel
theorem dX8_isSign_21 : decode cX8_isSign 21 = .ok (.ireturn, 1) := by decide +kernel
theorem dX8_isWordAt_0 : decode cX8_isWordAt 0 = .ok (.iload 4, 2) := by decide +kernel
theorem dX8_isWordAt_2 : decode cX8_isWordAt 2 = .ok (.ifCond .ne 7, 3) := by decide +kernel
theorem dX8_isWordAt_5 : decode cX8_isWordAt 5 = .ok (.iconst 3, 1) := by decide +kernel
theorem dX8_isWordAt_6 : decode cX8_isWordAt 6 = .ok (.goto 4, 3) := by decide +kernel
theorem dX8_isWordAt_9 : decode cX8_isWordAt 9 = .ok (.iconst 4, 1) := by decide +kernel
theorem dX8_isWordAt_10 : decode cX8_isWordAt 10 = .ok (.istore 5, 2) := by decide +kernel
theorem dX8_isWordAt_12 : decode cX8_isWordAt 12 = .ok (.aload_n 0, 1) := by decide +kernel
theorem dX8_isWordAt_13 : decode cX8_isWordAt 13 = .ok (.getfield 229, 3) := by decide +kernel
theorem dX8_isWordAt_16 : decode cX8_isWordAt 16 = .ok (.iconst 1, 1) := by decide +kernel
theorem dX8_isWordAt_17 : decode cX8_isWordAt 17 = .ok (.if_icmp .ne 85, 3) := by decide +kernel
theorem dX8_isWordAt_20 : decode cX8_isWordAt 20 = .ok (.aload_n 0, 1) := by decide +kernel
theorem dX8_isWordAt_21 : decode cX8_isWordAt 21 = .ok (.getfield 226, 3) := by decide +kernel
theorem dX8_isWordAt_24 : decode cX8_isWordAt 24 = .ok (.aload_n 0, 1) := by decide +kernel
theorem dX8_isWordAt_25 : decode cX8_isWordAt 25 = .ok (.getfield 232, 3) := by decide +kernel
theorem dX8_isWordAt_28 : decode cX8_isWordAt 28 = .ok (.isub, 1) := by decide +kernel
theorem dX8_isWordAt_29 : decode cX8_isWordAt 29 = .ok (.iload 5, 2) := by decide +kernel
theorem dX8_isWordAt_31 : decode cX8_isWordAt 31 = .ok (.if_icmp .ne 71, 3) := by decide +kernel
theorem dX8_isWordAt_34 : decode cX8_isWordAt 34 = .ok (.aload_n 0, 1) := by decide +kernel
theorem dX8_isWordAt_35 : decode cX8_isWordAt 35 = .ok (.getfield 49, 3) := by decide +kernel
theorem dX8_isWordAt_38 : decode cX8_isWordAt 38 = .ok (.aload_n 0, 1) := by decide +kernel
theorem dX8_isWordAt_39 : decode cX8_isWordAt 39 = .ok (.getfield 232, 3) := by decide +kernel
theorem dX8_isWordAt_42 : decode cX8_isWordAt 42 = .ok (.iaload, 1) := by decide +kernel
theorem dX8_isWordAt_43 : decode cX8_isWordAt 43 = .ok (.iload_n 1, 1) := by decide +kernel
theorem dX8_isWordAt_44 : decode cX8_isWordAt 44 = .ok (.if_icmp .ne 58, 3) := by decide +kernel
theorem dX8_isWordAt_47 : decode cX8_isWordAt 47 = .ok (.aload_n 0, 1) := by decide +kernel
theorem dX8_isWordAt_48 : decode cX8_isWordAt 48 = .ok (.getfield 49, 3) := by decide +kernel
theorem dX8_isWordAt_51 : decode cX8_isWordAt 51 = .ok (.aload_n 0, 1) := by decide +kernel
theorem dX8_isWordAt_52 : decode cX8_isWordAt 52 = .ok (.getfield 232, 3) := by decide +kernel
theorem dX8_isWordAt_55 : decode cX8_isWordAt 55 = .ok (.iconst 1, 1) := by decide +kernel
theorem dX8_isWordAt_56 : decode cX8_isWordAt 56 = .ok (.iadd, 1) := by decide +kernel
theorem dX8_isWordAt_57 : decode cX8_isWordAt 57 = .ok (.iaload, 1) := by decide +kernel
theorem dX8_isWordAt_58 : decode cX8_isWordAt 58 = .ok (.iload_n 2, 1) := by decide +kernel
theorem dX8_isWordAt_59 : decode cX8_isWordAt 59 = .ok (.if_icmp .ne 43, 3) := by decide +kernel
theorem dX8_isWordAt_62 : decode cX8_isWordAt 62 = .ok (.aload_n 0, 1) := by decide +kernel
theorem dX8_isWordAt_63 : decode cX8_isWordAt 63 = .ok (.getfield 49, 3) := by decide +kernel
theorem dX8_isWordAt_66 : decode cX8_isWordAt 66 = .ok (.aload_n 0, 1) := by decide +kernel
theorem dX8_isWordAt_67 : decode cX8_isWordAt 67 = .ok (.getfield 232, 3) := by decide +kernel
theorem dX8_isWordAt_70 : decode cX8_isWordAt 70 = .ok (.iconst 2, 1) := by decide +kernel
theorem dX8_isWordAt_71 : decode cX8_isWordAt 71 = .ok (.iadd, 1) := by decide +kernel
theorem dX8_isWordAt_72 : decode cX8_isWordAt 72 = .ok (.iaload, 1) := by decide +kernel
theorem dX8_isWordAt_73 : decode cX8_isWordAt 73 = .ok (.iload_n 3, 1) := by decide +kernel
theorem dX8_isWordAt_74 : decode cX8_isWordAt 74 = .ok (.if_icmp .ne 28, 3) := by decide +kernel
theorem dX8_isWordAt_77 : decode cX8_isWordAt 77 = .ok (.iload 4, 2) := by decide +kernel
theorem dX8_isWordAt_79 : decode cX8_isWordAt 79 = .ok (.ifCond .eq 19, 3) := by decide +kernel
theorem dX8_isWordAt_82 : decode cX8_isWordAt 82 = .ok (.aload_n 0, 1) := by decide +kernel
theorem dX8_isWordAt_83 : decode cX8_isWordAt 83 = .ok (.getfield 49, 3) := by decide +kernel
theorem dX8_isWordAt_86 : decode cX8_isWordAt 86 = .ok (.aload_n 0, 1) := by decide +kernel
theorem dX8_isWordAt_87 : decode cX8_isWordAt 87 = .ok (.getfield 232, 3) := by decide +kernel
theorem dX8_isWordAt_90 : decode cX8_isWordAt 90 = .ok (.iconst 3, 1) := by decide +kernel
theorem dX8_isWordAt_91 : decode cX8_isWordAt 91 = .ok (.iadd, 1) := by decide +kernel
theorem dX8_isWordAt_92 : decode cX8_isWordAt 92 = .ok (.iaload, 1) := by decide +kernel
theorem dX8_isWordAt_93 : decode cX8_isWordAt 93 = .ok (.iload 4, 2) := by decide +kernel
theorem dX8_isWordAt_95 : decode cX8_isWordAt 95 = .ok (.if_icmp .ne 7, 3) := by decide +kernel
theorem dX8_isWordAt_98 : decode cX8_isWordAt 98 = .ok (.iconst 1, 1) := by decide +kernel
theorem dX8_isWordAt_99 : decode cX8_isWordAt 99 = .ok (.goto 4, 3) := by decide +kernel
theorem dX8_isWordAt_102 : decode cX8_isWordAt 102 = .ok (.iconst 0, 1) := by decide +kernel
theorem dX8_isWordAt_103 : decode cX8_isWordAt 103 = .ok (.ireturn, 1) := by decide +kernel
theorem dX8_key_0 : decode cX8_key 0 = .ok (.aload_n 0, 1) := by decide +kernel
theorem dX8_key_1 : decode cX8_key 1 = .ok (.bipush 112, 2) := by decide +kernel
theorem dX8_key_3 : decode cX8_key 3 = .ok (.bipush 117, 2) := by decide +kernel
theorem dX8_key_5 : decode cX8_key 5 = .ok (.bipush 108, 2) := by decide +kernel
theorem dX8_key_7 : decode cX8_key 7 = .ok (.bipush 108, 2) := by decide +kernel
theorem dX8_key_9 : decode cX8_key 9 = .ok (.invokevirtual 247, 3) := by decide +kernel
theorem dX8_key_12 : decode cX8_key 12 = .ok (.ifCond .eq 5, 3) := by decide +kernel
theorem dX8_key_15 : decode cX8_key 15 = .ok (.iconst 0, 1) := by decide +kernel
theorem dX8_key_16 : decode cX8_key 16 = .ok (.ireturn, 1) := by decide +kernel
theorem dX8_key_17 : decode cX8_key 17 = .ok (.aload_n 0, 1) := by decide +kernel
theorem dX8_key_18 : decode cX8_key 18 = .ok (.bipush 102, 2) := by decide +kernel
theorem dX8_key_20 : decode cX8_key 20 = .ok (.bipush 101, 2) := by decide +kernel
theorem dX8_key_22 : decode cX8_key 22 = .ok (.bipush 101, 2) := by decide +kernel
theorem dX8_key_24 : decode cX8_key 24 = .ok (.iconst 0, 1) := by decide +kernel
theorem dX8_key_25 : decode cX8_key 25 = .ok (.invokevirtual 247, 3) := by decide +kernel
theorem dX8_key_28 : decode cX8_key 28 = .ok (.ifCond .eq 5, 3) := by decide +kernel
theorem dX8_key_31 : decode cX8_key 31 = .ok (.iconst 1, 1) := by decide +kernel
theorem dX8_key_32 : decode cX8_key 32 = .ok (.ireturn, 1) := by decide +kernel
theorem dX8_key_33 : decode cX8_key 33 = .ok (.aload_n 0, 1) := by decide +kernel
theorem dX8_key_34 : decode cX8_key 34 = .ok (.bipush 102, 2) := by decide +kernel
theorem dX8_key_36 : decode cX8_key 36 = .ok (.bipush 105, 2) := by decide +kernel
theorem dX8_key_38 : decode cX8_key 38 = .ok (.bipush 110, 2) := by decide +kernel
theorem dX8_key_40 : decode cX8_key 40 = .ok (.bipush 101, 2) := by decide +kernel
theorem dX8_key_42 : decode cX8_key 42 = .ok (.invokevirtual 247, 3) := by decide +kernel
theorem dX8_key_45 : decode cX8_key 45 = .ok (.ifCond .eq 7, 3) := by decide +kernel
theorem dX8_key_48 : decode cX8_key 48 = .ok (.iconst 2, 1) := by decide +kernel
theorem dX8_key_49 : decode cX8_key 49 = .ok (.goto 4, 3) := by decide +kernel
theorem dX8_key_52 : decode cX8_key 52 = .ok (.iconst (-1), 1) := by decide +kernel
theorem dX8_key_53 : decode cX8_key 53 = .ok (.ireturn, 1) := by decide +kernel
theorem dX8_isName_0 : decode cX8_isName 0 = .ok (.iload_n 0, 1) := by decide +kernel
theorem dX8_isName_1 : decode cX8_isName 1 = .ok (.lookupswitch 69 #[(0, 27), (1, 51)], 27) := by decide +kernel
theorem dX8_isName_28 : decode cX8_isName 28 = .ok (.iload_n 1, 1) := by decide +kernel
theorem dX8_isName_29 : decode cX8_isName 29 = .ok (.bipush 115, 2) := by decide +kernel
theorem dX8_isName_31 : decode cX8_isName 31 = .ok (.if_icmp .eq 15, 3) := by decide +kernel
theorem dX8_isName_34 : decode cX8_isName 34 = .ok (.iload_n 1, 1) := by decide +kernel
theorem dX8_isName_35 : decode cX8_isName 35 = .ok (.bipush 110, 2) := by decide +kernel
theorem dX8_isName_37 : decode cX8_isName 37 = .ok (.if_icmp .eq 9, 3) := by decide +kernel
theorem dX8_isName_40 : decode cX8_isName 40 = .ok (.iload_n 1, 1) := by decide +kernel
theorem dX8_isName_41 : decode cX8_isName 41 = .ok (.bipush 102, 2) := by decide +kernel
theorem dX8_isName_43 : decode cX8_isName 43 = .ok (.if_icmp .ne 7, 3) := by decide +kernel
theorem dX8_isName_46 : decode cX8_isName 46 = .ok (.iconst 1, 1) := by decide +kernel
theorem dX8_isName_47 : decode cX8_isName 47 = .ok (.goto 4, 3) := by decide +kernel
theorem dX8_isName_50 : decode cX8_isName 50 = .ok (.iconst 0, 1) := by decide +kernel
theorem dX8_isName_51 : decode cX8_isName 51 = .ok (.ireturn, 1) := by decide +kernel
theorem dX8_isName_52 : decode cX8_isName 52 = .ok (.iload_n 1, 1) := by decide +kernel
theorem dX8_isName_53 : decode cX8_isName 53 = .ok (.bipush 103, 2) := by decide +kernel
theorem dX8_isName_55 : decode cX8_isName 55 = .ok (.if_icmp .eq 9, 3) := by decide +kernel
theorem dX8_isName_58 : decode cX8_isName 58 = .ok (.iload_n 1, 1) := by decide +kernel
theorem dX8_isName_59 : decode cX8_isName 59 = .ok (.bipush 118, 2) := by decide +kernel
theorem dX8_isName_61 : decode cX8_isName 61 = .ok (.if_icmp .ne 7, 3) := by decide +kernel
theorem dX8_isName_64 : decode cX8_isName 64 = .ok (.iconst 1, 1) := by decide +kernel
theorem dX8_isName_65 : decode cX8_isName 65 = .ok (.goto 4, 3) := by decide +kernel
theorem dX8_isName_68 : decode cX8_isName 68 = .ok (.iconst 0, 1) := by decide +kernel
theorem dX8_isName_69 : decode cX8_isName 69 = .ok (.ireturn, 1) := by decide +kernel
theorem dX8_isName_70 : decode cX8_isName 70 = .ok (.iload_n 1, 1) := by decide +kernel
theorem dX8_isName_71 : decode cX8_isName 71 = .ok (.bipush 115, 2) := by decide +kernel
theorem dX8_isName_73 : decode cX8_isName 73 = .ok (.if_icmp .eq 9, 3) := by decide +kernel
theorem dX8_isName_76 : decode cX8_isName 76 = .ok (.iload_n 1, 1) := by decide +kernel
theorem dX8_isName_77 : decode cX8_isName 77 = .ok (.bipush 112, 2) := by decide +kernel
theorem dX8_isName_79 : decode cX8_isName 79 = .ok (.if_icmp .ne 7, 3) := by decide +kernel
theorem dX8_isName_82 : decode cX8_isName 82 = .ok (.iconst 1, 1) := by decide +kernel
theorem dX8_isName_83 : decode cX8_isName 83 = .ok (.goto 4, 3) := by decide +kernel
theorem dX8_isName_86 : decode cX8_isName 86 = .ok (.iconst 0, 1) := by decide +kernel
theorem dX8_isName_87 : decode cX8_isName 87 = .ok (.ireturn, 1) := by decide +kernel
theorem dX8_step_0 : decode cX8_step 0 = .ok (.aload_n 0, 1) := by decide +kernel
theorem dX8_step_1 : decode cX8_step 1 = .ok (.getfield 7, 3) := by decide +kernel
theorem dX8_step_4 : decode cX8_step 4 = .ok (.aload_n 0, 1) := by decide +kernel
theorem dX8_step_5 : decode cX8_step 5 = .ok (.getfield 251, 3) := by decide +kernel
theorem dX8_step_8 : decode cX8_step 8 = .ok (.iconst 2, 1) := by decide +kernel
theorem dX8_step_9 : decode cX8_step 9 = .ok (.aload_n 0, 1) := by decide +kernel
theorem dX8_step_10 : decode cX8_step 10 = .ok (.getfield 254, 3) := by decide +kernel
theorem dX8_step_13 : decode cX8_step 13 = .ok (.imul, 1) := by decide +kernel
theorem dX8_step_14 : decode cX8_step 14 = .ok (.iadd, 1) := by decide +kernel
theorem dX8_step_15 : decode cX8_step 15 = .ok (.iload_n 1, 1) := by decide +kernel
theorem dX8_step_16 : decode cX8_step 16 = .ok (.iastore, 1) := by decide +kernel
theorem dX8_step_17 : decode cX8_step 17 = .ok (.aload_n 0, 1) := by decide +kernel
theorem dX8_step_18 : decode cX8_step 18 = .ok (.getfield 7, 3) := by decide +kernel
theorem dX8_step_21 : decode cX8_step 21 = .ok (.aload_n 0, 1) := by decide +kernel
theorem dX8_step_22 : decode cX8_step 22 = .ok (.getfield 251, 3) := by decide +kernel
theorem dX8_step_25 : decode cX8_step 25 = .ok (.iconst 2, 1) := by decide +kernel
theorem dX8_step_26 : decode cX8_step 26 = .ok (.aload_n 0, 1) := by decide +kernel
theorem dX8_step_27 : decode cX8_step 27 = .ok (.getfield 254, 3) := by decide +kernel
theorem dX8_step_30 : decode cX8_step 30 = .ok (.imul, 1) := by decide +kernel
theorem dX8_step_31 : decode cX8_step 31 = .ok (.iadd, 1) := by decide +kernel
theorem dX8_step_32 : decode cX8_step 32 = .ok (.iconst 1, 1) := by decide +kernel
theorem dX8_step_33 : decode cX8_step 33 = .ok (.iadd, 1) := by decide +kernel
theorem dX8_step_34 : decode cX8_step 34 = .ok (.iload_n 2, 1) := by decide +kernel
theorem dX8_step_35 : decode cX8_step 35 = .ok (.iastore, 1) := by decide +kernel
theorem dX8_step_36 : decode cX8_step 36 = .ok (.aload_n 0, 1) := by decide +kernel
theorem dX8_step_37 : decode cX8_step 37 = .ok (.dup, 1) := by decide +kernel
theorem dX8_step_38 : decode cX8_step 38 = .ok (.getfield 254, 3) := by decide +kernel
theorem dX8_step_41 : decode cX8_step 41 = .ok (.iconst 1, 1) := by decide +kernel
theorem dX8_step_42 : decode cX8_step 42 = .ok (.iadd, 1) := by decide +kernel
theorem dX8_step_43 : decode cX8_step 43 = .ok (.putfield 254, 3) := by decide +kernel
theorem dX8_step_46 : decode cX8_step 46 = .ok (.return_, 1) := by decide +kernel
theorem dX8_either_0 : decode cX8_either 0 = .ok (.aload_n 0, 1) := by decide +kernel
theorem dX8_either_1 : decode cX8_either 1 = .ok (.iload_n 1, 1) := by decide +kernel
theorem dX8_either_2 : decode cX8_either 2 = .ok (.invokevirtual 257, 3) := by decide +kernel
theorem dX8_either_5 : decode cX8_either 5 = .ok (.ifCond .ne 5, 3) := by decide +kernel
theorem dX8_either_8 : decode cX8_either 8 = .ok (.iconst 0, 1) := by decide +kernel
theorem dX8_either_9 : decode cX8_either 9 = .ok (.ireturn, 1) := by decide +kernel
theorem dX8_either_10 : decode cX8_either 10 = .ok (.aload_n 0, 1) := by decide +kernel
theorem dX8_either_11 : decode cX8_either 11 = .ok (.bipush 124, 2) := by decide +kernel
theorem dX8_either_13 : decode cX8_either 13 = .ok (.invokevirtual 260, 3) := by decide +kernel
theorem dX8_either_16 : decode cX8_either 16 = .ok (.ifCond .eq 27, 3) := by decide +kernel
theorem dX8_either_19 : decode cX8_either 19 = .ok (.aload_n 0, 1) := by decide +kernel
theorem dX8_either_20 : decode cX8_either 20 = .ok (.invokevirtual 263, 3) := by decide +kernel
theorem dX8_either_23 : decode cX8_either 23 = .ok (.aload_n 0, 1) := by decide +kernel
theorem dX8_either_24 : decode cX8_either 24 = .ok (.iload_n 1, 1) := by decide +kernel
theorem dX8_either_25 : decode cX8_either 25 = .ok (.invokevirtual 257, 3) := by decide +kernel
theorem dX8_either_28 : decode cX8_either 28 = .ok (.ifCond .ne 5, 3) := by decide +kernel
theorem dX8_either_31 : decode cX8_either 31 = .ok (.iconst 0, 1) := by decide +kernel
theorem dX8_either_32 : decode cX8_either 32 = .ok (.ireturn, 1) := by decide +kernel
theorem dX8_either_33 : decode cX8_either 33 = .ok (.aload_n 0, 1) := by decide +kernel
theorem dX8_either_34 : decode cX8_either 34 = .ok (.iconst 2, 1) := by decide +kernel
theorem dX8_either_35 : decode cX8_either 35 = .ok (.bipush 124, 2) := by decide +kernel
theorem dX8_either_37 : decode cX8_either 37 = .ok (.invokevirtual 266, 3) := by decide +kernel
theorem dX8_either_40 : decode cX8_either 40 = .ok (.goto (-30), 3) := by decide +kernel
theorem dX8_either_43 : decode cX8_either 43 = .ok (.iconst 1, 1) := by decide +kernel
theorem dX8_either_44 : decode cX8_either 44 = .ok (.ireturn, 1) := by decide +kernel
theorem dX8_both_0 : decode cX8_both 0 = .ok (.aload_n 0, 1) := by decide +kernel
theorem dX8_both_1 : decode cX8_both 1 = .ok (.iload_n 1, 1) := by decide +kernel
theorem dX8_both_2 : decode cX8_both 2 = .ok (.invokevirtual 270, 3) := by decide +kernel
theorem dX8_both_5 : decode cX8_both 5 = .ok (.ifCond .ne 5, 3) := by decide +kernel
theorem dX8_both_8 : decode cX8_both 8 = .ok (.iconst 0, 1) := by decide +kernel
theorem dX8_both_9 : decode cX8_both 9 = .ok (.ireturn, 1) := by decide +kernel
theorem dX8_both_10 : decode cX8_both 10 = .ok (.aload_n 0, 1) := by decide +kernel
theorem dX8_both_11 : decode cX8_both 11 = .ok (.bipush 38, 2) := by decide +kernel
theorem dX8_both_13 : decode cX8_both 13 = .ok (.invokevirtual 260, 3) := by decide +kernel
theorem dX8_both_16 : decode cX8_both 16 = .ok (.ifCond .eq 27, 3) := by decide +kernel
theorem dX8_both_19 : decode cX8_both 19 = .ok (.aload_n 0, 1) := by decide +kernel
theorem dX8_both_20 : decode cX8_both 20 = .ok (.invokevirtual 263, 3) := by decide +kernel
theorem dX8_both_23 : decode cX8_both 23 = .ok (.aload_n 0, 1) := by decide +kernel
theorem dX8_both_24 : decode cX8_both 24 = .ok (.iload_n 1, 1) := by decide +kernel
theorem dX8_both_25 : decode cX8_both 25 = .ok (.invokevirtual 270, 3) := by decide +kernel
theorem dX8_both_28 : decode cX8_both 28 = .ok (.ifCond .ne 5, 3) := by decide +kernel
theorem dX8_both_31 : decode cX8_both 31 = .ok (.iconst 0, 1) := by decide +kernel
theorem dX8_both_32 : decode cX8_both 32 = .ok (.ireturn, 1) := by decide +kernel
theorem dX8_both_33 : decode cX8_both 33 = .ok (.aload_n 0, 1) := by decide +kernel
theorem dX8_both_34 : decode cX8_both 34 = .ok (.iconst 2, 1) := by decide +kernel
theorem dX8_both_35 : decode cX8_both 35 = .ok (.bipush 38, 2) := by decide +kernel
theorem dX8_both_37 : decode cX8_both 37 = .ok (.invokevirtual 266, 3) := by decide +kernel
theorem dX8_both_40 : decode cX8_both 40 = .ok (.goto (-30), 3) := by decide +kernel
theorem dX8_both_43 : decode cX8_both 43 = .ok (.iconst 1, 1) := by decide +kernel
theorem dX8_both_44 : decode cX8_both 44 = .ok (.ireturn, 1) := by decide +kernel
theorem dX8_test_0 : decode cX8_test 0 = .ok (.aload_n 0, 1) := by decide +kernel
theorem dX8_test_1 : decode cX8_test 1 = .ok (.iload_n 1, 1) := by decide +kernel
theorem dX8_test_2 : decode cX8_test 2 = .ok (.invokevirtual 273, 3) := by decide +kernel
theorem dX8_test_5 : decode cX8_test 5 = .ok (.ifCond .ne 5, 3) := by decide +kernel
theorem dX8_test_8 : decode cX8_test 8 = .ok (.iconst 0, 1) := by decide +kernel
theorem dX8_test_9 : decode cX8_test 9 = .ok (.ireturn, 1) := by decide +kernel
theorem dX8_test_10 : decode cX8_test 10 = .ok (.aload_n 0, 1) := by decide +kernel
theorem dX8_test_11 : decode cX8_test 11 = .ok (.bipush 60, 2) := by decide +kernel
theorem dX8_test_13 : decode cX8_test 13 = .ok (.invokevirtual 260, 3) := by decide +kernel
theorem dX8_test_16 : decode cX8_test 16 = .ok (.ifCond .ne 21, 3) := by decide +kernel
theorem dX8_test_19 : decode cX8_test 19 = .ok (.aload_n 0, 1) := by decide +kernel
theorem dX8_test_20 : decode cX8_test 20 = .ok (.bipush 61, 2) := by decide +kernel
theorem dX8_test_22 : decode cX8_test 22 = .ok (.invokevirtual 260, 3) := by decide +kernel
theorem dX8_test_25 : decode cX8_test 25 = .ok (.ifCond .ne 12, 3) := by decide +kernel
theorem dX8_test_28 : decode cX8_test 28 = .ok (.aload_n 0, 1) := by decide +kernel
theorem dX8_test_29 : decode cX8_test 29 = .ok (.bipush 62, 2) := by decide +kernel
theorem dX8_test_31 : decode cX8_test 31 = .ok (.invokevirtual 260, 3) := by decide +kernel
theorem dX8_test_34 : decode cX8_test 34 = .ok (.ifCond .eq 28, 3) := by decide +kernel
theorem dX8_test_37 : decode cX8_test 37 = .ok (.aload_n 0, 1) := by decide +kernel
theorem dX8_test_38 : decode cX8_test 38 = .ok (.getfield 238, 3) := by decide +kernel
theorem dX8_test_41 : decode cX8_test 41 = .ok (.istore_n 2, 1) := by decide +kernel
theorem dX8_test_42 : decode cX8_test 42 = .ok (.aload_n 0, 1) := by decide +kernel
theorem dX8_test_43 : decode cX8_test 43 = .ok (.invokevirtual 263, 3) := by decide +kernel
theorem dX8_test_46 : decode cX8_test 46 = .ok (.aload_n 0, 1) := by decide +kernel
theorem dX8_test_47 : decode cX8_test 47 = .ok (.iload_n 1, 1) := by decide +kernel
theorem dX8_test_48 : decode cX8_test 48 = .ok (.invokevirtual 273, 3) := by decide +kernel
theorem dX8_test_51 : decode cX8_test 51 = .ok (.ifCond .ne 5, 3) := by decide +kernel
theorem dX8_test_54 : decode cX8_test 54 = .ok (.iconst 0, 1) := by decide +kernel
theorem dX8_test_55 : decode cX8_test 55 = .ok (.ireturn, 1) := by decide +kernel
theorem dX8_test_56 : decode cX8_test 56 = .ok (.aload_n 0, 1) := by decide +kernel
theorem dX8_test_57 : decode cX8_test 57 = .ok (.iconst 2, 1) := by decide +kernel
theorem dX8_test_58 : decode cX8_test 58 = .ok (.iload_n 2, 1) := by decide +kernel
theorem dX8_test_59 : decode cX8_test 59 = .ok (.invokevirtual 266, 3) := by decide +kernel
theorem dX8_test_62 : decode cX8_test 62 = .ok (.iconst 1, 1) := by decide +kernel
theorem dX8_test_63 : decode cX8_test 63 = .ok (.ireturn, 1) := by decide +kernel
theorem dX8_sum_0 : decode cX8_sum 0 = .ok (.aload_n 0, 1) := by decide +kernel
theorem dX8_sum_1 : decode cX8_sum 1 = .ok (.iload_n 1, 1) := by decide +kernel
theorem dX8_sum_2 : decode cX8_sum 2 = .ok (.invokevirtual 276, 3) := by decide +kernel
theorem dX8_sum_5 : decode cX8_sum 5 = .ok (.ifCond .ne 5, 3) := by decide +kernel
theorem dX8_sum_8 : decode cX8_sum 8 = .ok (.iconst 0, 1) := by decide +kernel
theorem dX8_sum_9 : decode cX8_sum 9 = .ok (.ireturn, 1) := by decide +kernel
theorem dX8_sum_10 : decode cX8_sum 10 = .ok (.aload_n 0, 1) := by decide +kernel
theorem dX8_sum_11 : decode cX8_sum 11 = .ok (.bipush 43, 2) := by decide +kernel
theorem dX8_sum_13 : decode cX8_sum 13 = .ok (.invokevirtual 260, 3) := by decide +kernel
theorem dX8_sum_16 : decode cX8_sum 16 = .ok (.ifCond .ne 12, 3) := by decide +kernel
theorem dX8_sum_19 : decode cX8_sum 19 = .ok (.aload_n 0, 1) := by decide +kernel
theorem dX8_sum_20 : decode cX8_sum 20 = .ok (.bipush 45, 2) := by decide +kernel
theorem dX8_sum_22 : decode cX8_sum 22 = .ok (.invokevirtual 260, 3) := by decide +kernel
theorem dX8_sum_25 : decode cX8_sum 25 = .ok (.ifCond .eq 31, 3) := by decide +kernel
theorem dX8_sum_28 : decode cX8_sum 28 = .ok (.aload_n 0, 1) := by decide +kernel
theorem dX8_sum_29 : decode cX8_sum 29 = .ok (.getfield 238, 3) := by decide +kernel
theorem dX8_sum_32 : decode cX8_sum 32 = .ok (.istore_n 2, 1) := by decide +kernel
theorem dX8_sum_33 : decode cX8_sum 33 = .ok (.aload_n 0, 1) := by decide +kernel
theorem dX8_sum_34 : decode cX8_sum 34 = .ok (.invokevirtual 263, 3) := by decide +kernel
theorem dX8_sum_37 : decode cX8_sum 37 = .ok (.aload_n 0, 1) := by decide +kernel
theorem dX8_sum_38 : decode cX8_sum 38 = .ok (.iload_n 1, 1) := by decide +kernel
theorem dX8_sum_39 : decode cX8_sum 39 = .ok (.invokevirtual 276, 3) := by decide +kernel
theorem dX8_sum_42 : decode cX8_sum 42 = .ok (.ifCond .ne 5, 3) := by decide +kernel
theorem dX8_sum_45 : decode cX8_sum 45 = .ok (.iconst 0, 1) := by decide +kernel
theorem dX8_sum_46 : decode cX8_sum 46 = .ok (.ireturn, 1) := by decide +kernel
theorem dX8_sum_47 : decode cX8_sum 47 = .ok (.aload_n 0, 1) := by decide +kernel
theorem dX8_sum_48 : decode cX8_sum 48 = .ok (.iconst 2, 1) := by decide +kernel
theorem dX8_sum_49 : decode cX8_sum 49 = .ok (.iload_n 2, 1) := by decide +kernel
theorem dX8_sum_50 : decode cX8_sum 50 = .ok (.invokevirtual 266, 3) := by decide +kernel
theorem dX8_sum_53 : decode cX8_sum 53 = .ok (.goto (-43), 3) := by decide +kernel
theorem dX8_sum_56 : decode cX8_sum 56 = .ok (.iconst 1, 1) := by decide +kernel
theorem dX8_sum_57 : decode cX8_sum 57 = .ok (.ireturn, 1) := by decide +kernel
theorem dX8_term_0 : decode cX8_term 0 = .ok (.aload_n 0, 1) := by decide +kernel
theorem dX8_term_1 : decode cX8_term 1 = .ok (.iload_n 1, 1) := by decide +kernel
theorem dX8_term_2 : decode cX8_term 2 = .ok (.invokevirtual 279, 3) := by decide +kernel
theorem dX8_term_5 : decode cX8_term 5 = .ok (.ifCond .ne 5, 3) := by decide +kernel
theorem dX8_term_8 : decode cX8_term 8 = .ok (.iconst 0, 1) := by decide +kernel
theorem dX8_term_9 : decode cX8_term 9 = .ok (.ireturn, 1) := by decide +kernel
theorem dX8_term_10 : decode cX8_term 10 = .ok (.aload_n 0, 1) := by decide +kernel
theorem dX8_term_11 : decode cX8_term 11 = .ok (.bipush 42, 2) := by decide +kernel
theorem dX8_term_13 : decode cX8_term 13 = .ok (.invokevirtual 260, 3) := by decide +kernel
theorem dX8_term_16 : decode cX8_term 16 = .ok (.ifCond .ne 12, 3) := by decide +kernel
theorem dX8_term_19 : decode cX8_term 19 = .ok (.aload_n 0, 1) := by decide +kernel
theorem dX8_term_20 : decode cX8_term 20 = .ok (.bipush 47, 2) := by decide +kernel
theorem dX8_term_22 : decode cX8_term 22 = .ok (.invokevirtual 260, 3) := by decide +kernel
theorem dX8_term_25 : decode cX8_term 25 = .ok (.ifCond .eq 31, 3) := by decide +kernel
theorem dX8_term_28 : decode cX8_term 28 = .ok (.aload_n 0, 1) := by decide +kernel
theorem dX8_term_29 : decode cX8_term 29 = .ok (.getfield 238, 3) := by decide +kernel
theorem dX8_term_32 : decode cX8_term 32 = .ok (.istore_n 2, 1) := by decide +kernel
theorem dX8_term_33 : decode cX8_term 33 = .ok (.aload_n 0, 1) := by decide +kernel
theorem dX8_term_34 : decode cX8_term 34 = .ok (.invokevirtual 263, 3) := by decide +kernel
theorem dX8_term_37 : decode cX8_term 37 = .ok (.aload_n 0, 1) := by decide +kernel
theorem dX8_term_38 : decode cX8_term 38 = .ok (.iload_n 1, 1) := by decide +kernel
theorem dX8_term_39 : decode cX8_term 39 = .ok (.invokevirtual 279, 3) := by decide +kernel
theorem dX8_term_42 : decode cX8_term 42 = .ok (.ifCond .ne 5, 3) := by decide +kernel
theorem dX8_term_45 : decode cX8_term 45 = .ok (.iconst 0, 1) := by decide +kernel
theorem dX8_term_46 : decode cX8_term 46 = .ok (.ireturn, 1) := by decide +kernel
theorem dX8_term_47 : decode cX8_term 47 = .ok (.aload_n 0, 1) := by decide +kernel
theorem dX8_term_48 : decode cX8_term 48 = .ok (.iconst 2, 1) := by decide +kernel
theorem dX8_term_49 : decode cX8_term 49 = .ok (.iload_n 2, 1) := by decide +kernel
theorem dX8_term_50 : decode cX8_term 50 = .ok (.invokevirtual 266, 3) := by decide +kernel
theorem dX8_term_53 : decode cX8_term 53 = .ok (.goto (-43), 3) := by decide +kernel
theorem dX8_term_56 : decode cX8_term 56 = .ok (.iconst 1, 1) := by decide +kernel
theorem dX8_term_57 : decode cX8_term 57 = .ok (.ireturn, 1) := by decide +kernel
theorem dX8_part0_0 : decode cX8_part0 0 = .ok (.aload_n 0, 1) := by decide +kernel
theorem dX8_part0_1 : decode cX8_part0 1 = .ok (.getfield 229, 3) := by decide +kernel
theorem dX8_part0_4 : decode cX8_part0 4 = .ok (.iconst 2, 1) := by decide +kernel
theorem dX8_part0_5 : decode cX8_part0 5 = .ok (.if_icmp .ne 28, 3) := by decide +kernel
theorem dX8_part0_8 : decode cX8_part0 8 = .ok (.aload_n 0, 1) := by decide +kernel
theorem dX8_part0_9 : decode cX8_part0 9 = .ok (.iconst 0, 1) := by decide +kernel
theorem dX8_part0_10 : decode cX8_part0 10 = .ok (.aload_n 0, 1) := by decide +kernel
theorem dX8_part0_11 : decode cX8_part0 11 = .ok (.getfield 244, 3) := by decide +kernel
theorem dX8_part0_14 : decode cX8_part0 14 = .ok (.invokevirtual 266, 3) := by decide +kernel
theorem dX8_part0_17 : decode cX8_part0 17 = .ok (.aload_n 0, 1) := by decide +kernel
theorem dX8_part0_18 : decode cX8_part0 18 = .ok (.dup, 1) := by decide +kernel
theorem dX8_part0_19 : decode cX8_part0 19 = .ok (.getfield 282, 3) := by decide +kernel
theorem dX8_part0_22 : decode cX8_part0 22 = .ok (.iconst 1, 1) := by decide +kernel
theorem dX8_part0_23 : decode cX8_part0 23 = .ok (.iadd, 1) := by decide +kernel
theorem dX8_part0_24 : decode cX8_part0 24 = .ok (.putfield 282, 3) := by decide +kernel
theorem dX8_part0_27 : decode cX8_part0 27 = .ok (.aload_n 0, 1) := by decide +kernel
theorem dX8_part0_28 : decode cX8_part0 28 = .ok (.invokevirtual 263, 3) := by decide +kernel
theorem dX8_part0_31 : decode cX8_part0 31 = .ok (.iconst 1, 1) := by decide +kernel
theorem dX8_part0_32 : decode cX8_part0 32 = .ok (.ireturn, 1) := by decide +kernel
theorem dX8_part0_33 : decode cX8_part0 33 = .ok (.aload_n 0, 1) := by decide +kernel
theorem dX8_part0_34 : decode cX8_part0 34 = .ok (.getfield 229, 3) := by decide +kernel
theorem dX8_part0_37 : decode cX8_part0 37 = .ok (.iconst 1, 1) := by decide +kernel
theorem dX8_part0_38 : decode cX8_part0 38 = .ok (.if_icmp .ne 46, 3) := by decide +kernel
theorem dX8_part0_41 : decode cX8_part0 41 = .ok (.aload_n 0, 1) := by decide +kernel
theorem dX8_part0_42 : decode cX8_part0 42 = .ok (.getfield 238, 3) := by decide +kernel
theorem dX8_part0_45 : decode cX8_part0 45 = .ok (.ifCond .eq 39, 3) := by decide +kernel
theorem dX8_part0_48 : decode cX8_part0 48 = .ok (.iload_n 1, 1) := by decide +kernel
theorem dX8_part0_49 : decode cX8_part0 49 = .ok (.aload_n 0, 1) := by decide +kernel
theorem dX8_part0_50 : decode cX8_part0 50 = .ok (.getfield 238, 3) := by decide +kernel
theorem dX8_part0_53 : decode cX8_part0 53 = .ok (.invokestatic 285, 3) := by decide +kernel
theorem dX8_part0_56 : decode cX8_part0 56 = .ok (.ifCond .eq 28, 3) := by decide +kernel
theorem dX8_part0_59 : decode cX8_part0 59 = .ok (.aload_n 0, 1) := by decide +kernel
theorem dX8_part0_60 : decode cX8_part0 60 = .ok (.iconst 1, 1) := by decide +kernel
theorem dX8_part0_61 : decode cX8_part0 61 = .ok (.aload_n 0, 1) := by decide +kernel
theorem dX8_part0_62 : decode cX8_part0 62 = .ok (.getfield 238, 3) := by decide +kernel
theorem dX8_part0_65 : decode cX8_part0 65 = .ok (.invokevirtual 266, 3) := by decide +kernel
theorem dX8_part0_68 : decode cX8_part0 68 = .ok (.aload_n 0, 1) := by decide +kernel
theorem dX8_part0_69 : decode cX8_part0 69 = .ok (.dup, 1) := by decide +kernel
theorem dX8_part0_70 : decode cX8_part0 70 = .ok (.getfield 282, 3) := by decide +kernel
theorem dX8_part0_73 : decode cX8_part0 73 = .ok (.iconst 1, 1) := by decide +kernel
theorem dX8_part0_74 : decode cX8_part0 74 = .ok (.iadd, 1) := by decide +kernel
theorem dX8_part0_75 : decode cX8_part0 75 = .ok (.putfield 282, 3) := by decide +kernel
theorem dX8_part0_78 : decode cX8_part0 78 = .ok (.aload_n 0, 1) := by decide +kernel
theorem dX8_part0_79 : decode cX8_part0 79 = .ok (.invokevirtual 263, 3) := by decide +kernel
theorem dX8_part0_82 : decode cX8_part0 82 = .ok (.iconst 1, 1) := by decide +kernel
theorem dX8_part0_83 : decode cX8_part0 83 = .ok (.ireturn, 1) := by decide +kernel
theorem dX8_part0_84 : decode cX8_part0 84 = .ok (.aload_n 0, 1) := by decide +kernel
theorem dX8_part0_85 : decode cX8_part0 85 = .ok (.bipush 33, 2) := by decide +kernel
theorem dX8_part0_87 : decode cX8_part0 87 = .ok (.invokevirtual 260, 3) := by decide +kernel
theorem dX8_part0_90 : decode cX8_part0 90 = .ok (.ifCond .eq 55, 3) := by decide +kernel
theorem dX8_part0_93 : decode cX8_part0 93 = .ok (.aload_n 0, 1) := by decide +kernel
theorem dX8_part0_94 : decode cX8_part0 94 = .ok (.getfield 288, 3) := by decide +kernel
theorem dX8_part0_97 : decode cX8_part0 97 = .ok (.bipush 8, 2) := by decide +kernel
theorem dX8_part0_99 : decode cX8_part0 99 = .ok (.if_icmp .ge 46, 3) := by decide +kernel
theorem dX8_part0_102 : decode cX8_part0 102 = .ok (.aload_n 0, 1) := by decide +kernel
theorem dX8_part0_103 : decode cX8_part0 103 = .ok (.dup, 1) := by decide +kernel
theorem dX8_part0_104 : decode cX8_part0 104 = .ok (.getfield 288, 3) := by decide +kernel
theorem dX8_part0_107 : decode cX8_part0 107 = .ok (.iconst 1, 1) := by decide +kernel
theorem dX8_part0_108 : decode cX8_part0 108 = .ok (.iadd, 1) := by decide +kernel
theorem dX8_part0_109 : decode cX8_part0 109 = .ok (.putfield 288, 3) := by decide +kernel
theorem dX8_part0_112 : decode cX8_part0 112 = .ok (.aload_n 0, 1) := by decide +kernel
theorem dX8_part0_113 : decode cX8_part0 113 = .ok (.invokevirtual 263, 3) := by decide +kernel
theorem dX8_part0_116 : decode cX8_part0 116 = .ok (.aload_n 0, 1) := by decide +kernel
theorem dX8_part0_117 : decode cX8_part0 117 = .ok (.iload_n 1, 1) := by decide +kernel
theorem dX8_part0_118 : decode cX8_part0 118 = .ok (.invokevirtual 279, 3) := by decide +kernel
theorem dX8_part0_121 : decode cX8_part0 121 = .ok (.ifCond .ne 5, 3) := by decide +kernel
theorem dX8_part0_124 : decode cX8_part0 124 = .ok (.iconst 0, 1) := by decide +kernel
theorem dX8_part0_125 : decode cX8_part0 125 = .ok (.ireturn, 1) := by decide +kernel
theorem dX8_part0_126 : decode cX8_part0 126 = .ok (.aload_n 0, 1) := by decide +kernel
theorem dX8_part0_127 : decode cX8_part0 127 = .ok (.dup, 1) := by decide +kernel
theorem dX8_part0_128 : decode cX8_part0 128 = .ok (.getfield 288, 3) := by decide +kernel
theorem dX8_part0_131 : decode cX8_part0 131 = .ok (.iconst 1, 1) := by decide +kernel
theorem dX8_part0_132 : decode cX8_part0 132 = .ok (.isub, 1) := by decide +kernel
theorem dX8_part0_133 : decode cX8_part0 133 = .ok (.putfield 288, 3) := by decide +kernel
theorem dX8_part0_136 : decode cX8_part0 136 = .ok (.aload_n 0, 1) := by decide +kernel
theorem dX8_part0_137 : decode cX8_part0 137 = .ok (.iconst 2, 1) := by decide +kernel
theorem dX8_part0_138 : decode cX8_part0 138 = .ok (.bipush 33, 2) := by decide +kernel
theorem dX8_part0_140 : decode cX8_part0 140 = .ok (.invokevirtual 266, 3) := by decide +kernel
theorem dX8_part0_143 : decode cX8_part0 143 = .ok (.iconst 1, 1) := by decide +kernel
theorem dX8_part0_144 : decode cX8_part0 144 = .ok (.ireturn, 1) := by decide +kernel
theorem dX8_part0_145 : decode cX8_part0 145 = .ok (.aload_n 0, 1) := by decide +kernel
theorem dX8_part0_146 : decode cX8_part0 146 = .ok (.bipush 40, 2) := by decide +kernel
theorem dX8_part0_148 : decode cX8_part0 148 = .ok (.invokevirtual 260, 3) := by decide +kernel
theorem dX8_part0_151 : decode cX8_part0 151 = .ok (.ifCond .eq 12, 3) := by decide +kernel
theorem dX8_part0_154 : decode cX8_part0 154 = .ok (.aload_n 0, 1) := by decide +kernel
theorem dX8_part0_155 : decode cX8_part0 155 = .ok (.getfield 291, 3) := by decide +kernel
theorem dX8_part0_158 : decode cX8_part0 158 = .ok (.bipush 8, 2) := by decide +kernel
theorem dX8_part0_160 : decode cX8_part0 160 = .ok (.if_icmp .ne 5, 3) := by decide +kernel
theorem dX8_part0_163 : decode cX8_part0 163 = .ok (.iconst 0, 1) := by decide +kernel
theorem dX8_part0_164 : decode cX8_part0 164 = .ok (.ireturn, 1) := by decide +kernel
theorem dX8_part0_165 : decode cX8_part0 165 = .ok (.aload_n 0, 1) := by decide +kernel
theorem dX8_part0_166 : decode cX8_part0 166 = .ok (.dup, 1) := by decide +kernel
theorem dX8_part0_167 : decode cX8_part0 167 = .ok (.getfield 291, 3) := by decide +kernel
theorem dX8_part0_170 : decode cX8_part0 170 = .ok (.iconst 1, 1) := by decide +kernel
theorem dX8_part0_171 : decode cX8_part0 171 = .ok (.iadd, 1) := by decide +kernel
theorem dX8_part0_172 : decode cX8_part0 172 = .ok (.putfield 291, 3) := by decide +kernel
theorem dX8_part0_175 : decode cX8_part0 175 = .ok (.aload_n 0, 1) := by decide +kernel
theorem dX8_part0_176 : decode cX8_part0 176 = .ok (.invokevirtual 263, 3) := by decide +kernel
theorem dX8_part0_179 : decode cX8_part0 179 = .ok (.aload_n 0, 1) := by decide +kernel
theorem dX8_part0_180 : decode cX8_part0 180 = .ok (.iload_n 1, 1) := by decide +kernel
theorem dX8_part0_181 : decode cX8_part0 181 = .ok (.invokevirtual 294, 3) := by decide +kernel
theorem dX8_part0_184 : decode cX8_part0 184 = .ok (.ifCond .eq 12, 3) := by decide +kernel
theorem dX8_part0_187 : decode cX8_part0 187 = .ok (.aload_n 0, 1) := by decide +kernel
theorem dX8_part0_188 : decode cX8_part0 188 = .ok (.bipush 41, 2) := by decide +kernel
theorem dX8_part0_190 : decode cX8_part0 190 = .ok (.invokevirtual 260, 3) := by decide +kernel
theorem dX8_part0_193 : decode cX8_part0 193 = .ok (.ifCond .ne 5, 3) := by decide +kernel
theorem dX8_part0_196 : decode cX8_part0 196 = .ok (.iconst 0, 1) := by decide +kernel
theorem dX8_part0_197 : decode cX8_part0 197 = .ok (.ireturn, 1) := by decide +kernel
theorem dX8_part0_198 : decode cX8_part0 198 = .ok (.aload_n 0, 1) := by decide +kernel
theorem dX8_part0_199 : decode cX8_part0 199 = .ok (.dup, 1) := by decide +kernel
theorem dX8_part0_200 : decode cX8_part0 200 = .ok (.getfield 291, 3) := by decide +kernel
theorem dX8_part0_203 : decode cX8_part0 203 = .ok (.iconst 1, 1) := by decide +kernel
theorem dX8_part0_204 : decode cX8_part0 204 = .ok (.isub, 1) := by decide +kernel
theorem dX8_part0_205 : decode cX8_part0 205 = .ok (.putfield 291, 3) := by decide +kernel
theorem dX8_part0_208 : decode cX8_part0 208 = .ok (.aload_n 0, 1) := by decide +kernel
theorem dX8_part0_209 : decode cX8_part0 209 = .ok (.invokevirtual 263, 3) := by decide +kernel
theorem dX8_part0_212 : decode cX8_part0 212 = .ok (.iconst 1, 1) := by decide +kernel
theorem dX8_part0_213 : decode cX8_part0 213 = .ok (.ireturn, 1) := by decide +kernel
theorem dX8_parse_0 : decode cX8_parse 0 = .ok (.aload_n 0, 1) := by decide +kernel
theorem dX8_parse_1 : decode cX8_parse 1 = .ok (.iconst 0, 1) := by decide +kernel
theorem dX8_parse_2 : decode cX8_parse 2 = .ok (.putfield 226, 3) := by decide +kernel
theorem dX8_parse_5 : decode cX8_parse 5 = .ok (.aload_n 0, 1) := by decide +kernel
theorem dX8_parse_6 : decode cX8_parse 6 = .ok (.iconst 3, 1) := by decide +kernel
theorem dX8_parse_7 : decode cX8_parse 7 = .ok (.putfield 229, 3) := by decide +kernel
theorem dX8_parse_10 : decode cX8_parse 10 = .ok (.aload_n 0, 1) := by decide +kernel
theorem dX8_parse_11 : decode cX8_parse 11 = .ok (.iconst 0, 1) := by decide +kernel
theorem dX8_parse_12 : decode cX8_parse 12 = .ok (.putfield 291, 3) := by decide +kernel
theorem dX8_parse_15 : decode cX8_parse 15 = .ok (.aload_n 0, 1) := by decide +kernel
theorem dX8_parse_16 : decode cX8_parse 16 = .ok (.iconst 0, 1) := by decide +kernel
theorem dX8_parse_17 : decode cX8_parse 17 = .ok (.putfield 288, 3) := by decide +kernel
theorem dX8_parse_20 : decode cX8_parse 20 = .ok (.aload_n 0, 1) := by decide +kernel
theorem dX8_parse_21 : decode cX8_parse 21 = .ok (.iconst 0, 1) := by decide +kernel
theorem dX8_parse_22 : decode cX8_parse 22 = .ok (.putfield 254, 3) := by decide +kernel
theorem dX8_parse_25 : decode cX8_parse 25 = .ok (.aload_n 0, 1) := by decide +kernel
theorem dX8_parse_26 : decode cX8_parse 26 = .ok (.iconst 0, 1) := by decide +kernel
theorem dX8_parse_27 : decode cX8_parse 27 = .ok (.putfield 282, 3) := by decide +kernel
theorem dX8_parse_30 : decode cX8_parse 30 = .ok (.aload_n 0, 1) := by decide +kernel
theorem dX8_parse_31 : decode cX8_parse 31 = .ok (.aload_n 0, 1) := by decide +kernel
theorem dX8_parse_32 : decode cX8_parse 32 = .ok (.getfield 7, 3) := by decide +kernel
theorem dX8_parse_35 : decode cX8_parse 35 = .ok (.iconst 1, 1) := by decide +kernel
theorem dX8_parse_36 : decode cX8_parse 36 = .ok (.iaload, 1) := by decide +kernel
theorem dX8_parse_37 : decode cX8_parse 37 = .ok (.bipush 14, 2) := by decide +kernel
theorem dX8_parse_39 : decode cX8_parse 39 = .ok (.if_icmp .ge 18, 3) := by decide +kernel
theorem dX8_parse_42 : decode cX8_parse 42 = .ok (.aload_n 0, 1) := by decide +kernel
theorem dX8_parse_43 : decode cX8_parse 43 = .ok (.aload_n 0, 1) := by decide +kernel
theorem dX8_parse_44 : decode cX8_parse 44 = .ok (.getfield 7, 3) := by decide +kernel
theorem dX8_parse_47 : decode cX8_parse 47 = .ok (.iconst 1, 1) := by decide +kernel
theorem dX8_parse_48 : decode cX8_parse 48 = .ok (.iaload, 1) := by decide +kernel
theorem dX8_parse_49 : decode cX8_parse 49 = .ok (.invokevirtual 297, 3) := by decide +kernel
theorem dX8_parse_52 : decode cX8_parse 52 = .ok (.iconst 4, 1) := by decide +kernel
theorem dX8_parse_53 : decode cX8_parse 53 = .ok (.iadd, 1) := by decide +kernel
theorem dX8_parse_54 : decode cX8_parse 54 = .ok (.goto 6, 3) := by decide +kernel
theorem dX8_parse_57 : decode cX8_parse 57 = .ok (.sipush 2851, 3) := by decide +kernel
theorem dX8_parse_60 : decode cX8_parse 60 = .ok (.putfield 251, 3) := by decide +kernel
theorem dX8_parse_63 : decode cX8_parse 63 = .ok (.aload_n 0, 1) := by decide +kernel
theorem dX8_parse_64 : decode cX8_parse 64 = .ok (.invokevirtual 263, 3) := by decide +kernel
theorem dX8_parse_67 : decode cX8_parse 67 = .ok (.aload_n 0, 1) := by decide +kernel
theorem dX8_parse_68 : decode cX8_parse 68 = .ok (.invokevirtual 300, 3) := by decide +kernel
theorem dX8_parse_71 : decode cX8_parse 71 = .ok (.istore_n 1, 1) := by decide +kernel
theorem dX8_parse_72 : decode cX8_parse 72 = .ok (.iload_n 1, 1) := by decide +kernel
theorem dX8_parse_73 : decode cX8_parse 73 = .ok (.ifCond .lt 7, 3) := by decide +kernel
theorem dX8_parse_76 : decode cX8_parse 76 = .ok (.iconst 1, 1) := by decide +kernel
theorem dX8_parse_77 : decode cX8_parse 77 = .ok (.goto 4, 3) := by decide +kernel
theorem dX8_parse_80 : decode cX8_parse 80 = .ok (.iconst 0, 1) := by decide +kernel
theorem dX8_parse_81 : decode cX8_parse 81 = .ok (.istore_n 2, 1) := by decide +kernel
theorem dX8_parse_82 : decode cX8_parse 82 = .ok (.iload_n 2, 1) := by decide +kernel
theorem dX8_parse_83 : decode cX8_parse 83 = .ok (.ifCond .eq 28, 3) := by decide +kernel
theorem dX8_parse_86 : decode cX8_parse 86 = .ok (.aload_n 0, 1) := by decide +kernel
theorem dX8_parse_87 : decode cX8_parse 87 = .ok (.invokevirtual 263, 3) := by decide +kernel
theorem dX8_parse_90 : decode cX8_parse 90 = .ok (.aload_n 0, 1) := by decide +kernel
theorem dX8_parse_91 : decode cX8_parse 91 = .ok (.iload_n 1, 1) := by decide +kernel
theorem dX8_parse_92 : decode cX8_parse 92 = .ok (.invokevirtual 294, 3) := by decide +kernel
theorem dX8_parse_95 : decode cX8_parse 95 = .ok (.ifCond .eq 14, 3) := by decide +kernel
theorem dX8_parse_98 : decode cX8_parse 98 = .ok (.aload_n 0, 1) := by decide +kernel
theorem dX8_parse_99 : decode cX8_parse 99 = .ok (.getfield 229, 3) := by decide +kernel
theorem dX8_parse_102 : decode cX8_parse 102 = .ok (.ifCond .ne 7, 3) := by decide +kernel
theorem dX8_parse_105 : decode cX8_parse 105 = .ok (.iconst 1, 1) := by decide +kernel
theorem dX8_parse_106 : decode cX8_parse 106 = .ok (.goto 4, 3) := by decide +kernel
theorem dX8_parse_109 : decode cX8_parse 109 = .ok (.iconst 0, 1) := by decide +kernel
theorem dX8_parse_110 : decode cX8_parse 110 = .ok (.istore_n 2, 1) := by decide +kernel
theorem dX8_parse_111 : decode cX8_parse 111 = .ok (.aload_n 0, 1) := by decide +kernel
theorem dX8_parse_112 : decode cX8_parse 112 = .ok (.iconst 0, 1) := by decide +kernel
theorem dX8_parse_113 : decode cX8_parse 113 = .ok (.putfield 214, 3) := by decide +kernel
theorem dX8_parse_116 : decode cX8_parse 116 = .ok (.iload_n 2, 1) := by decide +kernel
theorem dX8_parse_117 : decode cX8_parse 117 = .ok (.ifCond .eq 7, 3) := by decide +kernel
theorem dX8_parse_120 : decode cX8_parse 120 = .ok (.iload_n 1, 1) := by decide +kernel
theorem dX8_parse_121 : decode cX8_parse 121 = .ok (.goto 4, 3) := by decide +kernel
theorem dX8_parse_124 : decode cX8_parse 124 = .ok (.iconst (-1), 1) := by decide +kernel
theorem dX8_parse_125 : decode cX8_parse 125 = .ok (.ireturn, 1) := by decide +kernel
theorem dX8_text_0 : decode cX8_text 0 = .ok (.aload_n 0, 1) := by decide +kernel
theorem dX8_text_1 : decode cX8_text 1 = .ok (.invokevirtual 303, 3) := by decide +kernel
theorem dX8_text_4 : decode cX8_text 4 = .ok (.istore_n 1, 1) := by decide +kernel
theorem dX8_text_5 : decode cX8_text 5 = .ok (.iload_n 1, 1) := by decide +kernel
theorem dX8_text_6 : decode cX8_text 6 = .ok (.ifCond .ge 11, 3) := by decide +kernel
theorem dX8_text_9 : decode cX8_text 9 = .ok (.bipush (-100), 2) := by decide +kernel
theorem dX8_text_11 : decode cX8_text 11 = .ok (.aload_n 0, 1) := by decide +kernel
theorem dX8_text_12 : decode cX8_text 12 = .ok (.getfield 232, 3) := by decide +kernel
theorem dX8_text_15 : decode cX8_text 15 = .ok (.isub, 1) := by decide +kernel
theorem dX8_text_16 : decode cX8_text 16 = .ok (.ireturn, 1) := by decide +kernel
theorem dX8_text_17 : decode cX8_text 17 = .ok (.aload_n 0, 1) := by decide +kernel
theorem dX8_text_18 : decode cX8_text 18 = .ok (.getfield 7, 3) := by decide +kernel
theorem dX8_text_21 : decode cX8_text 21 = .ok (.iconst 1, 1) := by decide +kernel
theorem dX8_text_22 : decode cX8_text 22 = .ok (.iaload, 1) := by decide +kernel
theorem dX8_text_23 : decode cX8_text 23 = .ok (.bipush 14, 2) := by decide +kernel
theorem dX8_text_25 : decode cX8_text 25 = .ok (.if_icmp .ne 6, 3) := by decide +kernel
theorem dX8_text_28 : decode cX8_text 28 = .ok (.ldc 113, 2) := by decide +kernel
theorem dX8_text_30 : decode cX8_text 30 = .ok (.ireturn, 1) := by decide +kernel
theorem dX8_text_31 : decode cX8_text 31 = .ok (.aload_n 0, 1) := by decide +kernel
theorem dX8_text_32 : decode cX8_text 32 = .ok (.aload_n 0, 1) := by decide +kernel
theorem dX8_text_33 : decode cX8_text 33 = .ok (.getfield 7, 3) := by decide +kernel
theorem dX8_text_36 : decode cX8_text 36 = .ok (.iconst 1, 1) := by decide +kernel
theorem dX8_text_37 : decode cX8_text 37 = .ok (.iaload, 1) := by decide +kernel
theorem dX8_text_38 : decode cX8_text 38 = .ok (.invokevirtual 297, 3) := by decide +kernel
theorem dX8_text_41 : decode cX8_text 41 = .ok (.istore_n 2, 1) := by decide +kernel
theorem dX8_text_42 : decode cX8_text 42 = .ok (.aload_n 0, 1) := by decide +kernel
theorem dX8_text_43 : decode cX8_text 43 = .ok (.getfield 7, 3) := by decide +kernel
theorem dX8_text_46 : decode cX8_text 46 = .ok (.iload_n 2, 1) := by decide +kernel
theorem dX8_text_47 : decode cX8_text 47 = .ok (.iconst 0, 1) := by decide +kernel
theorem dX8_text_48 : decode cX8_text 48 = .ok (.iadd, 1) := by decide +kernel
theorem dX8_text_49 : decode cX8_text 49 = .ok (.iload_n 1, 1) := by decide +kernel
theorem dX8_text_50 : decode cX8_text 50 = .ok (.iastore, 1) := by decide +kernel
theorem dX8_text_51 : decode cX8_text 51 = .ok (.aload_n 0, 1) := by decide +kernel
theorem dX8_text_52 : decode cX8_text 52 = .ok (.getfield 7, 3) := by decide +kernel
theorem dX8_text_55 : decode cX8_text 55 = .ok (.iload_n 2, 1) := by decide +kernel
theorem dX8_text_56 : decode cX8_text 56 = .ok (.iconst 1, 1) := by decide +kernel
theorem dX8_text_57 : decode cX8_text 57 = .ok (.iadd, 1) := by decide +kernel
theorem dX8_text_58 : decode cX8_text 58 = .ok (.aload_n 0, 1) := by decide +kernel
theorem dX8_text_59 : decode cX8_text 59 = .ok (.getfield 282, 3) := by decide +kernel
theorem dX8_text_62 : decode cX8_text 62 = .ok (.iastore, 1) := by decide +kernel
theorem dX8_text_63 : decode cX8_text 63 = .ok (.aload_n 0, 1) := by decide +kernel
theorem dX8_text_64 : decode cX8_text 64 = .ok (.getfield 7, 3) := by decide +kernel
theorem dX8_text_67 : decode cX8_text 67 = .ok (.iload_n 2, 1) := by decide +kernel
theorem dX8_text_68 : decode cX8_text 68 = .ok (.iconst 2, 1) := by decide +kernel
theorem dX8_text_69 : decode cX8_text 69 = .ok (.iadd, 1) := by decide +kernel
theorem dX8_text_70 : decode cX8_text 70 = .ok (.aload_n 0, 1) := by decide +kernel
theorem dX8_text_71 : decode cX8_text 71 = .ok (.getfield 254, 3) := by decide +kernel
theorem dX8_text_74 : decode cX8_text 74 = .ok (.iastore, 1) := by decide +kernel
theorem dX8_text_75 : decode cX8_text 75 = .ok (.aload_n 0, 1) := by decide +kernel
theorem dX8_text_76 : decode cX8_text 76 = .ok (.getfield 7, 3) := by decide +kernel
theorem dX8_text_79 : decode cX8_text 79 = .ok (.iconst 1, 1) := by decide +kernel
theorem dX8_text_80 : decode cX8_text 80 = .ok (.dup2, 1) := by decide +kernel
theorem dX8_text_81 : decode cX8_text 81 = .ok (.iaload, 1) := by decide +kernel
theorem dX8_text_82 : decode cX8_text 82 = .ok (.iconst 1, 1) := by decide +kernel
theorem dX8_text_83 : decode cX8_text 83 = .ok (.iadd, 1) := by decide +kernel
theorem dX8_text_84 : decode cX8_text 84 = .ok (.iastore, 1) := by decide +kernel
theorem dX8_text_85 : decode cX8_text 85 = .ok (.aload_n 0, 1) := by decide +kernel
theorem dX8_text_86 : decode cX8_text 86 = .ok (.getfield 7, 3) := by decide +kernel
theorem dX8_text_89 : decode cX8_text 89 = .ok (.iconst 1, 1) := by decide +kernel
theorem dX8_text_90 : decode cX8_text 90 = .ok (.iaload, 1) := by decide +kernel
theorem dX8_text_91 : decode cX8_text 91 = .ok (.iconst 1, 1) := by decide +kernel
theorem dX8_text_92 : decode cX8_text 92 = .ok (.isub, 1) := by decide +kernel
theorem dX8_text_93 : decode cX8_text 93 = .ok (.ireturn, 1) := by decide +kernel
theorem dX8_textTold_0 : decode cX8_textTold 0 = .ok (.aload_n 0, 1) := by decide +kernel
theorem dX8_textTold_1 : decode cX8_textTold 1 = .ok (.iload_n 1, 1) := by decide +kernel
theorem dX8_textTold_2 : decode cX8_textTold 2 = .ok (.invokevirtual 306, 3) := by decide +kernel
theorem dX8_textTold_5 : decode cX8_textTold 5 = .ok (.ifCond .eq 13, 3) := by decide +kernel
theorem dX8_textTold_8 : decode cX8_textTold 8 = .ok (.iload_n 2, 1) := by decide +kernel
theorem dX8_textTold_9 : decode cX8_textTold 9 = .ok (.i2l, 1) := by decide +kernel
theorem dX8_textTold_10 : decode cX8_textTold 10 = .ok (.lconst 0, 1) := by decide +kernel
theorem dX8_textTold_11 : decode cX8_textTold 11 = .ok (.lconst 1, 1) := by decide +kernel
theorem dX8_textTold_12 : decode cX8_textTold 12 = .ok (.invokestatic 68, 3) := by decide +kernel
theorem dX8_textTold_15 : decode cX8_textTold 15 = .ok (.ifCond .ne 6, 3) := by decide +kernel
theorem dX8_textTold_18 : decode cX8_textTold 18 = .ok (.ldc 108, 2) := by decide +kernel
theorem dX8_textTold_20 : decode cX8_textTold 20 = .ok (.ireturn, 1) := by decide +kernel
theorem dX8_textTold_21 : decode cX8_textTold 21 = .ok (.aload_n 0, 1) := by decide +kernel
theorem dX8_textTold_22 : decode cX8_textTold 22 = .ok (.getfield 7, 3) := by decide +kernel
theorem dX8_textTold_25 : decode cX8_textTold 25 = .ok (.aload_n 0, 1) := by decide +kernel
theorem dX8_textTold_26 : decode cX8_textTold 26 = .ok (.iload_n 1, 1) := by decide +kernel
theorem dX8_textTold_27 : decode cX8_textTold 27 = .ok (.invokevirtual 297, 3) := by decide +kernel
theorem dX8_textTold_30 : decode cX8_textTold 30 = .ok (.iload_n 2, 1) := by decide +kernel
theorem dX8_textTold_31 : decode cX8_textTold 31 = .ok (.iadd, 1) := by decide +kernel
theorem dX8_textTold_32 : decode cX8_textTold 32 = .ok (.iaload, 1) := by decide +kernel
theorem dX8_textTold_33 : decode cX8_textTold 33 = .ok (.ireturn, 1) := by decide +kernel
theorem dX8_counts_0 : decode cX8_counts 0 = .ok (.iconst (-1), 1) := by decide +kernel
theorem dX8_counts_1 : decode cX8_counts 1 = .ok (.istore_n 2, 1) := by decide +kernel
theorem dX8_counts_2 : decode cX8_counts 2 = .ok (.iconst 0, 1) := by decide +kernel
theorem dX8_counts_3 : decode cX8_counts 3 = .ok (.istore_n 3, 1) := by decide +kernel
theorem dX8_counts_4 : decode cX8_counts 4 = .ok (.iload_n 3, 1) := by decide +kernel
theorem dX8_counts_5 : decode cX8_counts 5 = .ok (.aload_n 0, 1) := by decide +kernel
theorem dX8_counts_6 : decode cX8_counts 6 = .ok (.getfield 7, 3) := by decide +kernel
theorem dX8_counts_9 : decode cX8_counts 9 = .ok (.iconst 1, 1) := by decide +kernel
theorem dX8_counts_10 : decode cX8_counts 10 = .ok (.iaload, 1) := by decide +kernel
theorem dX8_counts_11 : decode cX8_counts 11 = .ok (.if_icmp .ge 29, 3) := by decide +kernel
theorem dX8_counts_14 : decode cX8_counts 14 = .ok (.aload_n 0, 1) := by decide +kernel
theorem dX8_counts_15 : decode cX8_counts 15 = .ok (.getfield 7, 3) := by decide +kernel
theorem dX8_counts_18 : decode cX8_counts 18 = .ok (.aload_n 0, 1) := by decide +kernel
theorem dX8_counts_19 : decode cX8_counts 19 = .ok (.iload_n 3, 1) := by decide +kernel
theorem dX8_counts_20 : decode cX8_counts 20 = .ok (.invokevirtual 297, 3) := by decide +kernel
theorem dX8_counts_23 : decode cX8_counts 23 = .ok (.iaload, 1) := by decide +kernel
theorem dX8_counts_24 : decode cX8_counts 24 = .ok (.iload_n 1, 1) := by decide +kernel
theorem dX8_counts_25 : decode cX8_counts 25 = .ok (.if_icmp .ne 7, 3) := by decide +kernel
theorem dX8_counts_28 : decode cX8_counts 28 = .ok (.iload_n 3, 1) := by decide +kernel
theorem dX8_counts_29 : decode cX8_counts 29 = .ok (.goto 4, 3) := by decide +kernel
theorem dX8_counts_32 : decode cX8_counts 32 = .ok (.iload_n 2, 1) := by decide +kernel
theorem dX8_counts_33 : decode cX8_counts 33 = .ok (.istore_n 2, 1) := by decide +kernel
theorem dX8_counts_34 : decode cX8_counts 34 = .ok (.iinc 3 1, 3) := by decide +kernel
theorem dX8_counts_37 : decode cX8_counts 37 = .ok (.goto (-33), 3) := by decide +kernel
theorem dX8_counts_40 : decode cX8_counts 40 = .ok (.iload_n 2, 1) := by decide +kernel
theorem dX8_counts_41 : decode cX8_counts 41 = .ok (.ireturn, 1) := by decide +kernel
theorem dX8_why_0 : decode cX8_why 0 = .ok (.iload_n 1, 1) := by decide +kernel
theorem dX8_why_1 : decode cX8_why 1 = .ok (.i2l, 1) := by decide +kernel
theorem dX8_why_2 : decode cX8_why 2 = .ok (.lconst 0, 1) := by decide +kernel
theorem dX8_why_3 : decode cX8_why 3 = .ok (.ldc2_w 170, 3) := by decide +kernel
theorem dX8_why_6 : decode cX8_why 6 = .ok (.invokestatic 68, 3) := by decide +kernel
theorem dX8_why_9 : decode cX8_why 9 = .ok (.ifCond .eq 14, 3) := by decide +kernel
theorem dX8_why_12 : decode cX8_why 12 = .ok (.aload_n 0, 1) := by decide +kernel
theorem dX8_why_13 : decode cX8_why 13 = .ok (.iload_n 1, 1) := by decide +kernel
theorem dX8_why_14 : decode cX8_why 14 = .ok (.invokevirtual 121, 3) := by decide +kernel
theorem dX8_why_17 : decode cX8_why 17 = .ok (.invokestatic 167, 3) := by decide +kernel
theorem dX8_why_20 : decode cX8_why 20 = .ok (.goto 5, 3) := by decide +kernel
theorem dX8_why_23 : decode cX8_why 23 = .ok (.ldc 108, 2) := by decide +kernel
theorem dX8_why_25 : decode cX8_why 25 = .ok (.ireturn, 1) := by decide +kernel
theorem dX8_joined_0 : decode cX8_joined 0 = .ok (.iload_n 0, 1) := by decide +kernel
theorem dX8_joined_1 : decode cX8_joined 1 = .ok (.tableswitch 196 38 62 #[182, 196, 196, 196, 123, 115, 196, 119, 196, 127, 196, 196, 196, 196, 196, 196, 196, 196, 196, 196, 196, 196, 149, 171, 160], 115) := by decide +kernel
theorem dX8_joined_116 : decode cX8_joined 116 = .ok (.iload_n 1, 1) := by decide +kernel
theorem dX8_joined_117 : decode cX8_joined 117 = .ok (.iload_n 2, 1) := by decide +kernel
theorem dX8_joined_118 : decode cX8_joined 118 = .ok (.iadd, 1) := by decide +kernel
theorem dX8_joined_119 : decode cX8_joined 119 = .ok (.ireturn, 1) := by decide +kernel
theorem dX8_joined_120 : decode cX8_joined 120 = .ok (.iload_n 1, 1) := by decide +kernel
theorem dX8_joined_121 : decode cX8_joined 121 = .ok (.iload_n 2, 1) := by decide +kernel
theorem dX8_joined_122 : decode cX8_joined 122 = .ok (.isub, 1) := by decide +kernel
theorem dX8_joined_123 : decode cX8_joined 123 = .ok (.ireturn, 1) := by decide +kernel
theorem dX8_joined_124 : decode cX8_joined 124 = .ok (.iload_n 1, 1) := by decide +kernel
theorem dX8_joined_125 : decode cX8_joined 125 = .ok (.iload_n 2, 1) := by decide +kernel
theorem dX8_joined_126 : decode cX8_joined 126 = .ok (.imul, 1) := by decide +kernel
theorem dX8_joined_127 : decode cX8_joined 127 = .ok (.ireturn, 1) := by decide +kernel
theorem dX8_joined_128 : decode cX8_joined 128 = .ok (.iload_n 2, 1) := by decide +kernel
theorem dX8_joined_129 : decode cX8_joined 129 = .ok (.ifCond .ne 7, 3) := by decide +kernel
theorem dX8_joined_132 : decode cX8_joined 132 = .ok (.iconst 0, 1) := by decide +kernel
theorem dX8_joined_133 : decode cX8_joined 133 = .ok (.goto 16, 3) := by decide +kernel
theorem dX8_joined_136 : decode cX8_joined 136 = .ok (.iload_n 2, 1) := by decide +kernel
theorem dX8_joined_137 : decode cX8_joined 137 = .ok (.iconst (-1), 1) := by decide +kernel
theorem dX8_joined_138 : decode cX8_joined 138 = .ok (.if_icmp .ne 8, 3) := by decide +kernel
theorem dX8_joined_141 : decode cX8_joined 141 = .ok (.iload_n 1, 1) := by decide +kernel
theorem dX8_joined_142 : decode cX8_joined 142 = .ok (.ineg, 1) := by decide +kernel
theorem dX8_joined_143 : decode cX8_joined 143 = .ok (.goto 6, 3) := by decide +kernel
theorem dX8_joined_146 : decode cX8_joined 146 = .ok (.iload_n 1, 1) := by decide +kernel
theorem dX8_joined_147 : decode cX8_joined 147 = .ok (.iload_n 2, 1) := by decide +kernel
theorem dX8_joined_148 : decode cX8_joined 148 = .ok (.idiv, 1) := by decide +kernel
theorem dX8_joined_149 : decode cX8_joined 149 = .ok (.ireturn, 1) := by decide +kernel
theorem dX8_joined_150 : decode cX8_joined 150 = .ok (.iload_n 1, 1) := by decide +kernel
theorem dX8_joined_151 : decode cX8_joined 151 = .ok (.iload_n 2, 1) := by decide +kernel
theorem dX8_joined_152 : decode cX8_joined 152 = .ok (.if_icmp .ge 7, 3) := by decide +kernel
theorem dX8_joined_155 : decode cX8_joined 155 = .ok (.iconst 1, 1) := by decide +kernel
theorem dX8_joined_156 : decode cX8_joined 156 = .ok (.goto 4, 3) := by decide +kernel
theorem dX8_joined_159 : decode cX8_joined 159 = .ok (.iconst 0, 1) := by decide +kernel
theorem dX8_joined_160 : decode cX8_joined 160 = .ok (.ireturn, 1) := by decide +kernel
theorem dX8_joined_161 : decode cX8_joined 161 = .ok (.iload_n 1, 1) := by decide +kernel
theorem dX8_joined_162 : decode cX8_joined 162 = .ok (.iload_n 2, 1) := by decide +kernel
theorem dX8_joined_163 : decode cX8_joined 163 = .ok (.if_icmp .le 7, 3) := by decide +kernel
theorem dX8_joined_166 : decode cX8_joined 166 = .ok (.iconst 1, 1) := by decide +kernel
theorem dX8_joined_167 : decode cX8_joined 167 = .ok (.goto 4, 3) := by decide +kernel
theorem dX8_joined_170 : decode cX8_joined 170 = .ok (.iconst 0, 1) := by decide +kernel
theorem dX8_joined_171 : decode cX8_joined 171 = .ok (.ireturn, 1) := by decide +kernel
theorem dX8_joined_172 : decode cX8_joined 172 = .ok (.iload_n 1, 1) := by decide +kernel
theorem dX8_joined_173 : decode cX8_joined 173 = .ok (.iload_n 2, 1) := by decide +kernel
theorem dX8_joined_174 : decode cX8_joined 174 = .ok (.if_icmp .ne 7, 3) := by decide +kernel
theorem dX8_joined_177 : decode cX8_joined 177 = .ok (.iconst 1, 1) := by decide +kernel
theorem dX8_joined_178 : decode cX8_joined 178 = .ok (.goto 4, 3) := by decide +kernel
theorem dX8_joined_181 : decode cX8_joined 181 = .ok (.iconst 0, 1) := by decide +kernel
theorem dX8_joined_182 : decode cX8_joined 182 = .ok (.ireturn, 1) := by decide +kernel
theorem dX8_joined_183 : decode cX8_joined 183 = .ok (.iload_n 1, 1) := by decide +kernel
theorem dX8_joined_184 : decode cX8_joined 184 = .ok (.ifCond .eq 11, 3) := by decide +kernel
theorem dX8_joined_187 : decode cX8_joined 187 = .ok (.iload_n 2, 1) := by decide +kernel
theorem dX8_joined_188 : decode cX8_joined 188 = .ok (.ifCond .eq 7, 3) := by decide +kernel
theorem dX8_joined_191 : decode cX8_joined 191 = .ok (.iconst 1, 1) := by decide +kernel
theorem dX8_joined_192 : decode cX8_joined 192 = .ok (.goto 4, 3) := by decide +kernel
theorem dX8_joined_195 : decode cX8_joined 195 = .ok (.iconst 0, 1) := by decide +kernel
theorem dX8_joined_196 : decode cX8_joined 196 = .ok (.ireturn, 1) := by decide +kernel
theorem dX8_joined_197 : decode cX8_joined 197 = .ok (.iload_n 1, 1) := by decide +kernel
theorem dX8_joined_198 : decode cX8_joined 198 = .ok (.ifCond .ne 7, 3) := by decide +kernel
theorem dX8_joined_201 : decode cX8_joined 201 = .ok (.iload_n 2, 1) := by decide +kernel
theorem dX8_joined_202 : decode cX8_joined 202 = .ok (.ifCond .eq 7, 3) := by decide +kernel
theorem dX8_joined_205 : decode cX8_joined 205 = .ok (.iconst 1, 1) := by decide +kernel
theorem dX8_joined_206 : decode cX8_joined 206 = .ok (.goto 4, 3) := by decide +kernel
theorem dX8_joined_209 : decode cX8_joined 209 = .ok (.iconst 0, 1) := by decide +kernel
theorem dX8_joined_210 : decode cX8_joined 210 = .ok (.ireturn, 1) := by decide +kernel
theorem dX8_worked_0 : decode cX8_worked 0 = .ok (.iconst 0, 1) := by decide +kernel
theorem dX8_worked_1 : decode cX8_worked 1 = .ok (.istore_n 2, 1) := by decide +kernel
theorem dX8_worked_2 : decode cX8_worked 2 = .ok (.iconst 0, 1) := by decide +kernel
theorem dX8_worked_3 : decode cX8_worked 3 = .ok (.istore_n 3, 1) := by decide +kernel
theorem dX8_worked_4 : decode cX8_worked 4 = .ok (.iload_n 3, 1) := by decide +kernel
theorem dX8_worked_5 : decode cX8_worked 5 = .ok (.aload_n 0, 1) := by decide +kernel
theorem dX8_worked_6 : decode cX8_worked 6 = .ok (.getfield 7, 3) := by decide +kernel
theorem dX8_worked_9 : decode cX8_worked 9 = .ok (.aload_n 0, 1) := by decide +kernel
theorem dX8_worked_10 : decode cX8_worked 10 = .ok (.iload_n 1, 1) := by decide +kernel
theorem dX8_worked_11 : decode cX8_worked 11 = .ok (.invokevirtual 297, 3) := by decide +kernel
theorem dX8_worked_14 : decode cX8_worked 14 = .ok (.iconst 2, 1) := by decide +kernel
theorem dX8_worked_15 : decode cX8_worked 15 = .ok (.iadd, 1) := by decide +kernel
theorem dX8_worked_16 : decode cX8_worked 16 = .ok (.iaload, 1) := by decide +kernel
theorem dX8_worked_17 : decode cX8_worked 17 = .ok (.if_icmp .ge 146, 3) := by decide +kernel
theorem dX8_worked_20 : decode cX8_worked 20 = .ok (.aload_n 0, 1) := by decide +kernel
theorem dX8_worked_21 : decode cX8_worked 21 = .ok (.getfield 7, 3) := by decide +kernel
theorem dX8_worked_24 : decode cX8_worked 24 = .ok (.aload_n 0, 1) := by decide +kernel
theorem dX8_worked_25 : decode cX8_worked 25 = .ok (.iload_n 1, 1) := by decide +kernel
theorem dX8_worked_26 : decode cX8_worked 26 = .ok (.invokevirtual 297, 3) := by decide +kernel
theorem dX8_worked_29 : decode cX8_worked 29 = .ok (.iconst 4, 1) := by decide +kernel
theorem dX8_worked_30 : decode cX8_worked 30 = .ok (.iadd, 1) := by decide +kernel
theorem dX8_worked_31 : decode cX8_worked 31 = .ok (.iconst 2, 1) := by decide +kernel
theorem dX8_worked_32 : decode cX8_worked 32 = .ok (.iload_n 3, 1) := by decide +kernel
theorem dX8_worked_33 : decode cX8_worked 33 = .ok (.imul, 1) := by decide +kernel
theorem dX8_worked_34 : decode cX8_worked 34 = .ok (.iadd, 1) := by decide +kernel
theorem dX8_worked_35 : decode cX8_worked 35 = .ok (.iaload, 1) := by decide +kernel
theorem dX8_worked_36 : decode cX8_worked 36 = .ok (.istore 4, 2) := by decide +kernel
theorem dX8_worked_38 : decode cX8_worked 38 = .ok (.aload_n 0, 1) := by decide +kernel
theorem dX8_worked_39 : decode cX8_worked 39 = .ok (.getfield 7, 3) := by decide +kernel
theorem dX8_worked_42 : decode cX8_worked 42 = .ok (.aload_n 0, 1) := by decide +kernel
theorem dX8_worked_43 : decode cX8_worked 43 = .ok (.iload_n 1, 1) := by decide +kernel
theorem dX8_worked_44 : decode cX8_worked 44 = .ok (.invokevirtual 297, 3) := by decide +kernel
theorem dX8_worked_47 : decode cX8_worked 47 = .ok (.iconst 4, 1) := by decide +kernel
theorem dX8_worked_48 : decode cX8_worked 48 = .ok (.iadd, 1) := by decide +kernel
theorem dX8_worked_49 : decode cX8_worked 49 = .ok (.iconst 2, 1) := by decide +kernel
theorem dX8_worked_50 : decode cX8_worked 50 = .ok (.iload_n 3, 1) := by decide +kernel
theorem dX8_worked_51 : decode cX8_worked 51 = .ok (.imul, 1) := by decide +kernel
theorem dX8_worked_52 : decode cX8_worked 52 = .ok (.iadd, 1) := by decide +kernel
theorem dX8_worked_53 : decode cX8_worked 53 = .ok (.iconst 1, 1) := by decide +kernel
theorem dX8_worked_54 : decode cX8_worked 54 = .ok (.iadd, 1) := by decide +kernel
theorem dX8_worked_55 : decode cX8_worked 55 = .ok (.iaload, 1) := by decide +kernel
theorem dX8_worked_56 : decode cX8_worked 56 = .ok (.istore 5, 2) := by decide +kernel
theorem dX8_worked_58 : decode cX8_worked 58 = .ok (.iload 4, 2) := by decide +kernel
theorem dX8_worked_60 : decode cX8_worked 60 = .ok (.iconst 2, 1) := by decide +kernel
theorem dX8_worked_61 : decode cX8_worked 61 = .ok (.if_icmp .eq 32, 3) := by decide +kernel
theorem dX8_worked_64 : decode cX8_worked 64 = .ok (.aload_n 0, 1) := by decide +kernel
theorem dX8_worked_65 : decode cX8_worked 65 = .ok (.getfield 55, 3) := by decide +kernel
theorem dX8_worked_68 : decode cX8_worked 68 = .ok (.iload_n 2, 1) := by decide +kernel
theorem dX8_worked_69 : decode cX8_worked 69 = .ok (.iload 4, 2) := by decide +kernel
theorem dX8_worked_71 : decode cX8_worked 71 = .ok (.ifCond .ne 8, 3) := by decide +kernel
theorem dX8_worked_74 : decode cX8_worked 74 = .ok (.iload 5, 2) := by decide +kernel
theorem dX8_worked_76 : decode cX8_worked 76 = .ok (.goto 10, 3) := by decide +kernel
theorem dX8_worked_79 : decode cX8_worked 79 = .ok (.aload_n 0, 1) := by decide +kernel
theorem dX8_worked_80 : decode cX8_worked 80 = .ok (.getfield 52, 3) := by decide +kernel
theorem dX8_worked_83 : decode cX8_worked 83 = .ok (.iload 5, 2) := by decide +kernel
theorem dX8_worked_85 : decode cX8_worked 85 = .ok (.iaload, 1) := by decide +kernel
theorem dX8_worked_86 : decode cX8_worked 86 = .ok (.iastore, 1) := by decide +kernel
theorem dX8_worked_87 : decode cX8_worked 87 = .ok (.iinc 2 1, 3) := by decide +kernel
theorem dX8_worked_90 : decode cX8_worked 90 = .ok (.goto 67, 3) := by decide +kernel
theorem dX8_worked_93 : decode cX8_worked 93 = .ok (.iload 5, 2) := by decide +kernel
theorem dX8_worked_95 : decode cX8_worked 95 = .ok (.bipush 33, 2) := by decide +kernel
theorem dX8_worked_97 : decode cX8_worked 97 = .ok (.if_icmp .ne 30, 3) := by decide +kernel
theorem dX8_worked_100 : decode cX8_worked 100 = .ok (.aload_n 0, 1) := by decide +kernel
theorem dX8_worked_101 : decode cX8_worked 101 = .ok (.getfield 55, 3) := by decide +kernel
theorem dX8_worked_104 : decode cX8_worked 104 = .ok (.iload_n 2, 1) := by decide +kernel
theorem dX8_worked_105 : decode cX8_worked 105 = .ok (.iconst 1, 1) := by decide +kernel
theorem dX8_worked_106 : decode cX8_worked 106 = .ok (.isub, 1) := by decide +kernel
theorem dX8_worked_107 : decode cX8_worked 107 = .ok (.aload_n 0, 1) := by decide +kernel
theorem dX8_worked_108 : decode cX8_worked 108 = .ok (.getfield 55, 3) := by decide +kernel
theorem dX8_worked_111 : decode cX8_worked 111 = .ok (.iload_n 2, 1) := by decide +kernel
theorem dX8_worked_112 : decode cX8_worked 112 = .ok (.iconst 1, 1) := by decide +kernel
theorem dX8_worked_113 : decode cX8_worked 113 = .ok (.isub, 1) := by decide +kernel
theorem dX8_worked_114 : decode cX8_worked 114 = .ok (.iaload, 1) := by decide +kernel
theorem dX8_worked_115 : decode cX8_worked 115 = .ok (.ifCond .ne 7, 3) := by decide +kernel
theorem dX8_worked_118 : decode cX8_worked 118 = .ok (.iconst 1, 1) := by decide +kernel
theorem dX8_worked_119 : decode cX8_worked 119 = .ok (.goto 4, 3) := by decide +kernel
theorem dX8_worked_122 : decode cX8_worked 122 = .ok (.iconst 0, 1) := by decide +kernel
theorem dX8_worked_123 : decode cX8_worked 123 = .ok (.iastore, 1) := by decide +kernel
theorem dX8_worked_124 : decode cX8_worked 124 = .ok (.goto 33, 3) := by decide +kernel
theorem dX8_worked_127 : decode cX8_worked 127 = .ok (.iinc 2 (-1), 3) := by decide +kernel
theorem dX8_worked_130 : decode cX8_worked 130 = .ok (.aload_n 0, 1) := by decide +kernel
theorem dX8_worked_131 : decode cX8_worked 131 = .ok (.getfield 55, 3) := by decide +kernel
theorem dX8_worked_134 : decode cX8_worked 134 = .ok (.iload_n 2, 1) := by decide +kernel
theorem dX8_worked_135 : decode cX8_worked 135 = .ok (.iconst 1, 1) := by decide +kernel
theorem dX8_worked_136 : decode cX8_worked 136 = .ok (.isub, 1) := by decide +kernel
theorem dX8_worked_137 : decode cX8_worked 137 = .ok (.iload 5, 2) := by decide +kernel
theorem dX8_worked_139 : decode cX8_worked 139 = .ok (.aload_n 0, 1) := by decide +kernel
theorem dX8_worked_140 : decode cX8_worked 140 = .ok (.getfield 55, 3) := by decide +kernel
theorem dX8_worked_143 : decode cX8_worked 143 = .ok (.iload_n 2, 1) := by decide +kernel
theorem dX8_worked_144 : decode cX8_worked 144 = .ok (.iconst 1, 1) := by decide +kernel
theorem dX8_worked_145 : decode cX8_worked 145 = .ok (.isub, 1) := by decide +kernel
theorem dX8_worked_146 : decode cX8_worked 146 = .ok (.iaload, 1) := by decide +kernel
theorem dX8_worked_147 : decode cX8_worked 147 = .ok (.aload_n 0, 1) := by decide +kernel
theorem dX8_worked_148 : decode cX8_worked 148 = .ok (.getfield 55, 3) := by decide +kernel
theorem dX8_worked_151 : decode cX8_worked 151 = .ok (.iload_n 2, 1) := by decide +kernel
theorem dX8_worked_152 : decode cX8_worked 152 = .ok (.iaload, 1) := by decide +kernel
theorem dX8_worked_153 : decode cX8_worked 153 = .ok (.invokestatic 309, 3) := by decide +kernel
theorem dX8_worked_156 : decode cX8_worked 156 = .ok (.iastore, 1) := by decide +kernel
theorem dX8_worked_157 : decode cX8_worked 157 = .ok (.iinc 3 1, 3) := by decide +kernel
theorem dX8_worked_160 : decode cX8_worked 160 = .ok (.goto (-156), 3) := by decide +kernel
theorem dX8_worked_163 : decode cX8_worked 163 = .ok (.aload_n 0, 1) := by decide +kernel
theorem dX8_worked_164 : decode cX8_worked 164 = .ok (.getfield 55, 3) := by decide +kernel
theorem dX8_worked_167 : decode cX8_worked 167 = .ok (.iconst 0, 1) := by decide +kernel
theorem dX8_worked_168 : decode cX8_worked 168 = .ok (.iaload, 1) := by decide +kernel
theorem dX8_worked_169 : decode cX8_worked 169 = .ok (.ireturn, 1) := by decide +kernel
theorem dX8_isSheet_0 : decode cX8_isSheet 0 = .ok (.iload_n 0, 1) := by decide +kernel
theorem dX8_isSheet_1 : decode cX8_isSheet 1 = .ok (.i2l, 1) := by decide +kernel
theorem dX8_isSheet_2 : decode cX8_isSheet 2 = .ok (.lconst 0, 1) := by decide +kernel
theorem dX8_isSheet_3 : decode cX8_isSheet 3 = .ok (.ldc2_w 312, 3) := by decide +kernel
theorem dX8_isSheet_6 : decode cX8_isSheet 6 = .ok (.invokestatic 68, 3) := by decide +kernel
theorem dX8_isSheet_9 : decode cX8_isSheet 9 = .ok (.ireturn, 1) := by decide +kernel
theorem dX8_sheet_0 : decode cX8_sheet 0 = .ok (.iload_n 1, 1) := by decide +kernel
theorem dX8_sheet_1 : decode cX8_sheet 1 = .ok (.invokestatic 314, 3) := by decide +kernel
theorem dX8_sheet_4 : decode cX8_sheet 4 = .ok (.ifCond .eq 25, 3) := by decide +kernel
theorem dX8_sheet_7 : decode cX8_sheet 7 = .ok (.iload_n 2, 1) := by decide +kernel
theorem dX8_sheet_8 : decode cX8_sheet 8 = .ok (.i2l, 1) := by decide +kernel
theorem dX8_sheet_9 : decode cX8_sheet 9 = .ok (.ldc2_w 95, 3) := by decide +kernel
theorem dX8_sheet_12 : decode cX8_sheet 12 = .ok (.lconst 1, 1) := by decide +kernel
theorem dX8_sheet_13 : decode cX8_sheet 13 = .ok (.invokestatic 68, 3) := by decide +kernel
theorem dX8_sheet_16 : decode cX8_sheet 16 = .ok (.ifCond .eq 13, 3) := by decide +kernel
theorem dX8_sheet_19 : decode cX8_sheet 19 = .ok (.iload_n 2, 1) := by decide +kernel
theorem dX8_sheet_20 : decode cX8_sheet 20 = .ok (.ifCond .lt 12, 3) := by decide +kernel
theorem dX8_sheet_23 : decode cX8_sheet 23 = .ok (.iload_n 3, 1) := by decide +kernel
theorem dX8_sheet_24 : decode cX8_sheet 24 = .ok (.bipush 24, 2) := by decide +kernel
theorem dX8_sheet_26 : decode cX8_sheet 26 = .ok (.if_icmp .le 6, 3) := by decide +kernel
theorem dX8_sheet_29 : decode cX8_sheet 29 = .ok (.ldc 108, 2) := by decide +kernel
theorem dX8_sheet_31 : decode cX8_sheet 31 = .ok (.ireturn, 1) := by decide +kernel
theorem dX8_sheet_32 : decode cX8_sheet 32 = .ok (.iload_n 2, 1) := by decide +kernel
theorem dX8_sheet_33 : decode cX8_sheet 33 = .ok (.ifCond .lt 11, 3) := by decide +kernel
theorem dX8_sheet_36 : decode cX8_sheet 36 = .ok (.iload_n 3, 1) := by decide +kernel
theorem dX8_sheet_37 : decode cX8_sheet 37 = .ok (.ifCond .ge 7, 3) := by decide +kernel
theorem dX8_sheet_40 : decode cX8_sheet 40 = .ok (.ldc_w 317, 3) := by decide +kernel
theorem dX8_sheet_43 : decode cX8_sheet 43 = .ok (.ireturn, 1) := by decide +kernel
theorem dX8_sheet_44 : decode cX8_sheet 44 = .ok (.aload_n 0, 1) := by decide +kernel
theorem dX8_sheet_45 : decode cX8_sheet 45 = .ok (.getfield 19, 3) := by decide +kernel
theorem dX8_sheet_48 : decode cX8_sheet 48 = .ok (.iload_n 1, 1) := by decide +kernel
theorem dX8_sheet_49 : decode cX8_sheet 49 = .ok (.iload_n 2, 1) := by decide +kernel
theorem dX8_sheet_50 : decode cX8_sheet 50 = .ok (.iastore, 1) := by decide +kernel
theorem dX8_sheet_51 : decode cX8_sheet 51 = .ok (.aload_n 0, 1) := by decide +kernel
theorem dX8_sheet_52 : decode cX8_sheet 52 = .ok (.getfield 22, 3) := by decide +kernel
theorem dX8_sheet_55 : decode cX8_sheet 55 = .ok (.iload_n 1, 1) := by decide +kernel
theorem dX8_sheet_56 : decode cX8_sheet 56 = .ok (.iload_n 2, 1) := by decide +kernel
theorem dX8_sheet_57 : decode cX8_sheet 57 = .ok (.ifCond .ge 7, 3) := by decide +kernel
theorem dX8_sheet_60 : decode cX8_sheet 60 = .ok (.iconst 0, 1) := by decide +kernel
theorem dX8_sheet_61 : decode cX8_sheet 61 = .ok (.goto 4, 3) := by decide +kernel
theorem dX8_sheet_64 : decode cX8_sheet 64 = .ok (.iload_n 3, 1) := by decide +kernel
theorem dX8_sheet_65 : decode cX8_sheet 65 = .ok (.iastore, 1) := by decide +kernel
theorem dX8_sheet_66 : decode cX8_sheet 66 = .ok (.iconst 0, 1) := by decide +kernel
theorem dX8_sheet_67 : decode cX8_sheet 67 = .ok (.istore 4, 2) := by decide +kernel
theorem dX8_sheet_69 : decode cX8_sheet 69 = .ok (.iload 4, 2) := by decide +kernel
theorem dX8_sheet_71 : decode cX8_sheet 71 = .ok (.bipush 24, 2) := by decide +kernel
theorem dX8_sheet_73 : decode cX8_sheet 73 = .ok (.if_icmp .ge 22, 3) := by decide +kernel
theorem dX8_sheet_76 : decode cX8_sheet 76 = .ok (.aload_n 0, 1) := by decide +kernel
theorem dX8_sheet_77 : decode cX8_sheet 77 = .ok (.getfield 25, 3) := by decide +kernel
theorem dX8_sheet_80 : decode cX8_sheet 80 = .ok (.bipush 24, 2) := by decide +kernel
theorem dX8_sheet_82 : decode cX8_sheet 82 = .ok (.iload_n 1, 1) := by decide +kernel
theorem dX8_sheet_83 : decode cX8_sheet 83 = .ok (.imul, 1) := by decide +kernel
theorem dX8_sheet_84 : decode cX8_sheet 84 = .ok (.iload 4, 2) := by decide +kernel
theorem dX8_sheet_86 : decode cX8_sheet 86 = .ok (.iadd, 1) := by decide +kernel
theorem dX8_sheet_87 : decode cX8_sheet 87 = .ok (.iconst 0, 1) := by decide +kernel
theorem dX8_sheet_88 : decode cX8_sheet 88 = .ok (.iastore, 1) := by decide +kernel
theorem dX8_sheet_89 : decode cX8_sheet 89 = .ok (.iinc 4 1, 3) := by decide +kernel
theorem dX8_sheet_92 : decode cX8_sheet 92 = .ok (.goto (-23), 3) := by decide +kernel
theorem dX8_sheet_95 : decode cX8_sheet 95 = .ok (.aload_n 0, 1) := by decide +kernel
theorem dX8_sheet_96 : decode cX8_sheet 96 = .ok (.getfield 22, 3) := by decide +kernel
theorem dX8_sheet_99 : decode cX8_sheet 99 = .ok (.iload_n 1, 1) := by decide +kernel
theorem dX8_sheet_100 : decode cX8_sheet 100 = .ok (.iaload, 1) := by decide +kernel
theorem dX8_sheet_101 : decode cX8_sheet 101 = .ok (.ireturn, 1) := by decide +kernel
theorem dX8_mark_0 : decode cX8_mark 0 = .ok (.iload_n 1, 1) := by decide +kernel
theorem dX8_mark_1 : decode cX8_mark 1 = .ok (.invokestatic 314, 3) := by decide +kernel
theorem dX8_mark_4 : decode cX8_mark 4 = .ok (.ifCond .ne 6, 3) := by decide +kernel
theorem dX8_mark_7 : decode cX8_mark 7 = .ok (.ldc 108, 2) := by decide +kernel
theorem dX8_mark_9 : decode cX8_mark 9 = .ok (.ireturn, 1) := by decide +kernel
theorem dX8_mark_10 : decode cX8_mark 10 = .ok (.aload_n 0, 1) := by decide +kernel
theorem dX8_mark_11 : decode cX8_mark 11 = .ok (.getfield 19, 3) := by decide +kernel
theorem dX8_mark_14 : decode cX8_mark 14 = .ok (.iload_n 1, 1) := by decide +kernel
theorem dX8_mark_15 : decode cX8_mark 15 = .ok (.iaload, 1) := by decide +kernel
theorem dX8_mark_16 : decode cX8_mark 16 = .ok (.ifCond .ge 7, 3) := by decide +kernel
theorem dX8_mark_19 : decode cX8_mark 19 = .ok (.ldc_w 318, 3) := by decide +kernel
theorem dX8_mark_22 : decode cX8_mark 22 = .ok (.ireturn, 1) := by decide +kernel
theorem dX8_mark_23 : decode cX8_mark 23 = .ok (.iload_n 2, 1) := by decide +kernel
theorem dX8_mark_24 : decode cX8_mark 24 = .ok (.i2l, 1) := by decide +kernel
theorem dX8_mark_25 : decode cX8_mark 25 = .ok (.lconst 0, 1) := by decide +kernel
theorem dX8_mark_26 : decode cX8_mark 26 = .ok (.aload_n 0, 1) := by decide +kernel
theorem dX8_mark_27 : decode cX8_mark 27 = .ok (.getfield 22, 3) := by decide +kernel
theorem dX8_mark_30 : decode cX8_mark 30 = .ok (.iload_n 1, 1) := by decide +kernel
theorem dX8_mark_31 : decode cX8_mark 31 = .ok (.iaload, 1) := by decide +kernel
theorem dX8_mark_32 : decode cX8_mark 32 = .ok (.iconst 1, 1) := by decide +kernel
theorem dX8_mark_33 : decode cX8_mark 33 = .ok (.isub, 1) := by decide +kernel
theorem dX8_mark_34 : decode cX8_mark 34 = .ok (.i2l, 1) := by decide +kernel
theorem dX8_mark_35 : decode cX8_mark 35 = .ok (.invokestatic 68, 3) := by decide +kernel
theorem dX8_mark_38 : decode cX8_mark 38 = .ok (.ifCond .ne 7, 3) := by decide +kernel
theorem dX8_mark_41 : decode cX8_mark 41 = .ok (.ldc_w 319, 3) := by decide +kernel
theorem dX8_mark_44 : decode cX8_mark 44 = .ok (.ireturn, 1) := by decide +kernel
theorem dX8_mark_45 : decode cX8_mark 45 = .ok (.aload_n 0, 1) := by decide +kernel
theorem dX8_mark_46 : decode cX8_mark 46 = .ok (.getfield 19, 3) := by decide +kernel
theorem dX8_mark_49 : decode cX8_mark 49 = .ok (.iload_n 1, 1) := by decide +kernel
theorem dX8_mark_50 : decode cX8_mark 50 = .ok (.iaload, 1) := by decide +kernel
theorem dX8_mark_51 : decode cX8_mark 51 = .ok (.ifCond .ne 12, 3) := by decide +kernel
theorem dX8_mark_54 : decode cX8_mark 54 = .ok (.iload_n 3, 1) := by decide +kernel
theorem dX8_mark_55 : decode cX8_mark 55 = .ok (.ldc 67, 2) := by decide +kernel
theorem dX8_mark_57 : decode cX8_mark 57 = .ok (.if_icmp .ne 6, 3) := by decide +kernel
theorem dX8_mark_60 : decode cX8_mark 60 = .ok (.ldc 163, 2) := by decide +kernel
theorem dX8_mark_62 : decode cX8_mark 62 = .ok (.ireturn, 1) := by decide +kernel
theorem dX8_mark_63 : decode cX8_mark 63 = .ok (.aload_n 0, 1) := by decide +kernel
theorem dX8_mark_64 : decode cX8_mark 64 = .ok (.getfield 19, 3) := by decide +kernel
theorem dX8_mark_67 : decode cX8_mark 67 = .ok (.iload_n 1, 1) := by decide +kernel
theorem dX8_mark_68 : decode cX8_mark 68 = .ok (.iaload, 1) := by decide +kernel
theorem dX8_mark_69 : decode cX8_mark 69 = .ok (.iconst 1, 1) := by decide +kernel
theorem dX8_mark_70 : decode cX8_mark 70 = .ok (.if_icmp .ne 26, 3) := by decide +kernel
theorem dX8_mark_73 : decode cX8_mark 73 = .ok (.iload_n 3, 1) := by decide +kernel
theorem dX8_mark_74 : decode cX8_mark 74 = .ok (.ldc 67, 2) := by decide +kernel
theorem dX8_mark_76 : decode cX8_mark 76 = .ok (.if_icmp .eq 20, 3) := by decide +kernel
theorem dX8_mark_79 : decode cX8_mark 79 = .ok (.iload_n 3, 1) := by decide +kernel
theorem dX8_mark_80 : decode cX8_mark 80 = .ok (.i2l, 1) := by decide +kernel
theorem dX8_mark_81 : decode cX8_mark 81 = .ok (.ldc2_w 320, 3) := by decide +kernel
theorem dX8_mark_84 : decode cX8_mark 84 = .ok (.ldc2_w 322, 3) := by decide +kernel
theorem dX8_mark_87 : decode cX8_mark 87 = .ok (.invokestatic 68, 3) := by decide +kernel
theorem dX8_mark_90 : decode cX8_mark 90 = .ok (.ifCond .ne 6, 3) := by decide +kernel
theorem dX8_mark_93 : decode cX8_mark 93 = .ok (.ldc 108, 2) := by decide +kernel
theorem dX8_mark_95 : decode cX8_mark 95 = .ok (.ireturn, 1) := by decide +kernel
theorem dX8_mark_96 : decode cX8_mark 96 = .ok (.aload_n 0, 1) := by decide +kernel
theorem dX8_mark_97 : decode cX8_mark 97 = .ok (.getfield 25, 3) := by decide +kernel
theorem dX8_mark_100 : decode cX8_mark 100 = .ok (.bipush 24, 2) := by decide +kernel
theorem dX8_mark_102 : decode cX8_mark 102 = .ok (.iload_n 1, 1) := by decide +kernel
theorem dX8_mark_103 : decode cX8_mark 103 = .ok (.imul, 1) := by decide +kernel
theorem dX8_mark_104 : decode cX8_mark 104 = .ok (.iload_n 2, 1) := by decide +kernel
theorem dX8_mark_105 : decode cX8_mark 105 = .ok (.iadd, 1) := by decide +kernel
theorem dX8_mark_106 : decode cX8_mark 106 = .ok (.aload_n 0, 1) := by decide +kernel
theorem dX8_mark_107 : decode cX8_mark 107 = .ok (.getfield 19, 3) := by decide +kernel
theorem dX8_mark_110 : decode cX8_mark 110 = .ok (.iload_n 1, 1) := by decide +kernel
theorem dX8_mark_111 : decode cX8_mark 111 = .ok (.iaload, 1) := by decide +kernel
theorem dX8_mark_112 : decode cX8_mark 112 = .ok (.ifCond .ne 13, 3) := by decide +kernel
theorem dX8_mark_115 : decode cX8_mark 115 = .ok (.iload_n 3, 1) := by decide +kernel
theorem dX8_mark_116 : decode cX8_mark 116 = .ok (.bipush 16, 2) := by decide +kernel
theorem dX8_mark_118 : decode cX8_mark 118 = .ok (.ishl, 1) := by decide +kernel
theorem dX8_mark_119 : decode cX8_mark 119 = .ok (.bipush 16, 2) := by decide +kernel
theorem dX8_mark_121 : decode cX8_mark 121 = .ok (.ishr, 1) := by decide +kernel
theorem dX8_mark_122 : decode cX8_mark 122 = .ok (.goto 4, 3) := by decide +kernel
theorem dX8_mark_125 : decode cX8_mark 125 = .ok (.iload_n 3, 1) := by decide +kernel
theorem dX8_mark_126 : decode cX8_mark 126 = .ok (.iastore, 1) := by decide +kernel
theorem dX8_mark_127 : decode cX8_mark 127 = .ok (.iconst 1, 1) := by decide +kernel
theorem dX8_mark_128 : decode cX8_mark 128 = .ok (.ireturn, 1) := by decide +kernel
theorem dX8_pour_0 : decode cX8_pour 0 = .ok (.iload_n 1, 1) := by decide +kernel
theorem dX8_pour_1 : decode cX8_pour 1 = .ok (.invokestatic 314, 3) := by decide +kernel
theorem dX8_pour_4 : decode cX8_pour 4 = .ok (.ifCond .ne 6, 3) := by decide +kernel
theorem dX8_pour_7 : decode cX8_pour 7 = .ok (.ldc 108, 2) := by decide +kernel
theorem dX8_pour_9 : decode cX8_pour 9 = .ok (.ireturn, 1) := by decide +kernel
theorem dX8_pour_10 : decode cX8_pour 10 = .ok (.aload_n 0, 1) := by decide +kernel
theorem dX8_pour_11 : decode cX8_pour 11 = .ok (.getfield 19, 3) := by decide +kernel
theorem dX8_pour_14 : decode cX8_pour 14 = .ok (.iload_n 1, 1) := by decide +kernel
theorem dX8_pour_15 : decode cX8_pour 15 = .ok (.iaload, 1) := by decide +kernel
theorem dX8_pour_16 : decode cX8_pour 16 = .ok (.ifCond .ge 7, 3) := by decide +kernel
theorem dX8_pour_19 : decode cX8_pour 19 = .ok (.ldc_w 318, 3) := by decide +kernel
theorem dX8_pour_22 : decode cX8_pour 22 = .ok (.ireturn, 1) := by decide +kernel
theorem dX8_pour_23 : decode cX8_pour 23 = .ok (.iconst 0, 1) := by decide +kernel
theorem dX8_pour_24 : decode cX8_pour 24 = .ok (.istore_n 2, 1) := by decide +kernel
theorem dX8_pour_25 : decode cX8_pour 25 = .ok (.iconst 0, 1) := by decide +kernel
theorem dX8_pour_26 : decode cX8_pour 26 = .ok (.istore_n 3, 1) := by decide +kernel
theorem dX8_pour_27 : decode cX8_pour 27 = .ok (.iload_n 3, 1) := by decide +kernel
theorem dX8_pour_28 : decode cX8_pour 28 = .ok (.aload_n 0, 1) := by decide +kernel
theorem dX8_pour_29 : decode cX8_pour 29 = .ok (.getfield 22, 3) := by decide +kernel
theorem dX8_pour_32 : decode cX8_pour 32 = .ok (.iload_n 1, 1) := by decide +kernel
theorem dX8_pour_33 : decode cX8_pour 33 = .ok (.iaload, 1) := by decide +kernel
theorem dX8_pour_34 : decode cX8_pour 34 = .ok (.if_icmp .ge 92, 3) := by decide +kernel
theorem dX8_pour_37 : decode cX8_pour 37 = .ok (.iload_n 3, 1) := by decide +kernel
theorem dX8_pour_38 : decode cX8_pour 38 = .ok (.aload_n 0, 1) := by decide +kernel
theorem dX8_pour_39 : decode cX8_pour 39 = .ok (.getfield 7, 3) := by decide +kernel
theorem dX8_pour_42 : decode cX8_pour 42 = .ok (.iconst 0, 1) := by decide +kernel
theorem dX8_pour_43 : decode cX8_pour 43 = .ok (.iaload, 1) := by decide +kernel
theorem dX8_pour_44 : decode cX8_pour 44 = .ok (.if_icmp .ge 82, 3) := by decide +kernel
theorem dX8_pour_47 : decode cX8_pour 47 = .ok (.aload_n 0, 1) := by decide +kernel
theorem dX8_pour_48 : decode cX8_pour 48 = .ok (.getfield 25, 3) := by decide +kernel
theorem dX8_pour_51 : decode cX8_pour 51 = .ok (.bipush 24, 2) := by decide +kernel
theorem dX8_pour_53 : decode cX8_pour 53 = .ok (.iload_n 1, 1) := by decide +kernel
theorem dX8_pour_54 : decode cX8_pour 54 = .ok (.imul, 1) := by decide +kernel
theorem dX8_pour_55 : decode cX8_pour 55 = .ok (.iload_n 3, 1) := by decide +kernel
theorem dX8_pour_56 : decode cX8_pour 56 = .ok (.iadd, 1) := by decide +kernel
theorem dX8_pour_57 : decode cX8_pour 57 = .ok (.iaload, 1) := by decide +kernel
theorem dX8_pour_58 : decode cX8_pour 58 = .ok (.istore 4, 2) := by decide +kernel
theorem dX8_pour_60 : decode cX8_pour 60 = .ok (.iload 4, 2) := by decide +kernel
theorem dX8_pour_62 : decode cX8_pour 62 = .ok (.ldc 67, 2) := by decide +kernel
theorem dX8_pour_64 : decode cX8_pour 64 = .ok (.if_icmp .ne 19, 3) := by decide +kernel
theorem dX8_pour_67 : decode cX8_pour 67 = .ok (.aload_n 0, 1) := by decide +kernel
theorem dX8_pour_68 : decode cX8_pour 68 = .ok (.getfield 7, 3) := by decide +kernel
theorem dX8_pour_71 : decode cX8_pour 71 = .ok (.bipush 10, 2) := by decide +kernel
theorem dX8_pour_73 : decode cX8_pour 73 = .ok (.iconst 5, 1) := by decide +kernel
theorem dX8_pour_74 : decode cX8_pour 74 = .ok (.iload_n 3, 1) := by decide +kernel
theorem dX8_pour_75 : decode cX8_pour 75 = .ok (.imul, 1) := by decide +kernel
theorem dX8_pour_76 : decode cX8_pour 76 = .ok (.iadd, 1) := by decide +kernel
theorem dX8_pour_77 : decode cX8_pour 77 = .ok (.iconst 2, 1) := by decide +kernel
theorem dX8_pour_78 : decode cX8_pour 78 = .ok (.iadd, 1) := by decide +kernel
theorem dX8_pour_79 : decode cX8_pour 79 = .ok (.iaload, 1) := by decide +kernel
theorem dX8_pour_80 : decode cX8_pour 80 = .ok (.goto 11, 3) := by decide +kernel
theorem dX8_pour_83 : decode cX8_pour 83 = .ok (.iload 4, 2) := by decide +kernel
theorem dX8_pour_85 : decode cX8_pour 85 = .ok (.sipush 200, 3) := by decide +kernel
theorem dX8_pour_88 : decode cX8_pour 88 = .ok (.invokestatic 127, 3) := by decide +kernel
theorem dX8_pour_91 : decode cX8_pour 91 = .ok (.istore 5, 2) := by decide +kernel
theorem dX8_pour_93 : decode cX8_pour 93 = .ok (.iload_n 2, 1) := by decide +kernel
theorem dX8_pour_94 : decode cX8_pour 94 = .ok (.iload 5, 2) := by decide +kernel
theorem dX8_pour_96 : decode cX8_pour 96 = .ok (.aload_n 0, 1) := by decide +kernel
theorem dX8_pour_97 : decode cX8_pour 97 = .ok (.bipush 10, 2) := by decide +kernel
theorem dX8_pour_99 : decode cX8_pour 99 = .ok (.iconst 5, 1) := by decide +kernel
theorem dX8_pour_100 : decode cX8_pour 100 = .ok (.iload_n 3, 1) := by decide +kernel
theorem dX8_pour_101 : decode cX8_pour 101 = .ok (.imul, 1) := by decide +kernel
theorem dX8_pour_102 : decode cX8_pour 102 = .ok (.iadd, 1) := by decide +kernel
theorem dX8_pour_103 : decode cX8_pour 103 = .ok (.iconst 2, 1) := by decide +kernel
theorem dX8_pour_104 : decode cX8_pour 104 = .ok (.iadd, 1) := by decide +kernel
theorem dX8_pour_105 : decode cX8_pour 105 = .ok (.iload 5, 2) := by decide +kernel
theorem dX8_pour_107 : decode cX8_pour 107 = .ok (.invokevirtual 164, 3) := by decide +kernel
theorem dX8_pour_110 : decode cX8_pour 110 = .ok (.if_icmp .ne 7, 3) := by decide +kernel
theorem dX8_pour_113 : decode cX8_pour 113 = .ok (.iconst 0, 1) := by decide +kernel
theorem dX8_pour_114 : decode cX8_pour 114 = .ok (.goto 4, 3) := by decide +kernel
theorem dX8_pour_117 : decode cX8_pour 117 = .ok (.iconst 1, 1) := by decide +kernel
theorem dX8_pour_118 : decode cX8_pour 118 = .ok (.iadd, 1) := by decide +kernel
theorem dX8_pour_119 : decode cX8_pour 119 = .ok (.istore_n 2, 1) := by decide +kernel
theorem dX8_pour_120 : decode cX8_pour 120 = .ok (.iinc 3 1, 3) := by decide +kernel
theorem dX8_pour_123 : decode cX8_pour 123 = .ok (.goto (-96), 3) := by decide +kernel
theorem dX8_pour_126 : decode cX8_pour 126 = .ok (.iload_n 2, 1) := by decide +kernel
theorem dX8_pour_127 : decode cX8_pour 127 = .ok (.ireturn, 1) := by decide +kernel
theorem dX8_reads_0 : decode cX8_reads 0 = .ok (.iload_n 1, 1) := by decide +kernel
theorem dX8_reads_1 : decode cX8_reads 1 = .ok (.invokestatic 314, 3) := by decide +kernel
theorem dX8_reads_4 : decode cX8_reads 4 = .ok (.ifCond .ne 6, 3) := by decide +kernel
theorem dX8_reads_7 : decode cX8_reads 7 = .ok (.ldc 108, 2) := by decide +kernel
theorem dX8_reads_9 : decode cX8_reads 9 = .ok (.ireturn, 1) := by decide +kernel
theorem dX8_reads_10 : decode cX8_reads 10 = .ok (.aload_n 0, 1) := by decide +kernel
theorem dX8_reads_11 : decode cX8_reads 11 = .ok (.getfield 19, 3) := by decide +kernel
theorem dX8_reads_14 : decode cX8_reads 14 = .ok (.iload_n 1, 1) := by decide +kernel
theorem dX8_reads_15 : decode cX8_reads 15 = .ok (.iaload, 1) := by decide +kernel
theorem dX8_reads_16 : decode cX8_reads 16 = .ok (.ifCond .ge 7, 3) := by decide +kernel
theorem dX8_reads_19 : decode cX8_reads 19 = .ok (.ldc_w 318, 3) := by decide +kernel
theorem dX8_reads_22 : decode cX8_reads 22 = .ok (.ireturn, 1) := by decide +kernel
theorem dX8_reads_23 : decode cX8_reads 23 = .ok (.iconst 0, 1) := by decide +kernel
theorem dX8_reads_24 : decode cX8_reads 24 = .ok (.istore_n 2, 1) := by decide +kernel
theorem dX8_reads_25 : decode cX8_reads 25 = .ok (.iload_n 2, 1) := by decide +kernel
theorem dX8_reads_26 : decode cX8_reads 26 = .ok (.aload_n 0, 1) := by decide +kernel
theorem dX8_reads_27 : decode cX8_reads 27 = .ok (.getfield 22, 3) := by decide +kernel
theorem dX8_reads_30 : decode cX8_reads 30 = .ok (.iload_n 1, 1) := by decide +kernel
theorem dX8_reads_31 : decode cX8_reads 31 = .ok (.iaload, 1) := by decide +kernel
theorem dX8_reads_32 : decode cX8_reads 32 = .ok (.if_icmp .ge 49, 3) := by decide +kernel
theorem dX8_reads_35 : decode cX8_reads 35 = .ok (.aload_n 0, 1) := by decide +kernel
theorem dX8_reads_36 : decode cX8_reads 36 = .ok (.getfield 25, 3) := by decide +kernel
theorem dX8_reads_39 : decode cX8_reads 39 = .ok (.bipush 24, 2) := by decide +kernel
theorem dX8_reads_41 : decode cX8_reads 41 = .ok (.iload_n 1, 1) := by decide +kernel
theorem dX8_reads_42 : decode cX8_reads 42 = .ok (.imul, 1) := by decide +kernel
theorem dX8_reads_43 : decode cX8_reads 43 = .ok (.iload_n 2, 1) := by decide +kernel
theorem dX8_reads_44 : decode cX8_reads 44 = .ok (.iadd, 1) := by decide +kernel
theorem dX8_reads_45 : decode cX8_reads 45 = .ok (.iaload, 1) := by decide +kernel
theorem dX8_reads_46 : decode cX8_reads 46 = .ok (.istore_n 3, 1) := by decide +kernel
theorem dX8_reads_47 : decode cX8_reads 47 = .ok (.iload_n 3, 1) := by decide +kernel
theorem dX8_reads_48 : decode cX8_reads 48 = .ok (.ldc 67, 2) := by decide +kernel
theorem dX8_reads_50 : decode cX8_reads 50 = .ok (.if_icmp .eq 25, 3) := by decide +kernel
theorem dX8_reads_53 : decode cX8_reads 53 = .ok (.iload_n 2, 1) := by decide +kernel
theorem dX8_reads_54 : decode cX8_reads 54 = .ok (.aload_n 0, 1) := by decide +kernel
theorem dX8_reads_55 : decode cX8_reads 55 = .ok (.getfield 7, 3) := by decide +kernel
theorem dX8_reads_58 : decode cX8_reads 58 = .ok (.iconst 0, 1) := by decide +kernel
theorem dX8_reads_59 : decode cX8_reads 59 = .ok (.iaload, 1) := by decide +kernel
theorem dX8_reads_60 : decode cX8_reads 60 = .ok (.if_icmp .ge 13, 3) := by decide +kernel
theorem dX8_reads_63 : decode cX8_reads 63 = .ok (.iload_n 3, 1) := by decide +kernel
theorem dX8_reads_64 : decode cX8_reads 64 = .ok (.aload_n 0, 1) := by decide +kernel
theorem dX8_reads_65 : decode cX8_reads 65 = .ok (.iload_n 2, 1) := by decide +kernel
theorem dX8_reads_66 : decode cX8_reads 66 = .ok (.iconst 1, 1) := by decide +kernel
theorem dX8_reads_67 : decode cX8_reads 67 = .ok (.invokevirtual 75, 3) := by decide +kernel
theorem dX8_reads_70 : decode cX8_reads 70 = .ok (.if_icmp .eq 5, 3) := by decide +kernel
theorem dX8_reads_73 : decode cX8_reads 73 = .ok (.iload_n 2, 1) := by decide +kernel
theorem dX8_reads_74 : decode cX8_reads 74 = .ok (.ireturn, 1) := by decide +kernel
theorem dX8_reads_75 : decode cX8_reads 75 = .ok (.iinc 2 1, 3) := by decide +kernel
theorem dX8_reads_78 : decode cX8_reads 78 = .ok (.goto (-53), 3) := by decide +kernel
theorem dX8_reads_81 : decode cX8_reads 81 = .ok (.ldc 67, 2) := by decide +kernel
theorem dX8_reads_83 : decode cX8_reads 83 = .ok (.ireturn, 1) := by decide +kernel
theorem dX8_offBy_0 : decode cX8_offBy 0 = .ok (.aload_n 0, 1) := by decide +kernel
theorem dX8_offBy_1 : decode cX8_offBy 1 = .ok (.invokevirtual 195, 3) := by decide +kernel
theorem dX8_offBy_4 : decode cX8_offBy 4 = .ok (.iconst 0, 1) := by decide +kernel
theorem dX8_offBy_5 : decode cX8_offBy 5 = .ok (.istore_n 3, 1) := by decide +kernel
theorem dX8_offBy_6 : decode cX8_offBy 6 = .ok (.iconst 0, 1) := by decide +kernel
theorem dX8_offBy_7 : decode cX8_offBy 7 = .ok (.istore 4, 2) := by decide +kernel
theorem dX8_offBy_9 : decode cX8_offBy 9 = .ok (.iload 4, 2) := by decide +kernel
theorem dX8_offBy_11 : decode cX8_offBy 11 = .ok (.aload_n 0, 1) := by decide +kernel
theorem dX8_offBy_12 : decode cX8_offBy 12 = .ok (.getfield 22, 3) := by decide +kernel
theorem dX8_offBy_15 : decode cX8_offBy 15 = .ok (.iload_n 1, 1) := by decide +kernel
theorem dX8_offBy_16 : decode cX8_offBy 16 = .ok (.iaload, 1) := by decide +kernel
theorem dX8_offBy_17 : decode cX8_offBy 17 = .ok (.if_icmp .ge 52, 3) := by decide +kernel
theorem dX8_offBy_20 : decode cX8_offBy 20 = .ok (.aload_n 0, 1) := by decide +kernel
theorem dX8_offBy_21 : decode cX8_offBy 21 = .ok (.getfield 25, 3) := by decide +kernel
theorem dX8_offBy_24 : decode cX8_offBy 24 = .ok (.bipush 24, 2) := by decide +kernel
theorem dX8_offBy_26 : decode cX8_offBy 26 = .ok (.iload_n 1, 1) := by decide +kernel
theorem dX8_offBy_27 : decode cX8_offBy 27 = .ok (.imul, 1) := by decide +kernel
theorem dX8_offBy_28 : decode cX8_offBy 28 = .ok (.iload 4, 2) := by decide +kernel
theorem dX8_offBy_30 : decode cX8_offBy 30 = .ok (.iadd, 1) := by decide +kernel
theorem dX8_offBy_31 : decode cX8_offBy 31 = .ok (.iaload, 1) := by decide +kernel
theorem dX8_offBy_32 : decode cX8_offBy 32 = .ok (.istore 5, 2) := by decide +kernel
theorem dX8_offBy_34 : decode cX8_offBy 34 = .ok (.iload_n 3, 1) := by decide +kernel
theorem dX8_offBy_35 : decode cX8_offBy 35 = .ok (.iload 5, 2) := by decide +kernel
theorem dX8_offBy_37 : decode cX8_offBy 37 = .ok (.ldc 67, 2) := by decide +kernel
theorem dX8_offBy_39 : decode cX8_offBy 39 = .ok (.if_icmp .ne 7, 3) := by decide +kernel
theorem dX8_offBy_42 : decode cX8_offBy 42 = .ok (.iconst 0, 1) := by decide +kernel
theorem dX8_offBy_43 : decode cX8_offBy 43 = .ok (.goto 14, 3) := by decide +kernel
theorem dX8_offBy_46 : decode cX8_offBy 46 = .ok (.iload 5, 2) := by decide +kernel
theorem dX8_offBy_48 : decode cX8_offBy 48 = .ok (.aload_n 0, 1) := by decide +kernel
theorem dX8_offBy_49 : decode cX8_offBy 49 = .ok (.iload_n 2, 1) := by decide +kernel
theorem dX8_offBy_50 : decode cX8_offBy 50 = .ok (.iconst 2, 1) := by decide +kernel
theorem dX8_offBy_51 : decode cX8_offBy 51 = .ok (.invokevirtual 75, 3) := by decide +kernel
theorem dX8_offBy_54 : decode cX8_offBy 54 = .ok (.invokestatic 134, 3) := by decide +kernel
theorem dX8_offBy_57 : decode cX8_offBy 57 = .ok (.iadd, 1) := by decide +kernel
theorem dX8_offBy_58 : decode cX8_offBy 58 = .ok (.istore_n 3, 1) := by decide +kernel
theorem dX8_offBy_59 : decode cX8_offBy 59 = .ok (.aload_n 0, 1) := by decide +kernel
theorem dX8_offBy_60 : decode cX8_offBy 60 = .ok (.invokevirtual 183, 3) := by decide +kernel
theorem dX8_offBy_63 : decode cX8_offBy 63 = .ok (.iinc 4 1, 3) := by decide +kernel
theorem dX8_offBy_66 : decode cX8_offBy 66 = .ok (.goto (-57), 3) := by decide +kernel
theorem dX8_offBy_69 : decode cX8_offBy 69 = .ok (.aload_n 0, 1) := by decide +kernel
theorem dX8_offBy_70 : decode cX8_offBy 70 = .ok (.invokevirtual 198, 3) := by decide +kernel
theorem dX8_offBy_73 : decode cX8_offBy 73 = .ok (.iload_n 3, 1) := by decide +kernel
theorem dX8_offBy_74 : decode cX8_offBy 74 = .ok (.ireturn, 1) := by decide +kernel
theorem dX8_like_0 : decode cX8_like 0 = .ok (.iload_n 1, 1) := by decide +kernel
theorem dX8_like_1 : decode cX8_like 1 = .ok (.invokestatic 314, 3) := by decide +kernel
theorem dX8_like_4 : decode cX8_like 4 = .ok (.ifCond .eq 13, 3) := by decide +kernel
theorem dX8_like_7 : decode cX8_like 7 = .ok (.iload_n 2, 1) := by decide +kernel
theorem dX8_like_8 : decode cX8_like 8 = .ok (.i2l, 1) := by decide +kernel
theorem dX8_like_9 : decode cX8_like 9 = .ok (.lconst 0, 1) := by decide +kernel
theorem dX8_like_10 : decode cX8_like 10 = .ok (.lconst 1, 1) := by decide +kernel
theorem dX8_like_11 : decode cX8_like 11 = .ok (.invokestatic 68, 3) := by decide +kernel
theorem dX8_like_14 : decode cX8_like 14 = .ok (.ifCond .ne 6, 3) := by decide +kernel
theorem dX8_like_17 : decode cX8_like 17 = .ok (.ldc 108, 2) := by decide +kernel
theorem dX8_like_19 : decode cX8_like 19 = .ok (.ireturn, 1) := by decide +kernel
theorem dX8_like_20 : decode cX8_like 20 = .ok (.aload_n 0, 1) := by decide +kernel
theorem dX8_like_21 : decode cX8_like 21 = .ok (.getfield 19, 3) := by decide +kernel
theorem dX8_like_24 : decode cX8_like 24 = .ok (.iload_n 1, 1) := by decide +kernel
theorem dX8_like_25 : decode cX8_like 25 = .ok (.iaload, 1) := by decide +kernel
theorem dX8_like_26 : decode cX8_like 26 = .ok (.ifCond .ge 7, 3) := by decide +kernel
theorem dX8_like_29 : decode cX8_like 29 = .ok (.ldc_w 318, 3) := by decide +kernel
theorem dX8_like_32 : decode cX8_like 32 = .ok (.ireturn, 1) := by decide +kernel
theorem dX8_like_33 : decode cX8_like 33 = .ok (.iconst (-1), 1) := by decide +kernel
theorem dX8_like_34 : decode cX8_like 34 = .ok (.istore_n 3, 1) := by decide +kernel
theorem dX8_like_35 : decode cX8_like 35 = .ok (.iconst 0, 1) := by decide +kernel
theorem dX8_like_36 : decode cX8_like 36 = .ok (.istore 4, 2) := by decide +kernel
theorem dX8_like_38 : decode cX8_like 38 = .ok (.iconst 0, 1) := by decide +kernel
theorem dX8_like_39 : decode cX8_like 39 = .ok (.istore 5, 2) := by decide +kernel
theorem dX8_like_41 : decode cX8_like 41 = .ok (.iload 5, 2) := by decide +kernel
theorem dX8_like_43 : decode cX8_like 43 = .ok (.aload_n 0, 1) := by decide +kernel
theorem dX8_like_44 : decode cX8_like 44 = .ok (.getfield 7, 3) := by decide +kernel
theorem dX8_like_47 : decode cX8_like 47 = .ok (.iconst 0, 1) := by decide +kernel
theorem dX8_like_48 : decode cX8_like 48 = .ok (.iaload, 1) := by decide +kernel
theorem dX8_like_49 : decode cX8_like 49 = .ok (.if_icmp .ge 36, 3) := by decide +kernel
theorem dX8_like_52 : decode cX8_like 52 = .ok (.aload_n 0, 1) := by decide +kernel
theorem dX8_like_53 : decode cX8_like 53 = .ok (.iload_n 1, 1) := by decide +kernel
theorem dX8_like_54 : decode cX8_like 54 = .ok (.iload 5, 2) := by decide +kernel
theorem dX8_like_56 : decode cX8_like 56 = .ok (.invokevirtual 324, 3) := by decide +kernel
theorem dX8_like_59 : decode cX8_like 59 = .ok (.istore 6, 2) := by decide +kernel
theorem dX8_like_61 : decode cX8_like 61 = .ok (.iload_n 3, 1) := by decide +kernel
theorem dX8_like_62 : decode cX8_like 62 = .ok (.ifCond .lt 10, 3) := by decide +kernel
theorem dX8_like_65 : decode cX8_like 65 = .ok (.iload 6, 2) := by decide +kernel
theorem dX8_like_67 : decode cX8_like 67 = .ok (.iload 4, 2) := by decide +kernel
theorem dX8_like_69 : decode cX8_like 69 = .ok (.if_icmp .ge 10, 3) := by decide +kernel
theorem dX8_like_72 : decode cX8_like 72 = .ok (.iload 5, 2) := by decide +kernel
theorem dX8_like_74 : decode cX8_like 74 = .ok (.istore_n 3, 1) := by decide +kernel
theorem dX8_like_75 : decode cX8_like 75 = .ok (.iload 6, 2) := by decide +kernel
theorem dX8_like_77 : decode cX8_like 77 = .ok (.istore 4, 2) := by decide +kernel
theorem dX8_like_79 : decode cX8_like 79 = .ok (.iinc 5 1, 3) := by decide +kernel
theorem dX8_like_82 : decode cX8_like 82 = .ok (.goto (-41), 3) := by decide +kernel
theorem dX8_like_85 : decode cX8_like 85 = .ok (.iload_n 3, 1) := by decide +kernel
theorem dX8_like_86 : decode cX8_like 86 = .ok (.ifCond .ge 8, 3) := by decide +kernel
theorem dX8_like_89 : decode cX8_like 89 = .ok (.ldc 67, 2) := by decide +kernel
theorem dX8_like_91 : decode cX8_like 91 = .ok (.goto 13, 3) := by decide +kernel
theorem dX8_like_94 : decode cX8_like 94 = .ok (.iload_n 2, 1) := by decide +kernel
theorem dX8_like_95 : decode cX8_like 95 = .ok (.ifCond .ne 7, 3) := by decide +kernel
theorem dX8_like_98 : decode cX8_like 98 = .ok (.iload_n 3, 1) := by decide +kernel
theorem dX8_like_99 : decode cX8_like 99 = .ok (.goto 5, 3) := by decide +kernel
theorem dX8_like_102 : decode cX8_like 102 = .ok (.iload 4, 2) := by decide +kernel
theorem dX8_like_104 : decode cX8_like 104 = .ok (.ireturn, 1) := by decide +kernel
theorem dX8_copy_0 : decode cX8_copy 0 = .ok (.iload_n 1, 1) := by decide +kernel
theorem dX8_copy_1 : decode cX8_copy 1 = .ok (.invokestatic 314, 3) := by decide +kernel
theorem dX8_copy_4 : decode cX8_copy 4 = .ok (.ifCond .eq 10, 3) := by decide +kernel
theorem dX8_copy_7 : decode cX8_copy 7 = .ok (.iload_n 3, 1) := by decide +kernel
theorem dX8_copy_8 : decode cX8_copy 8 = .ok (.invokestatic 314, 3) := by decide +kernel
theorem dX8_copy_11 : decode cX8_copy 11 = .ok (.ifCond .ne 6, 3) := by decide +kernel
theorem dX8_copy_14 : decode cX8_copy 14 = .ok (.ldc 108, 2) := by decide +kernel
theorem dX8_copy_16 : decode cX8_copy 16 = .ok (.ireturn, 1) := by decide +kernel
theorem dX8_copy_17 : decode cX8_copy 17 = .ok (.aload_n 0, 1) := by decide +kernel
theorem dX8_copy_18 : decode cX8_copy 18 = .ok (.getfield 19, 3) := by decide +kernel
theorem dX8_copy_21 : decode cX8_copy 21 = .ok (.iload_n 1, 1) := by decide +kernel
theorem dX8_copy_22 : decode cX8_copy 22 = .ok (.iaload, 1) := by decide +kernel
theorem dX8_copy_23 : decode cX8_copy 23 = .ok (.ifCond .lt 12, 3) := by decide +kernel
theorem dX8_copy_26 : decode cX8_copy 26 = .ok (.aload_n 0, 1) := by decide +kernel
theorem dX8_copy_27 : decode cX8_copy 27 = .ok (.getfield 19, 3) := by decide +kernel
theorem dX8_copy_30 : decode cX8_copy 30 = .ok (.iload_n 3, 1) := by decide +kernel
theorem dX8_copy_31 : decode cX8_copy 31 = .ok (.iaload, 1) := by decide +kernel
theorem dX8_copy_32 : decode cX8_copy 32 = .ok (.ifCond .ge 7, 3) := by decide +kernel
theorem dX8_copy_35 : decode cX8_copy 35 = .ok (.ldc_w 318, 3) := by decide +kernel
theorem dX8_copy_38 : decode cX8_copy 38 = .ok (.ireturn, 1) := by decide +kernel
theorem dX8_copy_39 : decode cX8_copy 39 = .ok (.aload_n 0, 1) := by decide +kernel
theorem dX8_copy_40 : decode cX8_copy 40 = .ok (.getfield 19, 3) := by decide +kernel
theorem dX8_copy_43 : decode cX8_copy 43 = .ok (.iload_n 1, 1) := by decide +kernel
theorem dX8_copy_44 : decode cX8_copy 44 = .ok (.iaload, 1) := by decide +kernel
theorem dX8_copy_45 : decode cX8_copy 45 = .ok (.aload_n 0, 1) := by decide +kernel
theorem dX8_copy_46 : decode cX8_copy 46 = .ok (.getfield 19, 3) := by decide +kernel
theorem dX8_copy_49 : decode cX8_copy 49 = .ok (.iload_n 3, 1) := by decide +kernel
theorem dX8_copy_50 : decode cX8_copy 50 = .ok (.iaload, 1) := by decide +kernel
theorem dX8_copy_51 : decode cX8_copy 51 = .ok (.if_icmp .eq 6, 3) := by decide +kernel
theorem dX8_copy_54 : decode cX8_copy 54 = .ok (.ldc 163, 2) := by decide +kernel
theorem dX8_copy_56 : decode cX8_copy 56 = .ok (.ireturn, 1) := by decide +kernel
theorem dX8_copy_57 : decode cX8_copy 57 = .ok (.iload_n 2, 1) := by decide +kernel
theorem dX8_copy_58 : decode cX8_copy 58 = .ok (.ifCond .lt 48, 3) := by decide +kernel
theorem dX8_copy_61 : decode cX8_copy 61 = .ok (.iload 4, 2) := by decide +kernel
theorem dX8_copy_63 : decode cX8_copy 63 = .ok (.ifCond .lt 43, 3) := by decide +kernel
theorem dX8_copy_66 : decode cX8_copy 66 = .ok (.iload 5, 2) := by decide +kernel
theorem dX8_copy_68 : decode cX8_copy 68 = .ok (.ifCond .lt 38, 3) := by decide +kernel
theorem dX8_copy_71 : decode cX8_copy 71 = .ok (.iload_n 2, 1) := by decide +kernel
theorem dX8_copy_72 : decode cX8_copy 72 = .ok (.i2l, 1) := by decide +kernel
theorem dX8_copy_73 : decode cX8_copy 73 = .ok (.iload 5, 2) := by decide +kernel
theorem dX8_copy_75 : decode cX8_copy 75 = .ok (.i2l, 1) := by decide +kernel
theorem dX8_copy_76 : decode cX8_copy 76 = .ok (.ladd, 1) := by decide +kernel
theorem dX8_copy_77 : decode cX8_copy 77 = .ok (.aload_n 0, 1) := by decide +kernel
theorem dX8_copy_78 : decode cX8_copy 78 = .ok (.getfield 22, 3) := by decide +kernel
theorem dX8_copy_81 : decode cX8_copy 81 = .ok (.iload_n 1, 1) := by decide +kernel
theorem dX8_copy_82 : decode cX8_copy 82 = .ok (.iaload, 1) := by decide +kernel
theorem dX8_copy_83 : decode cX8_copy 83 = .ok (.i2l, 1) := by decide +kernel
theorem dX8_copy_84 : decode cX8_copy 84 = .ok (.lcmp, 1) := by decide +kernel
theorem dX8_copy_85 : decode cX8_copy 85 = .ok (.ifCond .gt 21, 3) := by decide +kernel
theorem dX8_copy_88 : decode cX8_copy 88 = .ok (.iload 4, 2) := by decide +kernel
theorem dX8_copy_90 : decode cX8_copy 90 = .ok (.i2l, 1) := by decide +kernel
theorem dX8_copy_91 : decode cX8_copy 91 = .ok (.iload 5, 2) := by decide +kernel
theorem dX8_copy_93 : decode cX8_copy 93 = .ok (.i2l, 1) := by decide +kernel
theorem dX8_copy_94 : decode cX8_copy 94 = .ok (.ladd, 1) := by decide +kernel
theorem dX8_copy_95 : decode cX8_copy 95 = .ok (.aload_n 0, 1) := by decide +kernel
theorem dX8_copy_96 : decode cX8_copy 96 = .ok (.getfield 22, 3) := by decide +kernel
theorem dX8_copy_99 : decode cX8_copy 99 = .ok (.iload_n 3, 1) := by decide +kernel
theorem dX8_copy_100 : decode cX8_copy 100 = .ok (.iaload, 1) := by decide +kernel
theorem dX8_copy_101 : decode cX8_copy 101 = .ok (.i2l, 1) := by decide +kernel
theorem dX8_copy_102 : decode cX8_copy 102 = .ok (.lcmp, 1) := by decide +kernel
theorem dX8_copy_103 : decode cX8_copy 103 = .ok (.ifCond .le 7, 3) := by decide +kernel
theorem dX8_copy_106 : decode cX8_copy 106 = .ok (.ldc_w 319, 3) := by decide +kernel
theorem dX8_copy_109 : decode cX8_copy 109 = .ok (.ireturn, 1) := by decide +kernel
theorem dX8_copy_110 : decode cX8_copy 110 = .ok (.iconst 0, 1) := by decide +kernel
theorem dX8_copy_111 : decode cX8_copy 111 = .ok (.istore 6, 2) := by decide +kernel
theorem dX8_copy_113 : decode cX8_copy 113 = .ok (.iload 6, 2) := by decide +kernel
theorem dX8_copy_115 : decode cX8_copy 115 = .ok (.iload 5, 2) := by decide +kernel
theorem dX8_copy_117 : decode cX8_copy 117 = .ok (.if_icmp .ge 30, 3) := by decide +kernel
theorem dX8_copy_120 : decode cX8_copy 120 = .ok (.aload_n 0, 1) := by decide +kernel
theorem dX8_copy_121 : decode cX8_copy 121 = .ok (.getfield 58, 3) := by decide +kernel
theorem dX8_copy_124 : decode cX8_copy 124 = .ok (.iload 6, 2) := by decide +kernel
theorem dX8_copy_126 : decode cX8_copy 126 = .ok (.aload_n 0, 1) := by decide +kernel
theorem dX8_copy_127 : decode cX8_copy 127 = .ok (.getfield 25, 3) := by decide +kernel
theorem dX8_copy_130 : decode cX8_copy 130 = .ok (.bipush 24, 2) := by decide +kernel
theorem dX8_copy_132 : decode cX8_copy 132 = .ok (.iload_n 1, 1) := by decide +kernel
theorem dX8_copy_133 : decode cX8_copy 133 = .ok (.imul, 1) := by decide +kernel
theorem dX8_copy_134 : decode cX8_copy 134 = .ok (.iload_n 2, 1) := by decide +kernel
theorem dX8_copy_135 : decode cX8_copy 135 = .ok (.iadd, 1) := by decide +kernel
theorem dX8_copy_136 : decode cX8_copy 136 = .ok (.iload 6, 2) := by decide +kernel
theorem dX8_copy_138 : decode cX8_copy 138 = .ok (.iadd, 1) := by decide +kernel
theorem dX8_copy_139 : decode cX8_copy 139 = .ok (.iaload, 1) := by decide +kernel
theorem dX8_copy_140 : decode cX8_copy 140 = .ok (.iastore, 1) := by decide +kernel
theorem dX8_copy_141 : decode cX8_copy 141 = .ok (.iinc 6 1, 3) := by decide +kernel
theorem dX8_copy_144 : decode cX8_copy 144 = .ok (.goto (-31), 3) := by decide +kernel
theorem dX8_copy_147 : decode cX8_copy 147 = .ok (.iconst 0, 1) := by decide +kernel
theorem dX8_copy_148 : decode cX8_copy 148 = .ok (.istore 6, 2) := by decide +kernel
theorem dX8_copy_150 : decode cX8_copy 150 = .ok (.iload 6, 2) := by decide +kernel
theorem dX8_copy_152 : decode cX8_copy 152 = .ok (.iload 5, 2) := by decide +kernel
theorem dX8_copy_154 : decode cX8_copy 154 = .ok (.if_icmp .ge 31, 3) := by decide +kernel
theorem dX8_copy_157 : decode cX8_copy 157 = .ok (.aload_n 0, 1) := by decide +kernel
theorem dX8_copy_158 : decode cX8_copy 158 = .ok (.getfield 25, 3) := by decide +kernel
theorem dX8_copy_161 : decode cX8_copy 161 = .ok (.bipush 24, 2) := by decide +kernel
theorem dX8_copy_163 : decode cX8_copy 163 = .ok (.iload_n 3, 1) := by decide +kernel
theorem dX8_copy_164 : decode cX8_copy 164 = .ok (.imul, 1) := by decide +kernel
theorem dX8_copy_165 : decode cX8_copy 165 = .ok (.iload 4, 2) := by decide +kernel
theorem dX8_copy_167 : decode cX8_copy 167 = .ok (.iadd, 1) := by decide +kernel
theorem dX8_copy_168 : decode cX8_copy 168 = .ok (.iload 6, 2) := by decide +kernel
theorem dX8_copy_170 : decode cX8_copy 170 = .ok (.iadd, 1) := by decide +kernel
theorem dX8_copy_171 : decode cX8_copy 171 = .ok (.aload_n 0, 1) := by decide +kernel
theorem dX8_copy_172 : decode cX8_copy 172 = .ok (.getfield 58, 3) := by decide +kernel
theorem dX8_copy_175 : decode cX8_copy 175 = .ok (.iload 6, 2) := by decide +kernel
theorem dX8_copy_177 : decode cX8_copy 177 = .ok (.iaload, 1) := by decide +kernel
theorem dX8_copy_178 : decode cX8_copy 178 = .ok (.iastore, 1) := by decide +kernel
theorem dX8_copy_179 : decode cX8_copy 179 = .ok (.iinc 6 1, 3) := by decide +kernel
theorem dX8_copy_182 : decode cX8_copy 182 = .ok (.goto (-32), 3) := by decide +kernel
theorem dX8_copy_185 : decode cX8_copy 185 = .ok (.iload 5, 2) := by decide +kernel
theorem dX8_copy_187 : decode cX8_copy 187 = .ok (.ireturn, 1) := by decide +kernel
theorem dX8_isSlot_0 : decode cX8_isSlot 0 = .ok (.iload_n 0, 1) := by decide +kernel
theorem dX8_isSlot_1 : decode cX8_isSlot 1 = .ok (.i2l, 1) := by decide +kernel
theorem dX8_isSlot_2 : decode cX8_isSlot 2 = .ok (.lconst 0, 1) := by decide +kernel
theorem dX8_isSlot_3 : decode cX8_isSlot 3 = .ok (.ldc2_w 190, 3) := by decide +kernel
theorem dX8_isSlot_6 : decode cX8_isSlot 6 = .ok (.invokestatic 68, 3) := by decide +kernel
theorem dX8_isSlot_9 : decode cX8_isSlot 9 = .ok (.ireturn, 1) := by decide +kernel
theorem dX8_lay_0 : decode cX8_lay 0 = .ok (.iload_n 2, 1) := by decide +kernel
theorem dX8_lay_1 : decode cX8_lay 1 = .ok (.ifCond .eq 33, 3) := by decide +kernel
theorem dX8_lay_4 : decode cX8_lay 4 = .ok (.iload_n 2, 1) := by decide +kernel
theorem dX8_lay_5 : decode cX8_lay 5 = .ok (.iconst 3, 1) := by decide +kernel
theorem dX8_lay_6 : decode cX8_lay 6 = .ok (.if_icmp .eq 28, 3) := by decide +kernel
theorem dX8_lay_9 : decode cX8_lay 9 = .ok (.iload_n 2, 1) := by decide +kernel
theorem dX8_lay_10 : decode cX8_lay 10 = .ok (.iconst 1, 1) := by decide +kernel
theorem dX8_lay_11 : decode cX8_lay 11 = .ok (.if_icmp .ne 11, 3) := by decide +kernel
theorem dX8_lay_14 : decode cX8_lay 14 = .ok (.aload_n 0, 1) := by decide +kernel
theorem dX8_lay_15 : decode cX8_lay 15 = .ok (.iload_n 3, 1) := by decide +kernel
theorem dX8_lay_16 : decode cX8_lay 16 = .ok (.invokevirtual 143, 3) := by decide +kernel
theorem dX8_lay_19 : decode cX8_lay 19 = .ok (.ifCond .ne 15, 3) := by decide +kernel
theorem dX8_lay_22 : decode cX8_lay 22 = .ok (.iload_n 2, 1) := by decide +kernel
theorem dX8_lay_23 : decode cX8_lay 23 = .ok (.iconst 2, 1) := by decide +kernel
theorem dX8_lay_24 : decode cX8_lay 24 = .ok (.if_icmp .ne 14, 3) := by decide +kernel
theorem dX8_lay_27 : decode cX8_lay 27 = .ok (.iload_n 3, 1) := by decide +kernel
theorem dX8_lay_28 : decode cX8_lay 28 = .ok (.invokestatic 314, 3) := by decide +kernel
theorem dX8_lay_31 : decode cX8_lay 31 = .ok (.ifCond .eq 7, 3) := by decide +kernel
theorem dX8_lay_34 : decode cX8_lay 34 = .ok (.iconst 1, 1) := by decide +kernel
theorem dX8_lay_35 : decode cX8_lay 35 = .ok (.goto 4, 3) := by decide +kernel
theorem dX8_lay_38 : decode cX8_lay 38 = .ok (.iconst 0, 1) := by decide +kernel
theorem dX8_lay_39 : decode cX8_lay 39 = .ok (.istore 4, 2) := by decide +kernel
theorem dX8_lay_41 : decode cX8_lay 41 = .ok (.iload_n 1, 1) := by decide +kernel
theorem dX8_lay_42 : decode cX8_lay 42 = .ok (.invokestatic 327, 3) := by decide +kernel
theorem dX8_lay_45 : decode cX8_lay 45 = .ok (.ifCond .eq 8, 3) := by decide +kernel
theorem dX8_lay_48 : decode cX8_lay 48 = .ok (.iload 4, 2) := by decide +kernel
theorem dX8_lay_50 : decode cX8_lay 50 = .ok (.ifCond .ne 6, 3) := by decide +kernel
theorem dX8_lay_53 : decode cX8_lay 53 = .ok (.ldc 108, 2) := by decide +kernel
theorem dX8_lay_55 : decode cX8_lay 55 = .ok (.ireturn, 1) := by decide +kernel
theorem dX8_lay_56 : decode cX8_lay 56 = .ok (.iload_n 2, 1) := by decide +kernel
theorem dX8_lay_57 : decode cX8_lay 57 = .ok (.iconst 2, 1) := by decide +kernel
theorem dX8_lay_58 : decode cX8_lay 58 = .ok (.if_icmp .ne 16, 3) := by decide +kernel
theorem dX8_lay_61 : decode cX8_lay 61 = .ok (.aload_n 0, 1) := by decide +kernel
theorem dX8_lay_62 : decode cX8_lay 62 = .ok (.getfield 19, 3) := by decide +kernel
theorem dX8_lay_65 : decode cX8_lay 65 = .ok (.iload_n 3, 1) := by decide +kernel
theorem dX8_lay_66 : decode cX8_lay 66 = .ok (.iaload, 1) := by decide +kernel
theorem dX8_lay_67 : decode cX8_lay 67 = .ok (.ifCond .ge 7, 3) := by decide +kernel
theorem dX8_lay_70 : decode cX8_lay 70 = .ok (.ldc_w 318, 3) := by decide +kernel
theorem dX8_lay_73 : decode cX8_lay 73 = .ok (.ireturn, 1) := by decide +kernel
theorem dX8_lay_74 : decode cX8_lay 74 = .ok (.aload_n 0, 1) := by decide +kernel
theorem dX8_lay_75 : decode cX8_lay 75 = .ok (.getfield 28, 3) := by decide +kernel
theorem dX8_lay_78 : decode cX8_lay 78 = .ok (.iload_n 1, 1) := by decide +kernel
theorem dX8_lay_79 : decode cX8_lay 79 = .ok (.iaload, 1) := by decide +kernel
theorem dX8_lay_80 : decode cX8_lay 80 = .ok (.istore 5, 2) := by decide +kernel
theorem dX8_lay_82 : decode cX8_lay 82 = .ok (.aload_n 0, 1) := by decide +kernel
theorem dX8_lay_83 : decode cX8_lay 83 = .ok (.getfield 28, 3) := by decide +kernel
theorem dX8_lay_86 : decode cX8_lay 86 = .ok (.iload_n 1, 1) := by decide +kernel
theorem dX8_lay_87 : decode cX8_lay 87 = .ok (.iload_n 2, 1) := by decide +kernel
theorem dX8_lay_88 : decode cX8_lay 88 = .ok (.iastore, 1) := by decide +kernel
theorem dX8_lay_89 : decode cX8_lay 89 = .ok (.aload_n 0, 1) := by decide +kernel
theorem dX8_lay_90 : decode cX8_lay 90 = .ok (.getfield 31, 3) := by decide +kernel
theorem dX8_lay_93 : decode cX8_lay 93 = .ok (.iload_n 1, 1) := by decide +kernel
theorem dX8_lay_94 : decode cX8_lay 94 = .ok (.iload_n 2, 1) := by decide +kernel
theorem dX8_lay_95 : decode cX8_lay 95 = .ok (.iconst 1, 1) := by decide +kernel
theorem dX8_lay_96 : decode cX8_lay 96 = .ok (.if_icmp .ne 12, 3) := by decide +kernel
theorem dX8_lay_99 : decode cX8_lay 99 = .ok (.aload_n 0, 1) := by decide +kernel
theorem dX8_lay_100 : decode cX8_lay 100 = .ok (.iload_n 3, 1) := by decide +kernel
theorem dX8_lay_101 : decode cX8_lay 101 = .ok (.iconst 0, 1) := by decide +kernel
theorem dX8_lay_102 : decode cX8_lay 102 = .ok (.invokevirtual 75, 3) := by decide +kernel
theorem dX8_lay_105 : decode cX8_lay 105 = .ok (.goto 4, 3) := by decide +kernel
theorem dX8_lay_108 : decode cX8_lay 108 = .ok (.iload_n 3, 1) := by decide +kernel
theorem dX8_lay_109 : decode cX8_lay 109 = .ok (.iastore, 1) := by decide +kernel
theorem dX8_lay_110 : decode cX8_lay 110 = .ok (.aload_n 0, 1) := by decide +kernel
theorem dX8_lay_111 : decode cX8_lay 111 = .ok (.getfield 34, 3) := by decide +kernel
theorem dX8_lay_114 : decode cX8_lay 114 = .ok (.iload_n 1, 1) := by decide +kernel
theorem dX8_lay_115 : decode cX8_lay 115 = .ok (.iload_n 2, 1) := by decide +kernel
theorem dX8_lay_116 : decode cX8_lay 116 = .ok (.iconst 1, 1) := by decide +kernel
theorem dX8_lay_117 : decode cX8_lay 117 = .ok (.if_icmp .ne 11, 3) := by decide +kernel
theorem dX8_lay_120 : decode cX8_lay 120 = .ok (.aload_n 0, 1) := by decide +kernel
theorem dX8_lay_121 : decode cX8_lay 121 = .ok (.iload_n 3, 1) := by decide +kernel
theorem dX8_lay_122 : decode cX8_lay 122 = .ok (.invokevirtual 157, 3) := by decide +kernel
theorem dX8_lay_125 : decode cX8_lay 125 = .ok (.goto 4, 3) := by decide +kernel
theorem dX8_lay_128 : decode cX8_lay 128 = .ok (.iconst 0, 1) := by decide +kernel
theorem dX8_lay_129 : decode cX8_lay 129 = .ok (.iastore, 1) := by decide +kernel
theorem dX8_lay_130 : decode cX8_lay 130 = .ok (.iload_n 2, 1) := by decide +kernel
theorem dX8_lay_131 : decode cX8_lay 131 = .ok (.iconst 2, 1) := by decide +kernel
theorem dX8_lay_132 : decode cX8_lay 132 = .ok (.if_icmp .ne 55, 3) := by decide +kernel
theorem dX8_lay_135 : decode cX8_lay 135 = .ok (.aload_n 0, 1) := by decide +kernel
theorem dX8_lay_136 : decode cX8_lay 136 = .ok (.getfield 37, 3) := by decide +kernel
theorem dX8_lay_139 : decode cX8_lay 139 = .ok (.iload_n 1, 1) := by decide +kernel
theorem dX8_lay_140 : decode cX8_lay 140 = .ok (.aload_n 0, 1) := by decide +kernel
theorem dX8_lay_141 : decode cX8_lay 141 = .ok (.getfield 22, 3) := by decide +kernel
theorem dX8_lay_144 : decode cX8_lay 144 = .ok (.iload_n 3, 1) := by decide +kernel
theorem dX8_lay_145 : decode cX8_lay 145 = .ok (.iaload, 1) := by decide +kernel
theorem dX8_lay_146 : decode cX8_lay 146 = .ok (.iastore, 1) := by decide +kernel
theorem dX8_lay_147 : decode cX8_lay 147 = .ok (.iconst 0, 1) := by decide +kernel
theorem dX8_lay_148 : decode cX8_lay 148 = .ok (.istore 6, 2) := by decide +kernel
theorem dX8_lay_150 : decode cX8_lay 150 = .ok (.iload 6, 2) := by decide +kernel
theorem dX8_lay_152 : decode cX8_lay 152 = .ok (.bipush 24, 2) := by decide +kernel
theorem dX8_lay_154 : decode cX8_lay 154 = .ok (.if_icmp .ge 33, 3) := by decide +kernel
theorem dX8_lay_157 : decode cX8_lay 157 = .ok (.aload_n 0, 1) := by decide +kernel
theorem dX8_lay_158 : decode cX8_lay 158 = .ok (.getfield 40, 3) := by decide +kernel
theorem dX8_lay_161 : decode cX8_lay 161 = .ok (.bipush 24, 2) := by decide +kernel
theorem dX8_lay_163 : decode cX8_lay 163 = .ok (.iload_n 1, 1) := by decide +kernel
theorem dX8_lay_164 : decode cX8_lay 164 = .ok (.imul, 1) := by decide +kernel
theorem dX8_lay_165 : decode cX8_lay 165 = .ok (.iload 6, 2) := by decide +kernel
theorem dX8_lay_167 : decode cX8_lay 167 = .ok (.iadd, 1) := by decide +kernel
theorem dX8_lay_168 : decode cX8_lay 168 = .ok (.aload_n 0, 1) := by decide +kernel
theorem dX8_lay_169 : decode cX8_lay 169 = .ok (.getfield 25, 3) := by decide +kernel
theorem dX8_lay_172 : decode cX8_lay 172 = .ok (.bipush 24, 2) := by decide +kernel
theorem dX8_lay_174 : decode cX8_lay 174 = .ok (.iload_n 3, 1) := by decide +kernel
theorem dX8_lay_175 : decode cX8_lay 175 = .ok (.imul, 1) := by decide +kernel
theorem dX8_lay_176 : decode cX8_lay 176 = .ok (.iload 6, 2) := by decide +kernel
theorem dX8_lay_178 : decode cX8_lay 178 = .ok (.iadd, 1) := by decide +kernel
theorem dX8_lay_179 : decode cX8_lay 179 = .ok (.iaload, 1) := by decide +kernel
theorem dX8_lay_180 : decode cX8_lay 180 = .ok (.iastore, 1) := by decide +kernel
theorem dX8_lay_181 : decode cX8_lay 181 = .ok (.iinc 6 1, 3) := by decide +kernel
theorem dX8_lay_184 : decode cX8_lay 184 = .ok (.goto (-34), 3) := by decide +kernel
theorem dX8_lay_187 : decode cX8_lay 187 = .ok (.iload 5, 2) := by decide +kernel
theorem dX8_lay_189 : decode cX8_lay 189 = .ok (.ireturn, 1) := by decide +kernel
theorem dX8_ask_0 : decode cX8_ask 0 = .ok (.iload_n 1, 1) := by decide +kernel
theorem dX8_ask_1 : decode cX8_ask 1 = .ok (.invokestatic 327, 3) := by decide +kernel
theorem dX8_ask_4 : decode cX8_ask 4 = .ok (.ifCond .eq 15, 3) := by decide +kernel
theorem dX8_ask_7 : decode cX8_ask 7 = .ok (.iload_n 2, 1) := by decide +kernel
theorem dX8_ask_8 : decode cX8_ask 8 = .ok (.i2l, 1) := by decide +kernel
theorem dX8_ask_9 : decode cX8_ask 9 = .ok (.lconst 0, 1) := by decide +kernel
theorem dX8_ask_10 : decode cX8_ask 10 = .ok (.ldc2_w 99, 3) := by decide +kernel
theorem dX8_ask_13 : decode cX8_ask 13 = .ok (.invokestatic 68, 3) := by decide +kernel
theorem dX8_ask_16 : decode cX8_ask 16 = .ok (.ifCond .ne 6, 3) := by decide +kernel
theorem dX8_ask_19 : decode cX8_ask 19 = .ok (.ldc 108, 2) := by decide +kernel
theorem dX8_ask_21 : decode cX8_ask 21 = .ok (.ireturn, 1) := by decide +kernel
theorem dX8_ask_22 : decode cX8_ask 22 = .ok (.aload_n 0, 1) := by decide +kernel
theorem dX8_ask_23 : decode cX8_ask 23 = .ok (.getfield 28, 3) := by decide +kernel
theorem dX8_ask_26 : decode cX8_ask 26 = .ok (.iload_n 1, 1) := by decide +kernel
theorem dX8_ask_27 : decode cX8_ask 27 = .ok (.iaload, 1) := by decide +kernel
theorem dX8_ask_28 : decode cX8_ask 28 = .ok (.ifCond .ne 7, 3) := by decide +kernel
theorem dX8_ask_31 : decode cX8_ask 31 = .ok (.ldc_w 318, 3) := by decide +kernel
theorem dX8_ask_34 : decode cX8_ask 34 = .ok (.ireturn, 1) := by decide +kernel
theorem dX8_ask_35 : decode cX8_ask 35 = .ok (.aload_n 0, 1) := by decide +kernel
theorem dX8_ask_36 : decode cX8_ask 36 = .ok (.getfield 28, 3) := by decide +kernel
theorem dX8_ask_39 : decode cX8_ask 39 = .ok (.iload_n 1, 1) := by decide +kernel
theorem dX8_ask_40 : decode cX8_ask 40 = .ok (.iaload, 1) := by decide +kernel
theorem dX8_ask_41 : decode cX8_ask 41 = .ok (.iconst 1, 1) := by decide +kernel
theorem dX8_ask_42 : decode cX8_ask 42 = .ok (.if_icmp .ne 25, 3) := by decide +kernel
theorem dX8_ask_45 : decode cX8_ask 45 = .ok (.aload_n 0, 1) := by decide +kernel
theorem dX8_ask_46 : decode cX8_ask 46 = .ok (.getfield 31, 3) := by decide +kernel
theorem dX8_ask_49 : decode cX8_ask 49 = .ok (.iload_n 1, 1) := by decide +kernel
theorem dX8_ask_50 : decode cX8_ask 50 = .ok (.iaload, 1) := by decide +kernel
theorem dX8_ask_51 : decode cX8_ask 51 = .ok (.iload_n 2, 1) := by decide +kernel
theorem dX8_ask_52 : decode cX8_ask 52 = .ok (.invokestatic 160, 3) := by decide +kernel
theorem dX8_ask_55 : decode cX8_ask 55 = .ok (.ifCond .eq 12, 3) := by decide +kernel
theorem dX8_ask_58 : decode cX8_ask 58 = .ok (.aload_n 0, 1) := by decide +kernel
theorem dX8_ask_59 : decode cX8_ask 59 = .ok (.getfield 34, 3) := by decide +kernel
theorem dX8_ask_62 : decode cX8_ask 62 = .ok (.iload_n 1, 1) := by decide +kernel
theorem dX8_ask_63 : decode cX8_ask 63 = .ok (.iaload, 1) := by decide +kernel
theorem dX8_ask_64 : decode cX8_ask 64 = .ok (.goto 5, 3) := by decide +kernel
theorem dX8_ask_67 : decode cX8_ask 67 = .ok (.ldc 163, 2) := by decide +kernel
theorem dX8_ask_69 : decode cX8_ask 69 = .ok (.ireturn, 1) := by decide +kernel
theorem dX8_item_0 : decode cX8_item 0 = .ok (.iload_n 1, 1) := by decide +kernel
theorem dX8_item_1 : decode cX8_item 1 = .ok (.invokestatic 327, 3) := by decide +kernel
theorem dX8_item_4 : decode cX8_item 4 = .ok (.ifCond .ne 6, 3) := by decide +kernel
theorem dX8_item_7 : decode cX8_item 7 = .ok (.ldc 108, 2) := by decide +kernel
theorem dX8_item_9 : decode cX8_item 9 = .ok (.ireturn, 1) := by decide +kernel
theorem dX8_item_10 : decode cX8_item 10 = .ok (.aload_n 0, 1) := by decide +kernel
theorem dX8_item_11 : decode cX8_item 11 = .ok (.getfield 28, 3) := by decide +kernel
theorem dX8_item_14 : decode cX8_item 14 = .ok (.iload_n 1, 1) := by decide +kernel
theorem dX8_item_15 : decode cX8_item 15 = .ok (.iaload, 1) := by decide +kernel
theorem dX8_item_16 : decode cX8_item 16 = .ok (.iconst 2, 1) := by decide +kernel
theorem dX8_item_17 : decode cX8_item 17 = .ok (.if_icmp .eq 21, 3) := by decide +kernel
theorem dX8_item_20 : decode cX8_item 20 = .ok (.aload_n 0, 1) := by decide +kernel
theorem dX8_item_21 : decode cX8_item 21 = .ok (.getfield 28, 3) := by decide +kernel
theorem dX8_item_24 : decode cX8_item 24 = .ok (.iload_n 1, 1) := by decide +kernel
theorem dX8_item_25 : decode cX8_item 25 = .ok (.iaload, 1) := by decide +kernel
theorem dX8_item_26 : decode cX8_item 26 = .ok (.ifCond .ne 9, 3) := by decide +kernel
theorem dX8_item_29 : decode cX8_item 29 = .ok (.ldc_w 318, 3) := by decide +kernel
theorem dX8_item_32 : decode cX8_item 32 = .ok (.goto 5, 3) := by decide +kernel
theorem dX8_item_35 : decode cX8_item 35 = .ok (.ldc 163, 2) := by decide +kernel
theorem dX8_item_37 : decode cX8_item 37 = .ok (.ireturn, 1) := by decide +kernel
theorem dX8_item_38 : decode cX8_item 38 = .ok (.iload_n 2, 1) := by decide +kernel
theorem dX8_item_39 : decode cX8_item 39 = .ok (.i2l, 1) := by decide +kernel
theorem dX8_item_40 : decode cX8_item 40 = .ok (.lconst 0, 1) := by decide +kernel
theorem dX8_item_41 : decode cX8_item 41 = .ok (.aload_n 0, 1) := by decide +kernel
theorem dX8_item_42 : decode cX8_item 42 = .ok (.getfield 37, 3) := by decide +kernel
theorem dX8_item_45 : decode cX8_item 45 = .ok (.iload_n 1, 1) := by decide +kernel
theorem dX8_item_46 : decode cX8_item 46 = .ok (.iaload, 1) := by decide +kernel
theorem dX8_item_47 : decode cX8_item 47 = .ok (.iconst 1, 1) := by decide +kernel
theorem dX8_item_48 : decode cX8_item 48 = .ok (.isub, 1) := by decide +kernel
theorem dX8_item_49 : decode cX8_item 49 = .ok (.i2l, 1) := by decide +kernel
theorem dX8_item_50 : decode cX8_item 50 = .ok (.invokestatic 68, 3) := by decide +kernel
theorem dX8_item_53 : decode cX8_item 53 = .ok (.ifCond .ne 7, 3) := by decide +kernel
theorem dX8_item_56 : decode cX8_item 56 = .ok (.ldc_w 319, 3) := by decide +kernel
theorem dX8_item_59 : decode cX8_item 59 = .ok (.ireturn, 1) := by decide +kernel
theorem dX8_item_60 : decode cX8_item 60 = .ok (.aload_n 0, 1) := by decide +kernel
theorem dX8_item_61 : decode cX8_item 61 = .ok (.getfield 40, 3) := by decide +kernel
theorem dX8_item_64 : decode cX8_item 64 = .ok (.bipush 24, 2) := by decide +kernel
theorem dX8_item_66 : decode cX8_item 66 = .ok (.iload_n 1, 1) := by decide +kernel
theorem dX8_item_67 : decode cX8_item 67 = .ok (.imul, 1) := by decide +kernel
theorem dX8_item_68 : decode cX8_item 68 = .ok (.iload_n 2, 1) := by decide +kernel
theorem dX8_item_69 : decode cX8_item 69 = .ok (.iadd, 1) := by decide +kernel
theorem dX8_item_70 : decode cX8_item 70 = .ok (.iaload, 1) := by decide +kernel
theorem dX8_item_71 : decode cX8_item 71 = .ok (.istore_n 3, 1) := by decide +kernel
theorem dX8_item_72 : decode cX8_item 72 = .ok (.iload_n 3, 1) := by decide +kernel
theorem dX8_item_73 : decode cX8_item 73 = .ok (.ldc 67, 2) := by decide +kernel
theorem dX8_item_75 : decode cX8_item 75 = .ok (.if_icmp .ne 8, 3) := by decide +kernel
theorem dX8_item_78 : decode cX8_item 78 = .ok (.ldc 163, 2) := by decide +kernel
theorem dX8_item_80 : decode cX8_item 80 = .ok (.goto 4, 3) := by decide +kernel
theorem dX8_item_83 : decode cX8_item 83 = .ok (.iload_n 3, 1) := by decide +kernel
theorem dX8_item_84 : decode cX8_item 84 = .ok (.ireturn, 1) := by decide +kernel
theorem dX8_rest_0 : decode cX8_rest 0 = .ok (.iload_n 1, 1) := by decide +kernel
theorem dX8_rest_1 : decode cX8_rest 1 = .ok (.invokestatic 327, 3) := by decide +kernel
theorem dX8_rest_4 : decode cX8_rest 4 = .ok (.ifCond .ne 6, 3) := by decide +kernel
theorem dX8_rest_7 : decode cX8_rest 7 = .ok (.ldc 108, 2) := by decide +kernel
theorem dX8_rest_9 : decode cX8_rest 9 = .ok (.ireturn, 1) := by decide +kernel
theorem dX8_rest_10 : decode cX8_rest 10 = .ok (.aload_n 0, 1) := by decide +kernel
theorem dX8_rest_11 : decode cX8_rest 11 = .ok (.getfield 28, 3) := by decide +kernel
theorem dX8_rest_14 : decode cX8_rest 14 = .ok (.iload_n 1, 1) := by decide +kernel
theorem dX8_rest_15 : decode cX8_rest 15 = .ok (.iaload, 1) := by decide +kernel
theorem dX8_rest_16 : decode cX8_rest 16 = .ok (.iconst 3, 1) := by decide +kernel
theorem dX8_rest_17 : decode cX8_rest 17 = .ok (.if_icmp .eq 21, 3) := by decide +kernel
theorem dX8_rest_20 : decode cX8_rest 20 = .ok (.aload_n 0, 1) := by decide +kernel
theorem dX8_rest_21 : decode cX8_rest 21 = .ok (.getfield 28, 3) := by decide +kernel
theorem dX8_rest_24 : decode cX8_rest 24 = .ok (.iload_n 1, 1) := by decide +kernel
theorem dX8_rest_25 : decode cX8_rest 25 = .ok (.iaload, 1) := by decide +kernel
theorem dX8_rest_26 : decode cX8_rest 26 = .ok (.ifCond .ne 9, 3) := by decide +kernel
theorem dX8_rest_29 : decode cX8_rest 29 = .ok (.ldc_w 318, 3) := by decide +kernel
theorem dX8_rest_32 : decode cX8_rest 32 = .ok (.goto 5, 3) := by decide +kernel
theorem dX8_rest_35 : decode cX8_rest 35 = .ok (.ldc 163, 2) := by decide +kernel
theorem dX8_rest_37 : decode cX8_rest 37 = .ok (.ireturn, 1) := by decide +kernel
theorem dX8_rest_38 : decode cX8_rest 38 = .ok (.iload_n 2, 1) := by decide +kernel
theorem dX8_rest_39 : decode cX8_rest 39 = .ok (.ifCond .ne 8, 3) := by decide +kernel
theorem dX8_rest_42 : decode cX8_rest 42 = .ok (.ldc 112, 2) := by decide +kernel
theorem dX8_rest_44 : decode cX8_rest 44 = .ok (.goto 11, 3) := by decide +kernel
theorem dX8_rest_47 : decode cX8_rest 47 = .ok (.aload_n 0, 1) := by decide +kernel
theorem dX8_rest_48 : decode cX8_rest 48 = .ok (.getfield 31, 3) := by decide +kernel
theorem dX8_rest_51 : decode cX8_rest 51 = .ok (.iload_n 1, 1) := by decide +kernel
theorem dX8_rest_52 : decode cX8_rest 52 = .ok (.iaload, 1) := by decide +kernel
theorem dX8_rest_53 : decode cX8_rest 53 = .ok (.iload_n 2, 1) := by decide +kernel
theorem dX8_rest_54 : decode cX8_rest 54 = .ok (.irem, 1) := by decide +kernel
theorem dX8_rest_55 : decode cX8_rest 55 = .ok (.ireturn, 1) := by decide +kernel
theorem dX8_tell_0 : decode cX8_tell 0 = .ok (.aload_n 0, 1) := by decide +kernel
theorem dX8_tell_1 : decode cX8_tell 1 = .ok (.getfield 330, 3) := by decide +kernel
theorem dX8_tell_4 : decode cX8_tell 4 = .ok (.bipush 60, 2) := by decide +kernel
theorem dX8_tell_6 : decode cX8_tell 6 = .ok (.if_icmp .ne 6, 3) := by decide +kernel
theorem dX8_tell_9 : decode cX8_tell 9 = .ok (.ldc 113, 2) := by decide +kernel
theorem dX8_tell_11 : decode cX8_tell 11 = .ok (.ireturn, 1) := by decide +kernel
theorem dX8_tell_12 : decode cX8_tell 12 = .ok (.aload_n 0, 1) := by decide +kernel
theorem dX8_tell_13 : decode cX8_tell 13 = .ok (.getfield 61, 3) := by decide +kernel
theorem dX8_tell_16 : decode cX8_tell 16 = .ok (.aload_n 0, 1) := by decide +kernel
theorem dX8_tell_17 : decode cX8_tell 17 = .ok (.getfield 330, 3) := by decide +kernel
theorem dX8_tell_20 : decode cX8_tell 20 = .ok (.iload_n 1, 1) := by decide +kernel
theorem dX8_tell_21 : decode cX8_tell 21 = .ok (.iastore, 1) := by decide +kernel
theorem dX8_tell_22 : decode cX8_tell 22 = .ok (.aload_n 0, 1) := by decide +kernel
theorem dX8_tell_23 : decode cX8_tell 23 = .ok (.dup, 1) := by decide +kernel
theorem dX8_tell_24 : decode cX8_tell 24 = .ok (.getfield 330, 3) := by decide +kernel
theorem dX8_tell_27 : decode cX8_tell 27 = .ok (.iconst 1, 1) := by decide +kernel
theorem dX8_tell_28 : decode cX8_tell 28 = .ok (.iadd, 1) := by decide +kernel
theorem dX8_tell_29 : decode cX8_tell 29 = .ok (.putfield 330, 3) := by decide +kernel
theorem dX8_tell_32 : decode cX8_tell 32 = .ok (.aload_n 0, 1) := by decide +kernel
theorem dX8_tell_33 : decode cX8_tell 33 = .ok (.getfield 330, 3) := by decide +kernel
theorem dX8_tell_36 : decode cX8_tell 36 = .ok (.ireturn, 1) := by decide +kernel
theorem dX8_setAside_0 : decode cX8_setAside 0 = .ok (.iconst 0, 1) := by decide +kernel
theorem dX8_setAside_1 : decode cX8_setAside 1 = .ok (.istore_n 3, 1) := by decide +kernel
theorem dX8_setAside_2 : decode cX8_setAside 2 = .ok (.iload_n 3, 1) := by decide +kernel
theorem dX8_setAside_3 : decode cX8_setAside 3 = .ok (.sipush 2851, 3) := by decide +kernel
theorem dX8_setAside_6 : decode cX8_setAside 6 = .ok (.if_icmp .ge 15, 3) := by decide +kernel
theorem dX8_setAside_9 : decode cX8_setAside 9 = .ok (.aload_n 2, 1) := by decide +kernel
theorem dX8_setAside_10 : decode cX8_setAside 10 = .ok (.iload_n 3, 1) := by decide +kernel
theorem dX8_setAside_11 : decode cX8_setAside 11 = .ok (.aload_n 1, 1) := by decide +kernel
theorem dX8_setAside_12 : decode cX8_setAside 12 = .ok (.iload_n 3, 1) := by decide +kernel
theorem dX8_setAside_13 : decode cX8_setAside 13 = .ok (.iaload, 1) := by decide +kernel
theorem dX8_setAside_14 : decode cX8_setAside 14 = .ok (.iastore, 1) := by decide +kernel
theorem dX8_setAside_15 : decode cX8_setAside 15 = .ok (.iinc 3 1, 3) := by decide +kernel
theorem dX8_setAside_18 : decode cX8_setAside 18 = .ok (.goto (-16), 3) := by decide +kernel
theorem dX8_setAside_21 : decode cX8_setAside 21 = .ok (.return_, 1) := by decide +kernel
theorem dX8_check_0 : decode cX8_check 0 = .ok (.aload_n 0, 1) := by decide +kernel
theorem dX8_check_1 : decode cX8_check 1 = .ok (.getfield 330, 3) := by decide +kernel
theorem dX8_check_4 : decode cX8_check 4 = .ok (.istore_n 2, 1) := by decide +kernel
theorem dX8_check_5 : decode cX8_check 5 = .ok (.aload_n 0, 1) := by decide +kernel
theorem dX8_check_6 : decode cX8_check 6 = .ok (.iconst 0, 1) := by decide +kernel
theorem dX8_check_7 : decode cX8_check 7 = .ok (.putfield 330, 3) := by decide +kernel
theorem dX8_check_10 : decode cX8_check 10 = .ok (.iload_n 1, 1) := by decide +kernel
theorem dX8_check_11 : decode cX8_check 11 = .ok (.i2l, 1) := by decide +kernel
theorem dX8_check_12 : decode cX8_check 12 = .ok (.lconst 1, 1) := by decide +kernel
theorem dX8_check_13 : decode cX8_check 13 = .ok (.ldc2_w 333, 3) := by decide +kernel
theorem dX8_check_16 : decode cX8_check 16 = .ok (.invokestatic 68, 3) := by decide +kernel
theorem dX8_check_19 : decode cX8_check 19 = .ok (.ifCond .ne 6, 3) := by decide +kernel
theorem dX8_check_22 : decode cX8_check 22 = .ok (.ldc 108, 2) := by decide +kernel
theorem dX8_check_24 : decode cX8_check 24 = .ok (.ireturn, 1) := by decide +kernel
theorem dX8_check_25 : decode cX8_check 25 = .ok (.aload_n 0, 1) := by decide +kernel
theorem dX8_check_26 : decode cX8_check 26 = .ok (.getfield 335, 3) := by decide +kernel
theorem dX8_check_29 : decode cX8_check 29 = .ok (.ifCond .ne 6, 3) := by decide +kernel
theorem dX8_check_32 : decode cX8_check 32 = .ok (.ldc 112, 2) := by decide +kernel
theorem dX8_check_34 : decode cX8_check 34 = .ok (.ireturn, 1) := by decide +kernel
theorem dX8_check_35 : decode cX8_check 35 = .ok (.aload_n 0, 1) := by decide +kernel
theorem dX8_check_36 : decode cX8_check 36 = .ok (.aload_n 0, 1) := by decide +kernel
theorem dX8_check_37 : decode cX8_check 37 = .ok (.getfield 7, 3) := by decide +kernel
theorem dX8_check_40 : decode cX8_check 40 = .ok (.aload_n 0, 1) := by decide +kernel
theorem dX8_check_41 : decode cX8_check 41 = .ok (.getfield 16, 3) := by decide +kernel
theorem dX8_check_44 : decode cX8_check 44 = .ok (.invokevirtual 339, 3) := by decide +kernel
theorem dX8_check_47 : decode cX8_check 47 = .ok (.aload_n 0, 1) := by decide +kernel
theorem dX8_check_48 : decode cX8_check 48 = .ok (.aload_n 0, 1) := by decide +kernel
theorem dX8_check_49 : decode cX8_check 49 = .ok (.getfield 13, 3) := by decide +kernel
theorem dX8_check_52 : decode cX8_check 52 = .ok (.aload_n 0, 1) := by decide +kernel
theorem dX8_check_53 : decode cX8_check 53 = .ok (.getfield 7, 3) := by decide +kernel
theorem dX8_check_56 : decode cX8_check 56 = .ok (.invokevirtual 339, 3) := by decide +kernel
theorem dX8_check_59 : decode cX8_check 59 = .ok (.iconst 0, 1) := by decide +kernel
theorem dX8_check_60 : decode cX8_check 60 = .ok (.istore_n 3, 1) := by decide +kernel
theorem dX8_check_61 : decode cX8_check 61 = .ok (.iconst 0, 1) := by decide +kernel
theorem dX8_check_62 : decode cX8_check 62 = .ok (.istore 4, 2) := by decide +kernel
theorem dX8_check_64 : decode cX8_check 64 = .ok (.iload 4, 2) := by decide +kernel
theorem dX8_check_66 : decode cX8_check 66 = .ok (.iload_n 1, 1) := by decide +kernel
theorem dX8_check_67 : decode cX8_check 67 = .ok (.if_icmp .ge 52, 3) := by decide +kernel
theorem dX8_check_70 : decode cX8_check 70 = .ok (.aload_n 0, 1) := by decide +kernel
theorem dX8_check_71 : decode cX8_check 71 = .ok (.getfield 7, 3) := by decide +kernel
theorem dX8_check_74 : decode cX8_check 74 = .ok (.iconst 2, 1) := by decide +kernel
theorem dX8_check_75 : decode cX8_check 75 = .ok (.iaload, 1) := by decide +kernel
theorem dX8_check_76 : decode cX8_check 76 = .ok (.sipush 9999, 3) := by decide +kernel
theorem dX8_check_79 : decode cX8_check 79 = .ok (.if_icmp .ge 40, 3) := by decide +kernel
theorem dX8_check_82 : decode cX8_check 82 = .ok (.aload_n 0, 1) := by decide +kernel
theorem dX8_check_83 : decode cX8_check 83 = .ok (.invokevirtual 183, 3) := by decide +kernel
theorem dX8_check_86 : decode cX8_check 86 = .ok (.aload_n 0, 1) := by decide +kernel
theorem dX8_check_87 : decode cX8_check 87 = .ok (.getfield 64, 3) := by decide +kernel
theorem dX8_check_90 : decode cX8_check 90 = .ok (.iload_n 3, 1) := by decide +kernel
theorem dX8_check_91 : decode cX8_check 91 = .ok (.aload_n 0, 1) := by decide +kernel
theorem dX8_check_92 : decode cX8_check 92 = .ok (.getfield 7, 3) := by decide +kernel
theorem dX8_check_95 : decode cX8_check 95 = .ok (.iconst 3, 1) := by decide +kernel
theorem dX8_check_96 : decode cX8_check 96 = .ok (.iaload, 1) := by decide +kernel
theorem dX8_check_97 : decode cX8_check 97 = .ok (.iastore, 1) := by decide +kernel
theorem dX8_check_98 : decode cX8_check 98 = .ok (.aload_n 0, 1) := by decide +kernel
theorem dX8_check_99 : decode cX8_check 99 = .ok (.getfield 64, 3) := by decide +kernel
theorem dX8_check_102 : decode cX8_check 102 = .ok (.iload_n 3, 1) := by decide +kernel
theorem dX8_check_103 : decode cX8_check 103 = .ok (.iconst 1, 1) := by decide +kernel
theorem dX8_check_104 : decode cX8_check 104 = .ok (.iadd, 1) := by decide +kernel
theorem dX8_check_105 : decode cX8_check 105 = .ok (.aload_n 0, 1) := by decide +kernel
theorem dX8_check_106 : decode cX8_check 106 = .ok (.invokevirtual 192, 3) := by decide +kernel
theorem dX8_check_109 : decode cX8_check 109 = .ok (.iastore, 1) := by decide +kernel
theorem dX8_check_110 : decode cX8_check 110 = .ok (.iinc 3 2, 3) := by decide +kernel
theorem dX8_check_113 : decode cX8_check 113 = .ok (.iinc 4 1, 3) := by decide +kernel
theorem dX8_check_116 : decode cX8_check 116 = .ok (.goto (-52), 3) := by decide +kernel
theorem dX8_check_119 : decode cX8_check 119 = .ok (.aload_n 0, 1) := by decide +kernel
theorem dX8_check_120 : decode cX8_check 120 = .ok (.aload_n 0, 1) := by decide +kernel
theorem dX8_check_121 : decode cX8_check 121 = .ok (.getfield 16, 3) := by decide +kernel
theorem dX8_check_124 : decode cX8_check 124 = .ok (.aload_n 0, 1) := by decide +kernel
theorem dX8_check_125 : decode cX8_check 125 = .ok (.getfield 7, 3) := by decide +kernel
theorem dX8_check_128 : decode cX8_check 128 = .ok (.invokevirtual 339, 3) := by decide +kernel
theorem dX8_check_131 : decode cX8_check 131 = .ok (.iconst 0, 1) := by decide +kernel
theorem dX8_check_132 : decode cX8_check 132 = .ok (.istore 4, 2) := by decide +kernel
theorem dX8_check_134 : decode cX8_check 134 = .ok (.iload 4, 2) := by decide +kernel
theorem dX8_check_136 : decode cX8_check 136 = .ok (.iload_n 2, 1) := by decide +kernel
theorem dX8_check_137 : decode cX8_check 137 = .ok (.if_icmp .ge 32, 3) := by decide +kernel
theorem dX8_check_140 : decode cX8_check 140 = .ok (.iload 4, 2) := by decide +kernel
theorem dX8_check_142 : decode cX8_check 142 = .ok (.iload_n 3, 1) := by decide +kernel
theorem dX8_check_143 : decode cX8_check 143 = .ok (.if_icmp .ge 26, 3) := by decide +kernel
theorem dX8_check_146 : decode cX8_check 146 = .ok (.aload_n 0, 1) := by decide +kernel
theorem dX8_check_147 : decode cX8_check 147 = .ok (.getfield 61, 3) := by decide +kernel
theorem dX8_check_150 : decode cX8_check 150 = .ok (.iload 4, 2) := by decide +kernel
theorem dX8_check_152 : decode cX8_check 152 = .ok (.iaload, 1) := by decide +kernel
theorem dX8_check_153 : decode cX8_check 153 = .ok (.aload_n 0, 1) := by decide +kernel
theorem dX8_check_154 : decode cX8_check 154 = .ok (.getfield 64, 3) := by decide +kernel
theorem dX8_check_157 : decode cX8_check 157 = .ok (.iload 4, 2) := by decide +kernel
theorem dX8_check_159 : decode cX8_check 159 = .ok (.iaload, 1) := by decide +kernel
theorem dX8_check_160 : decode cX8_check 160 = .ok (.if_icmp .ne 9, 3) := by decide +kernel
theorem dX8_check_163 : decode cX8_check 163 = .ok (.iinc 4 1, 3) := by decide +kernel
theorem dX8_check_166 : decode cX8_check 166 = .ok (.goto (-32), 3) := by decide +kernel
theorem dX8_check_169 : decode cX8_check 169 = .ok (.iload 4, 2) := by decide +kernel
theorem dX8_check_171 : decode cX8_check 171 = .ok (.iload_n 2, 1) := by decide +kernel
theorem dX8_check_172 : decode cX8_check 172 = .ok (.if_icmp .ne 13, 3) := by decide +kernel
theorem dX8_check_175 : decode cX8_check 175 = .ok (.iload 4, 2) := by decide +kernel
theorem dX8_check_177 : decode cX8_check 177 = .ok (.iload_n 3, 1) := by decide +kernel
theorem dX8_check_178 : decode cX8_check 178 = .ok (.if_icmp .ne 7, 3) := by decide +kernel
theorem dX8_check_181 : decode cX8_check 181 = .ok (.iconst 0, 1) := by decide +kernel
theorem dX8_check_182 : decode cX8_check 182 = .ok (.goto 7, 3) := by decide +kernel
theorem dX8_check_185 : decode cX8_check 185 = .ok (.iconst 1, 1) := by decide +kernel
theorem dX8_check_186 : decode cX8_check 186 = .ok (.iload 4, 2) := by decide +kernel
theorem dX8_check_188 : decode cX8_check 188 = .ok (.iadd, 1) := by decide +kernel
theorem dX8_check_189 : decode cX8_check 189 = .ok (.ireturn, 1) := by decide +kernel
theorem dX8_keep_0 : decode cX8_keep 0 = .ok (.aload_n 0, 1) := by decide +kernel
theorem dX8_keep_1 : decode cX8_keep 1 = .ok (.iconst 1, 1) := by decide +kernel
theorem dX8_keep_2 : decode cX8_keep 2 = .ok (.putfield 335, 3) := by decide +kernel
theorem dX8_keep_5 : decode cX8_keep 5 = .ok (.aload_n 0, 1) := by decide +kernel
theorem dX8_keep_6 : decode cX8_keep 6 = .ok (.aload_n 0, 1) := by decide +kernel
theorem dX8_keep_7 : decode cX8_keep 7 = .ok (.getfield 7, 3) := by decide +kernel
theorem dX8_keep_10 : decode cX8_keep 10 = .ok (.aload_n 0, 1) := by decide +kernel
theorem dX8_keep_11 : decode cX8_keep 11 = .ok (.getfield 13, 3) := by decide +kernel
theorem dX8_keep_14 : decode cX8_keep 14 = .ok (.invokevirtual 339, 3) := by decide +kernel
theorem dX8_keep_17 : decode cX8_keep 17 = .ok (.aload_n 0, 1) := by decide +kernel
theorem dX8_keep_18 : decode cX8_keep 18 = .ok (.getfield 7, 3) := by decide +kernel
theorem dX8_keep_21 : decode cX8_keep 21 = .ok (.iconst 0, 1) := by decide +kernel
theorem dX8_keep_22 : decode cX8_keep 22 = .ok (.iaload, 1) := by decide +kernel
theorem dX8_keep_23 : decode cX8_keep 23 = .ok (.ireturn, 1) := by decide +kernel
theorem dX8_back_0 : decode cX8_back 0 = .ok (.aload_n 0, 1) := by decide +kernel
theorem dX8_back_1 : decode cX8_back 1 = .ok (.getfield 335, 3) := by decide +kernel
theorem dX8_back_4 : decode cX8_back 4 = .ok (.ifCond .ne 6, 3) := by decide +kernel
theorem dX8_back_7 : decode cX8_back 7 = .ok (.ldc 112, 2) := by decide +kernel
theorem dX8_back_9 : decode cX8_back 9 = .ok (.ireturn, 1) := by decide +kernel
theorem dX8_back_10 : decode cX8_back 10 = .ok (.aload_n 0, 1) := by decide +kernel
theorem dX8_back_11 : decode cX8_back 11 = .ok (.aload_n 0, 1) := by decide +kernel
theorem dX8_back_12 : decode cX8_back 12 = .ok (.getfield 13, 3) := by decide +kernel
theorem dX8_back_15 : decode cX8_back 15 = .ok (.aload_n 0, 1) := by decide +kernel
theorem dX8_back_16 : decode cX8_back 16 = .ok (.getfield 7, 3) := by decide +kernel
theorem dX8_back_19 : decode cX8_back 19 = .ok (.invokevirtual 339, 3) := by decide +kernel
theorem dX8_back_22 : decode cX8_back 22 = .ok (.aload_n 0, 1) := by decide +kernel
theorem dX8_back_23 : decode cX8_back 23 = .ok (.getfield 7, 3) := by decide +kernel
theorem dX8_back_26 : decode cX8_back 26 = .ok (.iconst 0, 1) := by decide +kernel
theorem dX8_back_27 : decode cX8_back 27 = .ok (.iaload, 1) := by decide +kernel
theorem dX8_back_28 : decode cX8_back 28 = .ok (.ireturn, 1) := by decide +kernel
theorem dX8_count_0 : decode cX8_count 0 = .ok (.iload_n 1, 1) := by decide +kernel
theorem dX8_count_1 : decode cX8_count 1 = .ok (.tableswitch 114 0 8 #[51, 58, 65, 73, 81, 89, 96, 101, 106], 51) := by decide +kernel
theorem dX8_count_52 : decode cX8_count 52 = .ok (.aload_n 0, 1) := by decide +kernel
theorem dX8_count_53 : decode cX8_count 53 = .ok (.getfield 7, 3) := by decide +kernel
theorem dX8_count_56 : decode cX8_count 56 = .ok (.iconst 0, 1) := by decide +kernel
theorem dX8_count_57 : decode cX8_count 57 = .ok (.iaload, 1) := by decide +kernel
theorem dX8_count_58 : decode cX8_count 58 = .ok (.ireturn, 1) := by decide +kernel
theorem dX8_count_59 : decode cX8_count 59 = .ok (.aload_n 0, 1) := by decide +kernel
theorem dX8_count_60 : decode cX8_count 60 = .ok (.getfield 7, 3) := by decide +kernel
theorem dX8_count_63 : decode cX8_count 63 = .ok (.iconst 2, 1) := by decide +kernel
theorem dX8_count_64 : decode cX8_count 64 = .ok (.iaload, 1) := by decide +kernel
theorem dX8_count_65 : decode cX8_count 65 = .ok (.ireturn, 1) := by decide +kernel
theorem dX8_count_66 : decode cX8_count 66 = .ok (.aload_n 0, 1) := by decide +kernel
theorem dX8_count_67 : decode cX8_count 67 = .ok (.getfield 7, 3) := by decide +kernel
theorem dX8_count_70 : decode cX8_count 70 = .ok (.bipush 6, 2) := by decide +kernel
theorem dX8_count_72 : decode cX8_count 72 = .ok (.iaload, 1) := by decide +kernel
theorem dX8_count_73 : decode cX8_count 73 = .ok (.ireturn, 1) := by decide +kernel
theorem dX8_count_74 : decode cX8_count 74 = .ok (.aload_n 0, 1) := by decide +kernel
theorem dX8_count_75 : decode cX8_count 75 = .ok (.getfield 7, 3) := by decide +kernel
theorem dX8_count_78 : decode cX8_count 78 = .ok (.bipush 7, 2) := by decide +kernel
theorem dX8_count_80 : decode cX8_count 80 = .ok (.iaload, 1) := by decide +kernel
theorem dX8_count_81 : decode cX8_count 81 = .ok (.ireturn, 1) := by decide +kernel
theorem dX8_count_82 : decode cX8_count 82 = .ok (.aload_n 0, 1) := by decide +kernel
theorem dX8_count_83 : decode cX8_count 83 = .ok (.getfield 7, 3) := by decide +kernel
theorem dX8_count_86 : decode cX8_count 86 = .ok (.bipush 8, 2) := by decide +kernel
theorem dX8_count_88 : decode cX8_count 88 = .ok (.iaload, 1) := by decide +kernel
theorem dX8_count_89 : decode cX8_count 89 = .ok (.ireturn, 1) := by decide +kernel
theorem dX8_count_90 : decode cX8_count 90 = .ok (.aload_n 0, 1) := by decide +kernel
theorem dX8_count_91 : decode cX8_count 91 = .ok (.getfield 7, 3) := by decide +kernel
theorem dX8_count_94 : decode cX8_count 94 = .ok (.iconst 1, 1) := by decide +kernel
theorem dX8_count_95 : decode cX8_count 95 = .ok (.iaload, 1) := by decide +kernel
theorem dX8_count_96 : decode cX8_count 96 = .ok (.ireturn, 1) := by decide +kernel
theorem dX8_count_97 : decode cX8_count 97 = .ok (.aload_n 0, 1) := by decide +kernel
theorem dX8_count_98 : decode cX8_count 98 = .ok (.getfield 330, 3) := by decide +kernel
theorem dX8_count_101 : decode cX8_count 101 = .ok (.ireturn, 1) := by decide +kernel
theorem dX8_count_102 : decode cX8_count 102 = .ok (.aload_n 0, 1) := by decide +kernel
theorem dX8_count_103 : decode cX8_count 103 = .ok (.getfield 214, 3) := by decide +kernel
theorem dX8_count_106 : decode cX8_count 106 = .ok (.ireturn, 1) := by decide +kernel
theorem dX8_count_107 : decode cX8_count 107 = .ok (.aload_n 0, 1) := by decide +kernel
theorem dX8_count_108 : decode cX8_count 108 = .ok (.getfield 7, 3) := by decide +kernel
theorem dX8_count_111 : decode cX8_count 111 = .ok (.bipush 9, 2) := by decide +kernel
theorem dX8_count_113 : decode cX8_count 113 = .ok (.iaload, 1) := by decide +kernel
theorem dX8_count_114 : decode cX8_count 114 = .ok (.ireturn, 1) := by decide +kernel
theorem dX8_count_115 : decode cX8_count 115 = .ok (.ldc 108, 2) := by decide +kernel
theorem dX8_count_117 : decode cX8_count 117 = .ok (.ireturn, 1) := by decide +kernel
