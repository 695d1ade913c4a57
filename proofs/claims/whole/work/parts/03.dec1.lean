/-! instructions, decoded: out of the printed names -/
theorem dX0_isUnder_0 : decode cX0_isUnder 0 = .ok (.iload_n 0, 1) := by decide +kernel
theorem dX0_isUnder_1 : decode cX0_isUnder 1 = .ok (.istore_n 2, 1) := by decide +kernel
theorem dX0_isUnder_2 : decode cX0_isUnder 2 = .ok (.iconst 0, 1) := by decide +kernel
theorem dX0_isUnder_3 : decode cX0_isUnder 3 = .ok (.istore_n 3, 1) := by decide +kernel
theorem dX0_isUnder_4 : decode cX0_isUnder 4 = .ok (.iload_n 3, 1) := by decide +kernel
theorem dX0_isUnder_5 : decode cX0_isUnder 5 = .ok (.bipush 6, 2) := by decide +kernel
theorem dX0_isUnder_7 : decode cX0_isUnder 7 = .ok (.if_icmp .ge 24, 3) := by decide +kernel
theorem dX0_isUnder_10 : decode cX0_isUnder 10 = .ok (.iload_n 2, 1) := by decide +kernel
theorem dX0_isUnder_11 : decode cX0_isUnder 11 = .ok (.ifCond .lt 20, 3) := by decide +kernel
theorem dX0_isUnder_14 : decode cX0_isUnder 14 = .ok (.iload_n 2, 1) := by decide +kernel
theorem dX0_isUnder_15 : decode cX0_isUnder 15 = .ok (.iload_n 1, 1) := by decide +kernel
theorem dX0_isUnder_16 : decode cX0_isUnder 16 = .ok (.if_icmp .eq 15, 3) := by decide +kernel
theorem dX0_isUnder_19 : decode cX0_isUnder 19 = .ok (.getstatic 9, 3) := by decide +kernel
theorem dX0_isUnder_22 : decode cX0_isUnder 22 = .ok (.iload_n 2, 1) := by decide +kernel
theorem dX0_isUnder_23 : decode cX0_isUnder 23 = .ok (.iaload, 1) := by decide +kernel
theorem dX0_isUnder_24 : decode cX0_isUnder 24 = .ok (.istore_n 2, 1) := by decide +kernel
theorem dX0_isUnder_25 : decode cX0_isUnder 25 = .ok (.iinc 3 1, 3) := by decide +kernel
theorem dX0_isUnder_28 : decode cX0_isUnder 28 = .ok (.goto (-24), 3) := by decide +kernel
theorem dX0_isUnder_31 : decode cX0_isUnder 31 = .ok (.iload_n 2, 1) := by decide +kernel
theorem dX0_isUnder_32 : decode cX0_isUnder 32 = .ok (.iload_n 1, 1) := by decide +kernel
theorem dX0_isUnder_33 : decode cX0_isUnder 33 = .ok (.if_icmp .ne 7, 3) := by decide +kernel
theorem dX0_isUnder_36 : decode cX0_isUnder 36 = .ok (.iconst 1, 1) := by decide +kernel
theorem dX0_isUnder_37 : decode cX0_isUnder 37 = .ok (.goto 4, 3) := by decide +kernel
theorem dX0_isUnder_40 : decode cX0_isUnder 40 = .ok (.iconst 0, 1) := by decide +kernel
theorem dX0_isUnder_41 : decode cX0_isUnder 41 = .ok (.ireturn, 1) := by decide +kernel
theorem dX0_growth_0 : decode cX0_growth 0 = .ok (.iload_n 1, 1) := by decide +kernel
theorem dX0_growth_1 : decode cX0_growth 1 = .ok (.ifCond .ne 8, 3) := by decide +kernel
theorem dX0_growth_4 : decode cX0_growth 4 = .ok (.bipush (-2), 2) := by decide +kernel
theorem dX0_growth_6 : decode cX0_growth 6 = .ok (.goto 4, 3) := by decide +kernel
theorem dX0_growth_9 : decode cX0_growth 9 = .ok (.iload_n 1, 1) := by decide +kernel
theorem dX0_growth_10 : decode cX0_growth 10 = .ok (.istore_n 2, 1) := by decide +kernel
theorem dX0_growth_11 : decode cX0_growth 11 = .ok (.iload_n 0, 1) := by decide +kernel
theorem dX0_growth_12 : decode cX0_growth 12 = .ok (.tableswitch 52 1 5 #[36, 40, 36, 44, 50], 36) := by decide +kernel
theorem dX0_growth_48 : decode cX0_growth 48 = .ok (.iconst 2, 1) := by decide +kernel
theorem dX0_growth_49 : decode cX0_growth 49 = .ok (.iload_n 2, 1) := by decide +kernel
theorem dX0_growth_50 : decode cX0_growth 50 = .ok (.imul, 1) := by decide +kernel
theorem dX0_growth_51 : decode cX0_growth 51 = .ok (.ireturn, 1) := by decide +kernel
theorem dX0_growth_52 : decode cX0_growth 52 = .ok (.iload_n 2, 1) := by decide +kernel
theorem dX0_growth_53 : decode cX0_growth 53 = .ok (.iconst 2, 1) := by decide +kernel
theorem dX0_growth_54 : decode cX0_growth 54 = .ok (.idiv, 1) := by decide +kernel
theorem dX0_growth_55 : decode cX0_growth 55 = .ok (.ireturn, 1) := by decide +kernel
theorem dX0_growth_56 : decode cX0_growth 56 = .ok (.iload_n 2, 1) := by decide +kernel
theorem dX0_growth_57 : decode cX0_growth 57 = .ok (.iconst 2, 1) := by decide +kernel
theorem dX0_growth_58 : decode cX0_growth 58 = .ok (.idiv, 1) := by decide +kernel
theorem dX0_growth_59 : decode cX0_growth 59 = .ok (.iconst 1, 1) := by decide +kernel
theorem dX0_growth_60 : decode cX0_growth 60 = .ok (.isub, 1) := by decide +kernel
theorem dX0_growth_61 : decode cX0_growth 61 = .ok (.ireturn, 1) := by decide +kernel
theorem dX0_growth_62 : decode cX0_growth 62 = .ok (.iconst 0, 1) := by decide +kernel
theorem dX0_growth_63 : decode cX0_growth 63 = .ok (.ireturn, 1) := by decide +kernel
theorem dX0_growth_64 : decode cX0_growth 64 = .ok (.iload_n 2, 1) := by decide +kernel
theorem dX0_growth_65 : decode cX0_growth 65 = .ok (.ireturn, 1) := by decide +kernel
theorem dX0_pull_0 : decode cX0_pull 0 = .ok (.iload_n 0, 1) := by decide +kernel
theorem dX0_pull_1 : decode cX0_pull 1 = .ok (.tableswitch 47 1 4 #[31, 43, 36, 43], 31) := by decide +kernel
theorem dX0_pull_32 : decode cX0_pull 32 = .ok (.iload_n 1, 1) := by decide +kernel
theorem dX0_pull_33 : decode cX0_pull 33 = .ok (.bipush 15, 2) := by decide +kernel
theorem dX0_pull_35 : decode cX0_pull 35 = .ok (.iadd, 1) := by decide +kernel
theorem dX0_pull_36 : decode cX0_pull 36 = .ok (.ireturn, 1) := by decide +kernel
theorem dX0_pull_37 : decode cX0_pull 37 = .ok (.iconst 2, 1) := by decide +kernel
theorem dX0_pull_38 : decode cX0_pull 38 = .ok (.iload_n 1, 1) := by decide +kernel
theorem dX0_pull_39 : decode cX0_pull 39 = .ok (.bipush 15, 2) := by decide +kernel
theorem dX0_pull_41 : decode cX0_pull 41 = .ok (.iadd, 1) := by decide +kernel
theorem dX0_pull_42 : decode cX0_pull 42 = .ok (.imul, 1) := by decide +kernel
theorem dX0_pull_43 : decode cX0_pull 43 = .ok (.ireturn, 1) := by decide +kernel
theorem dX0_pull_44 : decode cX0_pull 44 = .ok (.iload_n 1, 1) := by decide +kernel
theorem dX0_pull_45 : decode cX0_pull 45 = .ok (.iconst 2, 1) := by decide +kernel
theorem dX0_pull_46 : decode cX0_pull 46 = .ok (.idiv, 1) := by decide +kernel
theorem dX0_pull_47 : decode cX0_pull 47 = .ok (.ireturn, 1) := by decide +kernel
theorem dX0_pull_48 : decode cX0_pull 48 = .ok (.iload_n 1, 1) := by decide +kernel
theorem dX0_pull_49 : decode cX0_pull 49 = .ok (.ireturn, 1) := by decide +kernel
theorem dX0_worth_0 : decode cX0_worth 0 = .ok (.iload_n 0, 1) := by decide +kernel
theorem dX0_worth_1 : decode cX0_worth 1 = .ok (.tableswitch 62 1 5 #[35, 45, 39, 51, 60], 35) := by decide +kernel
theorem dX0_worth_36 : decode cX0_worth 36 = .ok (.iload_n 1, 1) := by decide +kernel
theorem dX0_worth_37 : decode cX0_worth 37 = .ok (.iconst 5, 1) := by decide +kernel
theorem dX0_worth_38 : decode cX0_worth 38 = .ok (.iadd, 1) := by decide +kernel
theorem dX0_worth_39 : decode cX0_worth 39 = .ok (.ireturn, 1) := by decide +kernel
theorem dX0_worth_40 : decode cX0_worth 40 = .ok (.iconst 2, 1) := by decide +kernel
theorem dX0_worth_41 : decode cX0_worth 41 = .ok (.iload_n 1, 1) := by decide +kernel
theorem dX0_worth_42 : decode cX0_worth 42 = .ok (.iconst 5, 1) := by decide +kernel
theorem dX0_worth_43 : decode cX0_worth 43 = .ok (.iadd, 1) := by decide +kernel
theorem dX0_worth_44 : decode cX0_worth 44 = .ok (.imul, 1) := by decide +kernel
theorem dX0_worth_45 : decode cX0_worth 45 = .ok (.ireturn, 1) := by decide +kernel
theorem dX0_worth_46 : decode cX0_worth 46 = .ok (.sipush 200, 3) := by decide +kernel
theorem dX0_worth_49 : decode cX0_worth 49 = .ok (.iload_n 1, 1) := by decide +kernel
theorem dX0_worth_50 : decode cX0_worth 50 = .ok (.isub, 1) := by decide +kernel
theorem dX0_worth_51 : decode cX0_worth 51 = .ok (.ireturn, 1) := by decide +kernel
theorem dX0_worth_52 : decode cX0_worth 52 = .ok (.sipush 200, 3) := by decide +kernel
theorem dX0_worth_55 : decode cX0_worth 55 = .ok (.iload_n 1, 1) := by decide +kernel
theorem dX0_worth_56 : decode cX0_worth 56 = .ok (.isub, 1) := by decide +kernel
theorem dX0_worth_57 : decode cX0_worth 57 = .ok (.bipush 6, 2) := by decide +kernel
theorem dX0_worth_59 : decode cX0_worth 59 = .ok (.isub, 1) := by decide +kernel
theorem dX0_worth_60 : decode cX0_worth 60 = .ok (.ireturn, 1) := by decide +kernel
theorem dX0_worth_61 : decode cX0_worth 61 = .ok (.iconst 3, 1) := by decide +kernel
theorem dX0_worth_62 : decode cX0_worth 62 = .ok (.ireturn, 1) := by decide +kernel
theorem dX0_worth_63 : decode cX0_worth 63 = .ok (.iload_n 1, 1) := by decide +kernel
theorem dX0_worth_64 : decode cX0_worth 64 = .ok (.ireturn, 1) := by decide +kernel
theorem dX1_init_0 : decode cX1_init 0 = .ok (.aload_n 0, 1) := by decide +kernel
theorem dX1_init_1 : decode cX1_init 1 = .ok (.invokespecial 3, 3) := by decide +kernel
theorem dX1_init_4 : decode cX1_init 4 = .ok (.aload_n 0, 1) := by decide +kernel
theorem dX1_init_5 : decode cX1_init 5 = .ok (.bipush 15, 2) := by decide +kernel
theorem dX1_init_7 : decode cX1_init 7 = .ok (.anewarray 9, 3) := by decide +kernel
theorem dX1_init_10 : decode cX1_init 10 = .ok (.putfield 11, 3) := by decide +kernel
theorem dX1_init_13 : decode cX1_init 13 = .ok (.aload_n 0, 1) := by decide +kernel
theorem dX1_init_14 : decode cX1_init 14 = .ok (.bipush 96, 2) := by decide +kernel
theorem dX1_init_16 : decode cX1_init 16 = .ok (.newarray .int, 2) := by decide +kernel
theorem dX1_init_18 : decode cX1_init 18 = .ok (.putfield 17, 3) := by decide +kernel
theorem dX1_init_21 : decode cX1_init 21 = .ok (.iconst 0, 1) := by decide +kernel
theorem dX1_init_22 : decode cX1_init 22 = .ok (.istore_n 1, 1) := by decide +kernel
theorem dX1_init_23 : decode cX1_init 23 = .ok (.iload_n 1, 1) := by decide +kernel
theorem dX1_init_24 : decode cX1_init 24 = .ok (.bipush 14, 2) := by decide +kernel
theorem dX1_init_26 : decode cX1_init 26 = .ok (.if_icmp .gt 22, 3) := by decide +kernel
theorem dX1_init_29 : decode cX1_init 29 = .ok (.aload_n 0, 1) := by decide +kernel
theorem dX1_init_30 : decode cX1_init 30 = .ok (.getfield 11, 3) := by decide +kernel
theorem dX1_init_33 : decode cX1_init 33 = .ok (.iload_n 1, 1) := by decide +kernel
theorem dX1_init_34 : decode cX1_init 34 = .ok (.new 9, 3) := by decide +kernel
theorem dX1_init_37 : decode cX1_init 37 = .ok (.dup, 1) := by decide +kernel
theorem dX1_init_38 : decode cX1_init 38 = .ok (.invokespecial 21, 3) := by decide +kernel
theorem dX1_init_41 : decode cX1_init 41 = .ok (.aastore, 1) := by decide +kernel
theorem dX1_init_42 : decode cX1_init 42 = .ok (.iinc 1 1, 3) := by decide +kernel
theorem dX1_init_45 : decode cX1_init 45 = .ok (.goto (-22), 3) := by decide +kernel
theorem dX1_init_48 : decode cX1_init 48 = .ok (.return_, 1) := by decide +kernel
theorem dX1_value_0 : decode cX1_value 0 = .ok (.aload_n 0, 1) := by decide +kernel
theorem dX1_value_1 : decode cX1_value 1 = .ok (.getfield 11, 3) := by decide +kernel
theorem dX1_value_4 : decode cX1_value 4 = .ok (.iload_n 1, 1) := by decide +kernel
theorem dX1_value_5 : decode cX1_value 5 = .ok (.aaload, 1) := by decide +kernel
theorem dX1_value_6 : decode cX1_value 6 = .ok (.astore 5, 2) := by decide +kernel
theorem dX1_value_8 : decode cX1_value 8 = .ok (.iconst 0, 1) := by decide +kernel
theorem dX1_value_9 : decode cX1_value 9 = .ok (.istore 6, 2) := by decide +kernel
theorem dX1_value_11 : decode cX1_value 11 = .ok (.iconst 0, 1) := by decide +kernel
theorem dX1_value_12 : decode cX1_value 12 = .ok (.istore 7, 2) := by decide +kernel
theorem dX1_value_14 : decode cX1_value 14 = .ok (.iload 7, 2) := by decide +kernel
theorem dX1_value_16 : decode cX1_value 16 = .ok (.aload 5, 2) := by decide +kernel
theorem dX1_value_18 : decode cX1_value 18 = .ok (.getfield 22, 3) := by decide +kernel
theorem dX1_value_21 : decode cX1_value 21 = .ok (.if_icmp .ge 160, 3) := by decide +kernel
theorem dX1_value_24 : decode cX1_value 24 = .ok (.aload 5, 2) := by decide +kernel
theorem dX1_value_26 : decode cX1_value 26 = .ok (.getfield 26, 3) := by decide +kernel
theorem dX1_value_29 : decode cX1_value 29 = .ok (.iload 7, 2) := by decide +kernel
theorem dX1_value_31 : decode cX1_value 31 = .ok (.iaload, 1) := by decide +kernel
theorem dX1_value_32 : decode cX1_value 32 = .ok (.istore 8, 2) := by decide +kernel
theorem dX1_value_34 : decode cX1_value 34 = .ok (.iload 8, 2) := by decide +kernel
theorem dX1_value_36 : decode cX1_value 36 = .ok (.bipush (-3), 2) := by decide +kernel
theorem dX1_value_38 : decode cX1_value 38 = .ok (.if_icmp .lt 56, 3) := by decide +kernel
theorem dX1_value_41 : decode cX1_value 41 = .ok (.iload 6, 2) := by decide +kernel
theorem dX1_value_43 : decode cX1_value 43 = .ok (.bipush 96, 2) := by decide +kernel
theorem dX1_value_45 : decode cX1_value 45 = .ok (.if_icmp .ge 49, 3) := by decide +kernel
theorem dX1_value_48 : decode cX1_value 48 = .ok (.aload_n 0, 1) := by decide +kernel
theorem dX1_value_49 : decode cX1_value 49 = .ok (.getfield 17, 3) := by decide +kernel
theorem dX1_value_52 : decode cX1_value 52 = .ok (.iload 6, 2) := by decide +kernel
theorem dX1_value_54 : decode cX1_value 54 = .ok (.iload 8, 2) := by decide +kernel
theorem dX1_value_56 : decode cX1_value 56 = .ok (.ifCond .lt 8, 3) := by decide +kernel
theorem dX1_value_59 : decode cX1_value 59 = .ok (.iload 8, 2) := by decide +kernel
theorem dX1_value_61 : decode cX1_value 61 = .ok (.goto 26, 3) := by decide +kernel
theorem dX1_value_64 : decode cX1_value 64 = .ok (.iload 8, 2) := by decide +kernel
theorem dX1_value_66 : decode cX1_value 66 = .ok (.iconst (-1), 1) := by decide +kernel
theorem dX1_value_67 : decode cX1_value 67 = .ok (.if_icmp .ne 7, 3) := by decide +kernel
theorem dX1_value_70 : decode cX1_value 70 = .ok (.iload_n 2, 1) := by decide +kernel
theorem dX1_value_71 : decode cX1_value 71 = .ok (.goto 16, 3) := by decide +kernel
theorem dX1_value_74 : decode cX1_value 74 = .ok (.iload 8, 2) := by decide +kernel
theorem dX1_value_76 : decode cX1_value 76 = .ok (.bipush (-2), 2) := by decide +kernel
theorem dX1_value_78 : decode cX1_value 78 = .ok (.if_icmp .ne 7, 3) := by decide +kernel
theorem dX1_value_81 : decode cX1_value 81 = .ok (.iload_n 3, 1) := by decide +kernel
theorem dX1_value_82 : decode cX1_value 82 = .ok (.goto 5, 3) := by decide +kernel
theorem dX1_value_85 : decode cX1_value 85 = .ok (.iload 4, 2) := by decide +kernel
theorem dX1_value_87 : decode cX1_value 87 = .ok (.iastore, 1) := by decide +kernel
theorem dX1_value_88 : decode cX1_value 88 = .ok (.iinc 6 1, 3) := by decide +kernel
theorem dX1_value_91 : decode cX1_value 91 = .ok (.goto 84, 3) := by decide +kernel
theorem dX1_value_94 : decode cX1_value 94 = .ok (.iload 8, 2) := by decide +kernel
theorem dX1_value_96 : decode cX1_value 96 = .ok (.bipush (-33), 2) := by decide +kernel
theorem dX1_value_98 : decode cX1_value 98 = .ok (.if_icmp .ne 37, 3) := by decide +kernel
theorem dX1_value_101 : decode cX1_value 101 = .ok (.iload 6, 2) := by decide +kernel
theorem dX1_value_103 : decode cX1_value 103 = .ok (.ifCond .le 32, 3) := by decide +kernel
theorem dX1_value_106 : decode cX1_value 106 = .ok (.aload_n 0, 1) := by decide +kernel
theorem dX1_value_107 : decode cX1_value 107 = .ok (.getfield 17, 3) := by decide +kernel
theorem dX1_value_110 : decode cX1_value 110 = .ok (.iload 6, 2) := by decide +kernel
theorem dX1_value_112 : decode cX1_value 112 = .ok (.iconst 1, 1) := by decide +kernel
theorem dX1_value_113 : decode cX1_value 113 = .ok (.isub, 1) := by decide +kernel
theorem dX1_value_114 : decode cX1_value 114 = .ok (.aload_n 0, 1) := by decide +kernel
theorem dX1_value_115 : decode cX1_value 115 = .ok (.getfield 17, 3) := by decide +kernel
theorem dX1_value_118 : decode cX1_value 118 = .ok (.iload 6, 2) := by decide +kernel
theorem dX1_value_120 : decode cX1_value 120 = .ok (.iconst 1, 1) := by decide +kernel
theorem dX1_value_121 : decode cX1_value 121 = .ok (.isub, 1) := by decide +kernel
theorem dX1_value_122 : decode cX1_value 122 = .ok (.iaload, 1) := by decide +kernel
theorem dX1_value_123 : decode cX1_value 123 = .ok (.ifCond .ne 7, 3) := by decide +kernel
theorem dX1_value_126 : decode cX1_value 126 = .ok (.iconst 1, 1) := by decide +kernel
theorem dX1_value_127 : decode cX1_value 127 = .ok (.goto 4, 3) := by decide +kernel
theorem dX1_value_130 : decode cX1_value 130 = .ok (.iconst 0, 1) := by decide +kernel
theorem dX1_value_131 : decode cX1_value 131 = .ok (.iastore, 1) := by decide +kernel
theorem dX1_value_132 : decode cX1_value 132 = .ok (.goto 43, 3) := by decide +kernel
theorem dX1_value_135 : decode cX1_value 135 = .ok (.iload 6, 2) := by decide +kernel
theorem dX1_value_137 : decode cX1_value 137 = .ok (.iconst 1, 1) := by decide +kernel
theorem dX1_value_138 : decode cX1_value 138 = .ok (.if_icmp .le 37, 3) := by decide +kernel
theorem dX1_value_141 : decode cX1_value 141 = .ok (.iinc 6 (-1), 3) := by decide +kernel
theorem dX1_value_144 : decode cX1_value 144 = .ok (.aload_n 0, 1) := by decide +kernel
theorem dX1_value_145 : decode cX1_value 145 = .ok (.getfield 17, 3) := by decide +kernel
theorem dX1_value_148 : decode cX1_value 148 = .ok (.iload 6, 2) := by decide +kernel
theorem dX1_value_150 : decode cX1_value 150 = .ok (.iconst 1, 1) := by decide +kernel
theorem dX1_value_151 : decode cX1_value 151 = .ok (.isub, 1) := by decide +kernel
theorem dX1_value_152 : decode cX1_value 152 = .ok (.iload 8, 2) := by decide +kernel
theorem dX1_value_154 : decode cX1_value 154 = .ok (.ineg, 1) := by decide +kernel
theorem dX1_value_155 : decode cX1_value 155 = .ok (.aload_n 0, 1) := by decide +kernel
theorem dX1_value_156 : decode cX1_value 156 = .ok (.getfield 17, 3) := by decide +kernel
theorem dX1_value_159 : decode cX1_value 159 = .ok (.iload 6, 2) := by decide +kernel
theorem dX1_value_161 : decode cX1_value 161 = .ok (.iconst 1, 1) := by decide +kernel
theorem dX1_value_162 : decode cX1_value 162 = .ok (.isub, 1) := by decide +kernel
theorem dX1_value_163 : decode cX1_value 163 = .ok (.iaload, 1) := by decide +kernel
theorem dX1_value_164 : decode cX1_value 164 = .ok (.aload_n 0, 1) := by decide +kernel
theorem dX1_value_165 : decode cX1_value 165 = .ok (.getfield 17, 3) := by decide +kernel
theorem dX1_value_168 : decode cX1_value 168 = .ok (.iload 6, 2) := by decide +kernel
theorem dX1_value_170 : decode cX1_value 170 = .ok (.iaload, 1) := by decide +kernel
theorem dX1_value_171 : decode cX1_value 171 = .ok (.invokestatic 29, 3) := by decide +kernel
theorem dX1_value_174 : decode cX1_value 174 = .ok (.iastore, 1) := by decide +kernel
theorem dX1_value_175 : decode cX1_value 175 = .ok (.iinc 7 1, 3) := by decide +kernel
theorem dX1_value_178 : decode cX1_value 178 = .ok (.goto (-164), 3) := by decide +kernel
theorem dX1_value_181 : decode cX1_value 181 = .ok (.aload_n 0, 1) := by decide +kernel
theorem dX1_value_182 : decode cX1_value 182 = .ok (.getfield 17, 3) := by decide +kernel
theorem dX1_value_185 : decode cX1_value 185 = .ok (.iconst 0, 1) := by decide +kernel
theorem dX1_value_186 : decode cX1_value 186 = .ok (.iaload, 1) := by decide +kernel
theorem dX1_value_187 : decode cX1_value 187 = .ok (.ireturn, 1) := by decide +kernel
theorem dX1_joined_0 : decode cX1_joined 0 = .ok (.iload_n 0, 1) := by decide +kernel
theorem dX1_joined_1 : decode cX1_joined 1 = .ok (.lookupswitch 148 #[(38, 89), (42, 144), (43, 136), (45, 140), (60, 103), (61, 114), (62, 125), (124, 75)], 75) := by decide +kernel
theorem dX1_joined_76 : decode cX1_joined 76 = .ok (.iload_n 1, 1) := by decide +kernel
theorem dX1_joined_77 : decode cX1_joined 77 = .ok (.ifCond .ne 7, 3) := by decide +kernel
theorem dX1_joined_80 : decode cX1_joined 80 = .ok (.iload_n 2, 1) := by decide +kernel
theorem dX1_joined_81 : decode cX1_joined 81 = .ok (.ifCond .eq 7, 3) := by decide +kernel
theorem dX1_joined_84 : decode cX1_joined 84 = .ok (.iconst 1, 1) := by decide +kernel
theorem dX1_joined_85 : decode cX1_joined 85 = .ok (.goto 4, 3) := by decide +kernel
theorem dX1_joined_88 : decode cX1_joined 88 = .ok (.iconst 0, 1) := by decide +kernel
theorem dX1_joined_89 : decode cX1_joined 89 = .ok (.ireturn, 1) := by decide +kernel
theorem dX1_joined_90 : decode cX1_joined 90 = .ok (.iload_n 1, 1) := by decide +kernel
theorem dX1_joined_91 : decode cX1_joined 91 = .ok (.ifCond .eq 11, 3) := by decide +kernel
theorem dX1_joined_94 : decode cX1_joined 94 = .ok (.iload_n 2, 1) := by decide +kernel
theorem dX1_joined_95 : decode cX1_joined 95 = .ok (.ifCond .eq 7, 3) := by decide +kernel
theorem dX1_joined_98 : decode cX1_joined 98 = .ok (.iconst 1, 1) := by decide +kernel
theorem dX1_joined_99 : decode cX1_joined 99 = .ok (.goto 4, 3) := by decide +kernel
theorem dX1_joined_102 : decode cX1_joined 102 = .ok (.iconst 0, 1) := by decide +kernel
theorem dX1_joined_103 : decode cX1_joined 103 = .ok (.ireturn, 1) := by decide +kernel
theorem dX1_joined_104 : decode cX1_joined 104 = .ok (.iload_n 1, 1) := by decide +kernel
theorem dX1_joined_105 : decode cX1_joined 105 = .ok (.iload_n 2, 1) := by decide +kernel
theorem dX1_joined_106 : decode cX1_joined 106 = .ok (.if_icmp .ge 7, 3) := by decide +kernel
theorem dX1_joined_109 : decode cX1_joined 109 = .ok (.iconst 1, 1) := by decide +kernel
theorem dX1_joined_110 : decode cX1_joined 110 = .ok (.goto 4, 3) := by decide +kernel
theorem dX1_joined_113 : decode cX1_joined 113 = .ok (.iconst 0, 1) := by decide +kernel
theorem dX1_joined_114 : decode cX1_joined 114 = .ok (.ireturn, 1) := by decide +kernel
theorem dX1_joined_115 : decode cX1_joined 115 = .ok (.iload_n 1, 1) := by decide +kernel
theorem dX1_joined_116 : decode cX1_joined 116 = .ok (.iload_n 2, 1) := by decide +kernel
theorem dX1_joined_117 : decode cX1_joined 117 = .ok (.if_icmp .ne 7, 3) := by decide +kernel
theorem dX1_joined_120 : decode cX1_joined 120 = .ok (.iconst 1, 1) := by decide +kernel
theorem dX1_joined_121 : decode cX1_joined 121 = .ok (.goto 4, 3) := by decide +kernel
theorem dX1_joined_124 : decode cX1_joined 124 = .ok (.iconst 0, 1) := by decide +kernel
theorem dX1_joined_125 : decode cX1_joined 125 = .ok (.ireturn, 1) := by decide +kernel
theorem dX1_joined_126 : decode cX1_joined 126 = .ok (.iload_n 1, 1) := by decide +kernel
theorem dX1_joined_127 : decode cX1_joined 127 = .ok (.iload_n 2, 1) := by decide +kernel
theorem dX1_joined_128 : decode cX1_joined 128 = .ok (.if_icmp .le 7, 3) := by decide +kernel
theorem dX1_joined_131 : decode cX1_joined 131 = .ok (.iconst 1, 1) := by decide +kernel
theorem dX1_joined_132 : decode cX1_joined 132 = .ok (.goto 4, 3) := by decide +kernel
theorem dX1_joined_135 : decode cX1_joined 135 = .ok (.iconst 0, 1) := by decide +kernel
theorem dX1_joined_136 : decode cX1_joined 136 = .ok (.ireturn, 1) := by decide +kernel
theorem dX1_joined_137 : decode cX1_joined 137 = .ok (.iload_n 1, 1) := by decide +kernel
theorem dX1_joined_138 : decode cX1_joined 138 = .ok (.iload_n 2, 1) := by decide +kernel
theorem dX1_joined_139 : decode cX1_joined 139 = .ok (.iadd, 1) := by decide +kernel
theorem dX1_joined_140 : decode cX1_joined 140 = .ok (.ireturn, 1) := by decide +kernel
theorem dX1_joined_141 : decode cX1_joined 141 = .ok (.iload_n 1, 1) := by decide +kernel
theorem dX1_joined_142 : decode cX1_joined 142 = .ok (.iload_n 2, 1) := by decide +kernel
theorem dX1_joined_143 : decode cX1_joined 143 = .ok (.isub, 1) := by decide +kernel
theorem dX1_joined_144 : decode cX1_joined 144 = .ok (.ireturn, 1) := by decide +kernel
theorem dX1_joined_145 : decode cX1_joined 145 = .ok (.iload_n 1, 1) := by decide +kernel
theorem dX1_joined_146 : decode cX1_joined 146 = .ok (.iload_n 2, 1) := by decide +kernel
theorem dX1_joined_147 : decode cX1_joined 147 = .ok (.imul, 1) := by decide +kernel
theorem dX1_joined_148 : decode cX1_joined 148 = .ok (.ireturn, 1) := by decide +kernel
theorem dX1_joined_149 : decode cX1_joined 149 = .ok (.iload_n 2, 1) := by decide +kernel
theorem dX1_joined_150 : decode cX1_joined 150 = .ok (.ifCond .ne 7, 3) := by decide +kernel
theorem dX1_joined_153 : decode cX1_joined 153 = .ok (.iconst 0, 1) := by decide +kernel
theorem dX1_joined_154 : decode cX1_joined 154 = .ok (.goto 6, 3) := by decide +kernel
theorem dX1_joined_157 : decode cX1_joined 157 = .ok (.iload_n 1, 1) := by decide +kernel
theorem dX1_joined_158 : decode cX1_joined 158 = .ok (.iload_n 2, 1) := by decide +kernel
theorem dX1_joined_159 : decode cX1_joined 159 = .ok (.idiv, 1) := by decide +kernel
theorem dX1_joined_160 : decode cX1_joined 160 = .ok (.ireturn, 1) := by decide +kernel
theorem dX2_init_0 : decode cX2_init 0 = .ok (.aload_n 0, 1) := by decide +kernel
theorem dX2_init_1 : decode cX2_init 1 = .ok (.invokespecial 3, 3) := by decide +kernel
theorem dX2_init_4 : decode cX2_init 4 = .ok (.aload_n 0, 1) := by decide +kernel
theorem dX2_init_5 : decode cX2_init 5 = .ok (.bipush 96, 2) := by decide +kernel
theorem dX2_init_7 : decode cX2_init 7 = .ok (.newarray .byte, 2) := by decide +kernel
theorem dX2_init_9 : decode cX2_init 9 = .ok (.putfield 9, 3) := by decide +kernel
theorem dX2_init_12 : decode cX2_init 12 = .ok (.aload_n 0, 1) := by decide +kernel
theorem dX2_init_13 : decode cX2_init 13 = .ok (.iconst 0, 1) := by decide +kernel
theorem dX2_init_14 : decode cX2_init 14 = .ok (.putfield 15, 3) := by decide +kernel
theorem dX2_init_17 : decode cX2_init 17 = .ok (.aload_n 0, 1) := by decide +kernel
theorem dX2_init_18 : decode cX2_init 18 = .ok (.iconst 0, 1) := by decide +kernel
theorem dX2_init_19 : decode cX2_init 19 = .ok (.putfield 19, 3) := by decide +kernel
theorem dX2_init_22 : decode cX2_init 22 = .ok (.aload_n 0, 1) := by decide +kernel
theorem dX2_init_23 : decode cX2_init 23 = .ok (.iconst 0, 1) := by decide +kernel
theorem dX2_init_24 : decode cX2_init 24 = .ok (.putfield 22, 3) := by decide +kernel
theorem dX2_init_27 : decode cX2_init 27 = .ok (.aload_n 0, 1) := by decide +kernel
theorem dX2_init_28 : decode cX2_init 28 = .ok (.iconst 0, 1) := by decide +kernel
theorem dX2_init_29 : decode cX2_init 29 = .ok (.putfield 25, 3) := by decide +kernel
theorem dX2_init_32 : decode cX2_init 32 = .ok (.aload_n 0, 1) := by decide +kernel
theorem dX2_init_33 : decode cX2_init 33 = .ok (.iconst (-1), 1) := by decide +kernel
theorem dX2_init_34 : decode cX2_init 34 = .ok (.putfield 28, 3) := by decide +kernel
theorem dX2_init_37 : decode cX2_init 37 = .ok (.aload_n 0, 1) := by decide +kernel
theorem dX2_init_38 : decode cX2_init 38 = .ok (.iconst 0, 1) := by decide +kernel
theorem dX2_init_39 : decode cX2_init 39 = .ok (.putfield 31, 3) := by decide +kernel
theorem dX2_init_42 : decode cX2_init 42 = .ok (.aload_n 0, 1) := by decide +kernel
theorem dX2_init_43 : decode cX2_init 43 = .ok (.iconst 0, 1) := by decide +kernel
theorem dX2_init_44 : decode cX2_init 44 = .ok (.putfield 34, 3) := by decide +kernel
theorem dX2_init_47 : decode cX2_init 47 = .ok (.return_, 1) := by decide +kernel
theorem dX2_takes_0 : decode cX2_takes 0 = .ok (.bipush 24, 2) := by decide +kernel
theorem dX2_takes_2 : decode cX2_takes 2 = .ok (.istore_n 2, 1) := by decide +kernel
theorem dX2_takes_3 : decode cX2_takes 3 = .ok (.iload_n 2, 1) := by decide +kernel
theorem dX2_takes_4 : decode cX2_takes 4 = .ok (.ifCond .lt 41, 3) := by decide +kernel
theorem dX2_takes_7 : decode cX2_takes 7 = .ok (.aload_n 0, 1) := by decide +kernel
theorem dX2_takes_8 : decode cX2_takes 8 = .ok (.getfield 15, 3) := by decide +kernel
theorem dX2_takes_11 : decode cX2_takes 11 = .ok (.bipush 96, 2) := by decide +kernel
theorem dX2_takes_13 : decode cX2_takes 13 = .ok (.if_icmp .ge 32, 3) := by decide +kernel
theorem dX2_takes_16 : decode cX2_takes 16 = .ok (.aload_n 0, 1) := by decide +kernel
theorem dX2_takes_17 : decode cX2_takes 17 = .ok (.getfield 9, 3) := by decide +kernel
theorem dX2_takes_20 : decode cX2_takes 20 = .ok (.aload_n 0, 1) := by decide +kernel
theorem dX2_takes_21 : decode cX2_takes 21 = .ok (.getfield 15, 3) := by decide +kernel
theorem dX2_takes_24 : decode cX2_takes 24 = .ok (.iload_n 1, 1) := by decide +kernel
theorem dX2_takes_25 : decode cX2_takes 25 = .ok (.iload_n 2, 1) := by decide +kernel
theorem dX2_takes_26 : decode cX2_takes 26 = .ok (.ishr, 1) := by decide +kernel
theorem dX2_takes_27 : decode cX2_takes 27 = .ok (.i2b, 1) := by decide +kernel
theorem dX2_takes_28 : decode cX2_takes 28 = .ok (.bastore, 1) := by decide +kernel
theorem dX2_takes_29 : decode cX2_takes 29 = .ok (.aload_n 0, 1) := by decide +kernel
theorem dX2_takes_30 : decode cX2_takes 30 = .ok (.dup, 1) := by decide +kernel
theorem dX2_takes_31 : decode cX2_takes 31 = .ok (.getfield 15, 3) := by decide +kernel
theorem dX2_takes_34 : decode cX2_takes 34 = .ok (.iconst 1, 1) := by decide +kernel
theorem dX2_takes_35 : decode cX2_takes 35 = .ok (.iadd, 1) := by decide +kernel
theorem dX2_takes_36 : decode cX2_takes 36 = .ok (.putfield 15, 3) := by decide +kernel
theorem dX2_takes_39 : decode cX2_takes 39 = .ok (.iinc 2 (-8), 3) := by decide +kernel
theorem dX2_takes_42 : decode cX2_takes 42 = .ok (.goto (-39), 3) := by decide +kernel
theorem dX2_takes_45 : decode cX2_takes 45 = .ok (.return_, 1) := by decide +kernel
theorem dX2_parse_0 : decode cX2_parse 0 = .ok (.aload_n 0, 1) := by decide +kernel
theorem dX2_parse_1 : decode cX2_parse 1 = .ok (.iconst 0, 1) := by decide +kernel
theorem dX2_parse_2 : decode cX2_parse 2 = .ok (.putfield 19, 3) := by decide +kernel
theorem dX2_parse_5 : decode cX2_parse 5 = .ok (.aload_n 0, 1) := by decide +kernel
theorem dX2_parse_6 : decode cX2_parse 6 = .ok (.iconst 0, 1) := by decide +kernel
theorem dX2_parse_7 : decode cX2_parse 7 = .ok (.putfield 25, 3) := by decide +kernel
theorem dX2_parse_10 : decode cX2_parse 10 = .ok (.aload_n 0, 1) := by decide +kernel
theorem dX2_parse_11 : decode cX2_parse 11 = .ok (.iconst (-1), 1) := by decide +kernel
theorem dX2_parse_12 : decode cX2_parse 12 = .ok (.putfield 28, 3) := by decide +kernel
theorem dX2_parse_15 : decode cX2_parse 15 = .ok (.aload_n 0, 1) := by decide +kernel
theorem dX2_parse_16 : decode cX2_parse 16 = .ok (.iconst 0, 1) := by decide +kernel
theorem dX2_parse_17 : decode cX2_parse 17 = .ok (.putfield 31, 3) := by decide +kernel
theorem dX2_parse_20 : decode cX2_parse 20 = .ok (.aload_n 0, 1) := by decide +kernel
theorem dX2_parse_21 : decode cX2_parse 21 = .ok (.iconst 0, 1) := by decide +kernel
theorem dX2_parse_22 : decode cX2_parse 22 = .ok (.putfield 34, 3) := by decide +kernel
theorem dX2_parse_25 : decode cX2_parse 25 = .ok (.aload_n 1, 1) := by decide +kernel
theorem dX2_parse_26 : decode cX2_parse 26 = .ok (.iconst 0, 1) := by decide +kernel
theorem dX2_parse_27 : decode cX2_parse 27 = .ok (.putfield 37, 3) := by decide +kernel
theorem dX2_parse_30 : decode cX2_parse 30 = .ok (.aload_n 1, 1) := by decide +kernel
theorem dX2_parse_31 : decode cX2_parse 31 = .ok (.iconst 0, 1) := by decide +kernel
theorem dX2_parse_32 : decode cX2_parse 32 = .ok (.putfield 42, 3) := by decide +kernel
theorem dX2_parse_35 : decode cX2_parse 35 = .ok (.aload_n 0, 1) := by decide +kernel
theorem dX2_parse_36 : decode cX2_parse 36 = .ok (.invokevirtual 45, 3) := by decide +kernel
theorem dX2_parse_39 : decode cX2_parse 39 = .ok (.aload_n 0, 1) := by decide +kernel
theorem dX2_parse_40 : decode cX2_parse 40 = .ok (.ldc 48, 2) := by decide +kernel
theorem dX2_parse_42 : decode cX2_parse 42 = .ok (.invokevirtual 50, 3) := by decide +kernel
theorem dX2_parse_45 : decode cX2_parse 45 = .ok (.ifCond .eq 7, 3) := by decide +kernel
theorem dX2_parse_48 : decode cX2_parse 48 = .ok (.iconst 0, 1) := by decide +kernel
theorem dX2_parse_49 : decode cX2_parse 49 = .ok (.goto 30, 3) := by decide +kernel
theorem dX2_parse_52 : decode cX2_parse 52 = .ok (.aload_n 0, 1) := by decide +kernel
theorem dX2_parse_53 : decode cX2_parse 53 = .ok (.ldc 54, 2) := by decide +kernel
theorem dX2_parse_55 : decode cX2_parse 55 = .ok (.invokevirtual 50, 3) := by decide +kernel
theorem dX2_parse_58 : decode cX2_parse 58 = .ok (.ifCond .eq 7, 3) := by decide +kernel
theorem dX2_parse_61 : decode cX2_parse 61 = .ok (.iconst 1, 1) := by decide +kernel
theorem dX2_parse_62 : decode cX2_parse 62 = .ok (.goto 17, 3) := by decide +kernel
theorem dX2_parse_65 : decode cX2_parse 65 = .ok (.aload_n 0, 1) := by decide +kernel
theorem dX2_parse_66 : decode cX2_parse 66 = .ok (.ldc 56, 2) := by decide +kernel
theorem dX2_parse_68 : decode cX2_parse 68 = .ok (.invokevirtual 50, 3) := by decide +kernel
theorem dX2_parse_71 : decode cX2_parse 71 = .ok (.ifCond .eq 7, 3) := by decide +kernel
theorem dX2_parse_74 : decode cX2_parse 74 = .ok (.iconst 2, 1) := by decide +kernel
theorem dX2_parse_75 : decode cX2_parse 75 = .ok (.goto 4, 3) := by decide +kernel
theorem dX2_parse_78 : decode cX2_parse 78 = .ok (.iconst (-1), 1) := by decide +kernel
theorem dX2_parse_79 : decode cX2_parse 79 = .ok (.istore_n 2, 1) := by decide +kernel
theorem dX2_parse_80 : decode cX2_parse 80 = .ok (.iload_n 2, 1) := by decide +kernel
theorem dX2_parse_81 : decode cX2_parse 81 = .ok (.ifCond .ge 10, 3) := by decide +kernel
theorem dX2_parse_84 : decode cX2_parse 84 = .ok (.aload_n 0, 1) := by decide +kernel
theorem dX2_parse_85 : decode cX2_parse 85 = .ok (.invokevirtual 58, 3) := by decide +kernel
theorem dX2_parse_88 : decode cX2_parse 88 = .ok (.goto 18, 3) := by decide +kernel
theorem dX2_parse_91 : decode cX2_parse 91 = .ok (.aload_n 1, 1) := by decide +kernel
theorem dX2_parse_92 : decode cX2_parse 92 = .ok (.iload_n 2, 1) := by decide +kernel
theorem dX2_parse_93 : decode cX2_parse 93 = .ok (.putfield 61, 3) := by decide +kernel
theorem dX2_parse_96 : decode cX2_parse 96 = .ok (.aload_n 0, 1) := by decide +kernel
theorem dX2_parse_97 : decode cX2_parse 97 = .ok (.invokevirtual 45, 3) := by decide +kernel
theorem dX2_parse_100 : decode cX2_parse 100 = .ok (.aload_n 0, 1) := by decide +kernel
theorem dX2_parse_101 : decode cX2_parse 101 = .ok (.iconst 0, 1) := by decide +kernel
theorem dX2_parse_102 : decode cX2_parse 102 = .ok (.aload_n 1, 1) := by decide +kernel
theorem dX2_parse_103 : decode cX2_parse 103 = .ok (.invokevirtual 64, 3) := by decide +kernel
theorem dX2_parse_106 : decode cX2_parse 106 = .ok (.aload_n 0, 1) := by decide +kernel
theorem dX2_parse_107 : decode cX2_parse 107 = .ok (.getfield 19, 3) := by decide +kernel
theorem dX2_parse_110 : decode cX2_parse 110 = .ok (.ifCond .eq 7, 3) := by decide +kernel
theorem dX2_parse_113 : decode cX2_parse 113 = .ok (.aload_n 0, 1) := by decide +kernel
theorem dX2_parse_114 : decode cX2_parse 114 = .ok (.invokevirtual 58, 3) := by decide +kernel
theorem dX2_parse_117 : decode cX2_parse 117 = .ok (.aload_n 0, 1) := by decide +kernel
theorem dX2_parse_118 : decode cX2_parse 118 = .ok (.iconst 0, 1) := by decide +kernel
theorem dX2_parse_119 : decode cX2_parse 119 = .ok (.putfield 15, 3) := by decide +kernel
theorem dX2_parse_122 : decode cX2_parse 122 = .ok (.aload_n 0, 1) := by decide +kernel
theorem dX2_parse_123 : decode cX2_parse 123 = .ok (.getfield 28, 3) := by decide +kernel
theorem dX2_parse_126 : decode cX2_parse 126 = .ok (.ireturn, 1) := by decide +kernel
theorem dX2_next_0 : decode cX2_next 0 = .ok (.aload_n 0, 1) := by decide +kernel
theorem dX2_next_1 : decode cX2_next 1 = .ok (.getfield 19, 3) := by decide +kernel
theorem dX2_next_4 : decode cX2_next 4 = .ok (.iconst 1, 1) := by decide +kernel
theorem dX2_next_5 : decode cX2_next 5 = .ok (.if_icmp .eq 11, 3) := by decide +kernel
theorem dX2_next_8 : decode cX2_next 8 = .ok (.aload_n 0, 1) := by decide +kernel
theorem dX2_next_9 : decode cX2_next 9 = .ok (.getfield 19, 3) := by decide +kernel
theorem dX2_next_12 : decode cX2_next 12 = .ok (.iconst 2, 1) := by decide +kernel
theorem dX2_next_13 : decode cX2_next 13 = .ok (.if_icmp .ne 7, 3) := by decide +kernel
theorem dX2_next_16 : decode cX2_next 16 = .ok (.iconst 1, 1) := by decide +kernel
theorem dX2_next_17 : decode cX2_next 17 = .ok (.goto 4, 3) := by decide +kernel
theorem dX2_next_20 : decode cX2_next 20 = .ok (.iconst 0, 1) := by decide +kernel
theorem dX2_next_21 : decode cX2_next 21 = .ok (.istore_n 1, 1) := by decide +kernel
theorem dX2_next_22 : decode cX2_next 22 = .ok (.aload_n 0, 1) := by decide +kernel
theorem dX2_next_23 : decode cX2_next 23 = .ok (.getfield 25, 3) := by decide +kernel
theorem dX2_next_26 : decode cX2_next 26 = .ok (.istore_n 2, 1) := by decide +kernel
theorem dX2_next_27 : decode cX2_next 27 = .ok (.aload_n 0, 1) := by decide +kernel
theorem dX2_next_28 : decode cX2_next 28 = .ok (.iload_n 2, 1) := by decide +kernel
theorem dX2_next_29 : decode cX2_next 29 = .ok (.putfield 22, 3) := by decide +kernel
theorem dX2_next_32 : decode cX2_next 32 = .ok (.aload_n 0, 1) := by decide +kernel
theorem dX2_next_33 : decode cX2_next 33 = .ok (.getfield 22, 3) := by decide +kernel
theorem dX2_next_36 : decode cX2_next 36 = .ok (.aload_n 0, 1) := by decide +kernel
theorem dX2_next_37 : decode cX2_next 37 = .ok (.getfield 15, 3) := by decide +kernel
theorem dX2_next_40 : decode cX2_next 40 = .ok (.if_icmp .ge 30, 3) := by decide +kernel
theorem dX2_next_43 : decode cX2_next 43 = .ok (.aload_n 0, 1) := by decide +kernel
theorem dX2_next_44 : decode cX2_next 44 = .ok (.getfield 9, 3) := by decide +kernel
theorem dX2_next_47 : decode cX2_next 47 = .ok (.aload_n 0, 1) := by decide +kernel
theorem dX2_next_48 : decode cX2_next 48 = .ok (.getfield 22, 3) := by decide +kernel
theorem dX2_next_51 : decode cX2_next 51 = .ok (.baload, 1) := by decide +kernel
theorem dX2_next_52 : decode cX2_next 52 = .ok (.bipush 32, 2) := by decide +kernel
theorem dX2_next_54 : decode cX2_next 54 = .ok (.if_icmp .ne 16, 3) := by decide +kernel
theorem dX2_next_57 : decode cX2_next 57 = .ok (.aload_n 0, 1) := by decide +kernel
theorem dX2_next_58 : decode cX2_next 58 = .ok (.dup, 1) := by decide +kernel
theorem dX2_next_59 : decode cX2_next 59 = .ok (.getfield 22, 3) := by decide +kernel
theorem dX2_next_62 : decode cX2_next 62 = .ok (.iconst 1, 1) := by decide +kernel
theorem dX2_next_63 : decode cX2_next 63 = .ok (.iadd, 1) := by decide +kernel
theorem dX2_next_64 : decode cX2_next 64 = .ok (.putfield 22, 3) := by decide +kernel
theorem dX2_next_67 : decode cX2_next 67 = .ok (.goto (-35), 3) := by decide +kernel
theorem dX2_next_70 : decode cX2_next 70 = .ok (.aload_n 0, 1) := by decide +kernel
theorem dX2_next_71 : decode cX2_next 71 = .ok (.aload_n 0, 1) := by decide +kernel
theorem dX2_next_72 : decode cX2_next 72 = .ok (.aload_n 0, 1) := by decide +kernel
theorem dX2_next_73 : decode cX2_next 73 = .ok (.getfield 22, 3) := by decide +kernel
theorem dX2_next_76 : decode cX2_next 76 = .ok (.invokevirtual 68, 3) := by decide +kernel
theorem dX2_next_79 : decode cX2_next 79 = .ok (.putfield 19, 3) := by decide +kernel
theorem dX2_next_82 : decode cX2_next 82 = .ok (.aload_n 0, 1) := by decide +kernel
theorem dX2_next_83 : decode cX2_next 83 = .ok (.aload_n 0, 1) := by decide +kernel
theorem dX2_next_84 : decode cX2_next 84 = .ok (.getfield 22, 3) := by decide +kernel
theorem dX2_next_87 : decode cX2_next 87 = .ok (.iconst 1, 1) := by decide +kernel
theorem dX2_next_88 : decode cX2_next 88 = .ok (.iadd, 1) := by decide +kernel
theorem dX2_next_89 : decode cX2_next 89 = .ok (.aload_n 0, 1) := by decide +kernel
theorem dX2_next_90 : decode cX2_next 90 = .ok (.getfield 15, 3) := by decide +kernel
theorem dX2_next_93 : decode cX2_next 93 = .ok (.invokestatic 72, 3) := by decide +kernel
theorem dX2_next_96 : decode cX2_next 96 = .ok (.putfield 25, 3) := by decide +kernel
theorem dX2_next_99 : decode cX2_next 99 = .ok (.aload_n 0, 1) := by decide +kernel
theorem dX2_next_100 : decode cX2_next 100 = .ok (.getfield 19, 3) := by decide +kernel
theorem dX2_next_103 : decode cX2_next 103 = .ok (.iconst 1, 1) := by decide +kernel
theorem dX2_next_104 : decode cX2_next 104 = .ok (.if_icmp .eq 11, 3) := by decide +kernel
theorem dX2_next_107 : decode cX2_next 107 = .ok (.aload_n 0, 1) := by decide +kernel
theorem dX2_next_108 : decode cX2_next 108 = .ok (.getfield 19, 3) := by decide +kernel
theorem dX2_next_111 : decode cX2_next 111 = .ok (.iconst 2, 1) := by decide +kernel
theorem dX2_next_112 : decode cX2_next 112 = .ok (.if_icmp .ne 7, 3) := by decide +kernel
theorem dX2_next_115 : decode cX2_next 115 = .ok (.iconst 1, 1) := by decide +kernel
theorem dX2_next_116 : decode cX2_next 116 = .ok (.goto 4, 3) := by decide +kernel
theorem dX2_next_119 : decode cX2_next 119 = .ok (.iconst 0, 1) := by decide +kernel
theorem dX2_next_120 : decode cX2_next 120 = .ok (.istore_n 3, 1) := by decide +kernel
theorem dX2_next_121 : decode cX2_next 121 = .ok (.iload_n 3, 1) := by decide +kernel
theorem dX2_next_122 : decode cX2_next 122 = .ok (.ifCond .eq 42, 3) := by decide +kernel
theorem dX2_next_125 : decode cX2_next 125 = .ok (.aload_n 0, 1) := by decide +kernel
theorem dX2_next_126 : decode cX2_next 126 = .ok (.getfield 25, 3) := by decide +kernel
theorem dX2_next_129 : decode cX2_next 129 = .ok (.aload_n 0, 1) := by decide +kernel
theorem dX2_next_130 : decode cX2_next 130 = .ok (.getfield 15, 3) := by decide +kernel
theorem dX2_next_133 : decode cX2_next 133 = .ok (.if_icmp .ge 31, 3) := by decide +kernel
theorem dX2_next_136 : decode cX2_next 136 = .ok (.aload_n 0, 1) := by decide +kernel
theorem dX2_next_137 : decode cX2_next 137 = .ok (.aload_n 0, 1) := by decide +kernel
theorem dX2_next_138 : decode cX2_next 138 = .ok (.getfield 25, 3) := by decide +kernel
theorem dX2_next_141 : decode cX2_next 141 = .ok (.invokevirtual 68, 3) := by decide +kernel
theorem dX2_next_144 : decode cX2_next 144 = .ok (.aload_n 0, 1) := by decide +kernel
theorem dX2_next_145 : decode cX2_next 145 = .ok (.getfield 19, 3) := by decide +kernel
theorem dX2_next_148 : decode cX2_next 148 = .ok (.if_icmp .ne 16, 3) := by decide +kernel
theorem dX2_next_151 : decode cX2_next 151 = .ok (.aload_n 0, 1) := by decide +kernel
theorem dX2_next_152 : decode cX2_next 152 = .ok (.dup, 1) := by decide +kernel
theorem dX2_next_153 : decode cX2_next 153 = .ok (.getfield 25, 3) := by decide +kernel
theorem dX2_next_156 : decode cX2_next 156 = .ok (.iconst 1, 1) := by decide +kernel
theorem dX2_next_157 : decode cX2_next 157 = .ok (.iadd, 1) := by decide +kernel
theorem dX2_next_158 : decode cX2_next 158 = .ok (.putfield 25, 3) := by decide +kernel
theorem dX2_next_161 : decode cX2_next 161 = .ok (.goto (-40), 3) := by decide +kernel
theorem dX2_next_164 : decode cX2_next 164 = .ok (.iload_n 1, 1) := by decide +kernel
theorem dX2_next_165 : decode cX2_next 165 = .ok (.ifCond .eq 20, 3) := by decide +kernel
theorem dX2_next_168 : decode cX2_next 168 = .ok (.iload_n 3, 1) := by decide +kernel
theorem dX2_next_169 : decode cX2_next 169 = .ok (.ifCond .eq 16, 3) := by decide +kernel
theorem dX2_next_172 : decode cX2_next 172 = .ok (.aload_n 0, 1) := by decide +kernel
theorem dX2_next_173 : decode cX2_next 173 = .ok (.getfield 22, 3) := by decide +kernel
theorem dX2_next_176 : decode cX2_next 176 = .ok (.iload_n 2, 1) := by decide +kernel
theorem dX2_next_177 : decode cX2_next 177 = .ok (.if_icmp .ne 8, 3) := by decide +kernel
theorem dX2_next_180 : decode cX2_next 180 = .ok (.aload_n 0, 1) := by decide +kernel
theorem dX2_next_181 : decode cX2_next 181 = .ok (.iconst 4, 1) := by decide +kernel
theorem dX2_next_182 : decode cX2_next 182 = .ok (.putfield 19, 3) := by decide +kernel
theorem dX2_next_185 : decode cX2_next 185 = .ok (.return_, 1) := by decide +kernel
theorem dX2_sortAt_0 : decode cX2_sortAt 0 = .ok (.iload_n 1, 1) := by decide +kernel
theorem dX2_sortAt_1 : decode cX2_sortAt 1 = .ok (.aload_n 0, 1) := by decide +kernel
theorem dX2_sortAt_2 : decode cX2_sortAt 2 = .ok (.getfield 15, 3) := by decide +kernel
theorem dX2_sortAt_5 : decode cX2_sortAt 5 = .ok (.if_icmp .lt 5, 3) := by decide +kernel
theorem dX2_sortAt_8 : decode cX2_sortAt 8 = .ok (.iconst 0, 1) := by decide +kernel
theorem dX2_sortAt_9 : decode cX2_sortAt 9 = .ok (.ireturn, 1) := by decide +kernel
theorem dX2_sortAt_10 : decode cX2_sortAt 10 = .ok (.aload_n 0, 1) := by decide +kernel
theorem dX2_sortAt_11 : decode cX2_sortAt 11 = .ok (.getfield 9, 3) := by decide +kernel
theorem dX2_sortAt_14 : decode cX2_sortAt 14 = .ok (.iload_n 1, 1) := by decide +kernel
theorem dX2_sortAt_15 : decode cX2_sortAt 15 = .ok (.baload, 1) := by decide +kernel
theorem dX2_sortAt_16 : decode cX2_sortAt 16 = .ok (.istore_n 2, 1) := by decide +kernel
theorem dX2_sortAt_17 : decode cX2_sortAt 17 = .ok (.iload_n 2, 1) := by decide +kernel
theorem dX2_sortAt_18 : decode cX2_sortAt 18 = .ok (.bipush 97, 2) := by decide +kernel
theorem dX2_sortAt_20 : decode cX2_sortAt 20 = .ok (.if_icmp .lt 13, 3) := by decide +kernel
theorem dX2_sortAt_23 : decode cX2_sortAt 23 = .ok (.iload_n 2, 1) := by decide +kernel
theorem dX2_sortAt_24 : decode cX2_sortAt 24 = .ok (.bipush 122, 2) := by decide +kernel
theorem dX2_sortAt_26 : decode cX2_sortAt 26 = .ok (.if_icmp .gt 7, 3) := by decide +kernel
theorem dX2_sortAt_29 : decode cX2_sortAt 29 = .ok (.iconst 1, 1) := by decide +kernel
theorem dX2_sortAt_30 : decode cX2_sortAt 30 = .ok (.goto 20, 3) := by decide +kernel
theorem dX2_sortAt_33 : decode cX2_sortAt 33 = .ok (.iload_n 2, 1) := by decide +kernel
theorem dX2_sortAt_34 : decode cX2_sortAt 34 = .ok (.bipush 48, 2) := by decide +kernel
theorem dX2_sortAt_36 : decode cX2_sortAt 36 = .ok (.if_icmp .lt 13, 3) := by decide +kernel
theorem dX2_sortAt_39 : decode cX2_sortAt 39 = .ok (.iload_n 2, 1) := by decide +kernel
theorem dX2_sortAt_40 : decode cX2_sortAt 40 = .ok (.bipush 57, 2) := by decide +kernel
theorem dX2_sortAt_42 : decode cX2_sortAt 42 = .ok (.if_icmp .gt 7, 3) := by decide +kernel
theorem dX2_sortAt_45 : decode cX2_sortAt 45 = .ok (.iconst 2, 1) := by decide +kernel
theorem dX2_sortAt_46 : decode cX2_sortAt 46 = .ok (.goto 4, 3) := by decide +kernel
theorem dX2_sortAt_49 : decode cX2_sortAt 49 = .ok (.iconst 3, 1) := by decide +kernel
theorem dX2_sortAt_50 : decode cX2_sortAt 50 = .ok (.ireturn, 1) := by decide +kernel
theorem dX2_isWord_0 : decode cX2_isWord 0 = .ok (.aload_n 0, 1) := by decide +kernel
theorem dX2_isWord_1 : decode cX2_isWord 1 = .ok (.getfield 19, 3) := by decide +kernel
theorem dX2_isWord_4 : decode cX2_isWord 4 = .ok (.iconst 1, 1) := by decide +kernel
theorem dX2_isWord_5 : decode cX2_isWord 5 = .ok (.if_icmp .ne 23, 3) := by decide +kernel
theorem dX2_isWord_8 : decode cX2_isWord 8 = .ok (.aload_n 0, 1) := by decide +kernel
theorem dX2_isWord_9 : decode cX2_isWord 9 = .ok (.getfield 25, 3) := by decide +kernel
theorem dX2_isWord_12 : decode cX2_isWord 12 = .ok (.aload_n 0, 1) := by decide +kernel
theorem dX2_isWord_13 : decode cX2_isWord 13 = .ok (.getfield 22, 3) := by decide +kernel
theorem dX2_isWord_16 : decode cX2_isWord 16 = .ok (.isub, 1) := by decide +kernel
theorem dX2_isWord_17 : decode cX2_isWord 17 = .ok (.aload_n 1, 1) := by decide +kernel
theorem dX2_isWord_18 : decode cX2_isWord 18 = .ok (.invokevirtual 78, 3) := by decide +kernel
theorem dX2_isWord_21 : decode cX2_isWord 21 = .ok (.if_icmp .ne 7, 3) := by decide +kernel
theorem dX2_isWord_24 : decode cX2_isWord 24 = .ok (.iconst 1, 1) := by decide +kernel
theorem dX2_isWord_25 : decode cX2_isWord 25 = .ok (.goto 4, 3) := by decide +kernel
theorem dX2_isWord_28 : decode cX2_isWord 28 = .ok (.iconst 0, 1) := by decide +kernel
theorem dX2_isWord_29 : decode cX2_isWord 29 = .ok (.istore_n 2, 1) := by decide +kernel
theorem dX2_isWord_30 : decode cX2_isWord 30 = .ok (.iconst 0, 1) := by decide +kernel
theorem dX2_isWord_31 : decode cX2_isWord 31 = .ok (.istore_n 3, 1) := by decide +kernel
theorem dX2_isWord_32 : decode cX2_isWord 32 = .ok (.iload_n 2, 1) := by decide +kernel
theorem dX2_isWord_33 : decode cX2_isWord 33 = .ok (.ifCond .eq 42, 3) := by decide +kernel
theorem dX2_isWord_36 : decode cX2_isWord 36 = .ok (.iload_n 3, 1) := by decide +kernel
theorem dX2_isWord_37 : decode cX2_isWord 37 = .ok (.aload_n 1, 1) := by decide +kernel
theorem dX2_isWord_38 : decode cX2_isWord 38 = .ok (.invokevirtual 78, 3) := by decide +kernel
theorem dX2_isWord_41 : decode cX2_isWord 41 = .ok (.if_icmp .ge 34, 3) := by decide +kernel
theorem dX2_isWord_44 : decode cX2_isWord 44 = .ok (.aload_n 0, 1) := by decide +kernel
theorem dX2_isWord_45 : decode cX2_isWord 45 = .ok (.getfield 9, 3) := by decide +kernel
theorem dX2_isWord_48 : decode cX2_isWord 48 = .ok (.aload_n 0, 1) := by decide +kernel
theorem dX2_isWord_49 : decode cX2_isWord 49 = .ok (.getfield 22, 3) := by decide +kernel
theorem dX2_isWord_52 : decode cX2_isWord 52 = .ok (.iload_n 3, 1) := by decide +kernel
theorem dX2_isWord_53 : decode cX2_isWord 53 = .ok (.iadd, 1) := by decide +kernel
theorem dX2_isWord_54 : decode cX2_isWord 54 = .ok (.baload, 1) := by decide +kernel
theorem dX2_isWord_55 : decode cX2_isWord 55 = .ok (.aload_n 1, 1) := by decide +kernel
theorem dX2_isWord_56 : decode cX2_isWord 56 = .ok (.iload_n 3, 1) := by decide +kernel
theorem dX2_isWord_57 : decode cX2_isWord 57 = .ok (.invokevirtual 83, 3) := by decide +kernel
theorem dX2_isWord_60 : decode cX2_isWord 60 = .ok (.if_icmp .ne 7, 3) := by decide +kernel
theorem dX2_isWord_63 : decode cX2_isWord 63 = .ok (.iconst 1, 1) := by decide +kernel
theorem dX2_isWord_64 : decode cX2_isWord 64 = .ok (.goto 4, 3) := by decide +kernel
theorem dX2_isWord_67 : decode cX2_isWord 67 = .ok (.iconst 0, 1) := by decide +kernel
theorem dX2_isWord_68 : decode cX2_isWord 68 = .ok (.istore_n 2, 1) := by decide +kernel
theorem dX2_isWord_69 : decode cX2_isWord 69 = .ok (.iinc 3 1, 3) := by decide +kernel
theorem dX2_isWord_72 : decode cX2_isWord 72 = .ok (.goto (-40), 3) := by decide +kernel
theorem dX2_isWord_75 : decode cX2_isWord 75 = .ok (.iload_n 2, 1) := by decide +kernel
theorem dX2_isWord_76 : decode cX2_isWord 76 = .ok (.ireturn, 1) := by decide +kernel
theorem dX2_isSign_0 : decode cX2_isSign 0 = .ok (.aload_n 0, 1) := by decide +kernel
theorem dX2_isSign_1 : decode cX2_isSign 1 = .ok (.getfield 19, 3) := by decide +kernel
theorem dX2_isSign_4 : decode cX2_isSign 4 = .ok (.iconst 3, 1) := by decide +kernel
theorem dX2_isSign_5 : decode cX2_isSign 5 = .ok (.if_icmp .ne 20, 3) := by decide +kernel
theorem dX2_isSign_8 : decode cX2_isSign 8 = .ok (.aload_n 0, 1) := by decide +kernel
theorem dX2_isSign_9 : decode cX2_isSign 9 = .ok (.getfield 9, 3) := by decide +kernel
theorem dX2_isSign_12 : decode cX2_isSign 12 = .ok (.aload_n 0, 1) := by decide +kernel
theorem dX2_isSign_13 : decode cX2_isSign 13 = .ok (.getfield 22, 3) := by decide +kernel
theorem dX2_isSign_16 : decode cX2_isSign 16 = .ok (.baload, 1) := by decide +kernel
theorem dX2_isSign_17 : decode cX2_isSign 17 = .ok (.iload_n 1, 1) := by decide +kernel
theorem dX2_isSign_18 : decode cX2_isSign 18 = .ok (.if_icmp .ne 7, 3) := by decide +kernel
theorem dX2_isSign_21 : decode cX2_isSign 21 = .ok (.iconst 1, 1) := by decide +kernel
theorem dX2_isSign_22 : decode cX2_isSign 22 = .ok (.goto 4, 3) := by decide +kernel
theorem dX2_isSign_25 : decode cX2_isSign 25 = .ok (.iconst 0, 1) := by decide +kernel
theorem dX2_isSign_26 : decode cX2_isSign 26 = .ok (.ireturn, 1) := by decide +kernel
theorem dX2_fails_0 : decode cX2_fails 0 = .ok (.aload_n 0, 1) := by decide +kernel
theorem dX2_fails_1 : decode cX2_fails 1 = .ok (.getfield 28, 3) := by decide +kernel
theorem dX2_fails_4 : decode cX2_fails 4 = .ok (.ifCond .ge 11, 3) := by decide +kernel
theorem dX2_fails_7 : decode cX2_fails 7 = .ok (.aload_n 0, 1) := by decide +kernel
theorem dX2_fails_8 : decode cX2_fails 8 = .ok (.aload_n 0, 1) := by decide +kernel
theorem dX2_fails_9 : decode cX2_fails 9 = .ok (.getfield 22, 3) := by decide +kernel
theorem dX2_fails_12 : decode cX2_fails 12 = .ok (.putfield 28, 3) := by decide +kernel
theorem dX2_fails_15 : decode cX2_fails 15 = .ok (.aload_n 0, 1) := by decide +kernel
theorem dX2_fails_16 : decode cX2_fails 16 = .ok (.iconst 4, 1) := by decide +kernel
theorem dX2_fails_17 : decode cX2_fails 17 = .ok (.putfield 19, 3) := by decide +kernel
theorem dX2_fails_20 : decode cX2_fails 20 = .ok (.return_, 1) := by decide +kernel
theorem dX2_signsOf_0 : decode cX2_signsOf 0 = .ok (.iload_n 0, 1) := by decide +kernel
theorem dX2_signsOf_1 : decode cX2_signsOf 1 = .ok (.tableswitch 43 0 3 #[31, 34, 37, 40], 31) := by decide +kernel
theorem dX2_signsOf_32 : decode cX2_signsOf 32 = .ok (.ldc 87, 2) := by decide +kernel
theorem dX2_signsOf_34 : decode cX2_signsOf 34 = .ok (.areturn, 1) := by decide +kernel
theorem dX2_signsOf_35 : decode cX2_signsOf 35 = .ok (.ldc 89, 2) := by decide +kernel
theorem dX2_signsOf_37 : decode cX2_signsOf 37 = .ok (.areturn, 1) := by decide +kernel
theorem dX2_signsOf_38 : decode cX2_signsOf 38 = .ok (.ldc 91, 2) := by decide +kernel
theorem dX2_signsOf_40 : decode cX2_signsOf 40 = .ok (.areturn, 1) := by decide +kernel
theorem dX2_signsOf_41 : decode cX2_signsOf 41 = .ok (.ldc 93, 2) := by decide +kernel
theorem dX2_signsOf_43 : decode cX2_signsOf 43 = .ok (.areturn, 1) := by decide +kernel
theorem dX2_signsOf_44 : decode cX2_signsOf 44 = .ok (.ldc 95, 2) := by decide +kernel
theorem dX2_signsOf_46 : decode cX2_signsOf 46 = .ok (.areturn, 1) := by decide +kernel
theorem dX2_isSignOf_0 : decode cX2_isSignOf 0 = .ok (.aload_n 0, 1) := by decide +kernel
theorem dX2_isSignOf_1 : decode cX2_isSignOf 1 = .ok (.getfield 19, 3) := by decide +kernel
theorem dX2_isSignOf_4 : decode cX2_isSignOf 4 = .ok (.iconst 3, 1) := by decide +kernel
theorem dX2_isSignOf_5 : decode cX2_isSignOf 5 = .ok (.if_icmp .ne 39, 3) := by decide +kernel
theorem dX2_isSignOf_8 : decode cX2_isSignOf 8 = .ok (.aload_n 0, 1) := by decide +kernel
theorem dX2_isSignOf_9 : decode cX2_isSignOf 9 = .ok (.getfield 9, 3) := by decide +kernel
theorem dX2_isSignOf_12 : decode cX2_isSignOf 12 = .ok (.aload_n 0, 1) := by decide +kernel
theorem dX2_isSignOf_13 : decode cX2_isSignOf 13 = .ok (.getfield 22, 3) := by decide +kernel
theorem dX2_isSignOf_16 : decode cX2_isSignOf 16 = .ok (.baload, 1) := by decide +kernel
theorem dX2_isSignOf_17 : decode cX2_isSignOf 17 = .ok (.ifCond .le 27, 3) := by decide +kernel
theorem dX2_isSignOf_20 : decode cX2_isSignOf 20 = .ok (.iload_n 1, 1) := by decide +kernel
theorem dX2_isSignOf_21 : decode cX2_isSignOf 21 = .ok (.invokestatic 97, 3) := by decide +kernel
theorem dX2_isSignOf_24 : decode cX2_isSignOf 24 = .ok (.aload_n 0, 1) := by decide +kernel
theorem dX2_isSignOf_25 : decode cX2_isSignOf 25 = .ok (.getfield 9, 3) := by decide +kernel
theorem dX2_isSignOf_28 : decode cX2_isSignOf 28 = .ok (.aload_n 0, 1) := by decide +kernel
theorem dX2_isSignOf_29 : decode cX2_isSignOf 29 = .ok (.getfield 22, 3) := by decide +kernel
theorem dX2_isSignOf_32 : decode cX2_isSignOf 32 = .ok (.baload, 1) := by decide +kernel
theorem dX2_isSignOf_33 : decode cX2_isSignOf 33 = .ok (.i2c, 1) := by decide +kernel
theorem dX2_isSignOf_34 : decode cX2_isSignOf 34 = .ok (.invokevirtual 101, 3) := by decide +kernel
theorem dX2_isSignOf_37 : decode cX2_isSignOf 37 = .ok (.ifCond .lt 7, 3) := by decide +kernel
theorem dX2_isSignOf_40 : decode cX2_isSignOf 40 = .ok (.iconst 1, 1) := by decide +kernel
theorem dX2_isSignOf_41 : decode cX2_isSignOf 41 = .ok (.goto 4, 3) := by decide +kernel
theorem dX2_isSignOf_44 : decode cX2_isSignOf 44 = .ok (.iconst 0, 1) := by decide +kernel
theorem dX2_isSignOf_45 : decode cX2_isSignOf 45 = .ok (.ireturn, 1) := by decide +kernel
theorem dX2_level_0 : decode cX2_level 0 = .ok (.iload_n 1, 1) := by decide +kernel
theorem dX2_level_1 : decode cX2_level 1 = .ok (.iconst 5, 1) := by decide +kernel
theorem dX2_level_2 : decode cX2_level 2 = .ok (.if_icmp .lt 9, 3) := by decide +kernel
theorem dX2_level_5 : decode cX2_level 5 = .ok (.aload_n 0, 1) := by decide +kernel
theorem dX2_level_6 : decode cX2_level 6 = .ok (.aload_n 2, 1) := by decide +kernel
theorem dX2_level_7 : decode cX2_level 7 = .ok (.invokevirtual 104, 3) := by decide +kernel
theorem dX2_level_10 : decode cX2_level 10 = .ok (.return_, 1) := by decide +kernel
theorem dX2_level_11 : decode cX2_level 11 = .ok (.aload_n 0, 1) := by decide +kernel
theorem dX2_level_12 : decode cX2_level 12 = .ok (.iload_n 1, 1) := by decide +kernel
theorem dX2_level_13 : decode cX2_level 13 = .ok (.iconst 1, 1) := by decide +kernel
theorem dX2_level_14 : decode cX2_level 14 = .ok (.iadd, 1) := by decide +kernel
theorem dX2_level_15 : decode cX2_level 15 = .ok (.aload_n 2, 1) := by decide +kernel
theorem dX2_level_16 : decode cX2_level 16 = .ok (.invokevirtual 64, 3) := by decide +kernel
theorem dX2_level_19 : decode cX2_level 19 = .ok (.iload_n 1, 1) := by decide +kernel
theorem dX2_level_20 : decode cX2_level 20 = .ok (.iconst 2, 1) := by decide +kernel
theorem dX2_level_21 : decode cX2_level 21 = .ok (.if_icmp .ne 7, 3) := by decide +kernel
theorem dX2_level_24 : decode cX2_level 24 = .ok (.iconst 1, 1) := by decide +kernel
theorem dX2_level_25 : decode cX2_level 25 = .ok (.goto 5, 3) := by decide +kernel
theorem dX2_level_28 : decode cX2_level 28 = .ok (.bipush 96, 2) := by decide +kernel
theorem dX2_level_30 : decode cX2_level 30 = .ok (.istore_n 3, 1) := by decide +kernel
theorem dX2_level_31 : decode cX2_level 31 = .ok (.iconst 0, 1) := by decide +kernel
theorem dX2_level_32 : decode cX2_level 32 = .ok (.istore 4, 2) := by decide +kernel
theorem dX2_level_34 : decode cX2_level 34 = .ok (.iload 4, 2) := by decide +kernel
theorem dX2_level_36 : decode cX2_level 36 = .ok (.iload_n 3, 1) := by decide +kernel
theorem dX2_level_37 : decode cX2_level 37 = .ok (.if_icmp .ge 47, 3) := by decide +kernel
theorem dX2_level_40 : decode cX2_level 40 = .ok (.aload_n 0, 1) := by decide +kernel
theorem dX2_level_41 : decode cX2_level 41 = .ok (.iload_n 1, 1) := by decide +kernel
theorem dX2_level_42 : decode cX2_level 42 = .ok (.invokevirtual 108, 3) := by decide +kernel
theorem dX2_level_45 : decode cX2_level 45 = .ok (.ifCond .eq 39, 3) := by decide +kernel
theorem dX2_level_48 : decode cX2_level 48 = .ok (.aload_n 0, 1) := by decide +kernel
theorem dX2_level_49 : decode cX2_level 49 = .ok (.getfield 9, 3) := by decide +kernel
theorem dX2_level_52 : decode cX2_level 52 = .ok (.aload_n 0, 1) := by decide +kernel
theorem dX2_level_53 : decode cX2_level 53 = .ok (.getfield 22, 3) := by decide +kernel
theorem dX2_level_56 : decode cX2_level 56 = .ok (.baload, 1) := by decide +kernel
theorem dX2_level_57 : decode cX2_level 57 = .ok (.istore 5, 2) := by decide +kernel
theorem dX2_level_59 : decode cX2_level 59 = .ok (.aload_n 0, 1) := by decide +kernel
theorem dX2_level_60 : decode cX2_level 60 = .ok (.invokevirtual 45, 3) := by decide +kernel
theorem dX2_level_63 : decode cX2_level 63 = .ok (.aload_n 0, 1) := by decide +kernel
theorem dX2_level_64 : decode cX2_level 64 = .ok (.iload_n 1, 1) := by decide +kernel
theorem dX2_level_65 : decode cX2_level 65 = .ok (.iconst 1, 1) := by decide +kernel
theorem dX2_level_66 : decode cX2_level 66 = .ok (.iadd, 1) := by decide +kernel
theorem dX2_level_67 : decode cX2_level 67 = .ok (.aload_n 2, 1) := by decide +kernel
theorem dX2_level_68 : decode cX2_level 68 = .ok (.invokevirtual 64, 3) := by decide +kernel
theorem dX2_level_71 : decode cX2_level 71 = .ok (.aload_n 2, 1) := by decide +kernel
theorem dX2_level_72 : decode cX2_level 72 = .ok (.iload 5, 2) := by decide +kernel
theorem dX2_level_74 : decode cX2_level 74 = .ok (.ineg, 1) := by decide +kernel
theorem dX2_level_75 : decode cX2_level 75 = .ok (.invokevirtual 112, 3) := by decide +kernel
theorem dX2_level_78 : decode cX2_level 78 = .ok (.iinc 4 1, 3) := by decide +kernel
theorem dX2_level_81 : decode cX2_level 81 = .ok (.goto (-47), 3) := by decide +kernel
theorem dX2_level_84 : decode cX2_level 84 = .ok (.return_, 1) := by decide +kernel
theorem dX2_piece_0 : decode cX2_piece 0 = .ok (.aload_n 0, 1) := by decide +kernel
theorem dX2_piece_1 : decode cX2_piece 1 = .ok (.getfield 19, 3) := by decide +kernel
theorem dX2_piece_4 : decode cX2_piece 4 = .ok (.iconst 2, 1) := by decide +kernel
theorem dX2_piece_5 : decode cX2_piece 5 = .ok (.if_icmp .ne 28, 3) := by decide +kernel
theorem dX2_piece_8 : decode cX2_piece 8 = .ok (.aload_n 0, 1) := by decide +kernel
theorem dX2_piece_9 : decode cX2_piece 9 = .ok (.getfield 25, 3) := by decide +kernel
theorem dX2_piece_12 : decode cX2_piece 12 = .ok (.aload_n 0, 1) := by decide +kernel
theorem dX2_piece_13 : decode cX2_piece 13 = .ok (.getfield 22, 3) := by decide +kernel
theorem dX2_piece_16 : decode cX2_piece 16 = .ok (.isub, 1) := by decide +kernel
theorem dX2_piece_17 : decode cX2_piece 17 = .ok (.iconst 4, 1) := by decide +kernel
theorem dX2_piece_18 : decode cX2_piece 18 = .ok (.if_icmp .gt 15, 3) := by decide +kernel
theorem dX2_piece_21 : decode cX2_piece 21 = .ok (.aload_n 0, 1) := by decide +kernel
theorem dX2_piece_22 : decode cX2_piece 22 = .ok (.aload_n 1, 1) := by decide +kernel
theorem dX2_piece_23 : decode cX2_piece 23 = .ok (.aload_n 0, 1) := by decide +kernel
theorem dX2_piece_24 : decode cX2_piece 24 = .ok (.invokevirtual 116, 3) := by decide +kernel
theorem dX2_piece_27 : decode cX2_piece 27 = .ok (.invokevirtual 119, 3) := by decide +kernel
theorem dX2_piece_30 : decode cX2_piece 30 = .ok (.goto 171, 3) := by decide +kernel
theorem dX2_piece_33 : decode cX2_piece 33 = .ok (.aload_n 0, 1) := by decide +kernel
theorem dX2_piece_34 : decode cX2_piece 34 = .ok (.getfield 19, 3) := by decide +kernel
theorem dX2_piece_37 : decode cX2_piece 37 = .ok (.iconst 1, 1) := by decide +kernel
theorem dX2_piece_38 : decode cX2_piece 38 = .ok (.if_icmp .ne 32, 3) := by decide +kernel
theorem dX2_piece_41 : decode cX2_piece 41 = .ok (.aload_n 0, 1) := by decide +kernel
theorem dX2_piece_42 : decode cX2_piece 42 = .ok (.aload_n 1, 1) := by decide +kernel
theorem dX2_piece_43 : decode cX2_piece 43 = .ok (.getfield 61, 3) := by decide +kernel
theorem dX2_piece_46 : decode cX2_piece 46 = .ok (.invokevirtual 123, 3) := by decide +kernel
theorem dX2_piece_49 : decode cX2_piece 49 = .ok (.ifCond .lt 21, 3) := by decide +kernel
theorem dX2_piece_52 : decode cX2_piece 52 = .ok (.aload_n 0, 1) := by decide +kernel
theorem dX2_piece_53 : decode cX2_piece 53 = .ok (.aload_n 1, 1) := by decide +kernel
theorem dX2_piece_54 : decode cX2_piece 54 = .ok (.iconst (-1), 1) := by decide +kernel
theorem dX2_piece_55 : decode cX2_piece 55 = .ok (.aload_n 0, 1) := by decide +kernel
theorem dX2_piece_56 : decode cX2_piece 56 = .ok (.aload_n 1, 1) := by decide +kernel
theorem dX2_piece_57 : decode cX2_piece 57 = .ok (.getfield 61, 3) := by decide +kernel
theorem dX2_piece_60 : decode cX2_piece 60 = .ok (.invokevirtual 123, 3) := by decide +kernel
theorem dX2_piece_63 : decode cX2_piece 63 = .ok (.isub, 1) := by decide +kernel
theorem dX2_piece_64 : decode cX2_piece 64 = .ok (.invokevirtual 119, 3) := by decide +kernel
theorem dX2_piece_67 : decode cX2_piece 67 = .ok (.goto 134, 3) := by decide +kernel
theorem dX2_piece_70 : decode cX2_piece 70 = .ok (.aload_n 0, 1) := by decide +kernel
theorem dX2_piece_71 : decode cX2_piece 71 = .ok (.bipush 33, 2) := by decide +kernel
theorem dX2_piece_73 : decode cX2_piece 73 = .ok (.invokevirtual 126, 3) := by decide +kernel
theorem dX2_piece_76 : decode cX2_piece 76 = .ok (.ifCond .eq 50, 3) := by decide +kernel
theorem dX2_piece_79 : decode cX2_piece 79 = .ok (.aload_n 0, 1) := by decide +kernel
theorem dX2_piece_80 : decode cX2_piece 80 = .ok (.getfield 34, 3) := by decide +kernel
theorem dX2_piece_83 : decode cX2_piece 83 = .ok (.bipush 8, 2) := by decide +kernel
theorem dX2_piece_85 : decode cX2_piece 85 = .ok (.if_icmp .ge 41, 3) := by decide +kernel
theorem dX2_piece_88 : decode cX2_piece 88 = .ok (.aload_n 0, 1) := by decide +kernel
theorem dX2_piece_89 : decode cX2_piece 89 = .ok (.dup, 1) := by decide +kernel
theorem dX2_piece_90 : decode cX2_piece 90 = .ok (.getfield 34, 3) := by decide +kernel
theorem dX2_piece_93 : decode cX2_piece 93 = .ok (.iconst 1, 1) := by decide +kernel
theorem dX2_piece_94 : decode cX2_piece 94 = .ok (.iadd, 1) := by decide +kernel
theorem dX2_piece_95 : decode cX2_piece 95 = .ok (.putfield 34, 3) := by decide +kernel
theorem dX2_piece_98 : decode cX2_piece 98 = .ok (.aload_n 0, 1) := by decide +kernel
theorem dX2_piece_99 : decode cX2_piece 99 = .ok (.invokevirtual 45, 3) := by decide +kernel
theorem dX2_piece_102 : decode cX2_piece 102 = .ok (.aload_n 0, 1) := by decide +kernel
theorem dX2_piece_103 : decode cX2_piece 103 = .ok (.aload_n 1, 1) := by decide +kernel
theorem dX2_piece_104 : decode cX2_piece 104 = .ok (.invokevirtual 104, 3) := by decide +kernel
theorem dX2_piece_107 : decode cX2_piece 107 = .ok (.aload_n 0, 1) := by decide +kernel
theorem dX2_piece_108 : decode cX2_piece 108 = .ok (.dup, 1) := by decide +kernel
theorem dX2_piece_109 : decode cX2_piece 109 = .ok (.getfield 34, 3) := by decide +kernel
theorem dX2_piece_112 : decode cX2_piece 112 = .ok (.iconst 1, 1) := by decide +kernel
theorem dX2_piece_113 : decode cX2_piece 113 = .ok (.isub, 1) := by decide +kernel
theorem dX2_piece_114 : decode cX2_piece 114 = .ok (.putfield 34, 3) := by decide +kernel
theorem dX2_piece_117 : decode cX2_piece 117 = .ok (.aload_n 1, 1) := by decide +kernel
theorem dX2_piece_118 : decode cX2_piece 118 = .ok (.bipush (-33), 2) := by decide +kernel
theorem dX2_piece_120 : decode cX2_piece 120 = .ok (.invokevirtual 112, 3) := by decide +kernel
theorem dX2_piece_123 : decode cX2_piece 123 = .ok (.goto 78, 3) := by decide +kernel
theorem dX2_piece_126 : decode cX2_piece 126 = .ok (.aload_n 0, 1) := by decide +kernel
theorem dX2_piece_127 : decode cX2_piece 127 = .ok (.bipush 40, 2) := by decide +kernel
theorem dX2_piece_129 : decode cX2_piece 129 = .ok (.invokevirtual 126, 3) := by decide +kernel
theorem dX2_piece_132 : decode cX2_piece 132 = .ok (.ifCond .eq 65, 3) := by decide +kernel
theorem dX2_piece_135 : decode cX2_piece 135 = .ok (.aload_n 0, 1) := by decide +kernel
theorem dX2_piece_136 : decode cX2_piece 136 = .ok (.getfield 31, 3) := by decide +kernel
theorem dX2_piece_139 : decode cX2_piece 139 = .ok (.bipush 8, 2) := by decide +kernel
theorem dX2_piece_141 : decode cX2_piece 141 = .ok (.if_icmp .ge 56, 3) := by decide +kernel
theorem dX2_piece_144 : decode cX2_piece 144 = .ok (.aload_n 0, 1) := by decide +kernel
theorem dX2_piece_145 : decode cX2_piece 145 = .ok (.dup, 1) := by decide +kernel
theorem dX2_piece_146 : decode cX2_piece 146 = .ok (.getfield 31, 3) := by decide +kernel
theorem dX2_piece_149 : decode cX2_piece 149 = .ok (.iconst 1, 1) := by decide +kernel
theorem dX2_piece_150 : decode cX2_piece 150 = .ok (.iadd, 1) := by decide +kernel
theorem dX2_piece_151 : decode cX2_piece 151 = .ok (.putfield 31, 3) := by decide +kernel
theorem dX2_piece_154 : decode cX2_piece 154 = .ok (.aload_n 0, 1) := by decide +kernel
theorem dX2_piece_155 : decode cX2_piece 155 = .ok (.invokevirtual 45, 3) := by decide +kernel
theorem dX2_piece_158 : decode cX2_piece 158 = .ok (.aload_n 0, 1) := by decide +kernel
theorem dX2_piece_159 : decode cX2_piece 159 = .ok (.iconst 0, 1) := by decide +kernel
theorem dX2_piece_160 : decode cX2_piece 160 = .ok (.aload_n 1, 1) := by decide +kernel
theorem dX2_piece_161 : decode cX2_piece 161 = .ok (.invokevirtual 64, 3) := by decide +kernel
theorem dX2_piece_164 : decode cX2_piece 164 = .ok (.aload_n 0, 1) := by decide +kernel
theorem dX2_piece_165 : decode cX2_piece 165 = .ok (.dup, 1) := by decide +kernel
theorem dX2_piece_166 : decode cX2_piece 166 = .ok (.getfield 31, 3) := by decide +kernel
theorem dX2_piece_169 : decode cX2_piece 169 = .ok (.iconst 1, 1) := by decide +kernel
theorem dX2_piece_170 : decode cX2_piece 170 = .ok (.isub, 1) := by decide +kernel
theorem dX2_piece_171 : decode cX2_piece 171 = .ok (.putfield 31, 3) := by decide +kernel
theorem dX2_piece_174 : decode cX2_piece 174 = .ok (.aload_n 0, 1) := by decide +kernel
theorem dX2_piece_175 : decode cX2_piece 175 = .ok (.bipush 41, 2) := by decide +kernel
theorem dX2_piece_177 : decode cX2_piece 177 = .ok (.invokevirtual 126, 3) := by decide +kernel
theorem dX2_piece_180 : decode cX2_piece 180 = .ok (.ifCond .eq 10, 3) := by decide +kernel
theorem dX2_piece_183 : decode cX2_piece 183 = .ok (.aload_n 0, 1) := by decide +kernel
theorem dX2_piece_184 : decode cX2_piece 184 = .ok (.invokevirtual 45, 3) := by decide +kernel
theorem dX2_piece_187 : decode cX2_piece 187 = .ok (.goto 14, 3) := by decide +kernel
theorem dX2_piece_190 : decode cX2_piece 190 = .ok (.aload_n 0, 1) := by decide +kernel
theorem dX2_piece_191 : decode cX2_piece 191 = .ok (.invokevirtual 58, 3) := by decide +kernel
theorem dX2_piece_194 : decode cX2_piece 194 = .ok (.goto 7, 3) := by decide +kernel
theorem dX2_piece_197 : decode cX2_piece 197 = .ok (.aload_n 0, 1) := by decide +kernel
theorem dX2_piece_198 : decode cX2_piece 198 = .ok (.invokevirtual 58, 3) := by decide +kernel
theorem dX2_piece_201 : decode cX2_piece 201 = .ok (.return_, 1) := by decide +kernel
theorem dX2_leaf_0 : decode cX2_leaf 0 = .ok (.aload_n 1, 1) := by decide +kernel
theorem dX2_leaf_1 : decode cX2_leaf 1 = .ok (.iload_n 2, 1) := by decide +kernel
theorem dX2_leaf_2 : decode cX2_leaf 2 = .ok (.invokevirtual 112, 3) := by decide +kernel
theorem dX2_leaf_5 : decode cX2_leaf 5 = .ok (.aload_n 1, 1) := by decide +kernel
theorem dX2_leaf_6 : decode cX2_leaf 6 = .ok (.dup, 1) := by decide +kernel
theorem dX2_leaf_7 : decode cX2_leaf 7 = .ok (.getfield 42, 3) := by decide +kernel
theorem dX2_leaf_10 : decode cX2_leaf 10 = .ok (.iconst 1, 1) := by decide +kernel
theorem dX2_leaf_11 : decode cX2_leaf 11 = .ok (.iadd, 1) := by decide +kernel
theorem dX2_leaf_12 : decode cX2_leaf 12 = .ok (.putfield 42, 3) := by decide +kernel
theorem dX2_leaf_15 : decode cX2_leaf 15 = .ok (.aload_n 0, 1) := by decide +kernel
theorem dX2_leaf_16 : decode cX2_leaf 16 = .ok (.invokevirtual 45, 3) := by decide +kernel
theorem dX2_leaf_19 : decode cX2_leaf 19 = .ok (.return_, 1) := by decide +kernel
theorem dX2_number_0 : decode cX2_number 0 = .ok (.iconst 0, 1) := by decide +kernel
theorem dX2_number_1 : decode cX2_number 1 = .ok (.istore_n 1, 1) := by decide +kernel
theorem dX2_number_2 : decode cX2_number 2 = .ok (.aload_n 0, 1) := by decide +kernel
theorem dX2_number_3 : decode cX2_number 3 = .ok (.getfield 22, 3) := by decide +kernel
theorem dX2_number_6 : decode cX2_number 6 = .ok (.istore_n 2, 1) := by decide +kernel
theorem dX2_number_7 : decode cX2_number 7 = .ok (.iload_n 2, 1) := by decide +kernel
theorem dX2_number_8 : decode cX2_number 8 = .ok (.aload_n 0, 1) := by decide +kernel
theorem dX2_number_9 : decode cX2_number 9 = .ok (.getfield 25, 3) := by decide +kernel
theorem dX2_number_12 : decode cX2_number 12 = .ok (.if_icmp .ge 24, 3) := by decide +kernel
theorem dX2_number_15 : decode cX2_number 15 = .ok (.iload_n 1, 1) := by decide +kernel
theorem dX2_number_16 : decode cX2_number 16 = .ok (.bipush 10, 2) := by decide +kernel
theorem dX2_number_18 : decode cX2_number 18 = .ok (.imul, 1) := by decide +kernel
theorem dX2_number_19 : decode cX2_number 19 = .ok (.aload_n 0, 1) := by decide +kernel
theorem dX2_number_20 : decode cX2_number 20 = .ok (.getfield 9, 3) := by decide +kernel
theorem dX2_number_23 : decode cX2_number 23 = .ok (.iload_n 2, 1) := by decide +kernel
theorem dX2_number_24 : decode cX2_number 24 = .ok (.baload, 1) := by decide +kernel
theorem dX2_number_25 : decode cX2_number 25 = .ok (.iadd, 1) := by decide +kernel
theorem dX2_number_26 : decode cX2_number 26 = .ok (.bipush 48, 2) := by decide +kernel
theorem dX2_number_28 : decode cX2_number 28 = .ok (.isub, 1) := by decide +kernel
theorem dX2_number_29 : decode cX2_number 29 = .ok (.istore_n 1, 1) := by decide +kernel
theorem dX2_number_30 : decode cX2_number 30 = .ok (.iinc 2 1, 3) := by decide +kernel
theorem dX2_number_33 : decode cX2_number 33 = .ok (.goto (-26), 3) := by decide +kernel
theorem dX2_number_36 : decode cX2_number 36 = .ok (.iload_n 1, 1) := by decide +kernel
theorem dX2_number_37 : decode cX2_number 37 = .ok (.ireturn, 1) := by decide +kernel
theorem dX2_nameOf_0 : decode cX2_nameOf 0 = .ok (.aload_n 0, 1) := by decide +kernel
theorem dX2_nameOf_1 : decode cX2_nameOf 1 = .ok (.getfield 25, 3) := by decide +kernel
theorem dX2_nameOf_4 : decode cX2_nameOf 4 = .ok (.aload_n 0, 1) := by decide +kernel
theorem dX2_nameOf_5 : decode cX2_nameOf 5 = .ok (.getfield 22, 3) := by decide +kernel
theorem dX2_nameOf_8 : decode cX2_nameOf 8 = .ok (.isub, 1) := by decide +kernel
theorem dX2_nameOf_9 : decode cX2_nameOf 9 = .ok (.iconst 1, 1) := by decide +kernel
theorem dX2_nameOf_10 : decode cX2_nameOf 10 = .ok (.if_icmp .eq 5, 3) := by decide +kernel
theorem dX2_nameOf_13 : decode cX2_nameOf 13 = .ok (.iconst (-1), 1) := by decide +kernel
theorem dX2_nameOf_14 : decode cX2_nameOf 14 = .ok (.ireturn, 1) := by decide +kernel
theorem dX2_nameOf_15 : decode cX2_nameOf 15 = .ok (.iload_n 1, 1) := by decide +kernel
theorem dX2_nameOf_16 : decode cX2_nameOf 16 = .ok (.ifCond .ne 8, 3) := by decide +kernel
theorem dX2_nameOf_19 : decode cX2_nameOf 19 = .ok (.ldc 130, 2) := by decide +kernel
theorem dX2_nameOf_21 : decode cX2_nameOf 21 = .ok (.goto 15, 3) := by decide +kernel
theorem dX2_nameOf_24 : decode cX2_nameOf 24 = .ok (.iload_n 1, 1) := by decide +kernel
theorem dX2_nameOf_25 : decode cX2_nameOf 25 = .ok (.iconst 1, 1) := by decide +kernel
theorem dX2_nameOf_26 : decode cX2_nameOf 26 = .ok (.if_icmp .ne 8, 3) := by decide +kernel
theorem dX2_nameOf_29 : decode cX2_nameOf 29 = .ok (.ldc 132, 2) := by decide +kernel
theorem dX2_nameOf_31 : decode cX2_nameOf 31 = .ok (.goto 5, 3) := by decide +kernel
theorem dX2_nameOf_34 : decode cX2_nameOf 34 = .ok (.ldc 134, 2) := by decide +kernel
theorem dX2_nameOf_36 : decode cX2_nameOf 36 = .ok (.astore_n 2, 1) := by decide +kernel
theorem dX2_nameOf_37 : decode cX2_nameOf 37 = .ok (.aload_n 2, 1) := by decide +kernel
theorem dX2_nameOf_38 : decode cX2_nameOf 38 = .ok (.aload_n 0, 1) := by decide +kernel
theorem dX2_nameOf_39 : decode cX2_nameOf 39 = .ok (.getfield 9, 3) := by decide +kernel
theorem dX2_nameOf_42 : decode cX2_nameOf 42 = .ok (.aload_n 0, 1) := by decide +kernel
theorem dX2_nameOf_43 : decode cX2_nameOf 43 = .ok (.getfield 22, 3) := by decide +kernel
theorem dX2_nameOf_46 : decode cX2_nameOf 46 = .ok (.baload, 1) := by decide +kernel
theorem dX2_nameOf_47 : decode cX2_nameOf 47 = .ok (.i2c, 1) := by decide +kernel
theorem dX2_nameOf_48 : decode cX2_nameOf 48 = .ok (.invokevirtual 101, 3) := by decide +kernel
theorem dX2_nameOf_51 : decode cX2_nameOf 51 = .ok (.ireturn, 1) := by decide +kernel
theorem dX3_init_0 : decode cX3_init 0 = .ok (.aload_n 0, 1) := by decide +kernel
theorem dX3_init_1 : decode cX3_init 1 = .ok (.invokespecial 3, 3) := by decide +kernel
theorem dX3_init_4 : decode cX3_init 4 = .ok (.aload_n 0, 1) := by decide +kernel
theorem dX3_init_5 : decode cX3_init 5 = .ok (.bipush 24, 2) := by decide +kernel
theorem dX3_init_7 : decode cX3_init 7 = .ok (.newarray .int, 2) := by decide +kernel
theorem dX3_init_9 : decode cX3_init 9 = .ok (.putfield 9, 3) := by decide +kernel
theorem dX3_init_12 : decode cX3_init 12 = .ok (.aload_n 0, 1) := by decide +kernel
theorem dX3_init_13 : decode cX3_init 13 = .ok (.iconst (-1), 1) := by decide +kernel
theorem dX3_init_14 : decode cX3_init 14 = .ok (.putfield 15, 3) := by decide +kernel
theorem dX3_init_17 : decode cX3_init 17 = .ok (.aload_n 0, 1) := by decide +kernel
theorem dX3_init_18 : decode cX3_init 18 = .ok (.iconst 0, 1) := by decide +kernel
theorem dX3_init_19 : decode cX3_init 19 = .ok (.putfield 19, 3) := by decide +kernel
theorem dX3_init_22 : decode cX3_init 22 = .ok (.return_, 1) := by decide +kernel
theorem dX3_clears_0 : decode cX3_clears 0 = .ok (.iconst 0, 1) := by decide +kernel
theorem dX3_clears_1 : decode cX3_clears 1 = .ok (.istore_n 3, 1) := by decide +kernel
theorem dX3_clears_2 : decode cX3_clears 2 = .ok (.iload_n 3, 1) := by decide +kernel
theorem dX3_clears_3 : decode cX3_clears 3 = .ok (.bipush 24, 2) := by decide +kernel
theorem dX3_clears_5 : decode cX3_clears 5 = .ok (.if_icmp .ge 16, 3) := by decide +kernel
theorem dX3_clears_8 : decode cX3_clears 8 = .ok (.aload_n 0, 1) := by decide +kernel
theorem dX3_clears_9 : decode cX3_clears 9 = .ok (.getfield 9, 3) := by decide +kernel
theorem dX3_clears_12 : decode cX3_clears 12 = .ok (.iload_n 3, 1) := by decide +kernel
theorem dX3_clears_13 : decode cX3_clears 13 = .ok (.iconst 0, 1) := by decide +kernel
theorem dX3_clears_14 : decode cX3_clears 14 = .ok (.iastore, 1) := by decide +kernel
theorem dX3_clears_15 : decode cX3_clears 15 = .ok (.iinc 3 1, 3) := by decide +kernel
theorem dX3_clears_18 : decode cX3_clears 18 = .ok (.goto (-16), 3) := by decide +kernel
theorem dX3_clears_21 : decode cX3_clears 21 = .ok (.aload_n 0, 1) := by decide +kernel
theorem dX3_clears_22 : decode cX3_clears 22 = .ok (.iload_n 1, 1) := by decide +kernel
theorem dX3_clears_23 : decode cX3_clears 23 = .ok (.putfield 15, 3) := by decide +kernel
theorem dX3_clears_26 : decode cX3_clears 26 = .ok (.aload_n 0, 1) := by decide +kernel
theorem dX3_clears_27 : decode cX3_clears 27 = .ok (.iload_n 2, 1) := by decide +kernel
theorem dX3_clears_28 : decode cX3_clears 28 = .ok (.putfield 19, 3) := by decide +kernel
theorem dX3_clears_31 : decode cX3_clears 31 = .ok (.return_, 1) := by decide +kernel
theorem dX3_takesAfter_0 : decode cX3_takesAfter 0 = .ok (.aload_n 1, 1) := by decide +kernel
theorem dX3_takesAfter_1 : decode cX3_takesAfter 1 = .ok (.getfield 9, 3) := by decide +kernel
theorem dX3_takesAfter_4 : decode cX3_takesAfter 4 = .ok (.iconst 0, 1) := by decide +kernel
theorem dX3_takesAfter_5 : decode cX3_takesAfter 5 = .ok (.aload_n 0, 1) := by decide +kernel
theorem dX3_takesAfter_6 : decode cX3_takesAfter 6 = .ok (.getfield 9, 3) := by decide +kernel
theorem dX3_takesAfter_9 : decode cX3_takesAfter 9 = .ok (.iconst 0, 1) := by decide +kernel
theorem dX3_takesAfter_10 : decode cX3_takesAfter 10 = .ok (.bipush 24, 2) := by decide +kernel
theorem dX3_takesAfter_12 : decode cX3_takesAfter 12 = .ok (.invokestatic 22, 3) := by decide +kernel
theorem dX3_takesAfter_15 : decode cX3_takesAfter 15 = .ok (.aload_n 0, 1) := by decide +kernel
theorem dX3_takesAfter_16 : decode cX3_takesAfter 16 = .ok (.aload_n 1, 1) := by decide +kernel
theorem dX3_takesAfter_17 : decode cX3_takesAfter 17 = .ok (.getfield 15, 3) := by decide +kernel
theorem dX3_takesAfter_20 : decode cX3_takesAfter 20 = .ok (.putfield 15, 3) := by decide +kernel
theorem dX3_takesAfter_23 : decode cX3_takesAfter 23 = .ok (.aload_n 0, 1) := by decide +kernel
theorem dX3_takesAfter_24 : decode cX3_takesAfter 24 = .ok (.aload_n 1, 1) := by decide +kernel
theorem dX3_takesAfter_25 : decode cX3_takesAfter 25 = .ok (.getfield 19, 3) := by decide +kernel
theorem dX3_takesAfter_28 : decode cX3_takesAfter 28 = .ok (.putfield 19, 3) := by decide +kernel
theorem dX3_takesAfter_31 : decode cX3_takesAfter 31 = .ok (.return_, 1) := by decide +kernel
theorem dX3_hasPart_0 : decode cX3_hasPart 0 = .ok (.iload_n 1, 1) := by decide +kernel
theorem dX3_hasPart_1 : decode cX3_hasPart 1 = .ok (.ifCond .lt 29, 3) := by decide +kernel
theorem dX3_hasPart_4 : decode cX3_hasPart 4 = .ok (.iload_n 2, 1) := by decide +kernel
theorem dX3_hasPart_5 : decode cX3_hasPart 5 = .ok (.ifCond .lt 25, 3) := by decide +kernel
theorem dX3_hasPart_8 : decode cX3_hasPart 8 = .ok (.iload_n 2, 1) := by decide +kernel
theorem dX3_hasPart_9 : decode cX3_hasPart 9 = .ok (.aload_n 0, 1) := by decide +kernel
theorem dX3_hasPart_10 : decode cX3_hasPart 10 = .ok (.getfield 19, 3) := by decide +kernel
theorem dX3_hasPart_13 : decode cX3_hasPart 13 = .ok (.if_icmp .gt 17, 3) := by decide +kernel
theorem dX3_hasPart_16 : decode cX3_hasPart 16 = .ok (.iload_n 1, 1) := by decide +kernel
theorem dX3_hasPart_17 : decode cX3_hasPart 17 = .ok (.aload_n 0, 1) := by decide +kernel
theorem dX3_hasPart_18 : decode cX3_hasPart 18 = .ok (.getfield 19, 3) := by decide +kernel
theorem dX3_hasPart_21 : decode cX3_hasPart 21 = .ok (.iload_n 2, 1) := by decide +kernel
theorem dX3_hasPart_22 : decode cX3_hasPart 22 = .ok (.isub, 1) := by decide +kernel
theorem dX3_hasPart_23 : decode cX3_hasPart 23 = .ok (.if_icmp .gt 7, 3) := by decide +kernel
theorem dX3_hasPart_26 : decode cX3_hasPart 26 = .ok (.iconst 1, 1) := by decide +kernel
theorem dX3_hasPart_27 : decode cX3_hasPart 27 = .ok (.goto 4, 3) := by decide +kernel
theorem dX3_hasPart_30 : decode cX3_hasPart 30 = .ok (.iconst 0, 1) := by decide +kernel
theorem dX3_hasPart_31 : decode cX3_hasPart 31 = .ok (.ireturn, 1) := by decide +kernel
theorem dX4_init_0 : decode cX4_init 0 = .ok (.aload_n 0, 1) := by decide +kernel
theorem dX4_init_1 : decode cX4_init 1 = .ok (.invokespecial 1, 3) := by decide +kernel
theorem dX4_init_4 : decode cX4_init 4 = .ok (.aload_n 0, 1) := by decide +kernel
theorem dX4_init_5 : decode cX4_init 5 = .ok (.new 7, 3) := by decide +kernel
theorem dX4_init_8 : decode cX4_init 8 = .ok (.dup, 1) := by decide +kernel
theorem dX4_init_9 : decode cX4_init 9 = .ok (.invokespecial 9, 3) := by decide +kernel
theorem dX4_init_12 : decode cX4_init 12 = .ok (.putfield 10, 3) := by decide +kernel
theorem dX4_init_15 : decode cX4_init 15 = .ok (.aload_n 0, 1) := by decide +kernel
theorem dX4_init_16 : decode cX4_init 16 = .ok (.iconst 0, 1) := by decide +kernel
theorem dX4_init_17 : decode cX4_init 17 = .ok (.putfield 16, 3) := by decide +kernel
theorem dX4_init_20 : decode cX4_init 20 = .ok (.aload_n 0, 1) := by decide +kernel
theorem dX4_init_21 : decode cX4_init 21 = .ok (.iconst 0, 1) := by decide +kernel
theorem dX4_init_22 : decode cX4_init 22 = .ok (.putfield 20, 3) := by decide +kernel
theorem dX4_init_25 : decode cX4_init 25 = .ok (.aload_n 0, 1) := by decide +kernel
theorem dX4_init_26 : decode cX4_init 26 = .ok (.iconst 0, 1) := by decide +kernel
theorem dX4_init_27 : decode cX4_init 27 = .ok (.putfield 23, 3) := by decide +kernel
theorem dX4_init_30 : decode cX4_init 30 = .ok (.aload_n 0, 1) := by decide +kernel
theorem dX4_init_31 : decode cX4_init 31 = .ok (.iconst 0, 1) := by decide +kernel
theorem dX4_init_32 : decode cX4_init 32 = .ok (.putfield 26, 3) := by decide +kernel
theorem dX4_init_35 : decode cX4_init 35 = .ok (.return_, 1) := by decide +kernel
theorem dX5_init_0 : decode cX5_init 0 = .ok (.aload_n 0, 1) := by decide +kernel
theorem dX5_init_1 : decode cX5_init 1 = .ok (.invokespecial 3, 3) := by decide +kernel
theorem dX5_init_4 : decode cX5_init 4 = .ok (.aload_n 0, 1) := by decide +kernel
theorem dX5_init_5 : decode cX5_init 5 = .ok (.bipush 96, 2) := by decide +kernel
theorem dX5_init_7 : decode cX5_init 7 = .ok (.newarray .int, 2) := by decide +kernel
theorem dX5_init_9 : decode cX5_init 9 = .ok (.putfield 9, 3) := by decide +kernel
theorem dX5_init_12 : decode cX5_init 12 = .ok (.aload_n 0, 1) := by decide +kernel
theorem dX5_init_13 : decode cX5_init 13 = .ok (.iconst 0, 1) := by decide +kernel
theorem dX5_init_14 : decode cX5_init 14 = .ok (.putfield 15, 3) := by decide +kernel
theorem dX5_init_17 : decode cX5_init 17 = .ok (.aload_n 0, 1) := by decide +kernel
theorem dX5_init_18 : decode cX5_init 18 = .ok (.iconst 0, 1) := by decide +kernel
theorem dX5_init_19 : decode cX5_init 19 = .ok (.putfield 19, 3) := by decide +kernel
theorem dX5_init_22 : decode cX5_init 22 = .ok (.aload_n 0, 1) := by decide +kernel
theorem dX5_init_23 : decode cX5_init 23 = .ok (.iconst 0, 1) := by decide +kernel
theorem dX5_init_24 : decode cX5_init 24 = .ok (.putfield 22, 3) := by decide +kernel
theorem dX5_init_27 : decode cX5_init 27 = .ok (.return_, 1) := by decide +kernel
theorem dX5_adds_0 : decode cX5_adds 0 = .ok (.aload_n 0, 1) := by decide +kernel
theorem dX5_adds_1 : decode cX5_adds 1 = .ok (.getfield 15, 3) := by decide +kernel
theorem dX5_adds_4 : decode cX5_adds 4 = .ok (.bipush 96, 2) := by decide +kernel
theorem dX5_adds_6 : decode cX5_adds 6 = .ok (.if_icmp .ge 23, 3) := by decide +kernel
theorem dX5_adds_9 : decode cX5_adds 9 = .ok (.aload_n 0, 1) := by decide +kernel
theorem dX5_adds_10 : decode cX5_adds 10 = .ok (.getfield 9, 3) := by decide +kernel
theorem dX5_adds_13 : decode cX5_adds 13 = .ok (.aload_n 0, 1) := by decide +kernel
theorem dX5_adds_14 : decode cX5_adds 14 = .ok (.getfield 15, 3) := by decide +kernel
theorem dX5_adds_17 : decode cX5_adds 17 = .ok (.iload_n 1, 1) := by decide +kernel
theorem dX5_adds_18 : decode cX5_adds 18 = .ok (.iastore, 1) := by decide +kernel
theorem dX5_adds_19 : decode cX5_adds 19 = .ok (.aload_n 0, 1) := by decide +kernel
theorem dX5_adds_20 : decode cX5_adds 20 = .ok (.dup, 1) := by decide +kernel
theorem dX5_adds_21 : decode cX5_adds 21 = .ok (.getfield 15, 3) := by decide +kernel
theorem dX5_adds_24 : decode cX5_adds 24 = .ok (.iconst 1, 1) := by decide +kernel
theorem dX5_adds_25 : decode cX5_adds 25 = .ok (.iadd, 1) := by decide +kernel
theorem dX5_adds_26 : decode cX5_adds 26 = .ok (.putfield 15, 3) := by decide +kernel
theorem dX5_adds_29 : decode cX5_adds 29 = .ok (.return_, 1) := by decide +kernel
theorem dX6_init_0 : decode cX6_init 0 = .ok (.aload_n 0, 1) := by decide +kernel
theorem dX6_init_1 : decode cX6_init 1 = .ok (.invokespecial 3, 3) := by decide +kernel
theorem dX6_init_4 : decode cX6_init 4 = .ok (.aload_n 0, 1) := by decide +kernel
theorem dX6_init_5 : decode cX6_init 5 = .ok (.bipush 8, 2) := by decide +kernel
theorem dX6_init_7 : decode cX6_init 7 = .ok (.newarray .int, 2) := by decide +kernel
theorem dX6_init_9 : decode cX6_init 9 = .ok (.putfield 9, 3) := by decide +kernel
theorem dX6_init_12 : decode cX6_init 12 = .ok (.aload_n 0, 1) := by decide +kernel
theorem dX6_init_13 : decode cX6_init 13 = .ok (.bipush 8, 2) := by decide +kernel
theorem dX6_init_15 : decode cX6_init 15 = .ok (.newarray .int, 2) := by decide +kernel
theorem dX6_init_17 : decode cX6_init 17 = .ok (.putfield 15, 3) := by decide +kernel
theorem dX6_init_20 : decode cX6_init 20 = .ok (.aload_n 0, 1) := by decide +kernel
theorem dX6_init_21 : decode cX6_init 21 = .ok (.bipush 8, 2) := by decide +kernel
theorem dX6_init_23 : decode cX6_init 23 = .ok (.newarray .int, 2) := by decide +kernel
theorem dX6_init_25 : decode cX6_init 25 = .ok (.putfield 18, 3) := by decide +kernel
theorem dX6_init_28 : decode cX6_init 28 = .ok (.aload_n 0, 1) := by decide +kernel
theorem dX6_init_29 : decode cX6_init 29 = .ok (.bipush 8, 2) := by decide +kernel
theorem dX6_init_31 : decode cX6_init 31 = .ok (.newarray .int, 2) := by decide +kernel
theorem dX6_init_33 : decode cX6_init 33 = .ok (.putfield 21, 3) := by decide +kernel
theorem dX6_init_36 : decode cX6_init 36 = .ok (.aload_n 0, 1) := by decide +kernel
theorem dX6_init_37 : decode cX6_init 37 = .ok (.bipush 8, 2) := by decide +kernel
theorem dX6_init_39 : decode cX6_init 39 = .ok (.newarray .int, 2) := by decide +kernel
theorem dX6_init_41 : decode cX6_init 41 = .ok (.putfield 24, 3) := by decide +kernel
theorem dX6_init_44 : decode cX6_init 44 = .ok (.aload_n 0, 1) := by decide +kernel
theorem dX6_init_45 : decode cX6_init 45 = .ok (.bipush 8, 2) := by decide +kernel
theorem dX6_init_47 : decode cX6_init 47 = .ok (.newarray .int, 2) := by decide +kernel
theorem dX6_init_49 : decode cX6_init 49 = .ok (.putfield 27, 3) := by decide +kernel
theorem dX6_init_52 : decode cX6_init 52 = .ok (.aload_n 0, 1) := by decide +kernel
theorem dX6_init_53 : decode cX6_init 53 = .ok (.bipush 20, 2) := by decide +kernel
theorem dX6_init_55 : decode cX6_init 55 = .ok (.newarray .int, 2) := by decide +kernel
theorem dX6_init_57 : decode cX6_init 57 = .ok (.putfield 30, 3) := by decide +kernel
theorem dX6_init_60 : decode cX6_init 60 = .ok (.aload_n 0, 1) := by decide +kernel
theorem dX6_init_61 : decode cX6_init 61 = .ok (.iconst 3, 1) := by decide +kernel
theorem dX6_init_62 : decode cX6_init 62 = .ok (.newarray .int, 2) := by decide +kernel
theorem dX6_init_64 : decode cX6_init 64 = .ok (.dup, 1) := by decide +kernel
theorem dX6_init_65 : decode cX6_init 65 = .ok (.iconst 0, 1) := by decide +kernel
theorem dX6_init_66 : decode cX6_init 66 = .ok (.bipush 120, 2) := by decide +kernel
theorem dX6_init_68 : decode cX6_init 68 = .ok (.iastore, 1) := by decide +kernel
theorem dX6_init_69 : decode cX6_init 69 = .ok (.dup, 1) := by decide +kernel
theorem dX6_init_70 : decode cX6_init 70 = .ok (.iconst 1, 1) := by decide +kernel
theorem dX6_init_71 : decode cX6_init 71 = .ok (.bipush 20, 2) := by decide +kernel
theorem dX6_init_73 : decode cX6_init 73 = .ok (.iastore, 1) := by decide +kernel
theorem dX6_init_74 : decode cX6_init 74 = .ok (.dup, 1) := by decide +kernel
theorem dX6_init_75 : decode cX6_init 75 = .ok (.iconst 2, 1) := by decide +kernel
theorem dX6_init_76 : decode cX6_init 76 = .ok (.bipush 20, 2) := by decide +kernel
theorem dX6_init_78 : decode cX6_init 78 = .ok (.iastore, 1) := by decide +kernel
theorem dX6_init_79 : decode cX6_init 79 = .ok (.putfield 33, 3) := by decide +kernel
theorem dX6_init_82 : decode cX6_init 82 = .ok (.aload_n 0, 1) := by decide +kernel
theorem dX6_init_83 : decode cX6_init 83 = .ok (.iconst 3, 1) := by decide +kernel
theorem dX6_init_84 : decode cX6_init 84 = .ok (.newarray .int, 2) := by decide +kernel
theorem dX6_init_86 : decode cX6_init 86 = .ok (.dup, 1) := by decide +kernel
theorem dX6_init_87 : decode cX6_init 87 = .ok (.iconst 0, 1) := by decide +kernel
theorem dX6_init_88 : decode cX6_init 88 = .ok (.iconst (-1), 1) := by decide +kernel
theorem dX6_init_89 : decode cX6_init 89 = .ok (.iastore, 1) := by decide +kernel
theorem dX6_init_90 : decode cX6_init 90 = .ok (.dup, 1) := by decide +kernel
theorem dX6_init_91 : decode cX6_init 91 = .ok (.iconst 1, 1) := by decide +kernel
theorem dX6_init_92 : decode cX6_init 92 = .ok (.iconst (-1), 1) := by decide +kernel
theorem dX6_init_93 : decode cX6_init 93 = .ok (.iastore, 1) := by decide +kernel
theorem dX6_init_94 : decode cX6_init 94 = .ok (.dup, 1) := by decide +kernel
theorem dX6_init_95 : decode cX6_init 95 = .ok (.iconst 2, 1) := by decide +kernel
theorem dX6_init_96 : decode cX6_init 96 = .ok (.iconst (-1), 1) := by decide +kernel
theorem dX6_init_97 : decode cX6_init 97 = .ok (.iastore, 1) := by decide +kernel
theorem dX6_init_98 : decode cX6_init 98 = .ok (.putfield 36, 3) := by decide +kernel
theorem dX6_init_101 : decode cX6_init 101 = .ok (.aload_n 0, 1) := by decide +kernel
theorem dX6_init_102 : decode cX6_init 102 = .ok (.iconst 0, 1) := by decide +kernel
theorem dX6_init_103 : decode cX6_init 103 = .ok (.putfield 39, 3) := by decide +kernel
theorem dX6_init_106 : decode cX6_init 106 = .ok (.aload_n 0, 1) := by decide +kernel
theorem dX6_init_107 : decode cX6_init 107 = .ok (.iconst 0, 1) := by decide +kernel
theorem dX6_init_108 : decode cX6_init 108 = .ok (.putfield 43, 3) := by decide +kernel
theorem dX6_init_111 : decode cX6_init 111 = .ok (.aload_n 0, 1) := by decide +kernel
theorem dX6_init_112 : decode cX6_init 112 = .ok (.iconst 0, 1) := by decide +kernel
theorem dX6_init_113 : decode cX6_init 113 = .ok (.putfield 46, 3) := by decide +kernel
theorem dX6_init_116 : decode cX6_init 116 = .ok (.aload_n 0, 1) := by decide +kernel
theorem dX6_init_117 : decode cX6_init 117 = .ok (.iconst 0, 1) := by decide +kernel
theorem dX6_init_118 : decode cX6_init 118 = .ok (.putfield 49, 3) := by decide +kernel
theorem dX6_init_121 : decode cX6_init 121 = .ok (.aload_n 0, 1) := by decide +kernel
theorem dX6_init_122 : decode cX6_init 122 = .ok (.iconst 0, 1) := by decide +kernel
theorem dX6_init_123 : decode cX6_init 123 = .ok (.putfield 52, 3) := by decide +kernel
theorem dX6_init_126 : decode cX6_init 126 = .ok (.aload_n 0, 1) := by decide +kernel
theorem dX6_init_127 : decode cX6_init 127 = .ok (.iconst 0, 1) := by decide +kernel
theorem dX6_init_128 : decode cX6_init 128 = .ok (.putfield 55, 3) := by decide +kernel
theorem dX6_init_131 : decode cX6_init 131 = .ok (.aload_n 0, 1) := by decide +kernel
theorem dX6_init_132 : decode cX6_init 132 = .ok (.iconst 1, 1) := by decide +kernel
theorem dX6_init_133 : decode cX6_init 133 = .ok (.putfield 58, 3) := by decide +kernel
theorem dX6_init_136 : decode cX6_init 136 = .ok (.aload_n 0, 1) := by decide +kernel
theorem dX6_init_137 : decode cX6_init 137 = .ok (.iconst 0, 1) := by decide +kernel
theorem dX6_init_138 : decode cX6_init 138 = .ok (.putfield 61, 3) := by decide +kernel
theorem dX6_init_141 : decode cX6_init 141 = .ok (.aload_n 0, 1) := by decide +kernel
theorem dX6_init_142 : decode cX6_init 142 = .ok (.aload_n 1, 1) := by decide +kernel
theorem dX6_init_143 : decode cX6_init 143 = .ok (.putfield 64, 3) := by decide +kernel
theorem dX6_init_146 : decode cX6_init 146 = .ok (.iconst 0, 1) := by decide +kernel
theorem dX6_init_147 : decode cX6_init 147 = .ok (.istore_n 2, 1) := by decide +kernel
theorem dX6_init_148 : decode cX6_init 148 = .ok (.iload_n 2, 1) := by decide +kernel
theorem dX6_init_149 : decode cX6_init 149 = .ok (.bipush 20, 2) := by decide +kernel
theorem dX6_init_151 : decode cX6_init 151 = .ok (.if_icmp .ge 16, 3) := by decide +kernel
theorem dX6_init_154 : decode cX6_init 154 = .ok (.aload_n 0, 1) := by decide +kernel
theorem dX6_init_155 : decode cX6_init 155 = .ok (.getfield 30, 3) := by decide +kernel
theorem dX6_init_158 : decode cX6_init 158 = .ok (.iload_n 2, 1) := by decide +kernel
theorem dX6_init_159 : decode cX6_init 159 = .ok (.iconst (-1), 1) := by decide +kernel
theorem dX6_init_160 : decode cX6_init 160 = .ok (.iastore, 1) := by decide +kernel
theorem dX6_init_161 : decode cX6_init 161 = .ok (.iinc 2 1, 3) := by decide +kernel
theorem dX6_init_164 : decode cX6_init 164 = .ok (.goto (-16), 3) := by decide +kernel
theorem dX6_init_167 : decode cX6_init 167 = .ok (.return_, 1) := by decide +kernel
theorem dX6_takesAfter_0 : decode cX6_takesAfter 0 = .ok (.aload_n 1, 1) := by decide +kernel
theorem dX6_takesAfter_1 : decode cX6_takesAfter 1 = .ok (.getfield 9, 3) := by decide +kernel
theorem dX6_takesAfter_4 : decode cX6_takesAfter 4 = .ok (.iconst 0, 1) := by decide +kernel
theorem dX6_takesAfter_5 : decode cX6_takesAfter 5 = .ok (.aload_n 0, 1) := by decide +kernel
theorem dX6_takesAfter_6 : decode cX6_takesAfter 6 = .ok (.getfield 9, 3) := by decide +kernel
theorem dX6_takesAfter_9 : decode cX6_takesAfter 9 = .ok (.iconst 0, 1) := by decide +kernel
theorem dX6_takesAfter_10 : decode cX6_takesAfter 10 = .ok (.bipush 8, 2) := by decide +kernel
theorem dX6_takesAfter_12 : decode cX6_takesAfter 12 = .ok (.invokestatic 68, 3) := by decide +kernel
theorem dX6_takesAfter_15 : decode cX6_takesAfter 15 = .ok (.aload_n 1, 1) := by decide +kernel
theorem dX6_takesAfter_16 : decode cX6_takesAfter 16 = .ok (.getfield 15, 3) := by decide +kernel
theorem dX6_takesAfter_19 : decode cX6_takesAfter 19 = .ok (.iconst 0, 1) := by decide +kernel
theorem dX6_takesAfter_20 : decode cX6_takesAfter 20 = .ok (.aload_n 0, 1) := by decide +kernel
theorem dX6_takesAfter_21 : decode cX6_takesAfter 21 = .ok (.getfield 15, 3) := by decide +kernel
theorem dX6_takesAfter_24 : decode cX6_takesAfter 24 = .ok (.iconst 0, 1) := by decide +kernel
theorem dX6_takesAfter_25 : decode cX6_takesAfter 25 = .ok (.bipush 8, 2) := by decide +kernel
theorem dX6_takesAfter_27 : decode cX6_takesAfter 27 = .ok (.invokestatic 68, 3) := by decide +kernel
theorem dX6_takesAfter_30 : decode cX6_takesAfter 30 = .ok (.aload_n 1, 1) := by decide +kernel
theorem dX6_takesAfter_31 : decode cX6_takesAfter 31 = .ok (.getfield 18, 3) := by decide +kernel
theorem dX6_takesAfter_34 : decode cX6_takesAfter 34 = .ok (.iconst 0, 1) := by decide +kernel
theorem dX6_takesAfter_35 : decode cX6_takesAfter 35 = .ok (.aload_n 0, 1) := by decide +kernel
theorem dX6_takesAfter_36 : decode cX6_takesAfter 36 = .ok (.getfield 18, 3) := by decide +kernel
theorem dX6_takesAfter_39 : decode cX6_takesAfter 39 = .ok (.iconst 0, 1) := by decide +kernel
theorem dX6_takesAfter_40 : decode cX6_takesAfter 40 = .ok (.bipush 8, 2) := by decide +kernel
theorem dX6_takesAfter_42 : decode cX6_takesAfter 42 = .ok (.invokestatic 68, 3) := by decide +kernel
theorem dX6_takesAfter_45 : decode cX6_takesAfter 45 = .ok (.aload_n 1, 1) := by decide +kernel
theorem dX6_takesAfter_46 : decode cX6_takesAfter 46 = .ok (.getfield 21, 3) := by decide +kernel
theorem dX6_takesAfter_49 : decode cX6_takesAfter 49 = .ok (.iconst 0, 1) := by decide +kernel
theorem dX6_takesAfter_50 : decode cX6_takesAfter 50 = .ok (.aload_n 0, 1) := by decide +kernel
theorem dX6_takesAfter_51 : decode cX6_takesAfter 51 = .ok (.getfield 21, 3) := by decide +kernel
theorem dX6_takesAfter_54 : decode cX6_takesAfter 54 = .ok (.iconst 0, 1) := by decide +kernel
theorem dX6_takesAfter_55 : decode cX6_takesAfter 55 = .ok (.bipush 8, 2) := by decide +kernel
theorem dX6_takesAfter_57 : decode cX6_takesAfter 57 = .ok (.invokestatic 68, 3) := by decide +kernel
theorem dX6_takesAfter_60 : decode cX6_takesAfter 60 = .ok (.aload_n 1, 1) := by decide +kernel
theorem dX6_takesAfter_61 : decode cX6_takesAfter 61 = .ok (.getfield 24, 3) := by decide +kernel
theorem dX6_takesAfter_64 : decode cX6_takesAfter 64 = .ok (.iconst 0, 1) := by decide +kernel
theorem dX6_takesAfter_65 : decode cX6_takesAfter 65 = .ok (.aload_n 0, 1) := by decide +kernel
theorem dX6_takesAfter_66 : decode cX6_takesAfter 66 = .ok (.getfield 24, 3) := by decide +kernel
theorem dX6_takesAfter_69 : decode cX6_takesAfter 69 = .ok (.iconst 0, 1) := by decide +kernel
theorem dX6_takesAfter_70 : decode cX6_takesAfter 70 = .ok (.bipush 8, 2) := by decide +kernel
theorem dX6_takesAfter_72 : decode cX6_takesAfter 72 = .ok (.invokestatic 68, 3) := by decide +kernel
theorem dX6_takesAfter_75 : decode cX6_takesAfter 75 = .ok (.aload_n 1, 1) := by decide +kernel
theorem dX6_takesAfter_76 : decode cX6_takesAfter 76 = .ok (.getfield 30, 3) := by decide +kernel
theorem dX6_takesAfter_79 : decode cX6_takesAfter 79 = .ok (.iconst 0, 1) := by decide +kernel
theorem dX6_takesAfter_80 : decode cX6_takesAfter 80 = .ok (.aload_n 0, 1) := by decide +kernel
theorem dX6_takesAfter_81 : decode cX6_takesAfter 81 = .ok (.getfield 30, 3) := by decide +kernel
theorem dX6_takesAfter_84 : decode cX6_takesAfter 84 = .ok (.iconst 0, 1) := by decide +kernel
theorem dX6_takesAfter_85 : decode cX6_takesAfter 85 = .ok (.bipush 20, 2) := by decide +kernel
theorem dX6_takesAfter_87 : decode cX6_takesAfter 87 = .ok (.invokestatic 68, 3) := by decide +kernel
theorem dX6_takesAfter_90 : decode cX6_takesAfter 90 = .ok (.aload_n 1, 1) := by decide +kernel
theorem dX6_takesAfter_91 : decode cX6_takesAfter 91 = .ok (.getfield 33, 3) := by decide +kernel
theorem dX6_takesAfter_94 : decode cX6_takesAfter 94 = .ok (.iconst 0, 1) := by decide +kernel
theorem dX6_takesAfter_95 : decode cX6_takesAfter 95 = .ok (.aload_n 0, 1) := by decide +kernel
theorem dX6_takesAfter_96 : decode cX6_takesAfter 96 = .ok (.getfield 33, 3) := by decide +kernel
theorem dX6_takesAfter_99 : decode cX6_takesAfter 99 = .ok (.iconst 0, 1) := by decide +kernel
theorem dX6_takesAfter_100 : decode cX6_takesAfter 100 = .ok (.iconst 3, 1) := by decide +kernel
theorem dX6_takesAfter_101 : decode cX6_takesAfter 101 = .ok (.invokestatic 68, 3) := by decide +kernel
theorem dX6_takesAfter_104 : decode cX6_takesAfter 104 = .ok (.aload_n 1, 1) := by decide +kernel
theorem dX6_takesAfter_105 : decode cX6_takesAfter 105 = .ok (.getfield 36, 3) := by decide +kernel
theorem dX6_takesAfter_108 : decode cX6_takesAfter 108 = .ok (.iconst 0, 1) := by decide +kernel
theorem dX6_takesAfter_109 : decode cX6_takesAfter 109 = .ok (.aload_n 0, 1) := by decide +kernel
theorem dX6_takesAfter_110 : decode cX6_takesAfter 110 = .ok (.getfield 36, 3) := by decide +kernel
theorem dX6_takesAfter_113 : decode cX6_takesAfter 113 = .ok (.iconst 0, 1) := by decide +kernel
theorem dX6_takesAfter_114 : decode cX6_takesAfter 114 = .ok (.iconst 3, 1) := by decide +kernel
theorem dX6_takesAfter_115 : decode cX6_takesAfter 115 = .ok (.invokestatic 68, 3) := by decide +kernel
theorem dX6_takesAfter_118 : decode cX6_takesAfter 118 = .ok (.aload_n 0, 1) := by decide +kernel
theorem dX6_takesAfter_119 : decode cX6_takesAfter 119 = .ok (.aload_n 1, 1) := by decide +kernel
theorem dX6_takesAfter_120 : decode cX6_takesAfter 120 = .ok (.getfield 39, 3) := by decide +kernel
theorem dX6_takesAfter_123 : decode cX6_takesAfter 123 = .ok (.putfield 39, 3) := by decide +kernel
theorem dX6_takesAfter_126 : decode cX6_takesAfter 126 = .ok (.aload_n 0, 1) := by decide +kernel
theorem dX6_takesAfter_127 : decode cX6_takesAfter 127 = .ok (.aload_n 1, 1) := by decide +kernel
theorem dX6_takesAfter_128 : decode cX6_takesAfter 128 = .ok (.getfield 43, 3) := by decide +kernel
theorem dX6_takesAfter_131 : decode cX6_takesAfter 131 = .ok (.putfield 43, 3) := by decide +kernel
theorem dX6_takesAfter_134 : decode cX6_takesAfter 134 = .ok (.aload_n 0, 1) := by decide +kernel
theorem dX6_takesAfter_135 : decode cX6_takesAfter 135 = .ok (.aload_n 1, 1) := by decide +kernel
theorem dX6_takesAfter_136 : decode cX6_takesAfter 136 = .ok (.getfield 46, 3) := by decide +kernel
theorem dX6_takesAfter_139 : decode cX6_takesAfter 139 = .ok (.putfield 46, 3) := by decide +kernel
theorem dX6_takesAfter_142 : decode cX6_takesAfter 142 = .ok (.aload_n 0, 1) := by decide +kernel
theorem dX6_takesAfter_143 : decode cX6_takesAfter 143 = .ok (.aload_n 1, 1) := by decide +kernel
theorem dX6_takesAfter_144 : decode cX6_takesAfter 144 = .ok (.getfield 49, 3) := by decide +kernel
theorem dX6_takesAfter_147 : decode cX6_takesAfter 147 = .ok (.putfield 49, 3) := by decide +kernel
theorem dX6_takesAfter_150 : decode cX6_takesAfter 150 = .ok (.aload_n 0, 1) := by decide +kernel
theorem dX6_takesAfter_151 : decode cX6_takesAfter 151 = .ok (.aload_n 1, 1) := by decide +kernel
theorem dX6_takesAfter_152 : decode cX6_takesAfter 152 = .ok (.getfield 52, 3) := by decide +kernel
theorem dX6_takesAfter_155 : decode cX6_takesAfter 155 = .ok (.putfield 52, 3) := by decide +kernel
theorem dX6_takesAfter_158 : decode cX6_takesAfter 158 = .ok (.aload_n 0, 1) := by decide +kernel
theorem dX6_takesAfter_159 : decode cX6_takesAfter 159 = .ok (.aload_n 1, 1) := by decide +kernel
theorem dX6_takesAfter_160 : decode cX6_takesAfter 160 = .ok (.getfield 55, 3) := by decide +kernel
theorem dX6_takesAfter_163 : decode cX6_takesAfter 163 = .ok (.putfield 55, 3) := by decide +kernel
theorem dX6_takesAfter_166 : decode cX6_takesAfter 166 = .ok (.aload_n 0, 1) := by decide +kernel
theorem dX6_takesAfter_167 : decode cX6_takesAfter 167 = .ok (.aload_n 1, 1) := by decide +kernel
theorem dX6_takesAfter_168 : decode cX6_takesAfter 168 = .ok (.getfield 58, 3) := by decide +kernel
theorem dX6_takesAfter_171 : decode cX6_takesAfter 171 = .ok (.putfield 58, 3) := by decide +kernel
theorem dX6_takesAfter_174 : decode cX6_takesAfter 174 = .ok (.aload_n 0, 1) := by decide +kernel
theorem dX6_takesAfter_175 : decode cX6_takesAfter 175 = .ok (.aload_n 1, 1) := by decide +kernel
theorem dX6_takesAfter_176 : decode cX6_takesAfter 176 = .ok (.getfield 61, 3) := by decide +kernel
theorem dX6_takesAfter_179 : decode cX6_takesAfter 179 = .ok (.putfield 61, 3) := by decide +kernel
theorem dX6_takesAfter_182 : decode cX6_takesAfter 182 = .ok (.return_, 1) := by decide +kernel
theorem dX6_has_0 : decode cX6_has 0 = .ok (.iload_n 1, 1) := by decide +kernel
theorem dX6_has_1 : decode cX6_has 1 = .ok (.ifCond .lt 15, 3) := by decide +kernel
theorem dX6_has_4 : decode cX6_has 4 = .ok (.iload_n 1, 1) := by decide +kernel
theorem dX6_has_5 : decode cX6_has 5 = .ok (.aload_n 0, 1) := by decide +kernel
theorem dX6_has_6 : decode cX6_has 6 = .ok (.getfield 39, 3) := by decide +kernel
theorem dX6_has_9 : decode cX6_has 9 = .ok (.if_icmp .ge 7, 3) := by decide +kernel
theorem dX6_has_12 : decode cX6_has 12 = .ok (.iconst 1, 1) := by decide +kernel
theorem dX6_has_13 : decode cX6_has 13 = .ok (.goto 4, 3) := by decide +kernel
theorem dX6_has_16 : decode cX6_has 16 = .ok (.iconst 0, 1) := by decide +kernel
theorem dX6_has_17 : decode cX6_has 17 = .ok (.ireturn, 1) := by decide +kernel
theorem dX6_isFree_0 : decode cX6_isFree 0 = .ok (.aload_n 0, 1) := by decide +kernel
theorem dX6_isFree_1 : decode cX6_isFree 1 = .ok (.getfield 30, 3) := by decide +kernel
theorem dX6_isFree_4 : decode cX6_isFree 4 = .ok (.iload_n 1, 1) := by decide +kernel
theorem dX6_isFree_5 : decode cX6_isFree 5 = .ok (.iaload, 1) := by decide +kernel
theorem dX6_isFree_6 : decode cX6_isFree 6 = .ok (.ifCond .ge 18, 3) := by decide +kernel
theorem dX6_isFree_9 : decode cX6_isFree 9 = .ok (.aload_n 0, 1) := by decide +kernel
theorem dX6_isFree_10 : decode cX6_isFree 10 = .ok (.getfield 43, 3) := by decide +kernel
theorem dX6_isFree_13 : decode cX6_isFree 13 = .ok (.iload_n 1, 1) := by decide +kernel
theorem dX6_isFree_14 : decode cX6_isFree 14 = .ok (.ishr, 1) := by decide +kernel
theorem dX6_isFree_15 : decode cX6_isFree 15 = .ok (.iconst 1, 1) := by decide +kernel
theorem dX6_isFree_16 : decode cX6_isFree 16 = .ok (.iand, 1) := by decide +kernel
theorem dX6_isFree_17 : decode cX6_isFree 17 = .ok (.ifCond .ne 7, 3) := by decide +kernel
theorem dX6_isFree_20 : decode cX6_isFree 20 = .ok (.iconst 1, 1) := by decide +kernel
theorem dX6_isFree_21 : decode cX6_isFree 21 = .ok (.goto 4, 3) := by decide +kernel
theorem dX6_isFree_24 : decode cX6_isFree 24 = .ok (.iconst 0, 1) := by decide +kernel
theorem dX6_isFree_25 : decode cX6_isFree 25 = .ok (.ireturn, 1) := by decide +kernel
theorem dX6_comes_0 : decode cX6_comes 0 = .ok (.aload_n 0, 1) := by decide +kernel
theorem dX6_comes_1 : decode cX6_comes 1 = .ok (.getfield 39, 3) := by decide +kernel
theorem dX6_comes_4 : decode cX6_comes 4 = .ok (.istore 6, 2) := by decide +kernel
theorem dX6_comes_6 : decode cX6_comes 6 = .ok (.aload_n 0, 1) := by decide +kernel
theorem dX6_comes_7 : decode cX6_comes 7 = .ok (.getfield 9, 3) := by decide +kernel
theorem dX6_comes_10 : decode cX6_comes 10 = .ok (.iload 6, 2) := by decide +kernel
theorem dX6_comes_12 : decode cX6_comes 12 = .ok (.iload_n 1, 1) := by decide +kernel
theorem dX6_comes_13 : decode cX6_comes 13 = .ok (.iastore, 1) := by decide +kernel
theorem dX6_comes_14 : decode cX6_comes 14 = .ok (.aload_n 0, 1) := by decide +kernel
theorem dX6_comes_15 : decode cX6_comes 15 = .ok (.getfield 15, 3) := by decide +kernel
theorem dX6_comes_18 : decode cX6_comes 18 = .ok (.iload 6, 2) := by decide +kernel
theorem dX6_comes_20 : decode cX6_comes 20 = .ok (.iload_n 2, 1) := by decide +kernel
theorem dX6_comes_21 : decode cX6_comes 21 = .ok (.iastore, 1) := by decide +kernel
theorem dX6_comes_22 : decode cX6_comes 22 = .ok (.aload_n 0, 1) := by decide +kernel
theorem dX6_comes_23 : decode cX6_comes 23 = .ok (.getfield 18, 3) := by decide +kernel
theorem dX6_comes_26 : decode cX6_comes 26 = .ok (.iload 6, 2) := by decide +kernel
theorem dX6_comes_28 : decode cX6_comes 28 = .ok (.iload_n 3, 1) := by decide +kernel
theorem dX6_comes_29 : decode cX6_comes 29 = .ok (.iastore, 1) := by decide +kernel
theorem dX6_comes_30 : decode cX6_comes 30 = .ok (.aload_n 0, 1) := by decide +kernel
theorem dX6_comes_31 : decode cX6_comes 31 = .ok (.getfield 21, 3) := by decide +kernel
theorem dX6_comes_34 : decode cX6_comes 34 = .ok (.iload 6, 2) := by decide +kernel
theorem dX6_comes_36 : decode cX6_comes 36 = .ok (.iload 4, 2) := by decide +kernel
theorem dX6_comes_38 : decode cX6_comes 38 = .ok (.iastore, 1) := by decide +kernel
theorem dX6_comes_39 : decode cX6_comes 39 = .ok (.aload_n 0, 1) := by decide +kernel
theorem dX6_comes_40 : decode cX6_comes 40 = .ok (.getfield 24, 3) := by decide +kernel
theorem dX6_comes_43 : decode cX6_comes 43 = .ok (.iload 6, 2) := by decide +kernel
theorem dX6_comes_45 : decode cX6_comes 45 = .ok (.iload 5, 2) := by decide +kernel
theorem dX6_comes_47 : decode cX6_comes 47 = .ok (.iastore, 1) := by decide +kernel
theorem dX6_comes_48 : decode cX6_comes 48 = .ok (.aload_n 0, 1) := by decide +kernel
theorem dX6_comes_49 : decode cX6_comes 49 = .ok (.getfield 30, 3) := by decide +kernel
theorem dX6_comes_52 : decode cX6_comes 52 = .ok (.iload_n 2, 1) := by decide +kernel
theorem dX6_comes_53 : decode cX6_comes 53 = .ok (.iload 6, 2) := by decide +kernel
theorem dX6_comes_55 : decode cX6_comes 55 = .ok (.iastore, 1) := by decide +kernel
theorem dX6_comes_56 : decode cX6_comes 56 = .ok (.aload_n 0, 1) := by decide +kernel
theorem dX6_comes_57 : decode cX6_comes 57 = .ok (.iload 6, 2) := by decide +kernel
theorem dX6_comes_59 : decode cX6_comes 59 = .ok (.iconst 1, 1) := by decide +kernel
theorem dX6_comes_60 : decode cX6_comes 60 = .ok (.iadd, 1) := by decide +kernel
theorem dX6_comes_61 : decode cX6_comes 61 = .ok (.putfield 39, 3) := by decide +kernel
theorem dX6_comes_64 : decode cX6_comes 64 = .ok (.iload 6, 2) := by decide +kernel
theorem dX6_comes_66 : decode cX6_comes 66 = .ok (.ireturn, 1) := by decide +kernel
theorem dX6_settle_0 : decode cX6_settle 0 = .ok (.aload_n 0, 1) := by decide +kernel
theorem dX6_settle_1 : decode cX6_settle 1 = .ok (.getfield 30, 3) := by decide +kernel
theorem dX6_settle_4 : decode cX6_settle 4 = .ok (.aload_n 0, 1) := by decide +kernel
theorem dX6_settle_5 : decode cX6_settle 5 = .ok (.getfield 15, 3) := by decide +kernel
theorem dX6_settle_8 : decode cX6_settle 8 = .ok (.iload_n 1, 1) := by decide +kernel
theorem dX6_settle_9 : decode cX6_settle 9 = .ok (.iaload, 1) := by decide +kernel
theorem dX6_settle_10 : decode cX6_settle 10 = .ok (.iconst (-1), 1) := by decide +kernel
theorem dX6_settle_11 : decode cX6_settle 11 = .ok (.iastore, 1) := by decide +kernel
theorem dX6_settle_12 : decode cX6_settle 12 = .ok (.aload_n 0, 1) := by decide +kernel
theorem dX6_settle_13 : decode cX6_settle 13 = .ok (.getfield 15, 3) := by decide +kernel
theorem dX6_settle_16 : decode cX6_settle 16 = .ok (.iload_n 1, 1) := by decide +kernel
theorem dX6_settle_17 : decode cX6_settle 17 = .ok (.iload_n 2, 1) := by decide +kernel
theorem dX6_settle_18 : decode cX6_settle 18 = .ok (.iastore, 1) := by decide +kernel
theorem dX6_settle_19 : decode cX6_settle 19 = .ok (.aload_n 0, 1) := by decide +kernel
theorem dX6_settle_20 : decode cX6_settle 20 = .ok (.getfield 30, 3) := by decide +kernel
theorem dX6_settle_23 : decode cX6_settle 23 = .ok (.iload_n 2, 1) := by decide +kernel
theorem dX6_settle_24 : decode cX6_settle 24 = .ok (.iload_n 1, 1) := by decide +kernel
theorem dX6_settle_25 : decode cX6_settle 25 = .ok (.iastore, 1) := by decide +kernel
theorem dX6_settle_26 : decode cX6_settle 26 = .ok (.return_, 1) := by decide +kernel
theorem dX6_supposes_0 : decode cX6_supposes 0 = .ok (.iload_n 1, 1) := by decide +kernel
theorem dX6_supposes_1 : decode cX6_supposes 1 = .ok (.ifCond .ne 13, 3) := by decide +kernel
theorem dX6_supposes_4 : decode cX6_supposes 4 = .ok (.aload_n 0, 1) := by decide +kernel
theorem dX6_supposes_5 : decode cX6_supposes 5 = .ok (.getfield 21, 3) := by decide +kernel
theorem dX6_supposes_8 : decode cX6_supposes 8 = .ok (.iload_n 2, 1) := by decide +kernel
theorem dX6_supposes_9 : decode cX6_supposes 9 = .ok (.iload_n 3, 1) := by decide +kernel
theorem dX6_supposes_10 : decode cX6_supposes 10 = .ok (.iastore, 1) := by decide +kernel
theorem dX6_supposes_11 : decode cX6_supposes 11 = .ok (.goto 25, 3) := by decide +kernel
theorem dX6_supposes_14 : decode cX6_supposes 14 = .ok (.iload_n 1, 1) := by decide +kernel
theorem dX6_supposes_15 : decode cX6_supposes 15 = .ok (.iconst 1, 1) := by decide +kernel
theorem dX6_supposes_16 : decode cX6_supposes 16 = .ok (.if_icmp .ne 13, 3) := by decide +kernel
theorem dX6_supposes_19 : decode cX6_supposes 19 = .ok (.aload_n 0, 1) := by decide +kernel
theorem dX6_supposes_20 : decode cX6_supposes 20 = .ok (.getfield 24, 3) := by decide +kernel
theorem dX6_supposes_23 : decode cX6_supposes 23 = .ok (.iload_n 3, 1) := by decide +kernel
theorem dX6_supposes_24 : decode cX6_supposes 24 = .ok (.iload_n 2, 1) := by decide +kernel
theorem dX6_supposes_25 : decode cX6_supposes 25 = .ok (.iastore, 1) := by decide +kernel
theorem dX6_supposes_26 : decode cX6_supposes 26 = .ok (.goto 10, 3) := by decide +kernel
theorem dX6_supposes_29 : decode cX6_supposes 29 = .ok (.aload_n 0, 1) := by decide +kernel
theorem dX6_supposes_30 : decode cX6_supposes 30 = .ok (.getfield 9, 3) := by decide +kernel
theorem dX6_supposes_33 : decode cX6_supposes 33 = .ok (.iload_n 2, 1) := by decide +kernel
theorem dX6_supposes_34 : decode cX6_supposes 34 = .ok (.iload_n 3, 1) := by decide +kernel
theorem dX6_supposes_35 : decode cX6_supposes 35 = .ok (.iastore, 1) := by decide +kernel
theorem dX6_supposes_36 : decode cX6_supposes 36 = .ok (.return_, 1) := by decide +kernel
theorem dX6_sizesTogether_0 : decode cX6_sizesTogether 0 = .ok (.iconst 0, 1) := by decide +kernel
theorem dX6_sizesTogether_1 : decode cX6_sizesTogether 1 = .ok (.istore_n 1, 1) := by decide +kernel
theorem dX6_sizesTogether_2 : decode cX6_sizesTogether 2 = .ok (.iconst 0, 1) := by decide +kernel
theorem dX6_sizesTogether_3 : decode cX6_sizesTogether 3 = .ok (.istore_n 2, 1) := by decide +kernel
theorem dX6_sizesTogether_4 : decode cX6_sizesTogether 4 = .ok (.iload_n 2, 1) := by decide +kernel
theorem dX6_sizesTogether_5 : decode cX6_sizesTogether 5 = .ok (.aload_n 0, 1) := by decide +kernel
theorem dX6_sizesTogether_6 : decode cX6_sizesTogether 6 = .ok (.getfield 39, 3) := by decide +kernel
theorem dX6_sizesTogether_9 : decode cX6_sizesTogether 9 = .ok (.if_icmp .ge 18, 3) := by decide +kernel
theorem dX6_sizesTogether_12 : decode cX6_sizesTogether 12 = .ok (.iload_n 1, 1) := by decide +kernel
theorem dX6_sizesTogether_13 : decode cX6_sizesTogether 13 = .ok (.aload_n 0, 1) := by decide +kernel
theorem dX6_sizesTogether_14 : decode cX6_sizesTogether 14 = .ok (.getfield 18, 3) := by decide +kernel
theorem dX6_sizesTogether_17 : decode cX6_sizesTogether 17 = .ok (.iload_n 2, 1) := by decide +kernel
theorem dX6_sizesTogether_18 : decode cX6_sizesTogether 18 = .ok (.iaload, 1) := by decide +kernel
theorem dX6_sizesTogether_19 : decode cX6_sizesTogether 19 = .ok (.iadd, 1) := by decide +kernel
theorem dX6_sizesTogether_20 : decode cX6_sizesTogether 20 = .ok (.istore_n 1, 1) := by decide +kernel
theorem dX6_sizesTogether_21 : decode cX6_sizesTogether 21 = .ok (.iinc 2 1, 3) := by decide +kernel
theorem dX6_sizesTogether_24 : decode cX6_sizesTogether 24 = .ok (.goto (-20), 3) := by decide +kernel
theorem dX6_sizesTogether_27 : decode cX6_sizesTogether 27 = .ok (.iload_n 1, 1) := by decide +kernel
theorem dX6_sizesTogether_28 : decode cX6_sizesTogether 28 = .ok (.ireturn, 1) := by decide +kernel
theorem dX6_draw_0 : decode cX6_draw 0 = .ok (.aload_n 0, 1) := by decide +kernel
theorem dX6_draw_1 : decode cX6_draw 1 = .ok (.aload_n 0, 1) := by decide +kernel
theorem dX6_draw_2 : decode cX6_draw 2 = .ok (.getfield 58, 3) := by decide +kernel
theorem dX6_draw_5 : decode cX6_draw 5 = .ok (.ldc 74, 2) := by decide +kernel
theorem dX6_draw_7 : decode cX6_draw 7 = .ok (.imul, 1) := by decide +kernel
theorem dX6_draw_8 : decode cX6_draw 8 = .ok (.sipush 12345, 3) := by decide +kernel
theorem dX6_draw_11 : decode cX6_draw 11 = .ok (.iadd, 1) := by decide +kernel
theorem dX6_draw_12 : decode cX6_draw 12 = .ok (.putfield 58, 3) := by decide +kernel
theorem dX6_draw_15 : decode cX6_draw 15 = .ok (.aload_n 0, 1) := by decide +kernel
theorem dX6_draw_16 : decode cX6_draw 16 = .ok (.getfield 58, 3) := by decide +kernel
theorem dX6_draw_19 : decode cX6_draw 19 = .ok (.bipush 8, 2) := by decide +kernel
theorem dX6_draw_21 : decode cX6_draw 21 = .ok (.iushr, 1) := by decide +kernel
theorem dX6_draw_22 : decode cX6_draw 22 = .ok (.ireturn, 1) := by decide +kernel
theorem dX6_drawsOne_0 : decode cX6_drawsOne 0 = .ok (.aload_n 0, 1) := by decide +kernel
theorem dX6_drawsOne_1 : decode cX6_drawsOne 1 = .ok (.invokevirtual 75, 3) := by decide +kernel
theorem dX6_drawsOne_4 : decode cX6_drawsOne 4 = .ok (.bipush 6, 2) := by decide +kernel
theorem dX6_drawsOne_6 : decode cX6_drawsOne 6 = .ok (.irem, 1) := by decide +kernel
theorem dX6_drawsOne_7 : decode cX6_drawsOne 7 = .ok (.istore_n 1, 1) := by decide +kernel
theorem dX6_drawsOne_8 : decode cX6_drawsOne 8 = .ok (.aload_n 0, 1) := by decide +kernel
theorem dX6_drawsOne_9 : decode cX6_drawsOne 9 = .ok (.aload_n 0, 1) := by decide +kernel
theorem dX6_drawsOne_10 : decode cX6_drawsOne 10 = .ok (.invokevirtual 75, 3) := by decide +kernel
theorem dX6_drawsOne_13 : decode cX6_drawsOne 13 = .ok (.bipush 20, 2) := by decide +kernel
theorem dX6_drawsOne_15 : decode cX6_drawsOne 15 = .ok (.irem, 1) := by decide +kernel
theorem dX6_drawsOne_16 : decode cX6_drawsOne 16 = .ok (.invokevirtual 79, 3) := by decide +kernel
theorem dX6_drawsOne_19 : decode cX6_drawsOne 19 = .ok (.istore_n 2, 1) := by decide +kernel
theorem dX6_drawsOne_20 : decode cX6_drawsOne 20 = .ok (.bipush 20, 2) := by decide +kernel
theorem dX6_drawsOne_22 : decode cX6_drawsOne 22 = .ok (.aload_n 0, 1) := by decide +kernel
theorem dX6_drawsOne_23 : decode cX6_drawsOne 23 = .ok (.invokevirtual 75, 3) := by decide +kernel
theorem dX6_drawsOne_26 : decode cX6_drawsOne 26 = .ok (.bipush 60, 2) := by decide +kernel
theorem dX6_drawsOne_28 : decode cX6_drawsOne 28 = .ok (.irem, 1) := by decide +kernel
theorem dX6_drawsOne_29 : decode cX6_drawsOne 29 = .ok (.iadd, 1) := by decide +kernel
theorem dX6_drawsOne_30 : decode cX6_drawsOne 30 = .ok (.istore_n 3, 1) := by decide +kernel
theorem dX6_drawsOne_31 : decode cX6_drawsOne 31 = .ok (.aload_n 0, 1) := by decide +kernel
theorem dX6_drawsOne_32 : decode cX6_drawsOne 32 = .ok (.invokevirtual 75, 3) := by decide +kernel
theorem dX6_drawsOne_35 : decode cX6_drawsOne 35 = .ok (.bipush 30, 2) := by decide +kernel
theorem dX6_drawsOne_37 : decode cX6_drawsOne 37 = .ok (.irem, 1) := by decide +kernel
theorem dX6_drawsOne_38 : decode cX6_drawsOne 38 = .ok (.istore 4, 2) := by decide +kernel
theorem dX6_drawsOne_40 : decode cX6_drawsOne 40 = .ok (.aload_n 0, 1) := by decide +kernel
theorem dX6_drawsOne_41 : decode cX6_drawsOne 41 = .ok (.invokevirtual 75, 3) := by decide +kernel
theorem dX6_drawsOne_44 : decode cX6_drawsOne 44 = .ok (.bipush 9, 2) := by decide +kernel
theorem dX6_drawsOne_46 : decode cX6_drawsOne 46 = .ok (.irem, 1) := by decide +kernel
theorem dX6_drawsOne_47 : decode cX6_drawsOne 47 = .ok (.iconst 1, 1) := by decide +kernel
theorem dX6_drawsOne_48 : decode cX6_drawsOne 48 = .ok (.isub, 1) := by decide +kernel
theorem dX6_drawsOne_49 : decode cX6_drawsOne 49 = .ok (.istore 5, 2) := by decide +kernel
theorem dX6_drawsOne_51 : decode cX6_drawsOne 51 = .ok (.iload_n 2, 1) := by decide +kernel
theorem dX6_drawsOne_52 : decode cX6_drawsOne 52 = .ok (.ifCond .lt 12, 3) := by decide +kernel
theorem dX6_drawsOne_55 : decode cX6_drawsOne 55 = .ok (.aload_n 0, 1) := by decide +kernel
theorem dX6_drawsOne_56 : decode cX6_drawsOne 56 = .ok (.getfield 39, 3) := by decide +kernel
theorem dX6_drawsOne_59 : decode cX6_drawsOne 59 = .ok (.bipush 8, 2) := by decide +kernel
theorem dX6_drawsOne_61 : decode cX6_drawsOne 61 = .ok (.if_icmp .lt 5, 3) := by decide +kernel
theorem dX6_drawsOne_64 : decode cX6_drawsOne 64 = .ok (.iconst 0, 1) := by decide +kernel
theorem dX6_drawsOne_65 : decode cX6_drawsOne 65 = .ok (.ireturn, 1) := by decide +kernel
theorem dX6_drawsOne_66 : decode cX6_drawsOne 66 = .ok (.aload_n 0, 1) := by decide +kernel
theorem dX6_drawsOne_67 : decode cX6_drawsOne 67 = .ok (.iload_n 1, 1) := by decide +kernel
theorem dX6_drawsOne_68 : decode cX6_drawsOne 68 = .ok (.iload_n 2, 1) := by decide +kernel
theorem dX6_drawsOne_69 : decode cX6_drawsOne 69 = .ok (.iload_n 3, 1) := by decide +kernel
theorem dX6_drawsOne_70 : decode cX6_drawsOne 70 = .ok (.iload 4, 2) := by decide +kernel
theorem dX6_drawsOne_72 : decode cX6_drawsOne 72 = .ok (.iload 5, 2) := by decide +kernel
theorem dX6_drawsOne_74 : decode cX6_drawsOne 74 = .ok (.invokevirtual 83, 3) := by decide +kernel
theorem dX6_drawsOne_77 : decode cX6_drawsOne 77 = .ok (.pop, 1) := by decide +kernel
theorem dX6_drawsOne_78 : decode cX6_drawsOne 78 = .ok (.iconst 1, 1) := by decide +kernel
theorem dX6_drawsOne_79 : decode cX6_drawsOne 79 = .ok (.ireturn, 1) := by decide +kernel
theorem dX6_freeFrom_0 : decode cX6_freeFrom 0 = .ok (.iconst 0, 1) := by decide +kernel
theorem dX6_freeFrom_1 : decode cX6_freeFrom 1 = .ok (.istore_n 2, 1) := by decide +kernel
theorem dX6_freeFrom_2 : decode cX6_freeFrom 2 = .ok (.iload_n 2, 1) := by decide +kernel
theorem dX6_freeFrom_3 : decode cX6_freeFrom 3 = .ok (.bipush 20, 2) := by decide +kernel
theorem dX6_freeFrom_5 : decode cX6_freeFrom 5 = .ok (.if_icmp .ge 26, 3) := by decide +kernel
theorem dX6_freeFrom_8 : decode cX6_freeFrom 8 = .ok (.iload_n 1, 1) := by decide +kernel
theorem dX6_freeFrom_9 : decode cX6_freeFrom 9 = .ok (.iload_n 2, 1) := by decide +kernel
theorem dX6_freeFrom_10 : decode cX6_freeFrom 10 = .ok (.iadd, 1) := by decide +kernel
theorem dX6_freeFrom_11 : decode cX6_freeFrom 11 = .ok (.bipush 20, 2) := by decide +kernel
theorem dX6_freeFrom_13 : decode cX6_freeFrom 13 = .ok (.irem, 1) := by decide +kernel
theorem dX6_freeFrom_14 : decode cX6_freeFrom 14 = .ok (.istore_n 3, 1) := by decide +kernel
theorem dX6_freeFrom_15 : decode cX6_freeFrom 15 = .ok (.aload_n 0, 1) := by decide +kernel
theorem dX6_freeFrom_16 : decode cX6_freeFrom 16 = .ok (.iload_n 3, 1) := by decide +kernel
theorem dX6_freeFrom_17 : decode cX6_freeFrom 17 = .ok (.invokevirtual 87, 3) := by decide +kernel
theorem dX6_freeFrom_20 : decode cX6_freeFrom 20 = .ok (.ifCond .eq 5, 3) := by decide +kernel
theorem dX6_freeFrom_23 : decode cX6_freeFrom 23 = .ok (.iload_n 3, 1) := by decide +kernel
theorem dX6_freeFrom_24 : decode cX6_freeFrom 24 = .ok (.ireturn, 1) := by decide +kernel
theorem dX6_freeFrom_25 : decode cX6_freeFrom 25 = .ok (.iinc 2 1, 3) := by decide +kernel
theorem dX6_freeFrom_28 : decode cX6_freeFrom 28 = .ok (.goto (-26), 3) := by decide +kernel
theorem dX6_freeFrom_31 : decode cX6_freeFrom 31 = .ok (.iconst (-1), 1) := by decide +kernel
theorem dX6_freeFrom_32 : decode cX6_freeFrom 32 = .ok (.ireturn, 1) := by decide +kernel
theorem dX6_seenBy_0 : decode cX6_seenBy 0 = .ok (.aload_n 0, 1) := by decide +kernel
theorem dX6_seenBy_1 : decode cX6_seenBy 1 = .ok (.getfield 15, 3) := by decide +kernel
theorem dX6_seenBy_4 : decode cX6_seenBy 4 = .ok (.iload_n 1, 1) := by decide +kernel
theorem dX6_seenBy_5 : decode cX6_seenBy 5 = .ok (.iaload, 1) := by decide +kernel
theorem dX6_seenBy_6 : decode cX6_seenBy 6 = .ok (.iconst 5, 1) := by decide +kernel
theorem dX6_seenBy_7 : decode cX6_seenBy 7 = .ok (.idiv, 1) := by decide +kernel
theorem dX6_seenBy_8 : decode cX6_seenBy 8 = .ok (.istore_n 2, 1) := by decide +kernel
theorem dX6_seenBy_9 : decode cX6_seenBy 9 = .ok (.aload_n 0, 1) := by decide +kernel
theorem dX6_seenBy_10 : decode cX6_seenBy 10 = .ok (.getfield 15, 3) := by decide +kernel
theorem dX6_seenBy_13 : decode cX6_seenBy 13 = .ok (.iload_n 1, 1) := by decide +kernel
theorem dX6_seenBy_14 : decode cX6_seenBy 14 = .ok (.iaload, 1) := by decide +kernel
theorem dX6_seenBy_15 : decode cX6_seenBy 15 = .ok (.iconst 5, 1) := by decide +kernel
theorem dX6_seenBy_16 : decode cX6_seenBy 16 = .ok (.irem, 1) := by decide +kernel
theorem dX6_seenBy_17 : decode cX6_seenBy 17 = .ok (.istore_n 3, 1) := by decide +kernel
theorem dX6_seenBy_18 : decode cX6_seenBy 18 = .ok (.aload_n 0, 1) := by decide +kernel
theorem dX6_seenBy_19 : decode cX6_seenBy 19 = .ok (.iload_n 1, 1) := by decide +kernel
theorem dX6_seenBy_20 : decode cX6_seenBy 20 = .ok (.iconst (-1), 1) := by decide +kernel
theorem dX6_seenBy_21 : decode cX6_seenBy 21 = .ok (.iload_n 3, 1) := by decide +kernel
theorem dX6_seenBy_22 : decode cX6_seenBy 22 = .ok (.invokevirtual 91, 3) := by decide +kernel
theorem dX6_seenBy_25 : decode cX6_seenBy 25 = .ok (.aload_n 0, 1) := by decide +kernel
theorem dX6_seenBy_26 : decode cX6_seenBy 26 = .ok (.iload_n 1, 1) := by decide +kernel
theorem dX6_seenBy_27 : decode cX6_seenBy 27 = .ok (.iconst 1, 1) := by decide +kernel
theorem dX6_seenBy_28 : decode cX6_seenBy 28 = .ok (.iconst 4, 1) := by decide +kernel
theorem dX6_seenBy_29 : decode cX6_seenBy 29 = .ok (.iload_n 3, 1) := by decide +kernel
theorem dX6_seenBy_30 : decode cX6_seenBy 30 = .ok (.isub, 1) := by decide +kernel
theorem dX6_seenBy_31 : decode cX6_seenBy 31 = .ok (.invokevirtual 91, 3) := by decide +kernel
theorem dX6_seenBy_34 : decode cX6_seenBy 34 = .ok (.ior, 1) := by decide +kernel
theorem dX6_seenBy_35 : decode cX6_seenBy 35 = .ok (.aload_n 0, 1) := by decide +kernel
theorem dX6_seenBy_36 : decode cX6_seenBy 36 = .ok (.iload_n 1, 1) := by decide +kernel
theorem dX6_seenBy_37 : decode cX6_seenBy 37 = .ok (.bipush (-5), 2) := by decide +kernel
theorem dX6_seenBy_39 : decode cX6_seenBy 39 = .ok (.iload_n 2, 1) := by decide +kernel
theorem dX6_seenBy_40 : decode cX6_seenBy 40 = .ok (.invokevirtual 91, 3) := by decide +kernel
theorem dX6_seenBy_43 : decode cX6_seenBy 43 = .ok (.ior, 1) := by decide +kernel
theorem dX6_seenBy_44 : decode cX6_seenBy 44 = .ok (.aload_n 0, 1) := by decide +kernel
theorem dX6_seenBy_45 : decode cX6_seenBy 45 = .ok (.iload_n 1, 1) := by decide +kernel
theorem dX6_seenBy_46 : decode cX6_seenBy 46 = .ok (.iconst 5, 1) := by decide +kernel
theorem dX6_seenBy_47 : decode cX6_seenBy 47 = .ok (.iconst 3, 1) := by decide +kernel
theorem dX6_seenBy_48 : decode cX6_seenBy 48 = .ok (.iload_n 2, 1) := by decide +kernel
theorem dX6_seenBy_49 : decode cX6_seenBy 49 = .ok (.isub, 1) := by decide +kernel
theorem dX6_seenBy_50 : decode cX6_seenBy 50 = .ok (.invokevirtual 91, 3) := by decide +kernel
theorem dX6_seenBy_53 : decode cX6_seenBy 53 = .ok (.ior, 1) := by decide +kernel
theorem dX6_seenBy_54 : decode cX6_seenBy 54 = .ok (.ireturn, 1) := by decide +kernel
theorem dX6_seenAlong_0 : decode cX6_seenAlong 0 = .ok (.iconst 0, 1) := by decide +kernel
theorem dX6_seenAlong_1 : decode cX6_seenAlong 1 = .ok (.istore 4, 2) := by decide +kernel
theorem dX6_seenAlong_3 : decode cX6_seenAlong 3 = .ok (.iconst 0, 1) := by decide +kernel
theorem dX6_seenAlong_4 : decode cX6_seenAlong 4 = .ok (.istore 5, 2) := by decide +kernel
theorem dX6_seenAlong_6 : decode cX6_seenAlong 6 = .ok (.aload_n 0, 1) := by decide +kernel
theorem dX6_seenAlong_7 : decode cX6_seenAlong 7 = .ok (.getfield 15, 3) := by decide +kernel
theorem dX6_seenAlong_10 : decode cX6_seenAlong 10 = .ok (.iload_n 1, 1) := by decide +kernel
theorem dX6_seenAlong_11 : decode cX6_seenAlong 11 = .ok (.iaload, 1) := by decide +kernel
theorem dX6_seenAlong_12 : decode cX6_seenAlong 12 = .ok (.istore 6, 2) := by decide +kernel
theorem dX6_seenAlong_14 : decode cX6_seenAlong 14 = .ok (.iconst 0, 1) := by decide +kernel
theorem dX6_seenAlong_15 : decode cX6_seenAlong 15 = .ok (.istore 7, 2) := by decide +kernel
theorem dX6_seenAlong_17 : decode cX6_seenAlong 17 = .ok (.iload 7, 2) := by decide +kernel
theorem dX6_seenAlong_19 : decode cX6_seenAlong 19 = .ok (.iload_n 3, 1) := by decide +kernel
theorem dX6_seenAlong_20 : decode cX6_seenAlong 20 = .ok (.if_icmp .ge 88, 3) := by decide +kernel
theorem dX6_seenAlong_23 : decode cX6_seenAlong 23 = .ok (.iload 6, 2) := by decide +kernel
theorem dX6_seenAlong_25 : decode cX6_seenAlong 25 = .ok (.iload_n 2, 1) := by decide +kernel
theorem dX6_seenAlong_26 : decode cX6_seenAlong 26 = .ok (.iadd, 1) := by decide +kernel
theorem dX6_seenAlong_27 : decode cX6_seenAlong 27 = .ok (.istore 6, 2) := by decide +kernel
theorem dX6_seenAlong_29 : decode cX6_seenAlong 29 = .ok (.aload_n 0, 1) := by decide +kernel
theorem dX6_seenAlong_30 : decode cX6_seenAlong 30 = .ok (.getfield 43, 3) := by decide +kernel
theorem dX6_seenAlong_33 : decode cX6_seenAlong 33 = .ok (.iload 6, 2) := by decide +kernel
theorem dX6_seenAlong_35 : decode cX6_seenAlong 35 = .ok (.ishr, 1) := by decide +kernel
theorem dX6_seenAlong_36 : decode cX6_seenAlong 36 = .ok (.iconst 1, 1) := by decide +kernel
theorem dX6_seenAlong_37 : decode cX6_seenAlong 37 = .ok (.iand, 1) := by decide +kernel
theorem dX6_seenAlong_38 : decode cX6_seenAlong 38 = .ok (.ifCond .eq 6, 3) := by decide +kernel
theorem dX6_seenAlong_41 : decode cX6_seenAlong 41 = .ok (.iload 4, 2) := by decide +kernel
theorem dX6_seenAlong_43 : decode cX6_seenAlong 43 = .ok (.ireturn, 1) := by decide +kernel
theorem dX6_seenAlong_44 : decode cX6_seenAlong 44 = .ok (.aload_n 0, 1) := by decide +kernel
theorem dX6_seenAlong_45 : decode cX6_seenAlong 45 = .ok (.getfield 30, 3) := by decide +kernel
theorem dX6_seenAlong_48 : decode cX6_seenAlong 48 = .ok (.iload 6, 2) := by decide +kernel
theorem dX6_seenAlong_50 : decode cX6_seenAlong 50 = .ok (.iaload, 1) := by decide +kernel
theorem dX6_seenAlong_51 : decode cX6_seenAlong 51 = .ok (.istore 8, 2) := by decide +kernel
theorem dX6_seenAlong_53 : decode cX6_seenAlong 53 = .ok (.iload 8, 2) := by decide +kernel
theorem dX6_seenAlong_55 : decode cX6_seenAlong 55 = .ok (.ifCond .lt 47, 3) := by decide +kernel
theorem dX6_seenAlong_58 : decode cX6_seenAlong 58 = .ok (.iload 5, 2) := by decide +kernel
theorem dX6_seenAlong_60 : decode cX6_seenAlong 60 = .ok (.aload_n 0, 1) := by decide +kernel
theorem dX6_seenAlong_61 : decode cX6_seenAlong 61 = .ok (.getfield 18, 3) := by decide +kernel
theorem dX6_seenAlong_64 : decode cX6_seenAlong 64 = .ok (.iload_n 1, 1) := by decide +kernel
theorem dX6_seenAlong_65 : decode cX6_seenAlong 65 = .ok (.iaload, 1) := by decide +kernel
theorem dX6_seenAlong_66 : decode cX6_seenAlong 66 = .ok (.aload_n 0, 1) := by decide +kernel
theorem dX6_seenAlong_67 : decode cX6_seenAlong 67 = .ok (.getfield 18, 3) := by decide +kernel
theorem dX6_seenAlong_70 : decode cX6_seenAlong 70 = .ok (.iload 8, 2) := by decide +kernel
theorem dX6_seenAlong_72 : decode cX6_seenAlong 72 = .ok (.iaload, 1) := by decide +kernel
theorem dX6_seenAlong_73 : decode cX6_seenAlong 73 = .ok (.invokestatic 95, 3) := by decide +kernel
theorem dX6_seenAlong_76 : decode cX6_seenAlong 76 = .ok (.if_icmp .gt 12, 3) := by decide +kernel
theorem dX6_seenAlong_79 : decode cX6_seenAlong 79 = .ok (.iload 4, 2) := by decide +kernel
theorem dX6_seenAlong_81 : decode cX6_seenAlong 81 = .ok (.iconst 1, 1) := by decide +kernel
theorem dX6_seenAlong_82 : decode cX6_seenAlong 82 = .ok (.iload 8, 2) := by decide +kernel
theorem dX6_seenAlong_84 : decode cX6_seenAlong 84 = .ok (.ishl, 1) := by decide +kernel
theorem dX6_seenAlong_85 : decode cX6_seenAlong 85 = .ok (.ior, 1) := by decide +kernel
theorem dX6_seenAlong_86 : decode cX6_seenAlong 86 = .ok (.istore 4, 2) := by decide +kernel
theorem dX6_seenAlong_88 : decode cX6_seenAlong 88 = .ok (.iload 5, 2) := by decide +kernel
theorem dX6_seenAlong_90 : decode cX6_seenAlong 90 = .ok (.aload_n 0, 1) := by decide +kernel
theorem dX6_seenAlong_91 : decode cX6_seenAlong 91 = .ok (.getfield 18, 3) := by decide +kernel
theorem dX6_seenAlong_94 : decode cX6_seenAlong 94 = .ok (.iload 8, 2) := by decide +kernel
theorem dX6_seenAlong_96 : decode cX6_seenAlong 96 = .ok (.iaload, 1) := by decide +kernel
theorem dX6_seenAlong_97 : decode cX6_seenAlong 97 = .ok (.invokestatic 95, 3) := by decide +kernel
theorem dX6_seenAlong_100 : decode cX6_seenAlong 100 = .ok (.istore 5, 2) := by decide +kernel
theorem dX6_seenAlong_102 : decode cX6_seenAlong 102 = .ok (.iinc 7 1, 3) := by decide +kernel
theorem dX6_seenAlong_105 : decode cX6_seenAlong 105 = .ok (.goto (-88), 3) := by decide +kernel
theorem dX6_seenAlong_108 : decode cX6_seenAlong 108 = .ok (.iload 4, 2) := by decide +kernel
theorem dX6_seenAlong_110 : decode cX6_seenAlong 110 = .ok (.ireturn, 1) := by decide +kernel
theorem dX6_lookOf_0 : decode cX6_lookOf 0 = .ok (.aload_n 0, 1) := by decide +kernel
theorem dX6_lookOf_1 : decode cX6_lookOf 1 = .ok (.getfield 9, 3) := by decide +kernel
theorem dX6_lookOf_4 : decode cX6_lookOf 4 = .ok (.iload_n 1, 1) := by decide +kernel
theorem dX6_lookOf_5 : decode cX6_lookOf 5 = .ok (.iaload, 1) := by decide +kernel
theorem dX6_lookOf_6 : decode cX6_lookOf 6 = .ok (.iconst 3, 1) := by decide +kernel
theorem dX6_lookOf_7 : decode cX6_lookOf 7 = .ok (.if_icmp .ne 5, 3) := by decide +kernel
theorem dX6_lookOf_10 : decode cX6_lookOf 10 = .ok (.iconst (-1), 1) := by decide +kernel
theorem dX6_lookOf_11 : decode cX6_lookOf 11 = .ok (.ireturn, 1) := by decide +kernel
theorem dX6_lookOf_12 : decode cX6_lookOf 12 = .ok (.aload_n 0, 1) := by decide +kernel
theorem dX6_lookOf_13 : decode cX6_lookOf 13 = .ok (.iload_n 1, 1) := by decide +kernel
theorem dX6_lookOf_14 : decode cX6_lookOf 14 = .ok (.invokevirtual 101, 3) := by decide +kernel
theorem dX6_lookOf_17 : decode cX6_lookOf 17 = .ok (.istore_n 2, 1) := by decide +kernel
theorem dX6_lookOf_18 : decode cX6_lookOf 18 = .ok (.iconst (-1), 1) := by decide +kernel
theorem dX6_lookOf_19 : decode cX6_lookOf 19 = .ok (.istore_n 3, 1) := by decide +kernel
theorem dX6_lookOf_20 : decode cX6_lookOf 20 = .ok (.iconst (-1), 1) := by decide +kernel
theorem dX6_lookOf_21 : decode cX6_lookOf 21 = .ok (.istore 4, 2) := by decide +kernel
theorem dX6_lookOf_23 : decode cX6_lookOf 23 = .ok (.iconst 0, 1) := by decide +kernel
theorem dX6_lookOf_24 : decode cX6_lookOf 24 = .ok (.istore 5, 2) := by decide +kernel
theorem dX6_lookOf_26 : decode cX6_lookOf 26 = .ok (.iload 5, 2) := by decide +kernel
theorem dX6_lookOf_28 : decode cX6_lookOf 28 = .ok (.aload_n 0, 1) := by decide +kernel
theorem dX6_lookOf_29 : decode cX6_lookOf 29 = .ok (.getfield 39, 3) := by decide +kernel
theorem dX6_lookOf_32 : decode cX6_lookOf 32 = .ok (.if_icmp .ge 69, 3) := by decide +kernel
theorem dX6_lookOf_35 : decode cX6_lookOf 35 = .ok (.iload_n 2, 1) := by decide +kernel
theorem dX6_lookOf_36 : decode cX6_lookOf 36 = .ok (.iload 5, 2) := by decide +kernel
theorem dX6_lookOf_38 : decode cX6_lookOf 38 = .ok (.ishr, 1) := by decide +kernel
theorem dX6_lookOf_39 : decode cX6_lookOf 39 = .ok (.iconst 1, 1) := by decide +kernel
theorem dX6_lookOf_40 : decode cX6_lookOf 40 = .ok (.iand, 1) := by decide +kernel
theorem dX6_lookOf_41 : decode cX6_lookOf 41 = .ok (.ifCond .eq 54, 3) := by decide +kernel
theorem dX6_lookOf_44 : decode cX6_lookOf 44 = .ok (.aload_n 0, 1) := by decide +kernel
theorem dX6_lookOf_45 : decode cX6_lookOf 45 = .ok (.getfield 18, 3) := by decide +kernel
theorem dX6_lookOf_48 : decode cX6_lookOf 48 = .ok (.iload 5, 2) := by decide +kernel
theorem dX6_lookOf_50 : decode cX6_lookOf 50 = .ok (.iaload, 1) := by decide +kernel
theorem dX6_lookOf_51 : decode cX6_lookOf 51 = .ok (.ifCond .eq 44, 3) := by decide +kernel
theorem dX6_lookOf_54 : decode cX6_lookOf 54 = .ok (.aload_n 0, 1) := by decide +kernel
theorem dX6_lookOf_55 : decode cX6_lookOf 55 = .ok (.iload_n 1, 1) := by decide +kernel
theorem dX6_lookOf_56 : decode cX6_lookOf 56 = .ok (.iload 5, 2) := by decide +kernel
theorem dX6_lookOf_58 : decode cX6_lookOf 58 = .ok (.invokevirtual 104, 3) := by decide +kernel
theorem dX6_lookOf_61 : decode cX6_lookOf 61 = .ok (.aload_n 0, 1) := by decide +kernel
theorem dX6_lookOf_62 : decode cX6_lookOf 62 = .ok (.getfield 24, 3) := by decide +kernel
theorem dX6_lookOf_65 : decode cX6_lookOf 65 = .ok (.iload_n 1, 1) := by decide +kernel
theorem dX6_lookOf_66 : decode cX6_lookOf 66 = .ok (.iaload, 1) := by decide +kernel
theorem dX6_lookOf_67 : decode cX6_lookOf 67 = .ok (.iload 5, 2) := by decide +kernel
theorem dX6_lookOf_69 : decode cX6_lookOf 69 = .ok (.if_icmp .ne 8, 3) := by decide +kernel
theorem dX6_lookOf_72 : decode cX6_lookOf 72 = .ok (.bipush 40, 2) := by decide +kernel
theorem dX6_lookOf_74 : decode cX6_lookOf 74 = .ok (.goto 4, 3) := by decide +kernel
theorem dX6_lookOf_77 : decode cX6_lookOf 77 = .ok (.iconst 0, 1) := by decide +kernel
theorem dX6_lookOf_78 : decode cX6_lookOf 78 = .ok (.iadd, 1) := by decide +kernel
theorem dX6_lookOf_79 : decode cX6_lookOf 79 = .ok (.istore 6, 2) := by decide +kernel
theorem dX6_lookOf_81 : decode cX6_lookOf 81 = .ok (.iload 6, 2) := by decide +kernel
theorem dX6_lookOf_83 : decode cX6_lookOf 83 = .ok (.iload 4, 2) := by decide +kernel
theorem dX6_lookOf_85 : decode cX6_lookOf 85 = .ok (.if_icmp .le 10, 3) := by decide +kernel
theorem dX6_lookOf_88 : decode cX6_lookOf 88 = .ok (.iload 5, 2) := by decide +kernel
theorem dX6_lookOf_90 : decode cX6_lookOf 90 = .ok (.istore_n 3, 1) := by decide +kernel
theorem dX6_lookOf_91 : decode cX6_lookOf 91 = .ok (.iload 6, 2) := by decide +kernel
theorem dX6_lookOf_93 : decode cX6_lookOf 93 = .ok (.istore 4, 2) := by decide +kernel
theorem dX6_lookOf_95 : decode cX6_lookOf 95 = .ok (.iinc 5 1, 3) := by decide +kernel
theorem dX6_lookOf_98 : decode cX6_lookOf 98 = .ok (.goto (-72), 3) := by decide +kernel
theorem dX6_lookOf_101 : decode cX6_lookOf 101 = .ok (.iload_n 3, 1) := by decide +kernel
theorem dX6_lookOf_102 : decode cX6_lookOf 102 = .ok (.ireturn, 1) := by decide +kernel
theorem dX6_pullOn_0 : decode cX6_pullOn 0 = .ok (.aload_n 0, 1) := by decide +kernel
theorem dX6_pullOn_1 : decode cX6_pullOn 1 = .ok (.getfield 15, 3) := by decide +kernel
theorem dX6_pullOn_4 : decode cX6_pullOn 4 = .ok (.iload_n 1, 1) := by decide +kernel
theorem dX6_pullOn_5 : decode cX6_pullOn 5 = .ok (.iaload, 1) := by decide +kernel
theorem dX6_pullOn_6 : decode cX6_pullOn 6 = .ok (.istore_n 3, 1) := by decide +kernel
theorem dX6_pullOn_7 : decode cX6_pullOn 7 = .ok (.aload_n 0, 1) := by decide +kernel
theorem dX6_pullOn_8 : decode cX6_pullOn 8 = .ok (.getfield 15, 3) := by decide +kernel
theorem dX6_pullOn_11 : decode cX6_pullOn 11 = .ok (.iload_n 2, 1) := by decide +kernel
theorem dX6_pullOn_12 : decode cX6_pullOn 12 = .ok (.iaload, 1) := by decide +kernel
theorem dX6_pullOn_13 : decode cX6_pullOn 13 = .ok (.istore 4, 2) := by decide +kernel
theorem dX6_pullOn_15 : decode cX6_pullOn 15 = .ok (.iload_n 3, 1) := by decide +kernel
theorem dX6_pullOn_16 : decode cX6_pullOn 16 = .ok (.iconst 5, 1) := by decide +kernel
theorem dX6_pullOn_17 : decode cX6_pullOn 17 = .ok (.idiv, 1) := by decide +kernel
theorem dX6_pullOn_18 : decode cX6_pullOn 18 = .ok (.iload 4, 2) := by decide +kernel
theorem dX6_pullOn_20 : decode cX6_pullOn 20 = .ok (.iconst 5, 1) := by decide +kernel
theorem dX6_pullOn_21 : decode cX6_pullOn 21 = .ok (.idiv, 1) := by decide +kernel
theorem dX6_pullOn_22 : decode cX6_pullOn 22 = .ok (.isub, 1) := by decide +kernel
theorem dX6_pullOn_23 : decode cX6_pullOn 23 = .ok (.invokestatic 107, 3) := by decide +kernel
theorem dX6_pullOn_26 : decode cX6_pullOn 26 = .ok (.iload_n 3, 1) := by decide +kernel
theorem dX6_pullOn_27 : decode cX6_pullOn 27 = .ok (.iconst 5, 1) := by decide +kernel
theorem dX6_pullOn_28 : decode cX6_pullOn 28 = .ok (.irem, 1) := by decide +kernel
theorem dX6_pullOn_29 : decode cX6_pullOn 29 = .ok (.iload 4, 2) := by decide +kernel
theorem dX6_pullOn_31 : decode cX6_pullOn 31 = .ok (.iconst 5, 1) := by decide +kernel
theorem dX6_pullOn_32 : decode cX6_pullOn 32 = .ok (.irem, 1) := by decide +kernel
theorem dX6_pullOn_33 : decode cX6_pullOn 33 = .ok (.isub, 1) := by decide +kernel
theorem dX6_pullOn_34 : decode cX6_pullOn 34 = .ok (.invokestatic 107, 3) := by decide +kernel
theorem dX6_pullOn_37 : decode cX6_pullOn 37 = .ok (.iadd, 1) := by decide +kernel
theorem dX6_pullOn_38 : decode cX6_pullOn 38 = .ok (.istore 5, 2) := by decide +kernel
theorem dX6_pullOn_40 : decode cX6_pullOn 40 = .ok (.aload_n 0, 1) := by decide +kernel
theorem dX6_pullOn_41 : decode cX6_pullOn 41 = .ok (.getfield 36, 3) := by decide +kernel
theorem dX6_pullOn_44 : decode cX6_pullOn 44 = .ok (.iconst 0, 1) := by decide +kernel
theorem dX6_pullOn_45 : decode cX6_pullOn 45 = .ok (.iaload, 1) := by decide +kernel
theorem dX6_pullOn_46 : decode cX6_pullOn 46 = .ok (.istore 6, 2) := by decide +kernel
theorem dX6_pullOn_48 : decode cX6_pullOn 48 = .ok (.iload 6, 2) := by decide +kernel
theorem dX6_pullOn_50 : decode cX6_pullOn 50 = .ok (.ifCond .ge 24, 3) := by decide +kernel
theorem dX6_pullOn_53 : decode cX6_pullOn 53 = .ok (.aload_n 0, 1) := by decide +kernel
theorem dX6_pullOn_54 : decode cX6_pullOn 54 = .ok (.getfield 18, 3) := by decide +kernel
theorem dX6_pullOn_57 : decode cX6_pullOn 57 = .ok (.iload_n 2, 1) := by decide +kernel
theorem dX6_pullOn_58 : decode cX6_pullOn 58 = .ok (.iaload, 1) := by decide +kernel
theorem dX6_pullOn_59 : decode cX6_pullOn 59 = .ok (.aload_n 0, 1) := by decide +kernel
theorem dX6_pullOn_60 : decode cX6_pullOn 60 = .ok (.getfield 21, 3) := by decide +kernel
theorem dX6_pullOn_63 : decode cX6_pullOn 63 = .ok (.iload_n 2, 1) := by decide +kernel
theorem dX6_pullOn_64 : decode cX6_pullOn 64 = .ok (.iaload, 1) := by decide +kernel
theorem dX6_pullOn_65 : decode cX6_pullOn 65 = .ok (.iadd, 1) := by decide +kernel
theorem dX6_pullOn_66 : decode cX6_pullOn 66 = .ok (.iconst 3, 1) := by decide +kernel
theorem dX6_pullOn_67 : decode cX6_pullOn 67 = .ok (.iload 5, 2) := by decide +kernel
theorem dX6_pullOn_69 : decode cX6_pullOn 69 = .ok (.imul, 1) := by decide +kernel
theorem dX6_pullOn_70 : decode cX6_pullOn 70 = .ok (.isub, 1) := by decide +kernel
theorem dX6_pullOn_71 : decode cX6_pullOn 71 = .ok (.goto 26, 3) := by decide +kernel
theorem dX6_pullOn_74 : decode cX6_pullOn 74 = .ok (.aload_n 0, 1) := by decide +kernel
theorem dX6_pullOn_75 : decode cX6_pullOn 75 = .ok (.getfield 64, 3) := by decide +kernel
theorem dX6_pullOn_78 : decode cX6_pullOn 78 = .ok (.iload 6, 2) := by decide +kernel
theorem dX6_pullOn_80 : decode cX6_pullOn 80 = .ok (.aload_n 0, 1) := by decide +kernel
theorem dX6_pullOn_81 : decode cX6_pullOn 81 = .ok (.getfield 18, 3) := by decide +kernel
theorem dX6_pullOn_84 : decode cX6_pullOn 84 = .ok (.iload_n 2, 1) := by decide +kernel
theorem dX6_pullOn_85 : decode cX6_pullOn 85 = .ok (.iaload, 1) := by decide +kernel
theorem dX6_pullOn_86 : decode cX6_pullOn 86 = .ok (.aload_n 0, 1) := by decide +kernel
theorem dX6_pullOn_87 : decode cX6_pullOn 87 = .ok (.getfield 21, 3) := by decide +kernel
theorem dX6_pullOn_90 : decode cX6_pullOn 90 = .ok (.iload_n 2, 1) := by decide +kernel
theorem dX6_pullOn_91 : decode cX6_pullOn 91 = .ok (.iaload, 1) := by decide +kernel
theorem dX6_pullOn_92 : decode cX6_pullOn 92 = .ok (.iload 5, 2) := by decide +kernel
theorem dX6_pullOn_94 : decode cX6_pullOn 94 = .ok (.invokevirtual 110, 3) := by decide +kernel
theorem dX6_pullOn_97 : decode cX6_pullOn 97 = .ok (.istore 7, 2) := by decide +kernel
theorem dX6_pullOn_99 : decode cX6_pullOn 99 = .ok (.aload_n 0, 1) := by decide +kernel
theorem dX6_pullOn_100 : decode cX6_pullOn 100 = .ok (.getfield 9, 3) := by decide +kernel
theorem dX6_pullOn_103 : decode cX6_pullOn 103 = .ok (.iload_n 2, 1) := by decide +kernel
theorem dX6_pullOn_104 : decode cX6_pullOn 104 = .ok (.iaload, 1) := by decide +kernel
theorem dX6_pullOn_105 : decode cX6_pullOn 105 = .ok (.iconst 0, 1) := by decide +kernel
theorem dX6_pullOn_106 : decode cX6_pullOn 106 = .ok (.sipush 499, 3) := by decide +kernel
theorem dX6_pullOn_109 : decode cX6_pullOn 109 = .ok (.iload 7, 2) := by decide +kernel
theorem dX6_pullOn_111 : decode cX6_pullOn 111 = .ok (.invokestatic 116, 3) := by decide +kernel
theorem dX6_pullOn_114 : decode cX6_pullOn 114 = .ok (.invokestatic 95, 3) := by decide +kernel
theorem dX6_pullOn_117 : decode cX6_pullOn 117 = .ok (.invokestatic 119, 3) := by decide +kernel
theorem dX6_pullOn_120 : decode cX6_pullOn 120 = .ok (.ireturn, 1) := by decide +kernel
theorem dX6_lookAll_0 : decode cX6_lookAll 0 = .ok (.iconst 0, 1) := by decide +kernel
theorem dX6_lookAll_1 : decode cX6_lookAll 1 = .ok (.istore_n 1, 1) := by decide +kernel
theorem dX6_lookAll_2 : decode cX6_lookAll 2 = .ok (.iload_n 1, 1) := by decide +kernel
theorem dX6_lookAll_3 : decode cX6_lookAll 3 = .ok (.aload_n 0, 1) := by decide +kernel
theorem dX6_lookAll_4 : decode cX6_lookAll 4 = .ok (.getfield 39, 3) := by decide +kernel
theorem dX6_lookAll_7 : decode cX6_lookAll 7 = .ok (.if_icmp .ge 16, 3) := by decide +kernel
theorem dX6_lookAll_10 : decode cX6_lookAll 10 = .ok (.aload_n 0, 1) := by decide +kernel
theorem dX6_lookAll_11 : decode cX6_lookAll 11 = .ok (.getfield 27, 3) := by decide +kernel
theorem dX6_lookAll_14 : decode cX6_lookAll 14 = .ok (.iload_n 1, 1) := by decide +kernel
theorem dX6_lookAll_15 : decode cX6_lookAll 15 = .ok (.iconst 0, 1) := by decide +kernel
theorem dX6_lookAll_16 : decode cX6_lookAll 16 = .ok (.iastore, 1) := by decide +kernel
theorem dX6_lookAll_17 : decode cX6_lookAll 17 = .ok (.iinc 1 1, 3) := by decide +kernel
theorem dX6_lookAll_20 : decode cX6_lookAll 20 = .ok (.goto (-18), 3) := by decide +kernel
theorem dX6_lookAll_23 : decode cX6_lookAll 23 = .ok (.iconst 0, 1) := by decide +kernel
theorem dX6_lookAll_24 : decode cX6_lookAll 24 = .ok (.istore_n 1, 1) := by decide +kernel
theorem dX6_lookAll_25 : decode cX6_lookAll 25 = .ok (.iload_n 1, 1) := by decide +kernel
theorem dX6_lookAll_26 : decode cX6_lookAll 26 = .ok (.aload_n 0, 1) := by decide +kernel
theorem dX6_lookAll_27 : decode cX6_lookAll 27 = .ok (.getfield 39, 3) := by decide +kernel
theorem dX6_lookAll_30 : decode cX6_lookAll 30 = .ok (.if_icmp .ge 31, 3) := by decide +kernel
theorem dX6_lookAll_33 : decode cX6_lookAll 33 = .ok (.aload_n 0, 1) := by decide +kernel
theorem dX6_lookAll_34 : decode cX6_lookAll 34 = .ok (.iload_n 1, 1) := by decide +kernel
theorem dX6_lookAll_35 : decode cX6_lookAll 35 = .ok (.invokevirtual 124, 3) := by decide +kernel
theorem dX6_lookAll_38 : decode cX6_lookAll 38 = .ok (.istore_n 2, 1) := by decide +kernel
theorem dX6_lookAll_39 : decode cX6_lookAll 39 = .ok (.iload_n 2, 1) := by decide +kernel
theorem dX6_lookAll_40 : decode cX6_lookAll 40 = .ok (.ifCond .lt 15, 3) := by decide +kernel
theorem dX6_lookAll_43 : decode cX6_lookAll 43 = .ok (.aload_n 0, 1) := by decide +kernel
theorem dX6_lookAll_44 : decode cX6_lookAll 44 = .ok (.getfield 27, 3) := by decide +kernel
theorem dX6_lookAll_47 : decode cX6_lookAll 47 = .ok (.iload_n 2, 1) := by decide +kernel
theorem dX6_lookAll_48 : decode cX6_lookAll 48 = .ok (.dup2, 1) := by decide +kernel
theorem dX6_lookAll_49 : decode cX6_lookAll 49 = .ok (.iaload, 1) := by decide +kernel
theorem dX6_lookAll_50 : decode cX6_lookAll 50 = .ok (.iconst 1, 1) := by decide +kernel
theorem dX6_lookAll_51 : decode cX6_lookAll 51 = .ok (.iload_n 1, 1) := by decide +kernel
theorem dX6_lookAll_52 : decode cX6_lookAll 52 = .ok (.ishl, 1) := by decide +kernel
theorem dX6_lookAll_53 : decode cX6_lookAll 53 = .ok (.ior, 1) := by decide +kernel
theorem dX6_lookAll_54 : decode cX6_lookAll 54 = .ok (.iastore, 1) := by decide +kernel
theorem dX6_lookAll_55 : decode cX6_lookAll 55 = .ok (.iinc 1 1, 3) := by decide +kernel
theorem dX6_lookAll_58 : decode cX6_lookAll 58 = .ok (.goto (-33), 3) := by decide +kernel
theorem dX6_lookAll_61 : decode cX6_lookAll 61 = .ok (.return_, 1) := by decide +kernel
theorem dX6_eyesOn_0 : decode cX6_eyesOn 0 = .ok (.aload_n 0, 1) := by decide +kernel
theorem dX6_eyesOn_1 : decode cX6_eyesOn 1 = .ok (.invokevirtual 127, 3) := by decide +kernel
theorem dX6_eyesOn_4 : decode cX6_eyesOn 4 = .ok (.aload_n 0, 1) := by decide +kernel
theorem dX6_eyesOn_5 : decode cX6_eyesOn 5 = .ok (.getfield 27, 3) := by decide +kernel
theorem dX6_eyesOn_8 : decode cX6_eyesOn 8 = .ok (.iload_n 1, 1) := by decide +kernel
theorem dX6_eyesOn_9 : decode cX6_eyesOn 9 = .ok (.iaload, 1) := by decide +kernel
theorem dX6_eyesOn_10 : decode cX6_eyesOn 10 = .ok (.invokestatic 130, 3) := by decide +kernel
theorem dX6_eyesOn_13 : decode cX6_eyesOn 13 = .ok (.ireturn, 1) := by decide +kernel
theorem dX6_live_0 : decode cX6_live 0 = .ok (.iconst 0, 1) := by decide +kernel
theorem dX6_live_1 : decode cX6_live 1 = .ok (.istore_n 2, 1) := by decide +kernel
theorem dX6_live_2 : decode cX6_live 2 = .ok (.iload_n 2, 1) := by decide +kernel
theorem dX6_live_3 : decode cX6_live 3 = .ok (.iload_n 1, 1) := by decide +kernel
theorem dX6_live_4 : decode cX6_live 4 = .ok (.if_icmp .ge 35, 3) := by decide +kernel
theorem dX6_live_7 : decode cX6_live 7 = .ok (.aload_n 0, 1) := by decide +kernel
theorem dX6_live_8 : decode cX6_live 8 = .ok (.invokevirtual 127, 3) := by decide +kernel
theorem dX6_live_11 : decode cX6_live 11 = .ok (.aload_n 0, 1) := by decide +kernel
theorem dX6_live_12 : decode cX6_live 12 = .ok (.invokevirtual 135, 3) := by decide +kernel
theorem dX6_live_15 : decode cX6_live 15 = .ok (.aload_n 0, 1) := by decide +kernel
theorem dX6_live_16 : decode cX6_live 16 = .ok (.invokevirtual 138, 3) := by decide +kernel
theorem dX6_live_19 : decode cX6_live 19 = .ok (.aload_n 0, 1) := by decide +kernel
theorem dX6_live_20 : decode cX6_live 20 = .ok (.invokevirtual 141, 3) := by decide +kernel
theorem dX6_live_23 : decode cX6_live 23 = .ok (.aload_n 0, 1) := by decide +kernel
theorem dX6_live_24 : decode cX6_live 24 = .ok (.dup, 1) := by decide +kernel
theorem dX6_live_25 : decode cX6_live 25 = .ok (.getfield 55, 3) := by decide +kernel
theorem dX6_live_28 : decode cX6_live 28 = .ok (.iconst 1, 1) := by decide +kernel
theorem dX6_live_29 : decode cX6_live 29 = .ok (.iadd, 1) := by decide +kernel
theorem dX6_live_30 : decode cX6_live 30 = .ok (.putfield 55, 3) := by decide +kernel
theorem dX6_live_33 : decode cX6_live 33 = .ok (.iinc 2 1, 3) := by decide +kernel
theorem dX6_live_36 : decode cX6_live 36 = .ok (.goto (-34), 3) := by decide +kernel
theorem dX6_live_39 : decode cX6_live 39 = .ok (.return_, 1) := by decide +kernel
theorem dX6_growAll_0 : decode cX6_growAll 0 = .ok (.iconst 0, 1) := by decide +kernel
theorem dX6_growAll_1 : decode cX6_growAll 1 = .ok (.istore_n 1, 1) := by decide +kernel
theorem dX6_growAll_2 : decode cX6_growAll 2 = .ok (.iload_n 1, 1) := by decide +kernel
theorem dX6_growAll_3 : decode cX6_growAll 3 = .ok (.aload_n 0, 1) := by decide +kernel
theorem dX6_growAll_4 : decode cX6_growAll 4 = .ok (.getfield 39, 3) := by decide +kernel
theorem dX6_growAll_7 : decode cX6_growAll 7 = .ok (.if_icmp .ge 113, 3) := by decide +kernel
theorem dX6_growAll_10 : decode cX6_growAll 10 = .ok (.aload_n 0, 1) := by decide +kernel
theorem dX6_growAll_11 : decode cX6_growAll 11 = .ok (.getfield 27, 3) := by decide +kernel
theorem dX6_growAll_14 : decode cX6_growAll 14 = .ok (.iload_n 1, 1) := by decide +kernel
theorem dX6_growAll_15 : decode cX6_growAll 15 = .ok (.iaload, 1) := by decide +kernel
theorem dX6_growAll_16 : decode cX6_growAll 16 = .ok (.invokestatic 130, 3) := by decide +kernel
theorem dX6_growAll_19 : decode cX6_growAll 19 = .ok (.istore_n 2, 1) := by decide +kernel
theorem dX6_growAll_20 : decode cX6_growAll 20 = .ok (.aload_n 0, 1) := by decide +kernel
theorem dX6_growAll_21 : decode cX6_growAll 21 = .ok (.getfield 18, 3) := by decide +kernel
theorem dX6_growAll_24 : decode cX6_growAll 24 = .ok (.iload_n 1, 1) := by decide +kernel
theorem dX6_growAll_25 : decode cX6_growAll 25 = .ok (.iaload, 1) := by decide +kernel
theorem dX6_growAll_26 : decode cX6_growAll 26 = .ok (.istore_n 3, 1) := by decide +kernel
theorem dX6_growAll_27 : decode cX6_growAll 27 = .ok (.iload_n 3, 1) := by decide +kernel
theorem dX6_growAll_28 : decode cX6_growAll 28 = .ok (.aload_n 0, 1) := by decide +kernel
theorem dX6_growAll_29 : decode cX6_growAll 29 = .ok (.getfield 9, 3) := by decide +kernel
theorem dX6_growAll_32 : decode cX6_growAll 32 = .ok (.iload_n 1, 1) := by decide +kernel
theorem dX6_growAll_33 : decode cX6_growAll 33 = .ok (.iaload, 1) := by decide +kernel
theorem dX6_growAll_34 : decode cX6_growAll 34 = .ok (.iload_n 2, 1) := by decide +kernel
theorem dX6_growAll_35 : decode cX6_growAll 35 = .ok (.invokestatic 144, 3) := by decide +kernel
theorem dX6_growAll_38 : decode cX6_growAll 38 = .ok (.iadd, 1) := by decide +kernel
theorem dX6_growAll_39 : decode cX6_growAll 39 = .ok (.iconst 0, 1) := by decide +kernel
theorem dX6_growAll_40 : decode cX6_growAll 40 = .ok (.sipush 200, 3) := by decide +kernel
theorem dX6_growAll_43 : decode cX6_growAll 43 = .ok (.invokestatic 147, 3) := by decide +kernel
theorem dX6_growAll_46 : decode cX6_growAll 46 = .ok (.istore 4, 2) := by decide +kernel
theorem dX6_growAll_48 : decode cX6_growAll 48 = .ok (.aload_n 0, 1) := by decide +kernel
theorem dX6_growAll_49 : decode cX6_growAll 49 = .ok (.getfield 18, 3) := by decide +kernel
theorem dX6_growAll_52 : decode cX6_growAll 52 = .ok (.iload_n 1, 1) := by decide +kernel
theorem dX6_growAll_53 : decode cX6_growAll 53 = .ok (.iload 4, 2) := by decide +kernel
theorem dX6_growAll_55 : decode cX6_growAll 55 = .ok (.iastore, 1) := by decide +kernel
theorem dX6_growAll_56 : decode cX6_growAll 56 = .ok (.aload_n 0, 1) := by decide +kernel
theorem dX6_growAll_57 : decode cX6_growAll 57 = .ok (.dup, 1) := by decide +kernel
theorem dX6_growAll_58 : decode cX6_growAll 58 = .ok (.getfield 46, 3) := by decide +kernel
theorem dX6_growAll_61 : decode cX6_growAll 61 = .ok (.iload_n 2, 1) := by decide +kernel
theorem dX6_growAll_62 : decode cX6_growAll 62 = .ok (.iadd, 1) := by decide +kernel
theorem dX6_growAll_63 : decode cX6_growAll 63 = .ok (.putfield 46, 3) := by decide +kernel
theorem dX6_growAll_66 : decode cX6_growAll 66 = .ok (.aload_n 0, 1) := by decide +kernel
theorem dX6_growAll_67 : decode cX6_growAll 67 = .ok (.dup, 1) := by decide +kernel
theorem dX6_growAll_68 : decode cX6_growAll 68 = .ok (.getfield 49, 3) := by decide +kernel
theorem dX6_growAll_71 : decode cX6_growAll 71 = .ok (.iload 4, 2) := by decide +kernel
theorem dX6_growAll_73 : decode cX6_growAll 73 = .ok (.ifCond .ne 11, 3) := by decide +kernel
theorem dX6_growAll_76 : decode cX6_growAll 76 = .ok (.iload_n 3, 1) := by decide +kernel
theorem dX6_growAll_77 : decode cX6_growAll 77 = .ok (.ifCond .eq 7, 3) := by decide +kernel
theorem dX6_growAll_80 : decode cX6_growAll 80 = .ok (.iconst 1, 1) := by decide +kernel
theorem dX6_growAll_81 : decode cX6_growAll 81 = .ok (.goto 4, 3) := by decide +kernel
theorem dX6_growAll_84 : decode cX6_growAll 84 = .ok (.iconst 0, 1) := by decide +kernel
theorem dX6_growAll_85 : decode cX6_growAll 85 = .ok (.iadd, 1) := by decide +kernel
theorem dX6_growAll_86 : decode cX6_growAll 86 = .ok (.putfield 49, 3) := by decide +kernel
theorem dX6_growAll_89 : decode cX6_growAll 89 = .ok (.aload_n 0, 1) := by decide +kernel
theorem dX6_growAll_90 : decode cX6_growAll 90 = .ok (.dup, 1) := by decide +kernel
theorem dX6_growAll_91 : decode cX6_growAll 91 = .ok (.getfield 52, 3) := by decide +kernel
theorem dX6_growAll_94 : decode cX6_growAll 94 = .ok (.iload 4, 2) := by decide +kernel
theorem dX6_growAll_96 : decode cX6_growAll 96 = .ok (.aload_n 0, 1) := by decide +kernel
theorem dX6_growAll_97 : decode cX6_growAll 97 = .ok (.getfield 33, 3) := by decide +kernel
theorem dX6_growAll_100 : decode cX6_growAll 100 = .ok (.iconst 0, 1) := by decide +kernel
theorem dX6_growAll_101 : decode cX6_growAll 101 = .ok (.iaload, 1) := by decide +kernel
theorem dX6_growAll_102 : decode cX6_growAll 102 = .ok (.if_icmp .le 7, 3) := by decide +kernel
theorem dX6_growAll_105 : decode cX6_growAll 105 = .ok (.iconst 1, 1) := by decide +kernel
theorem dX6_growAll_106 : decode cX6_growAll 106 = .ok (.goto 4, 3) := by decide +kernel
theorem dX6_growAll_109 : decode cX6_growAll 109 = .ok (.iconst 0, 1) := by decide +kernel
theorem dX6_growAll_110 : decode cX6_growAll 110 = .ok (.iadd, 1) := by decide +kernel
theorem dX6_growAll_111 : decode cX6_growAll 111 = .ok (.putfield 52, 3) := by decide +kernel
theorem dX6_growAll_114 : decode cX6_growAll 114 = .ok (.iinc 1 1, 3) := by decide +kernel
theorem dX6_growAll_117 : decode cX6_growAll 117 = .ok (.goto (-115), 3) := by decide +kernel
theorem dX6_growAll_120 : decode cX6_growAll 120 = .ok (.return_, 1) := by decide +kernel
theorem dX6_wander_0 : decode cX6_wander 0 = .ok (.aload_n 0, 1) := by decide +kernel
theorem dX6_wander_1 : decode cX6_wander 1 = .ok (.invokevirtual 75, 3) := by decide +kernel
theorem dX6_wander_4 : decode cX6_wander 4 = .ok (.bipush 100, 2) := by decide +kernel
theorem dX6_wander_6 : decode cX6_wander 6 = .ok (.irem, 1) := by decide +kernel
theorem dX6_wander_7 : decode cX6_wander 7 = .ok (.istore_n 1, 1) := by decide +kernel
theorem dX6_wander_8 : decode cX6_wander 8 = .ok (.aload_n 0, 1) := by decide +kernel
theorem dX6_wander_9 : decode cX6_wander 9 = .ok (.getfield 39, 3) := by decide +kernel
theorem dX6_wander_12 : decode cX6_wander 12 = .ok (.ifCond .eq 13, 3) := by decide +kernel
theorem dX6_wander_15 : decode cX6_wander 15 = .ok (.iload_n 1, 1) := by decide +kernel
theorem dX6_wander_16 : decode cX6_wander 16 = .ok (.aload_n 0, 1) := by decide +kernel
theorem dX6_wander_17 : decode cX6_wander 17 = .ok (.getfield 33, 3) := by decide +kernel
theorem dX6_wander_20 : decode cX6_wander 20 = .ok (.iconst 1, 1) := by decide +kernel
theorem dX6_wander_21 : decode cX6_wander 21 = .ok (.iaload, 1) := by decide +kernel
theorem dX6_wander_22 : decode cX6_wander 22 = .ok (.if_icmp .lt 4, 3) := by decide +kernel
theorem dX6_wander_25 : decode cX6_wander 25 = .ok (.return_, 1) := by decide +kernel
theorem dX6_wander_26 : decode cX6_wander 26 = .ok (.aload_n 0, 1) := by decide +kernel
theorem dX6_wander_27 : decode cX6_wander 27 = .ok (.invokevirtual 75, 3) := by decide +kernel
theorem dX6_wander_30 : decode cX6_wander 30 = .ok (.aload_n 0, 1) := by decide +kernel
theorem dX6_wander_31 : decode cX6_wander 31 = .ok (.getfield 39, 3) := by decide +kernel
theorem dX6_wander_34 : decode cX6_wander 34 = .ok (.irem, 1) := by decide +kernel
theorem dX6_wander_35 : decode cX6_wander 35 = .ok (.istore_n 2, 1) := by decide +kernel
theorem dX6_wander_36 : decode cX6_wander 36 = .ok (.aload_n 0, 1) := by decide +kernel
theorem dX6_wander_37 : decode cX6_wander 37 = .ok (.invokevirtual 75, 3) := by decide +kernel
theorem dX6_wander_40 : decode cX6_wander 40 = .ok (.bipush 20, 2) := by decide +kernel
theorem dX6_wander_42 : decode cX6_wander 42 = .ok (.irem, 1) := by decide +kernel
theorem dX6_wander_43 : decode cX6_wander 43 = .ok (.istore_n 3, 1) := by decide +kernel
theorem dX6_wander_44 : decode cX6_wander 44 = .ok (.aload_n 0, 1) := by decide +kernel
theorem dX6_wander_45 : decode cX6_wander 45 = .ok (.iload_n 3, 1) := by decide +kernel
theorem dX6_wander_46 : decode cX6_wander 46 = .ok (.invokevirtual 87, 3) := by decide +kernel
theorem dX6_wander_49 : decode cX6_wander 49 = .ok (.ifCond .eq 9, 3) := by decide +kernel
theorem dX6_wander_52 : decode cX6_wander 52 = .ok (.aload_n 0, 1) := by decide +kernel
theorem dX6_wander_53 : decode cX6_wander 53 = .ok (.iload_n 2, 1) := by decide +kernel
theorem dX6_wander_54 : decode cX6_wander 54 = .ok (.iload_n 3, 1) := by decide +kernel
theorem dX6_wander_55 : decode cX6_wander 55 = .ok (.invokevirtual 150, 3) := by decide +kernel
theorem dX6_wander_58 : decode cX6_wander 58 = .ok (.return_, 1) := by decide +kernel
theorem dX6_clamour_0 : decode cX6_clamour 0 = .ok (.aload_n 0, 1) := by decide +kernel
theorem dX6_clamour_1 : decode cX6_clamour 1 = .ok (.invokevirtual 75, 3) := by decide +kernel
theorem dX6_clamour_4 : decode cX6_clamour 4 = .ok (.bipush 100, 2) := by decide +kernel
theorem dX6_clamour_6 : decode cX6_clamour 6 = .ok (.irem, 1) := by decide +kernel
theorem dX6_clamour_7 : decode cX6_clamour 7 = .ok (.istore_n 1, 1) := by decide +kernel
theorem dX6_clamour_8 : decode cX6_clamour 8 = .ok (.aload_n 0, 1) := by decide +kernel
theorem dX6_clamour_9 : decode cX6_clamour 9 = .ok (.getfield 39, 3) := by decide +kernel
theorem dX6_clamour_12 : decode cX6_clamour 12 = .ok (.ifCond .eq 13, 3) := by decide +kernel
theorem dX6_clamour_15 : decode cX6_clamour 15 = .ok (.iload_n 1, 1) := by decide +kernel
theorem dX6_clamour_16 : decode cX6_clamour 16 = .ok (.aload_n 0, 1) := by decide +kernel
theorem dX6_clamour_17 : decode cX6_clamour 17 = .ok (.getfield 33, 3) := by decide +kernel
theorem dX6_clamour_20 : decode cX6_clamour 20 = .ok (.iconst 2, 1) := by decide +kernel
theorem dX6_clamour_21 : decode cX6_clamour 21 = .ok (.iaload, 1) := by decide +kernel
theorem dX6_clamour_22 : decode cX6_clamour 22 = .ok (.if_icmp .lt 4, 3) := by decide +kernel
theorem dX6_clamour_25 : decode cX6_clamour 25 = .ok (.return_, 1) := by decide +kernel
theorem dX6_clamour_26 : decode cX6_clamour 26 = .ok (.aload_n 0, 1) := by decide +kernel
theorem dX6_clamour_27 : decode cX6_clamour 27 = .ok (.invokevirtual 75, 3) := by decide +kernel
theorem dX6_clamour_30 : decode cX6_clamour 30 = .ok (.aload_n 0, 1) := by decide +kernel
theorem dX6_clamour_31 : decode cX6_clamour 31 = .ok (.getfield 39, 3) := by decide +kernel
theorem dX6_clamour_34 : decode cX6_clamour 34 = .ok (.irem, 1) := by decide +kernel
theorem dX6_clamour_35 : decode cX6_clamour 35 = .ok (.istore_n 2, 1) := by decide +kernel
theorem dX6_clamour_36 : decode cX6_clamour 36 = .ok (.aload_n 0, 1) := by decide +kernel
theorem dX6_clamour_37 : decode cX6_clamour 37 = .ok (.getfield 21, 3) := by decide +kernel
theorem dX6_clamour_40 : decode cX6_clamour 40 = .ok (.iload_n 2, 1) := by decide +kernel
theorem dX6_clamour_41 : decode cX6_clamour 41 = .ok (.aload_n 0, 1) := by decide +kernel
theorem dX6_clamour_42 : decode cX6_clamour 42 = .ok (.invokevirtual 75, 3) := by decide +kernel
theorem dX6_clamour_45 : decode cX6_clamour 45 = .ok (.bipush 30, 2) := by decide +kernel
theorem dX6_clamour_47 : decode cX6_clamour 47 = .ok (.irem, 1) := by decide +kernel
theorem dX6_clamour_48 : decode cX6_clamour 48 = .ok (.iastore, 1) := by decide +kernel
theorem dX6_clamour_49 : decode cX6_clamour 49 = .ok (.return_, 1) := by decide +kernel
theorem dJ6_bitCount_0f7a4_0 : decode cJ6_bitCount_0f7a4 0 = .ok (.iload_n 0, 1) := by decide +kernel
theorem dJ6_bitCount_0f7a4_1 : decode cJ6_bitCount_0f7a4 1 = .ok (.iload_n 0, 1) := by decide +kernel
theorem dJ6_bitCount_0f7a4_2 : decode cJ6_bitCount_0f7a4 2 = .ok (.iconst 1, 1) := by decide +kernel
theorem dJ6_bitCount_0f7a4_3 : decode cJ6_bitCount_0f7a4 3 = .ok (.iushr, 1) := by decide +kernel
theorem dJ6_bitCount_0f7a4_4 : decode cJ6_bitCount_0f7a4 4 = .ok (.ldc_w 265, 3) := by decide +kernel
theorem dJ6_bitCount_0f7a4_7 : decode cJ6_bitCount_0f7a4 7 = .ok (.iand, 1) := by decide +kernel
theorem dJ6_bitCount_0f7a4_8 : decode cJ6_bitCount_0f7a4 8 = .ok (.isub, 1) := by decide +kernel
theorem dJ6_bitCount_0f7a4_9 : decode cJ6_bitCount_0f7a4 9 = .ok (.istore_n 0, 1) := by decide +kernel
theorem dJ6_bitCount_0f7a4_10 : decode cJ6_bitCount_0f7a4 10 = .ok (.iload_n 0, 1) := by decide +kernel
theorem dJ6_bitCount_0f7a4_11 : decode cJ6_bitCount_0f7a4 11 = .ok (.ldc_w 266, 3) := by decide +kernel
theorem dJ6_bitCount_0f7a4_14 : decode cJ6_bitCount_0f7a4 14 = .ok (.iand, 1) := by decide +kernel
theorem dJ6_bitCount_0f7a4_15 : decode cJ6_bitCount_0f7a4 15 = .ok (.iload_n 0, 1) := by decide +kernel
theorem dJ6_bitCount_0f7a4_16 : decode cJ6_bitCount_0f7a4 16 = .ok (.iconst 2, 1) := by decide +kernel
theorem dJ6_bitCount_0f7a4_17 : decode cJ6_bitCount_0f7a4 17 = .ok (.iushr, 1) := by decide +kernel
theorem dJ6_bitCount_0f7a4_18 : decode cJ6_bitCount_0f7a4 18 = .ok (.ldc_w 266, 3) := by decide +kernel
theorem dJ6_bitCount_0f7a4_21 : decode cJ6_bitCount_0f7a4 21 = .ok (.iand, 1) := by decide +kernel
theorem dJ6_bitCount_0f7a4_22 : decode cJ6_bitCount_0f7a4 22 = .ok (.iadd, 1) := by decide +kernel
theorem dJ6_bitCount_0f7a4_23 : decode cJ6_bitCount_0f7a4 23 = .ok (.istore_n 0, 1) := by decide +kernel
theorem dJ6_bitCount_0f7a4_24 : decode cJ6_bitCount_0f7a4 24 = .ok (.iload_n 0, 1) := by decide +kernel
theorem dJ6_bitCount_0f7a4_25 : decode cJ6_bitCount_0f7a4 25 = .ok (.iload_n 0, 1) := by decide +kernel
theorem dJ6_bitCount_0f7a4_26 : decode cJ6_bitCount_0f7a4 26 = .ok (.iconst 4, 1) := by decide +kernel
theorem dJ6_bitCount_0f7a4_27 : decode cJ6_bitCount_0f7a4 27 = .ok (.iushr, 1) := by decide +kernel
theorem dJ6_bitCount_0f7a4_28 : decode cJ6_bitCount_0f7a4 28 = .ok (.iadd, 1) := by decide +kernel
theorem dJ6_bitCount_0f7a4_29 : decode cJ6_bitCount_0f7a4 29 = .ok (.ldc_w 267, 3) := by decide +kernel
theorem dJ6_bitCount_0f7a4_32 : decode cJ6_bitCount_0f7a4 32 = .ok (.iand, 1) := by decide +kernel
theorem dJ6_bitCount_0f7a4_33 : decode cJ6_bitCount_0f7a4 33 = .ok (.istore_n 0, 1) := by decide +kernel
theorem dJ6_bitCount_0f7a4_34 : decode cJ6_bitCount_0f7a4 34 = .ok (.iload_n 0, 1) := by decide +kernel
theorem dJ6_bitCount_0f7a4_35 : decode cJ6_bitCount_0f7a4 35 = .ok (.iload_n 0, 1) := by decide +kernel
theorem dJ6_bitCount_0f7a4_36 : decode cJ6_bitCount_0f7a4 36 = .ok (.bipush 8, 2) := by decide +kernel
theorem dJ6_bitCount_0f7a4_38 : decode cJ6_bitCount_0f7a4 38 = .ok (.iushr, 1) := by decide +kernel
theorem dJ6_bitCount_0f7a4_39 : decode cJ6_bitCount_0f7a4 39 = .ok (.iadd, 1) := by decide +kernel
theorem dJ6_bitCount_0f7a4_40 : decode cJ6_bitCount_0f7a4 40 = .ok (.istore_n 0, 1) := by decide +kernel
theorem dJ6_bitCount_0f7a4_41 : decode cJ6_bitCount_0f7a4 41 = .ok (.iload_n 0, 1) := by decide +kernel
theorem dJ6_bitCount_0f7a4_42 : decode cJ6_bitCount_0f7a4 42 = .ok (.iload_n 0, 1) := by decide +kernel
theorem dJ6_bitCount_0f7a4_43 : decode cJ6_bitCount_0f7a4 43 = .ok (.bipush 16, 2) := by decide +kernel
theorem dJ6_bitCount_0f7a4_45 : decode cJ6_bitCount_0f7a4 45 = .ok (.iushr, 1) := by decide +kernel
theorem dJ6_bitCount_0f7a4_46 : decode cJ6_bitCount_0f7a4 46 = .ok (.iadd, 1) := by decide +kernel
theorem dJ6_bitCount_0f7a4_47 : decode cJ6_bitCount_0f7a4 47 = .ok (.istore_n 0, 1) := by decide +kernel
theorem dJ6_bitCount_0f7a4_48 : decode cJ6_bitCount_0f7a4 48 = .ok (.iload_n 0, 1) := by decide +kernel
theorem dJ6_bitCount_0f7a4_49 : decode cJ6_bitCount_0f7a4 49 = .ok (.bipush 63, 2) := by decide +kernel
theorem dJ6_bitCount_0f7a4_51 : decode cJ6_bitCount_0f7a4 51 = .ok (.iand, 1) := by decide +kernel
theorem dJ6_bitCount_0f7a4_52 : decode cJ6_bitCount_0f7a4 52 = .ok (.ireturn, 1) := by decide +kernel
theorem dJ9_abs_0f7a4_0 : decode cJ9_abs_0f7a4 0 = .ok (.iload_n 0, 1) := by decide +kernel
theorem dJ9_abs_0f7a4_1 : decode cJ9_abs_0f7a4 1 = .ok (.ifCond .ge 8, 3) := by decide +kernel
theorem dJ9_abs_0f7a4_4 : decode cJ9_abs_0f7a4 4 = .ok (.iload_n 0, 1) := by decide +kernel
theorem dJ9_abs_0f7a4_5 : decode cJ9_abs_0f7a4 5 = .ok (.ineg, 1) := by decide +kernel
theorem dJ9_abs_0f7a4_6 : decode cJ9_abs_0f7a4 6 = .ok (.goto 4, 3) := by decide +kernel
theorem dJ9_abs_0f7a4_9 : decode cJ9_abs_0f7a4 9 = .ok (.iload_n 0, 1) := by decide +kernel
theorem dJ9_abs_0f7a4_10 : decode cJ9_abs_0f7a4 10 = .ok (.ireturn, 1) := by decide +kernel
theorem dJ9_max_7cf53_0 : decode cJ9_max_7cf53 0 = .ok (.iload_n 0, 1) := by decide +kernel
theorem dJ9_max_7cf53_1 : decode cJ9_max_7cf53 1 = .ok (.iload_n 1, 1) := by decide +kernel
theorem dJ9_max_7cf53_2 : decode cJ9_max_7cf53 2 = .ok (.if_icmp .lt 7, 3) := by decide +kernel
theorem dJ9_max_7cf53_5 : decode cJ9_max_7cf53 5 = .ok (.iload_n 0, 1) := by decide +kernel
theorem dJ9_max_7cf53_6 : decode cJ9_max_7cf53 6 = .ok (.goto 4, 3) := by decide +kernel
theorem dJ9_max_7cf53_9 : decode cJ9_max_7cf53 9 = .ok (.iload_n 1, 1) := by decide +kernel
theorem dJ9_max_7cf53_10 : decode cJ9_max_7cf53 10 = .ok (.ireturn, 1) := by decide +kernel
theorem dJ9_min_7cf53_0 : decode cJ9_min_7cf53 0 = .ok (.iload_n 0, 1) := by decide +kernel
theorem dJ9_min_7cf53_1 : decode cJ9_min_7cf53 1 = .ok (.iload_n 1, 1) := by decide +kernel
theorem dJ9_min_7cf53_2 : decode cJ9_min_7cf53 2 = .ok (.if_icmp .gt 7, 3) := by decide +kernel
theorem dJ9_min_7cf53_5 : decode cJ9_min_7cf53 5 = .ok (.iload_n 0, 1) := by decide +kernel
theorem dJ9_min_7cf53_6 : decode cJ9_min_7cf53 6 = .ok (.goto 4, 3) := by decide +kernel
theorem dJ9_min_7cf53_9 : decode cJ9_min_7cf53 9 = .ok (.iload_n 1, 1) := by decide +kernel
theorem dJ9_min_7cf53_10 : decode cJ9_min_7cf53 10 = .ok (.ireturn, 1) := by decide +kernel
theorem dJ0_length_8abf5_0 : decode cJ0_length_8abf5 0 = .ok (.aload_n 0, 1) := by decide +kernel
theorem dJ0_length_8abf5_1 : decode cJ0_length_8abf5 1 = .ok (.getfield 9, 3) := by decide +kernel
theorem dJ0_length_8abf5_4 : decode cJ0_length_8abf5 4 = .ok (.arraylength, 1) := by decide +kernel
theorem dJ0_length_8abf5_5 : decode cJ0_length_8abf5 5 = .ok (.aload_n 0, 1) := by decide +kernel
theorem dJ0_length_8abf5_6 : decode cJ0_length_8abf5 6 = .ok (.invokevirtual 335, 3) := by decide +kernel
theorem dJ0_length_8abf5_9 : decode cJ0_length_8abf5 9 = .ok (.ishr, 1) := by decide +kernel
theorem dJ0_length_8abf5_10 : decode cJ0_length_8abf5 10 = .ok (.ireturn, 1) := by decide +kernel
theorem dJ0_charAt_5068e_0 : decode cJ0_charAt_5068e 0 = .ok (.aload_n 0, 1) := by decide +kernel
theorem dJ0_charAt_5068e_1 : decode cJ0_charAt_5068e 1 = .ok (.invokevirtual 492, 3) := by decide +kernel
theorem dJ0_charAt_5068e_4 : decode cJ0_charAt_5068e 4 = .ok (.ifCond .eq 12, 3) := by decide +kernel
theorem dJ0_charAt_5068e_7 : decode cJ0_charAt_5068e 7 = .ok (.aload_n 0, 1) := by decide +kernel
theorem dJ0_charAt_5068e_8 : decode cJ0_charAt_5068e 8 = .ok (.getfield 9, 3) := by decide +kernel
theorem dJ0_charAt_5068e_11 : decode cJ0_charAt_5068e 11 = .ok (.iload_n 1, 1) := by decide +kernel
theorem dJ0_charAt_5068e_12 : decode cJ0_charAt_5068e 12 = .ok (.invokestatic 495, 3) := by decide +kernel
theorem dJ0_charAt_5068e_15 : decode cJ0_charAt_5068e 15 = .ok (.ireturn, 1) := by decide +kernel
theorem dJ0_charAt_5068e_16 : decode cJ0_charAt_5068e 16 = .ok (.aload_n 0, 1) := by decide +kernel
theorem dJ0_charAt_5068e_17 : decode cJ0_charAt_5068e 17 = .ok (.getfield 9, 3) := by decide +kernel
theorem dJ0_charAt_5068e_20 : decode cJ0_charAt_5068e 20 = .ok (.iload_n 1, 1) := by decide +kernel
theorem dJ0_charAt_5068e_21 : decode cJ0_charAt_5068e 21 = .ok (.invokestatic 498, 3) := by decide +kernel
theorem dJ0_charAt_5068e_24 : decode cJ0_charAt_5068e 24 = .ok (.ireturn, 1) := by decide +kernel
theorem dJ0_indexOf_0f7a4_0 : decode cJ0_indexOf_0f7a4 0 = .ok (.aload_n 0, 1) := by decide +kernel
theorem dJ0_indexOf_0f7a4_1 : decode cJ0_indexOf_0f7a4 1 = .ok (.iload_n 1, 1) := by decide +kernel
theorem dJ0_indexOf_0f7a4_2 : decode cJ0_indexOf_0f7a4 2 = .ok (.iconst 0, 1) := by decide +kernel
theorem dJ0_indexOf_0f7a4_3 : decode cJ0_indexOf_0f7a4 3 = .ok (.invokevirtual 633, 3) := by decide +kernel
theorem dJ0_indexOf_0f7a4_6 : decode cJ0_indexOf_0f7a4 6 = .ok (.ireturn, 1) := by decide +kernel
theorem dJ0_indexOf_7cf53_0 : decode cJ0_indexOf_7cf53 0 = .ok (.aload_n 0, 1) := by decide +kernel
theorem dJ0_indexOf_7cf53_1 : decode cJ0_indexOf_7cf53 1 = .ok (.invokevirtual 492, 3) := by decide +kernel
theorem dJ0_indexOf_7cf53_4 : decode cJ0_indexOf_7cf53 4 = .ok (.ifCond .eq 19, 3) := by decide +kernel
theorem dJ0_indexOf_7cf53_7 : decode cJ0_indexOf_7cf53 7 = .ok (.aload_n 0, 1) := by decide +kernel
theorem dJ0_indexOf_7cf53_8 : decode cJ0_indexOf_7cf53 8 = .ok (.getfield 9, 3) := by decide +kernel
theorem dJ0_indexOf_7cf53_11 : decode cJ0_indexOf_7cf53 11 = .ok (.iload_n 1, 1) := by decide +kernel
theorem dJ0_indexOf_7cf53_12 : decode cJ0_indexOf_7cf53 12 = .ok (.iload_n 2, 1) := by decide +kernel
theorem dJ0_indexOf_7cf53_13 : decode cJ0_indexOf_7cf53 13 = .ok (.aload_n 0, 1) := by decide +kernel
theorem dJ0_indexOf_7cf53_14 : decode cJ0_indexOf_7cf53 14 = .ok (.invokevirtual 505, 3) := by decide +kernel
theorem dJ0_indexOf_7cf53_17 : decode cJ0_indexOf_7cf53 17 = .ok (.invokestatic 637, 3) := by decide +kernel
theorem dJ0_indexOf_7cf53_20 : decode cJ0_indexOf_7cf53 20 = .ok (.goto 16, 3) := by decide +kernel
theorem dJ0_indexOf_7cf53_23 : decode cJ0_indexOf_7cf53 23 = .ok (.aload_n 0, 1) := by decide +kernel
theorem dJ0_indexOf_7cf53_24 : decode cJ0_indexOf_7cf53 24 = .ok (.getfield 9, 3) := by decide +kernel
theorem dJ0_indexOf_7cf53_27 : decode cJ0_indexOf_7cf53 27 = .ok (.iload_n 1, 1) := by decide +kernel
theorem dJ0_indexOf_7cf53_28 : decode cJ0_indexOf_7cf53 28 = .ok (.iload_n 2, 1) := by decide +kernel
theorem dJ0_indexOf_7cf53_29 : decode cJ0_indexOf_7cf53 29 = .ok (.aload_n 0, 1) := by decide +kernel
theorem dJ0_indexOf_7cf53_30 : decode cJ0_indexOf_7cf53 30 = .ok (.invokevirtual 505, 3) := by decide +kernel
theorem dJ0_indexOf_7cf53_33 : decode cJ0_indexOf_7cf53 33 = .ok (.invokestatic 640, 3) := by decide +kernel
theorem dJ0_indexOf_7cf53_36 : decode cJ0_indexOf_7cf53 36 = .ok (.ireturn, 1) := by decide +kernel
theorem dJ0_coder_7d493_0 : decode cJ0_coder_7d493 0 = .ok (.getstatic 38, 3) := by decide +kernel
theorem dJ0_coder_7d493_3 : decode cJ0_coder_7d493 3 = .ok (.ifCond .eq 10, 3) := by decide +kernel
theorem dJ0_coder_7d493_6 : decode cJ0_coder_7d493 6 = .ok (.aload_n 0, 1) := by decide +kernel
theorem dJ0_coder_7d493_7 : decode cJ0_coder_7d493 7 = .ok (.getfield 15, 3) := by decide +kernel
theorem dJ0_coder_7d493_10 : decode cJ0_coder_7d493 10 = .ok (.goto 4, 3) := by decide +kernel
theorem dJ0_coder_7d493_13 : decode cJ0_coder_7d493 13 = .ok (.iconst 1, 1) := by decide +kernel
theorem dJ0_coder_7d493_14 : decode cJ0_coder_7d493 14 = .ok (.ireturn, 1) := by decide +kernel
theorem dJ0_isLatin1_aae02_0 : decode cJ0_isLatin1_aae02 0 = .ok (.getstatic 38, 3) := by decide +kernel
theorem dJ0_isLatin1_aae02_3 : decode cJ0_isLatin1_aae02 3 = .ok (.ifCond .eq 14, 3) := by decide +kernel
theorem dJ0_isLatin1_aae02_6 : decode cJ0_isLatin1_aae02 6 = .ok (.aload_n 0, 1) := by decide +kernel
theorem dJ0_isLatin1_aae02_7 : decode cJ0_isLatin1_aae02 7 = .ok (.getfield 15, 3) := by decide +kernel
theorem dJ0_isLatin1_aae02_10 : decode cJ0_isLatin1_aae02 10 = .ok (.ifCond .ne 7, 3) := by decide +kernel
theorem dJ0_isLatin1_aae02_13 : decode cJ0_isLatin1_aae02 13 = .ok (.iconst 1, 1) := by decide +kernel
theorem dJ0_isLatin1_aae02_14 : decode cJ0_isLatin1_aae02 14 = .ok (.goto 4, 3) := by decide +kernel
theorem dJ0_isLatin1_aae02_17 : decode cJ0_isLatin1_aae02 17 = .ok (.iconst 0, 1) := by decide +kernel
theorem dJ0_isLatin1_aae02_18 : decode cJ0_isLatin1_aae02 18 = .ok (.ireturn, 1) := by decide +kernel
theorem dJ0_checkIndex_df160_0 : decode cJ0_checkIndex_df160 0 = .ok (.iload_n 0, 1) := by decide +kernel
theorem dJ0_checkIndex_df160_1 : decode cJ0_checkIndex_df160 1 = .ok (.iload_n 1, 1) := by decide +kernel
theorem dJ0_checkIndex_df160_2 : decode cJ0_checkIndex_df160 2 = .ok (.getstatic 1053, 3) := by decide +kernel
theorem dJ0_checkIndex_df160_5 : decode cJ0_checkIndex_df160 5 = .ok (.invokestatic 1059, 3) := by decide +kernel
theorem dJ0_checkIndex_df160_8 : decode cJ0_checkIndex_df160 8 = .ok (.pop, 1) := by decide +kernel
theorem dJ0_checkIndex_df160_9 : decode cJ0_checkIndex_df160 9 = .ok (.return_, 1) := by decide +kernel
theorem dJ1_charAt_3b067_0 : decode cJ1_charAt_3b067 0 = .ok (.iload_n 1, 1) := by decide +kernel
theorem dJ1_charAt_3b067_1 : decode cJ1_charAt_3b067 1 = .ok (.aload_n 0, 1) := by decide +kernel
theorem dJ1_charAt_3b067_2 : decode cJ1_charAt_3b067 2 = .ok (.arraylength, 1) := by decide +kernel
theorem dJ1_charAt_3b067_3 : decode cJ1_charAt_3b067 3 = .ok (.invokestatic 9, 3) := by decide +kernel
theorem dJ1_charAt_3b067_6 : decode cJ1_charAt_3b067 6 = .ok (.aload_n 0, 1) := by decide +kernel
theorem dJ1_charAt_3b067_7 : decode cJ1_charAt_3b067 7 = .ok (.iload_n 1, 1) := by decide +kernel
theorem dJ1_charAt_3b067_8 : decode cJ1_charAt_3b067 8 = .ok (.baload, 1) := by decide +kernel
theorem dJ1_charAt_3b067_9 : decode cJ1_charAt_3b067 9 = .ok (.sipush 255, 3) := by decide +kernel
theorem dJ1_charAt_3b067_12 : decode cJ1_charAt_3b067 12 = .ok (.iand, 1) := by decide +kernel
theorem dJ1_charAt_3b067_13 : decode cJ1_charAt_3b067 13 = .ok (.i2c, 1) := by decide +kernel
theorem dJ1_charAt_3b067_14 : decode cJ1_charAt_3b067 14 = .ok (.ireturn, 1) := by decide +kernel
theorem dJ1_canEncode_9a6ad_0 : decode cJ1_canEncode_9a6ad 0 = .ok (.iload_n 0, 1) := by decide +kernel
theorem dJ1_canEncode_9a6ad_1 : decode cJ1_canEncode_9a6ad 1 = .ok (.ifCond .lt 14, 3) := by decide +kernel
theorem dJ1_canEncode_9a6ad_4 : decode cJ1_canEncode_9a6ad 4 = .ok (.iload_n 0, 1) := by decide +kernel
theorem dJ1_canEncode_9a6ad_5 : decode cJ1_canEncode_9a6ad 5 = .ok (.sipush 255, 3) := by decide +kernel
theorem dJ1_canEncode_9a6ad_8 : decode cJ1_canEncode_9a6ad 8 = .ok (.if_icmp .gt 7, 3) := by decide +kernel
theorem dJ1_canEncode_9a6ad_11 : decode cJ1_canEncode_9a6ad 11 = .ok (.iconst 1, 1) := by decide +kernel
theorem dJ1_canEncode_9a6ad_12 : decode cJ1_canEncode_9a6ad 12 = .ok (.goto 4, 3) := by decide +kernel
theorem dJ1_canEncode_9a6ad_15 : decode cJ1_canEncode_9a6ad 15 = .ok (.iconst 0, 1) := by decide +kernel
theorem dJ1_canEncode_9a6ad_16 : decode cJ1_canEncode_9a6ad 16 = .ok (.ireturn, 1) := by decide +kernel
theorem dJ1_indexOf_4cfef_0 : decode cJ1_indexOf_4cfef 0 = .ok (.iload_n 1, 1) := by decide +kernel
theorem dJ1_indexOf_4cfef_1 : decode cJ1_indexOf_4cfef 1 = .ok (.invokestatic 88, 3) := by decide +kernel
theorem dJ1_indexOf_4cfef_4 : decode cJ1_indexOf_4cfef 4 = .ok (.ifCond .ne 5, 3) := by decide +kernel
theorem dJ1_indexOf_4cfef_7 : decode cJ1_indexOf_4cfef 7 = .ok (.iconst (-1), 1) := by decide +kernel
theorem dJ1_indexOf_4cfef_8 : decode cJ1_indexOf_4cfef 8 = .ok (.ireturn, 1) := by decide +kernel
theorem dJ1_indexOf_4cfef_9 : decode cJ1_indexOf_4cfef 9 = .ok (.iload_n 2, 1) := by decide +kernel
theorem dJ1_indexOf_4cfef_10 : decode cJ1_indexOf_4cfef 10 = .ok (.iconst 0, 1) := by decide +kernel
theorem dJ1_indexOf_4cfef_11 : decode cJ1_indexOf_4cfef 11 = .ok (.invokestatic 92, 3) := by decide +kernel
theorem dJ1_indexOf_4cfef_14 : decode cJ1_indexOf_4cfef 14 = .ok (.istore_n 2, 1) := by decide +kernel
theorem dJ1_indexOf_4cfef_15 : decode cJ1_indexOf_4cfef 15 = .ok (.iload_n 3, 1) := by decide +kernel
theorem dJ1_indexOf_4cfef_16 : decode cJ1_indexOf_4cfef 16 = .ok (.aload_n 0, 1) := by decide +kernel
theorem dJ1_indexOf_4cfef_17 : decode cJ1_indexOf_4cfef 17 = .ok (.arraylength, 1) := by decide +kernel
theorem dJ1_indexOf_4cfef_18 : decode cJ1_indexOf_4cfef 18 = .ok (.invokestatic 38, 3) := by decide +kernel
theorem dJ1_indexOf_4cfef_21 : decode cJ1_indexOf_4cfef 21 = .ok (.istore_n 3, 1) := by decide +kernel
theorem dJ1_indexOf_4cfef_22 : decode cJ1_indexOf_4cfef 22 = .ok (.iload_n 2, 1) := by decide +kernel
theorem dJ1_indexOf_4cfef_23 : decode cJ1_indexOf_4cfef 23 = .ok (.iload_n 3, 1) := by decide +kernel
theorem dJ1_indexOf_4cfef_24 : decode cJ1_indexOf_4cfef 24 = .ok (.if_icmp .lt 5, 3) := by decide +kernel
theorem dJ1_indexOf_4cfef_27 : decode cJ1_indexOf_4cfef 27 = .ok (.iconst (-1), 1) := by decide +kernel
theorem dJ1_indexOf_4cfef_28 : decode cJ1_indexOf_4cfef 28 = .ok (.ireturn, 1) := by decide +kernel
theorem dJ1_indexOf_4cfef_29 : decode cJ1_indexOf_4cfef 29 = .ok (.aload_n 0, 1) := by decide +kernel
theorem dJ1_indexOf_4cfef_30 : decode cJ1_indexOf_4cfef 30 = .ok (.iload_n 1, 1) := by decide +kernel
theorem dJ1_indexOf_4cfef_31 : decode cJ1_indexOf_4cfef 31 = .ok (.iload_n 2, 1) := by decide +kernel
theorem dJ1_indexOf_4cfef_32 : decode cJ1_indexOf_4cfef 32 = .ok (.iload_n 3, 1) := by decide +kernel
theorem dJ1_indexOf_4cfef_33 : decode cJ1_indexOf_4cfef 33 = .ok (.invokestatic 95, 3) := by decide +kernel
theorem dJ1_indexOf_4cfef_36 : decode cJ1_indexOf_4cfef 36 = .ok (.ireturn, 1) := by decide +kernel
theorem dJ1_indexOfChar_4cfef_0 : decode cJ1_indexOfChar_4cfef 0 = .ok (.iload_n 1, 1) := by decide +kernel
theorem dJ1_indexOfChar_4cfef_1 : decode cJ1_indexOfChar_4cfef 1 = .ok (.i2b, 1) := by decide +kernel
theorem dJ1_indexOfChar_4cfef_2 : decode cJ1_indexOfChar_4cfef 2 = .ok (.istore 4, 2) := by decide +kernel
theorem dJ1_indexOfChar_4cfef_4 : decode cJ1_indexOfChar_4cfef 4 = .ok (.iload_n 2, 1) := by decide +kernel
theorem dJ1_indexOfChar_4cfef_5 : decode cJ1_indexOfChar_4cfef 5 = .ok (.istore 5, 2) := by decide +kernel
theorem dJ1_indexOfChar_4cfef_7 : decode cJ1_indexOfChar_4cfef 7 = .ok (.iload 5, 2) := by decide +kernel
theorem dJ1_indexOfChar_4cfef_9 : decode cJ1_indexOfChar_4cfef 9 = .ok (.iload_n 3, 1) := by decide +kernel
theorem dJ1_indexOfChar_4cfef_10 : decode cJ1_indexOfChar_4cfef 10 = .ok (.if_icmp .ge 21, 3) := by decide +kernel
theorem dJ1_indexOfChar_4cfef_13 : decode cJ1_indexOfChar_4cfef 13 = .ok (.aload_n 0, 1) := by decide +kernel
theorem dJ1_indexOfChar_4cfef_14 : decode cJ1_indexOfChar_4cfef 14 = .ok (.iload 5, 2) := by decide +kernel
theorem dJ1_indexOfChar_4cfef_16 : decode cJ1_indexOfChar_4cfef 16 = .ok (.baload, 1) := by decide +kernel
theorem dJ1_indexOfChar_4cfef_17 : decode cJ1_indexOfChar_4cfef 17 = .ok (.iload 4, 2) := by decide +kernel
theorem dJ1_indexOfChar_4cfef_19 : decode cJ1_indexOfChar_4cfef 19 = .ok (.if_icmp .ne 6, 3) := by decide +kernel
theorem dJ1_indexOfChar_4cfef_22 : decode cJ1_indexOfChar_4cfef 22 = .ok (.iload 5, 2) := by decide +kernel
theorem dJ1_indexOfChar_4cfef_24 : decode cJ1_indexOfChar_4cfef 24 = .ok (.ireturn, 1) := by decide +kernel
theorem dJ1_indexOfChar_4cfef_25 : decode cJ1_indexOfChar_4cfef 25 = .ok (.iinc 5 1, 3) := by decide +kernel
theorem dJ1_indexOfChar_4cfef_28 : decode cJ1_indexOfChar_4cfef 28 = .ok (.goto (-21), 3) := by decide +kernel
theorem dJ1_indexOfChar_4cfef_31 : decode cJ1_indexOfChar_4cfef 31 = .ok (.iconst (-1), 1) := by decide +kernel
theorem dJ1_indexOfChar_4cfef_32 : decode cJ1_indexOfChar_4cfef 32 = .ok (.ireturn, 1) := by decide +kernel
theorem dJ3_checkIndex_8e157_0 : decode cJ3_checkIndex_8e157 0 = .ok (.iload_n 0, 1) := by decide +kernel
theorem dJ3_checkIndex_8e157_1 : decode cJ3_checkIndex_8e157 1 = .ok (.ifCond .lt 8, 3) := by decide +kernel
theorem dJ3_checkIndex_8e157_4 : decode cJ3_checkIndex_8e157 4 = .ok (.iload_n 0, 1) := by decide +kernel
theorem dJ3_checkIndex_8e157_5 : decode cJ3_checkIndex_8e157 5 = .ok (.iload_n 1, 1) := by decide +kernel
theorem dJ3_checkIndex_8e157_6 : decode cJ3_checkIndex_8e157 6 = .ok (.if_icmp .lt 10, 3) := by decide +kernel
theorem dJ3_checkIndex_8e157_9 : decode cJ3_checkIndex_8e157 9 = .ok (.aload_n 2, 1) := by decide +kernel
theorem dJ3_checkIndex_8e157_10 : decode cJ3_checkIndex_8e157 10 = .ok (.iload_n 0, 1) := by decide +kernel
theorem dJ3_checkIndex_8e157_11 : decode cJ3_checkIndex_8e157 11 = .ok (.iload_n 1, 1) := by decide +kernel
theorem dJ3_checkIndex_8e157_12 : decode cJ3_checkIndex_8e157 12 = .ok (.invokestatic 95, 3) := by decide +kernel
theorem dJ3_checkIndex_8e157_15 : decode cJ3_checkIndex_8e157 15 = .ok (.athrow, 1) := by decide +kernel
theorem dJ3_checkIndex_8e157_16 : decode cJ3_checkIndex_8e157 16 = .ok (.iload_n 0, 1) := by decide +kernel
theorem dJ3_checkIndex_8e157_17 : decode cJ3_checkIndex_8e157 17 = .ok (.ireturn, 1) := by decide +kernel
