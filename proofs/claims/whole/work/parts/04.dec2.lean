/-! instructions, decoded: out of the printed names -/
theorem dX7_init_0 : decode cX7_init 0 = .ok (.aload_n 0, 1) := by decide +kernel
theorem dX7_init_1 : decode cX7_init 1 = .ok (.invokespecial 1, 3) := by decide +kernel
theorem dX7_init_4 : decode cX7_init 4 = .ok (.aload_n 0, 1) := by decide +kernel
theorem dX7_init_5 : decode cX7_init 5 = .ok (.new 7, 3) := by decide +kernel
theorem dX7_init_8 : decode cX7_init 8 = .ok (.dup, 1) := by decide +kernel
theorem dX7_init_9 : decode cX7_init 9 = .ok (.invokespecial 9, 3) := by decide +kernel
theorem dX7_init_12 : decode cX7_init 12 = .ok (.putfield 10, 3) := by decide +kernel
theorem dX7_init_15 : decode cX7_init 15 = .ok (.aload_n 0, 1) := by decide +kernel
theorem dX7_init_16 : decode cX7_init 16 = .ok (.new 16, 3) := by decide +kernel
theorem dX7_init_19 : decode cX7_init 19 = .ok (.dup, 1) := by decide +kernel
theorem dX7_init_20 : decode cX7_init 20 = .ok (.invokespecial 18, 3) := by decide +kernel
theorem dX7_init_23 : decode cX7_init 23 = .ok (.putfield 19, 3) := by decide +kernel
theorem dX7_init_26 : decode cX7_init 26 = .ok (.aload_n 0, 1) := by decide +kernel
theorem dX7_init_27 : decode cX7_init 27 = .ok (.new 23, 3) := by decide +kernel
theorem dX7_init_30 : decode cX7_init 30 = .ok (.dup, 1) := by decide +kernel
theorem dX7_init_31 : decode cX7_init 31 = .ok (.aload_n 0, 1) := by decide +kernel
theorem dX7_init_32 : decode cX7_init 32 = .ok (.getfield 10, 3) := by decide +kernel
theorem dX7_init_35 : decode cX7_init 35 = .ok (.invokespecial 25, 3) := by decide +kernel
theorem dX7_init_38 : decode cX7_init 38 = .ok (.putfield 28, 3) := by decide +kernel
theorem dX7_init_41 : decode cX7_init 41 = .ok (.aload_n 0, 1) := by decide +kernel
theorem dX7_init_42 : decode cX7_init 42 = .ok (.new 23, 3) := by decide +kernel
theorem dX7_init_45 : decode cX7_init 45 = .ok (.dup, 1) := by decide +kernel
theorem dX7_init_46 : decode cX7_init 46 = .ok (.aload_n 0, 1) := by decide +kernel
theorem dX7_init_47 : decode cX7_init 47 = .ok (.getfield 10, 3) := by decide +kernel
theorem dX7_init_50 : decode cX7_init 50 = .ok (.invokespecial 25, 3) := by decide +kernel
theorem dX7_init_53 : decode cX7_init 53 = .ok (.putfield 32, 3) := by decide +kernel
theorem dX7_init_56 : decode cX7_init 56 = .ok (.aload_n 0, 1) := by decide +kernel
theorem dX7_init_57 : decode cX7_init 57 = .ok (.new 23, 3) := by decide +kernel
theorem dX7_init_60 : decode cX7_init 60 = .ok (.dup, 1) := by decide +kernel
theorem dX7_init_61 : decode cX7_init 61 = .ok (.aload_n 0, 1) := by decide +kernel
theorem dX7_init_62 : decode cX7_init 62 = .ok (.getfield 10, 3) := by decide +kernel
theorem dX7_init_65 : decode cX7_init 65 = .ok (.invokespecial 25, 3) := by decide +kernel
theorem dX7_init_68 : decode cX7_init 68 = .ok (.putfield 35, 3) := by decide +kernel
theorem dX7_init_71 : decode cX7_init 71 = .ok (.aload_n 0, 1) := by decide +kernel
theorem dX7_init_72 : decode cX7_init 72 = .ok (.iconst 4, 1) := by decide +kernel
theorem dX7_init_73 : decode cX7_init 73 = .ok (.anewarray 38, 3) := by decide +kernel
theorem dX7_init_76 : decode cX7_init 76 = .ok (.putfield 40, 3) := by decide +kernel
theorem dX7_init_79 : decode cX7_init 79 = .ok (.aload_n 0, 1) := by decide +kernel
theorem dX7_init_80 : decode cX7_init 80 = .ok (.iconst 5, 1) := by decide +kernel
theorem dX7_init_81 : decode cX7_init 81 = .ok (.anewarray 44, 3) := by decide +kernel
theorem dX7_init_84 : decode cX7_init 84 = .ok (.putfield 46, 3) := by decide +kernel
theorem dX7_init_87 : decode cX7_init 87 = .ok (.aload_n 0, 1) := by decide +kernel
theorem dX7_init_88 : decode cX7_init 88 = .ok (.bipush 60, 2) := by decide +kernel
theorem dX7_init_90 : decode cX7_init 90 = .ok (.newarray .int, 2) := by decide +kernel
theorem dX7_init_92 : decode cX7_init 92 = .ok (.putfield 50, 3) := by decide +kernel
theorem dX7_init_95 : decode cX7_init 95 = .ok (.aload_n 0, 1) := by decide +kernel
theorem dX7_init_96 : decode cX7_init 96 = .ok (.bipush 8, 2) := by decide +kernel
theorem dX7_init_98 : decode cX7_init 98 = .ok (.newarray .int, 2) := by decide +kernel
theorem dX7_init_100 : decode cX7_init 100 = .ok (.putfield 54, 3) := by decide +kernel
theorem dX7_init_103 : decode cX7_init 103 = .ok (.aload_n 0, 1) := by decide +kernel
theorem dX7_init_104 : decode cX7_init 104 = .ok (.iconst 0, 1) := by decide +kernel
theorem dX7_init_105 : decode cX7_init 105 = .ok (.putfield 57, 3) := by decide +kernel
theorem dX7_init_108 : decode cX7_init 108 = .ok (.aload_n 0, 1) := by decide +kernel
theorem dX7_init_109 : decode cX7_init 109 = .ok (.iconst 0, 1) := by decide +kernel
theorem dX7_init_110 : decode cX7_init 110 = .ok (.putfield 61, 3) := by decide +kernel
theorem dX7_init_113 : decode cX7_init 113 = .ok (.iconst 0, 1) := by decide +kernel
theorem dX7_init_114 : decode cX7_init 114 = .ok (.istore_n 1, 1) := by decide +kernel
theorem dX7_init_115 : decode cX7_init 115 = .ok (.iload_n 1, 1) := by decide +kernel
theorem dX7_init_116 : decode cX7_init 116 = .ok (.iconst 4, 1) := by decide +kernel
theorem dX7_init_117 : decode cX7_init 117 = .ok (.if_icmp .ge 22, 3) := by decide +kernel
theorem dX7_init_120 : decode cX7_init 120 = .ok (.aload_n 0, 1) := by decide +kernel
theorem dX7_init_121 : decode cX7_init 121 = .ok (.getfield 40, 3) := by decide +kernel
theorem dX7_init_124 : decode cX7_init 124 = .ok (.iload_n 1, 1) := by decide +kernel
theorem dX7_init_125 : decode cX7_init 125 = .ok (.new 38, 3) := by decide +kernel
theorem dX7_init_128 : decode cX7_init 128 = .ok (.dup, 1) := by decide +kernel
theorem dX7_init_129 : decode cX7_init 129 = .ok (.invokespecial 65, 3) := by decide +kernel
theorem dX7_init_132 : decode cX7_init 132 = .ok (.aastore, 1) := by decide +kernel
theorem dX7_init_133 : decode cX7_init 133 = .ok (.iinc 1 1, 3) := by decide +kernel
theorem dX7_init_136 : decode cX7_init 136 = .ok (.goto (-21), 3) := by decide +kernel
theorem dX7_init_139 : decode cX7_init 139 = .ok (.iconst 0, 1) := by decide +kernel
theorem dX7_init_140 : decode cX7_init 140 = .ok (.istore_n 1, 1) := by decide +kernel
theorem dX7_init_141 : decode cX7_init 141 = .ok (.iload_n 1, 1) := by decide +kernel
theorem dX7_init_142 : decode cX7_init 142 = .ok (.iconst 5, 1) := by decide +kernel
theorem dX7_init_143 : decode cX7_init 143 = .ok (.if_icmp .ge 22, 3) := by decide +kernel
theorem dX7_init_146 : decode cX7_init 146 = .ok (.aload_n 0, 1) := by decide +kernel
theorem dX7_init_147 : decode cX7_init 147 = .ok (.getfield 46, 3) := by decide +kernel
theorem dX7_init_150 : decode cX7_init 150 = .ok (.iload_n 1, 1) := by decide +kernel
theorem dX7_init_151 : decode cX7_init 151 = .ok (.new 44, 3) := by decide +kernel
theorem dX7_init_154 : decode cX7_init 154 = .ok (.dup, 1) := by decide +kernel
theorem dX7_init_155 : decode cX7_init 155 = .ok (.invokespecial 66, 3) := by decide +kernel
theorem dX7_init_158 : decode cX7_init 158 = .ok (.aastore, 1) := by decide +kernel
theorem dX7_init_159 : decode cX7_init 159 = .ok (.iinc 1 1, 3) := by decide +kernel
theorem dX7_init_162 : decode cX7_init 162 = .ok (.goto (-21), 3) := by decide +kernel
theorem dX7_init_165 : decode cX7_init 165 = .ok (.return_, 1) := by decide +kernel
theorem dX7_one_0 : decode cX7_one 0 = .ok (.iload_n 1, 1) := by decide +kernel
theorem dX7_one_1 : decode cX7_one 1 = .ok (.iconst 0, 1) := by decide +kernel
theorem dX7_one_2 : decode cX7_one 2 = .ok (.iconst 5, 1) := by decide +kernel
theorem dX7_one_3 : decode cX7_one 3 = .ok (.invokestatic 67, 3) := by decide +kernel
theorem dX7_one_6 : decode cX7_one 6 = .ok (.ifCond .eq 17, 3) := by decide +kernel
theorem dX7_one_9 : decode cX7_one 9 = .ok (.iload_n 2, 1) := by decide +kernel
theorem dX7_one_10 : decode cX7_one 10 = .ok (.iconst 0, 1) := by decide +kernel
theorem dX7_one_11 : decode cX7_one 11 = .ok (.bipush 19, 2) := by decide +kernel
theorem dX7_one_13 : decode cX7_one 13 = .ok (.invokestatic 67, 3) := by decide +kernel
theorem dX7_one_16 : decode cX7_one 16 = .ok (.ifCond .eq 7, 3) := by decide +kernel
theorem dX7_one_19 : decode cX7_one 19 = .ok (.iconst 1, 1) := by decide +kernel
theorem dX7_one_20 : decode cX7_one 20 = .ok (.goto 4, 3) := by decide +kernel
theorem dX7_one_23 : decode cX7_one 23 = .ok (.iconst 0, 1) := by decide +kernel
theorem dX7_one_24 : decode cX7_one 24 = .ok (.istore 6, 2) := by decide +kernel
theorem dX7_one_26 : decode cX7_one 26 = .ok (.iload 6, 2) := by decide +kernel
theorem dX7_one_28 : decode cX7_one 28 = .ok (.ifCond .eq 29, 3) := by decide +kernel
theorem dX7_one_31 : decode cX7_one 31 = .ok (.iconst 2, 1) := by decide +kernel
theorem dX7_one_32 : decode cX7_one 32 = .ok (.iload_n 3, 1) := by decide +kernel
theorem dX7_one_33 : decode cX7_one 33 = .ok (.invokestatic 71, 3) := by decide +kernel
theorem dX7_one_36 : decode cX7_one 36 = .ok (.ifCond .eq 21, 3) := by decide +kernel
theorem dX7_one_39 : decode cX7_one 39 = .ok (.iconst 3, 1) := by decide +kernel
theorem dX7_one_40 : decode cX7_one 40 = .ok (.iload 4, 2) := by decide +kernel
theorem dX7_one_42 : decode cX7_one 42 = .ok (.invokestatic 71, 3) := by decide +kernel
theorem dX7_one_45 : decode cX7_one 45 = .ok (.ifCond .eq 12, 3) := by decide +kernel
theorem dX7_one_48 : decode cX7_one 48 = .ok (.iconst 4, 1) := by decide +kernel
theorem dX7_one_49 : decode cX7_one 49 = .ok (.iload 5, 2) := by decide +kernel
theorem dX7_one_51 : decode cX7_one 51 = .ok (.invokestatic 71, 3) := by decide +kernel
theorem dX7_one_54 : decode cX7_one 54 = .ok (.ifCond .ne 6, 3) := by decide +kernel
theorem dX7_one_57 : decode cX7_one 57 = .ok (.ldc 75, 2) := by decide +kernel
theorem dX7_one_59 : decode cX7_one 59 = .ok (.ireturn, 1) := by decide +kernel
theorem dX7_one_60 : decode cX7_one 60 = .ok (.aload_n 0, 1) := by decide +kernel
theorem dX7_one_61 : decode cX7_one 61 = .ok (.getfield 28, 3) := by decide +kernel
theorem dX7_one_64 : decode cX7_one 64 = .ok (.iload_n 2, 1) := by decide +kernel
theorem dX7_one_65 : decode cX7_one 65 = .ok (.invokevirtual 76, 3) := by decide +kernel
theorem dX7_one_68 : decode cX7_one 68 = .ok (.ifCond .ne 6, 3) := by decide +kernel
theorem dX7_one_71 : decode cX7_one 71 = .ok (.ldc 80, 2) := by decide +kernel
theorem dX7_one_73 : decode cX7_one 73 = .ok (.ireturn, 1) := by decide +kernel
theorem dX7_one_74 : decode cX7_one 74 = .ok (.aload_n 0, 1) := by decide +kernel
theorem dX7_one_75 : decode cX7_one 75 = .ok (.getfield 28, 3) := by decide +kernel
theorem dX7_one_78 : decode cX7_one 78 = .ok (.getfield 81, 3) := by decide +kernel
theorem dX7_one_81 : decode cX7_one 81 = .ok (.bipush 8, 2) := by decide +kernel
theorem dX7_one_83 : decode cX7_one 83 = .ok (.if_icmp .lt 6, 3) := by decide +kernel
theorem dX7_one_86 : decode cX7_one 86 = .ok (.ldc 84, 2) := by decide +kernel
theorem dX7_one_88 : decode cX7_one 88 = .ok (.ireturn, 1) := by decide +kernel
theorem dX7_one_89 : decode cX7_one 89 = .ok (.aload_n 0, 1) := by decide +kernel
theorem dX7_one_90 : decode cX7_one 90 = .ok (.getfield 28, 3) := by decide +kernel
theorem dX7_one_93 : decode cX7_one 93 = .ok (.iload_n 1, 1) := by decide +kernel
theorem dX7_one_94 : decode cX7_one 94 = .ok (.iload_n 2, 1) := by decide +kernel
theorem dX7_one_95 : decode cX7_one 95 = .ok (.iload_n 3, 1) := by decide +kernel
theorem dX7_one_96 : decode cX7_one 96 = .ok (.iload 4, 2) := by decide +kernel
theorem dX7_one_98 : decode cX7_one 98 = .ok (.iload 5, 2) := by decide +kernel
theorem dX7_one_100 : decode cX7_one 100 = .ok (.invokevirtual 85, 3) := by decide +kernel
theorem dX7_one_103 : decode cX7_one 103 = .ok (.ireturn, 1) := by decide +kernel
theorem dX7_told_0 : decode cX7_told 0 = .ok (.aload_n 0, 1) := by decide +kernel
theorem dX7_told_1 : decode cX7_told 1 = .ok (.getfield 28, 3) := by decide +kernel
theorem dX7_told_4 : decode cX7_told 4 = .ok (.iload_n 1, 1) := by decide +kernel
theorem dX7_told_5 : decode cX7_told 5 = .ok (.invokevirtual 89, 3) := by decide +kernel
theorem dX7_told_8 : decode cX7_told 8 = .ok (.ifCond .ne 6, 3) := by decide +kernel
theorem dX7_told_11 : decode cX7_told 11 = .ok (.ldc 75, 2) := by decide +kernel
theorem dX7_told_13 : decode cX7_told 13 = .ok (.ireturn, 1) := by decide +kernel
theorem dX7_told_14 : decode cX7_told 14 = .ok (.iload_n 2, 1) := by decide +kernel
theorem dX7_told_15 : decode cX7_told 15 = .ok (.tableswitch 134 0 6 #[41, 51, 61, 71, 81, 91, 112], 41) := by decide +kernel
theorem dX7_told_56 : decode cX7_told 56 = .ok (.aload_n 0, 1) := by decide +kernel
theorem dX7_told_57 : decode cX7_told 57 = .ok (.getfield 28, 3) := by decide +kernel
theorem dX7_told_60 : decode cX7_told 60 = .ok (.getfield 92, 3) := by decide +kernel
theorem dX7_told_63 : decode cX7_told 63 = .ok (.iload_n 1, 1) := by decide +kernel
theorem dX7_told_64 : decode cX7_told 64 = .ok (.iaload, 1) := by decide +kernel
theorem dX7_told_65 : decode cX7_told 65 = .ok (.ireturn, 1) := by decide +kernel
theorem dX7_told_66 : decode cX7_told 66 = .ok (.aload_n 0, 1) := by decide +kernel
theorem dX7_told_67 : decode cX7_told 67 = .ok (.getfield 28, 3) := by decide +kernel
theorem dX7_told_70 : decode cX7_told 70 = .ok (.getfield 95, 3) := by decide +kernel
theorem dX7_told_73 : decode cX7_told 73 = .ok (.iload_n 1, 1) := by decide +kernel
theorem dX7_told_74 : decode cX7_told 74 = .ok (.iaload, 1) := by decide +kernel
theorem dX7_told_75 : decode cX7_told 75 = .ok (.ireturn, 1) := by decide +kernel
theorem dX7_told_76 : decode cX7_told 76 = .ok (.aload_n 0, 1) := by decide +kernel
theorem dX7_told_77 : decode cX7_told 77 = .ok (.getfield 28, 3) := by decide +kernel
theorem dX7_told_80 : decode cX7_told 80 = .ok (.getfield 98, 3) := by decide +kernel
theorem dX7_told_83 : decode cX7_told 83 = .ok (.iload_n 1, 1) := by decide +kernel
theorem dX7_told_84 : decode cX7_told 84 = .ok (.iaload, 1) := by decide +kernel
theorem dX7_told_85 : decode cX7_told 85 = .ok (.ireturn, 1) := by decide +kernel
theorem dX7_told_86 : decode cX7_told 86 = .ok (.aload_n 0, 1) := by decide +kernel
theorem dX7_told_87 : decode cX7_told 87 = .ok (.getfield 28, 3) := by decide +kernel
theorem dX7_told_90 : decode cX7_told 90 = .ok (.getfield 101, 3) := by decide +kernel
theorem dX7_told_93 : decode cX7_told 93 = .ok (.iload_n 1, 1) := by decide +kernel
theorem dX7_told_94 : decode cX7_told 94 = .ok (.iaload, 1) := by decide +kernel
theorem dX7_told_95 : decode cX7_told 95 = .ok (.ireturn, 1) := by decide +kernel
theorem dX7_told_96 : decode cX7_told 96 = .ok (.aload_n 0, 1) := by decide +kernel
theorem dX7_told_97 : decode cX7_told 97 = .ok (.getfield 28, 3) := by decide +kernel
theorem dX7_told_100 : decode cX7_told 100 = .ok (.getfield 104, 3) := by decide +kernel
theorem dX7_told_103 : decode cX7_told 103 = .ok (.iload_n 1, 1) := by decide +kernel
theorem dX7_told_104 : decode cX7_told 104 = .ok (.iaload, 1) := by decide +kernel
theorem dX7_told_105 : decode cX7_told 105 = .ok (.ireturn, 1) := by decide +kernel
theorem dX7_told_106 : decode cX7_told 106 = .ok (.aload_n 0, 1) := by decide +kernel
theorem dX7_told_107 : decode cX7_told 107 = .ok (.getfield 28, 3) := by decide +kernel
theorem dX7_told_110 : decode cX7_told 110 = .ok (.getfield 92, 3) := by decide +kernel
theorem dX7_told_113 : decode cX7_told 113 = .ok (.iload_n 1, 1) := by decide +kernel
theorem dX7_told_114 : decode cX7_told 114 = .ok (.iaload, 1) := by decide +kernel
theorem dX7_told_115 : decode cX7_told 115 = .ok (.aload_n 0, 1) := by decide +kernel
theorem dX7_told_116 : decode cX7_told 116 = .ok (.getfield 28, 3) := by decide +kernel
theorem dX7_told_119 : decode cX7_told 119 = .ok (.iload_n 1, 1) := by decide +kernel
theorem dX7_told_120 : decode cX7_told 120 = .ok (.invokevirtual 107, 3) := by decide +kernel
theorem dX7_told_123 : decode cX7_told 123 = .ok (.invokestatic 111, 3) := by decide +kernel
theorem dX7_told_126 : decode cX7_told 126 = .ok (.ireturn, 1) := by decide +kernel
theorem dX7_told_127 : decode cX7_told 127 = .ok (.aload_n 0, 1) := by decide +kernel
theorem dX7_told_128 : decode cX7_told 128 = .ok (.getfield 28, 3) := by decide +kernel
theorem dX7_told_131 : decode cX7_told 131 = .ok (.getfield 92, 3) := by decide +kernel
theorem dX7_told_134 : decode cX7_told 134 = .ok (.iload_n 1, 1) := by decide +kernel
theorem dX7_told_135 : decode cX7_told 135 = .ok (.iaload, 1) := by decide +kernel
theorem dX7_told_136 : decode cX7_told 136 = .ok (.aload_n 0, 1) := by decide +kernel
theorem dX7_told_137 : decode cX7_told 137 = .ok (.getfield 28, 3) := by decide +kernel
theorem dX7_told_140 : decode cX7_told 140 = .ok (.getfield 98, 3) := by decide +kernel
theorem dX7_told_143 : decode cX7_told 143 = .ok (.iload_n 1, 1) := by decide +kernel
theorem dX7_told_144 : decode cX7_told 144 = .ok (.iaload, 1) := by decide +kernel
theorem dX7_told_145 : decode cX7_told 145 = .ok (.invokestatic 117, 3) := by decide +kernel
theorem dX7_told_148 : decode cX7_told 148 = .ok (.ireturn, 1) := by decide +kernel
theorem dX7_told_149 : decode cX7_told 149 = .ok (.ldc 75, 2) := by decide +kernel
theorem dX7_told_151 : decode cX7_told 151 = .ok (.ireturn, 1) := by decide +kernel
theorem dX7_as_0 : decode cX7_as 0 = .ok (.aload_n 0, 1) := by decide +kernel
theorem dX7_as_1 : decode cX7_as 1 = .ok (.getfield 28, 3) := by decide +kernel
theorem dX7_as_4 : decode cX7_as 4 = .ok (.iload_n 1, 1) := by decide +kernel
theorem dX7_as_5 : decode cX7_as 5 = .ok (.invokevirtual 89, 3) := by decide +kernel
theorem dX7_as_8 : decode cX7_as 8 = .ok (.ifCond .eq 12, 3) := by decide +kernel
theorem dX7_as_11 : decode cX7_as 11 = .ok (.iload_n 2, 1) := by decide +kernel
theorem dX7_as_12 : decode cX7_as 12 = .ok (.iconst 0, 1) := by decide +kernel
theorem dX7_as_13 : decode cX7_as 13 = .ok (.iconst 5, 1) := by decide +kernel
theorem dX7_as_14 : decode cX7_as 14 = .ok (.invokestatic 67, 3) := by decide +kernel
theorem dX7_as_17 : decode cX7_as 17 = .ok (.ifCond .ne 6, 3) := by decide +kernel
theorem dX7_as_20 : decode cX7_as 20 = .ok (.ldc 75, 2) := by decide +kernel
theorem dX7_as_22 : decode cX7_as 22 = .ok (.ireturn, 1) := by decide +kernel
theorem dX7_as_23 : decode cX7_as 23 = .ok (.aload_n 0, 1) := by decide +kernel
theorem dX7_as_24 : decode cX7_as 24 = .ok (.getfield 28, 3) := by decide +kernel
theorem dX7_as_27 : decode cX7_as 27 = .ok (.getfield 92, 3) := by decide +kernel
theorem dX7_as_30 : decode cX7_as 30 = .ok (.iload_n 1, 1) := by decide +kernel
theorem dX7_as_31 : decode cX7_as 31 = .ok (.iaload, 1) := by decide +kernel
theorem dX7_as_32 : decode cX7_as 32 = .ok (.iload_n 2, 1) := by decide +kernel
theorem dX7_as_33 : decode cX7_as 33 = .ok (.invokestatic 120, 3) := by decide +kernel
theorem dX7_as_36 : decode cX7_as 36 = .ok (.ifCond .eq 15, 3) := by decide +kernel
theorem dX7_as_39 : decode cX7_as 39 = .ok (.aload_n 0, 1) := by decide +kernel
theorem dX7_as_40 : decode cX7_as 40 = .ok (.getfield 28, 3) := by decide +kernel
theorem dX7_as_43 : decode cX7_as 43 = .ok (.getfield 98, 3) := by decide +kernel
theorem dX7_as_46 : decode cX7_as 46 = .ok (.iload_n 1, 1) := by decide +kernel
theorem dX7_as_47 : decode cX7_as 47 = .ok (.iaload, 1) := by decide +kernel
theorem dX7_as_48 : decode cX7_as 48 = .ok (.goto 5, 3) := by decide +kernel
theorem dX7_as_51 : decode cX7_as 51 = .ok (.ldc 123, 2) := by decide +kernel
theorem dX7_as_53 : decode cX7_as 53 = .ok (.ireturn, 1) := by decide +kernel
theorem dX7_turns_0 : decode cX7_turns 0 = .ok (.aload_n 0, 1) := by decide +kernel
theorem dX7_turns_1 : decode cX7_turns 1 = .ok (.getfield 28, 3) := by decide +kernel
theorem dX7_turns_4 : decode cX7_turns 4 = .ok (.iload_n 1, 1) := by decide +kernel
theorem dX7_turns_5 : decode cX7_turns 5 = .ok (.invokevirtual 89, 3) := by decide +kernel
theorem dX7_turns_8 : decode cX7_turns 8 = .ok (.ifCond .eq 12, 3) := by decide +kernel
theorem dX7_turns_11 : decode cX7_turns 11 = .ok (.iload_n 2, 1) := by decide +kernel
theorem dX7_turns_12 : decode cX7_turns 12 = .ok (.iconst 0, 1) := by decide +kernel
theorem dX7_turns_13 : decode cX7_turns 13 = .ok (.iconst 5, 1) := by decide +kernel
theorem dX7_turns_14 : decode cX7_turns 14 = .ok (.invokestatic 67, 3) := by decide +kernel
theorem dX7_turns_17 : decode cX7_turns 17 = .ok (.ifCond .ne 6, 3) := by decide +kernel
theorem dX7_turns_20 : decode cX7_turns 20 = .ok (.ldc 75, 2) := by decide +kernel
theorem dX7_turns_22 : decode cX7_turns 22 = .ok (.ireturn, 1) := by decide +kernel
theorem dX7_turns_23 : decode cX7_turns 23 = .ok (.aload_n 0, 1) := by decide +kernel
theorem dX7_turns_24 : decode cX7_turns 24 = .ok (.getfield 28, 3) := by decide +kernel
theorem dX7_turns_27 : decode cX7_turns 27 = .ok (.getfield 92, 3) := by decide +kernel
theorem dX7_turns_30 : decode cX7_turns 30 = .ok (.iload_n 1, 1) := by decide +kernel
theorem dX7_turns_31 : decode cX7_turns 31 = .ok (.iaload, 1) := by decide +kernel
theorem dX7_turns_32 : decode cX7_turns 32 = .ok (.istore_n 3, 1) := by decide +kernel
theorem dX7_turns_33 : decode cX7_turns 33 = .ok (.aload_n 0, 1) := by decide +kernel
theorem dX7_turns_34 : decode cX7_turns 34 = .ok (.getfield 28, 3) := by decide +kernel
theorem dX7_turns_37 : decode cX7_turns 37 = .ok (.getfield 92, 3) := by decide +kernel
theorem dX7_turns_40 : decode cX7_turns 40 = .ok (.iload_n 1, 1) := by decide +kernel
theorem dX7_turns_41 : decode cX7_turns 41 = .ok (.iload_n 2, 1) := by decide +kernel
theorem dX7_turns_42 : decode cX7_turns 42 = .ok (.iastore, 1) := by decide +kernel
theorem dX7_turns_43 : decode cX7_turns 43 = .ok (.iload_n 3, 1) := by decide +kernel
theorem dX7_turns_44 : decode cX7_turns 44 = .ok (.ireturn, 1) := by decide +kernel
theorem dX7_set_0 : decode cX7_set 0 = .ok (.aload_n 0, 1) := by decide +kernel
theorem dX7_set_1 : decode cX7_set 1 = .ok (.getfield 28, 3) := by decide +kernel
theorem dX7_set_4 : decode cX7_set 4 = .ok (.iload_n 1, 1) := by decide +kernel
theorem dX7_set_5 : decode cX7_set 5 = .ok (.invokevirtual 89, 3) := by decide +kernel
theorem dX7_set_8 : decode cX7_set 8 = .ok (.ifCond .eq 11, 3) := by decide +kernel
theorem dX7_set_11 : decode cX7_set 11 = .ok (.iload_n 2, 1) := by decide +kernel
theorem dX7_set_12 : decode cX7_set 12 = .ok (.iload_n 3, 1) := by decide +kernel
theorem dX7_set_13 : decode cX7_set 13 = .ok (.invokestatic 71, 3) := by decide +kernel
theorem dX7_set_16 : decode cX7_set 16 = .ok (.ifCond .ne 6, 3) := by decide +kernel
theorem dX7_set_19 : decode cX7_set 19 = .ok (.ldc 75, 2) := by decide +kernel
theorem dX7_set_21 : decode cX7_set 21 = .ok (.ireturn, 1) := by decide +kernel
theorem dX7_set_22 : decode cX7_set 22 = .ok (.iload_n 2, 1) := by decide +kernel
theorem dX7_set_23 : decode cX7_set 23 = .ok (.iconst 2, 1) := by decide +kernel
theorem dX7_set_24 : decode cX7_set 24 = .ok (.if_icmp .ne 13, 3) := by decide +kernel
theorem dX7_set_27 : decode cX7_set 27 = .ok (.aload_n 0, 1) := by decide +kernel
theorem dX7_set_28 : decode cX7_set 28 = .ok (.getfield 28, 3) := by decide +kernel
theorem dX7_set_31 : decode cX7_set 31 = .ok (.getfield 98, 3) := by decide +kernel
theorem dX7_set_34 : decode cX7_set 34 = .ok (.goto 25, 3) := by decide +kernel
theorem dX7_set_37 : decode cX7_set 37 = .ok (.iload_n 2, 1) := by decide +kernel
theorem dX7_set_38 : decode cX7_set 38 = .ok (.iconst 3, 1) := by decide +kernel
theorem dX7_set_39 : decode cX7_set 39 = .ok (.if_icmp .ne 13, 3) := by decide +kernel
theorem dX7_set_42 : decode cX7_set 42 = .ok (.aload_n 0, 1) := by decide +kernel
theorem dX7_set_43 : decode cX7_set 43 = .ok (.getfield 28, 3) := by decide +kernel
theorem dX7_set_46 : decode cX7_set 46 = .ok (.getfield 101, 3) := by decide +kernel
theorem dX7_set_49 : decode cX7_set 49 = .ok (.goto 10, 3) := by decide +kernel
theorem dX7_set_52 : decode cX7_set 52 = .ok (.aload_n 0, 1) := by decide +kernel
theorem dX7_set_53 : decode cX7_set 53 = .ok (.getfield 28, 3) := by decide +kernel
theorem dX7_set_56 : decode cX7_set 56 = .ok (.getfield 104, 3) := by decide +kernel
theorem dX7_set_59 : decode cX7_set 59 = .ok (.astore 4, 2) := by decide +kernel
theorem dX7_set_61 : decode cX7_set 61 = .ok (.aload 4, 2) := by decide +kernel
theorem dX7_set_63 : decode cX7_set 63 = .ok (.iload_n 1, 1) := by decide +kernel
theorem dX7_set_64 : decode cX7_set 64 = .ok (.iaload, 1) := by decide +kernel
theorem dX7_set_65 : decode cX7_set 65 = .ok (.istore 5, 2) := by decide +kernel
theorem dX7_set_67 : decode cX7_set 67 = .ok (.aload 4, 2) := by decide +kernel
theorem dX7_set_69 : decode cX7_set 69 = .ok (.iload_n 1, 1) := by decide +kernel
theorem dX7_set_70 : decode cX7_set 70 = .ok (.iload_n 3, 1) := by decide +kernel
theorem dX7_set_71 : decode cX7_set 71 = .ok (.iastore, 1) := by decide +kernel
theorem dX7_set_72 : decode cX7_set 72 = .ok (.iload 5, 2) := by decide +kernel
theorem dX7_set_74 : decode cX7_set 74 = .ok (.ireturn, 1) := by decide +kernel
theorem dX7_moves_0 : decode cX7_moves 0 = .ok (.aload_n 0, 1) := by decide +kernel
theorem dX7_moves_1 : decode cX7_moves 1 = .ok (.getfield 28, 3) := by decide +kernel
theorem dX7_moves_4 : decode cX7_moves 4 = .ok (.iload_n 1, 1) := by decide +kernel
theorem dX7_moves_5 : decode cX7_moves 5 = .ok (.invokevirtual 89, 3) := by decide +kernel
theorem dX7_moves_8 : decode cX7_moves 8 = .ok (.ifCond .eq 13, 3) := by decide +kernel
theorem dX7_moves_11 : decode cX7_moves 11 = .ok (.iload_n 2, 1) := by decide +kernel
theorem dX7_moves_12 : decode cX7_moves 12 = .ok (.iconst 0, 1) := by decide +kernel
theorem dX7_moves_13 : decode cX7_moves 13 = .ok (.bipush 19, 2) := by decide +kernel
theorem dX7_moves_15 : decode cX7_moves 15 = .ok (.invokestatic 67, 3) := by decide +kernel
theorem dX7_moves_18 : decode cX7_moves 18 = .ok (.ifCond .ne 6, 3) := by decide +kernel
theorem dX7_moves_21 : decode cX7_moves 21 = .ok (.ldc 75, 2) := by decide +kernel
theorem dX7_moves_23 : decode cX7_moves 23 = .ok (.ireturn, 1) := by decide +kernel
theorem dX7_moves_24 : decode cX7_moves 24 = .ok (.aload_n 0, 1) := by decide +kernel
theorem dX7_moves_25 : decode cX7_moves 25 = .ok (.getfield 28, 3) := by decide +kernel
theorem dX7_moves_28 : decode cX7_moves 28 = .ok (.iload_n 2, 1) := by decide +kernel
theorem dX7_moves_29 : decode cX7_moves 29 = .ok (.invokevirtual 76, 3) := by decide +kernel
theorem dX7_moves_32 : decode cX7_moves 32 = .ok (.ifCond .ne 6, 3) := by decide +kernel
theorem dX7_moves_35 : decode cX7_moves 35 = .ok (.ldc 80, 2) := by decide +kernel
theorem dX7_moves_37 : decode cX7_moves 37 = .ok (.ireturn, 1) := by decide +kernel
theorem dX7_moves_38 : decode cX7_moves 38 = .ok (.aload_n 0, 1) := by decide +kernel
theorem dX7_moves_39 : decode cX7_moves 39 = .ok (.getfield 28, 3) := by decide +kernel
theorem dX7_moves_42 : decode cX7_moves 42 = .ok (.getfield 95, 3) := by decide +kernel
theorem dX7_moves_45 : decode cX7_moves 45 = .ok (.iload_n 1, 1) := by decide +kernel
theorem dX7_moves_46 : decode cX7_moves 46 = .ok (.iaload, 1) := by decide +kernel
theorem dX7_moves_47 : decode cX7_moves 47 = .ok (.istore_n 3, 1) := by decide +kernel
theorem dX7_moves_48 : decode cX7_moves 48 = .ok (.aload_n 0, 1) := by decide +kernel
theorem dX7_moves_49 : decode cX7_moves 49 = .ok (.getfield 28, 3) := by decide +kernel
theorem dX7_moves_52 : decode cX7_moves 52 = .ok (.iload_n 1, 1) := by decide +kernel
theorem dX7_moves_53 : decode cX7_moves 53 = .ok (.iload_n 2, 1) := by decide +kernel
theorem dX7_moves_54 : decode cX7_moves 54 = .ok (.invokevirtual 124, 3) := by decide +kernel
theorem dX7_moves_57 : decode cX7_moves 57 = .ok (.iload_n 3, 1) := by decide +kernel
theorem dX7_moves_58 : decode cX7_moves 58 = .ok (.ireturn, 1) := by decide +kernel
theorem dX7_screen_0 : decode cX7_screen 0 = .ok (.iload_n 1, 1) := by decide +kernel
theorem dX7_screen_1 : decode cX7_screen 1 = .ok (.iconst 0, 1) := by decide +kernel
theorem dX7_screen_2 : decode cX7_screen 2 = .ok (.bipush 19, 2) := by decide +kernel
theorem dX7_screen_4 : decode cX7_screen 4 = .ok (.invokestatic 67, 3) := by decide +kernel
theorem dX7_screen_7 : decode cX7_screen 7 = .ok (.ifCond .eq 12, 3) := by decide +kernel
theorem dX7_screen_10 : decode cX7_screen 10 = .ok (.iload_n 2, 1) := by decide +kernel
theorem dX7_screen_11 : decode cX7_screen 11 = .ok (.iconst 0, 1) := by decide +kernel
theorem dX7_screen_12 : decode cX7_screen 12 = .ok (.iconst 1, 1) := by decide +kernel
theorem dX7_screen_13 : decode cX7_screen 13 = .ok (.invokestatic 67, 3) := by decide +kernel
theorem dX7_screen_16 : decode cX7_screen 16 = .ok (.ifCond .ne 6, 3) := by decide +kernel
theorem dX7_screen_19 : decode cX7_screen 19 = .ok (.ldc 75, 2) := by decide +kernel
theorem dX7_screen_21 : decode cX7_screen 21 = .ok (.ireturn, 1) := by decide +kernel
theorem dX7_screen_22 : decode cX7_screen 22 = .ok (.iload_n 2, 1) := by decide +kernel
theorem dX7_screen_23 : decode cX7_screen 23 = .ok (.iconst 1, 1) := by decide +kernel
theorem dX7_screen_24 : decode cX7_screen 24 = .ok (.if_icmp .ne 18, 3) := by decide +kernel
theorem dX7_screen_27 : decode cX7_screen 27 = .ok (.aload_n 0, 1) := by decide +kernel
theorem dX7_screen_28 : decode cX7_screen 28 = .ok (.getfield 28, 3) := by decide +kernel
theorem dX7_screen_31 : decode cX7_screen 31 = .ok (.getfield 128, 3) := by decide +kernel
theorem dX7_screen_34 : decode cX7_screen 34 = .ok (.iload_n 1, 1) := by decide +kernel
theorem dX7_screen_35 : decode cX7_screen 35 = .ok (.iaload, 1) := by decide +kernel
theorem dX7_screen_36 : decode cX7_screen 36 = .ok (.ifCond .lt 6, 3) := by decide +kernel
theorem dX7_screen_39 : decode cX7_screen 39 = .ok (.ldc 80, 2) := by decide +kernel
theorem dX7_screen_41 : decode cX7_screen 41 = .ok (.ireturn, 1) := by decide +kernel
theorem dX7_screen_42 : decode cX7_screen 42 = .ok (.aload_n 0, 1) := by decide +kernel
theorem dX7_screen_43 : decode cX7_screen 43 = .ok (.getfield 28, 3) := by decide +kernel
theorem dX7_screen_46 : decode cX7_screen 46 = .ok (.getfield 131, 3) := by decide +kernel
theorem dX7_screen_49 : decode cX7_screen 49 = .ok (.iload_n 1, 1) := by decide +kernel
theorem dX7_screen_50 : decode cX7_screen 50 = .ok (.ishr, 1) := by decide +kernel
theorem dX7_screen_51 : decode cX7_screen 51 = .ok (.iconst 1, 1) := by decide +kernel
theorem dX7_screen_52 : decode cX7_screen 52 = .ok (.iand, 1) := by decide +kernel
theorem dX7_screen_53 : decode cX7_screen 53 = .ok (.istore_n 3, 1) := by decide +kernel
theorem dX7_screen_54 : decode cX7_screen 54 = .ok (.aload_n 0, 1) := by decide +kernel
theorem dX7_screen_55 : decode cX7_screen 55 = .ok (.getfield 28, 3) := by decide +kernel
theorem dX7_screen_58 : decode cX7_screen 58 = .ok (.iload_n 2, 1) := by decide +kernel
theorem dX7_screen_59 : decode cX7_screen 59 = .ok (.iconst 1, 1) := by decide +kernel
theorem dX7_screen_60 : decode cX7_screen 60 = .ok (.if_icmp .ne 17, 3) := by decide +kernel
theorem dX7_screen_63 : decode cX7_screen 63 = .ok (.aload_n 0, 1) := by decide +kernel
theorem dX7_screen_64 : decode cX7_screen 64 = .ok (.getfield 28, 3) := by decide +kernel
theorem dX7_screen_67 : decode cX7_screen 67 = .ok (.getfield 131, 3) := by decide +kernel
theorem dX7_screen_70 : decode cX7_screen 70 = .ok (.iconst 1, 1) := by decide +kernel
theorem dX7_screen_71 : decode cX7_screen 71 = .ok (.iload_n 1, 1) := by decide +kernel
theorem dX7_screen_72 : decode cX7_screen 72 = .ok (.ishl, 1) := by decide +kernel
theorem dX7_screen_73 : decode cX7_screen 73 = .ok (.ior, 1) := by decide +kernel
theorem dX7_screen_74 : decode cX7_screen 74 = .ok (.goto 16, 3) := by decide +kernel
theorem dX7_screen_77 : decode cX7_screen 77 = .ok (.aload_n 0, 1) := by decide +kernel
theorem dX7_screen_78 : decode cX7_screen 78 = .ok (.getfield 28, 3) := by decide +kernel
theorem dX7_screen_81 : decode cX7_screen 81 = .ok (.getfield 131, 3) := by decide +kernel
theorem dX7_screen_84 : decode cX7_screen 84 = .ok (.iconst 1, 1) := by decide +kernel
theorem dX7_screen_85 : decode cX7_screen 85 = .ok (.iload_n 1, 1) := by decide +kernel
theorem dX7_screen_86 : decode cX7_screen 86 = .ok (.ishl, 1) := by decide +kernel
theorem dX7_screen_87 : decode cX7_screen 87 = .ok (.iconst (-1), 1) := by decide +kernel
theorem dX7_screen_88 : decode cX7_screen 88 = .ok (.ixor, 1) := by decide +kernel
theorem dX7_screen_89 : decode cX7_screen 89 = .ok (.iand, 1) := by decide +kernel
theorem dX7_screen_90 : decode cX7_screen 90 = .ok (.putfield 131, 3) := by decide +kernel
theorem dX7_screen_93 : decode cX7_screen 93 = .ok (.iload_n 3, 1) := by decide +kernel
theorem dX7_screen_94 : decode cX7_screen 94 = .ok (.ireturn, 1) := by decide +kernel
theorem dX7_at_0 : decode cX7_at 0 = .ok (.iload_n 1, 1) := by decide +kernel
theorem dX7_at_1 : decode cX7_at 1 = .ok (.iconst 0, 1) := by decide +kernel
theorem dX7_at_2 : decode cX7_at 2 = .ok (.bipush 19, 2) := by decide +kernel
theorem dX7_at_4 : decode cX7_at 4 = .ok (.invokestatic 67, 3) := by decide +kernel
theorem dX7_at_7 : decode cX7_at 7 = .ok (.ifCond .ne 6, 3) := by decide +kernel
theorem dX7_at_10 : decode cX7_at 10 = .ok (.ldc 75, 2) := by decide +kernel
theorem dX7_at_12 : decode cX7_at 12 = .ok (.ireturn, 1) := by decide +kernel
theorem dX7_at_13 : decode cX7_at 13 = .ok (.aload_n 0, 1) := by decide +kernel
theorem dX7_at_14 : decode cX7_at 14 = .ok (.getfield 28, 3) := by decide +kernel
theorem dX7_at_17 : decode cX7_at 17 = .ok (.getfield 128, 3) := by decide +kernel
theorem dX7_at_20 : decode cX7_at 20 = .ok (.iload_n 1, 1) := by decide +kernel
theorem dX7_at_21 : decode cX7_at 21 = .ok (.iaload, 1) := by decide +kernel
theorem dX7_at_22 : decode cX7_at 22 = .ok (.ifCond .lt 15, 3) := by decide +kernel
theorem dX7_at_25 : decode cX7_at 25 = .ok (.aload_n 0, 1) := by decide +kernel
theorem dX7_at_26 : decode cX7_at 26 = .ok (.getfield 28, 3) := by decide +kernel
theorem dX7_at_29 : decode cX7_at 29 = .ok (.getfield 128, 3) := by decide +kernel
theorem dX7_at_32 : decode cX7_at 32 = .ok (.iload_n 1, 1) := by decide +kernel
theorem dX7_at_33 : decode cX7_at 33 = .ok (.iaload, 1) := by decide +kernel
theorem dX7_at_34 : decode cX7_at 34 = .ok (.goto 5, 3) := by decide +kernel
theorem dX7_at_37 : decode cX7_at 37 = .ok (.ldc 134, 2) := by decide +kernel
theorem dX7_at_39 : decode cX7_at 39 = .ok (.ireturn, 1) := by decide +kernel
theorem dX7_rule_0 : decode cX7_rule 0 = .ok (.iload_n 1, 1) := by decide +kernel
theorem dX7_rule_1 : decode cX7_rule 1 = .ok (.iconst 0, 1) := by decide +kernel
theorem dX7_rule_2 : decode cX7_rule 2 = .ok (.iconst 2, 1) := by decide +kernel
theorem dX7_rule_3 : decode cX7_rule 3 = .ok (.invokestatic 67, 3) := by decide +kernel
theorem dX7_rule_6 : decode cX7_rule 6 = .ok (.ifCond .eq 23, 3) := by decide +kernel
theorem dX7_rule_9 : decode cX7_rule 9 = .ok (.iload_n 2, 1) := by decide +kernel
theorem dX7_rule_10 : decode cX7_rule 10 = .ok (.iconst 0, 1) := by decide +kernel
theorem dX7_rule_11 : decode cX7_rule 11 = .ok (.iload_n 1, 1) := by decide +kernel
theorem dX7_rule_12 : decode cX7_rule 12 = .ok (.ifCond .ne 9, 3) := by decide +kernel
theorem dX7_rule_15 : decode cX7_rule 15 = .ok (.sipush 200, 3) := by decide +kernel
theorem dX7_rule_18 : decode cX7_rule 18 = .ok (.goto 5, 3) := by decide +kernel
theorem dX7_rule_21 : decode cX7_rule 21 = .ok (.bipush 100, 2) := by decide +kernel
theorem dX7_rule_23 : decode cX7_rule 23 = .ok (.invokestatic 67, 3) := by decide +kernel
theorem dX7_rule_26 : decode cX7_rule 26 = .ok (.ifCond .ne 6, 3) := by decide +kernel
theorem dX7_rule_29 : decode cX7_rule 29 = .ok (.ldc 75, 2) := by decide +kernel
theorem dX7_rule_31 : decode cX7_rule 31 = .ok (.ireturn, 1) := by decide +kernel
theorem dX7_rule_32 : decode cX7_rule 32 = .ok (.aload_n 0, 1) := by decide +kernel
theorem dX7_rule_33 : decode cX7_rule 33 = .ok (.getfield 28, 3) := by decide +kernel
theorem dX7_rule_36 : decode cX7_rule 36 = .ok (.getfield 135, 3) := by decide +kernel
theorem dX7_rule_39 : decode cX7_rule 39 = .ok (.iload_n 1, 1) := by decide +kernel
theorem dX7_rule_40 : decode cX7_rule 40 = .ok (.iaload, 1) := by decide +kernel
theorem dX7_rule_41 : decode cX7_rule 41 = .ok (.istore_n 3, 1) := by decide +kernel
theorem dX7_rule_42 : decode cX7_rule 42 = .ok (.aload_n 0, 1) := by decide +kernel
theorem dX7_rule_43 : decode cX7_rule 43 = .ok (.getfield 28, 3) := by decide +kernel
theorem dX7_rule_46 : decode cX7_rule 46 = .ok (.getfield 135, 3) := by decide +kernel
theorem dX7_rule_49 : decode cX7_rule 49 = .ok (.iload_n 1, 1) := by decide +kernel
theorem dX7_rule_50 : decode cX7_rule 50 = .ok (.iload_n 2, 1) := by decide +kernel
theorem dX7_rule_51 : decode cX7_rule 51 = .ok (.iastore, 1) := by decide +kernel
theorem dX7_rule_52 : decode cX7_rule 52 = .ok (.iload_n 3, 1) := by decide +kernel
theorem dX7_rule_53 : decode cX7_rule 53 = .ok (.ireturn, 1) := by decide +kernel
theorem dX7_deal_0 : decode cX7_deal 0 = .ok (.iload_n 1, 1) := by decide +kernel
theorem dX7_deal_1 : decode cX7_deal 1 = .ok (.iconst 1, 1) := by decide +kernel
theorem dX7_deal_2 : decode cX7_deal 2 = .ok (.bipush 8, 2) := by decide +kernel
theorem dX7_deal_4 : decode cX7_deal 4 = .ok (.invokestatic 67, 3) := by decide +kernel
theorem dX7_deal_7 : decode cX7_deal 7 = .ok (.ifCond .ne 6, 3) := by decide +kernel
theorem dX7_deal_10 : decode cX7_deal 10 = .ok (.ldc 75, 2) := by decide +kernel
theorem dX7_deal_12 : decode cX7_deal 12 = .ok (.ireturn, 1) := by decide +kernel
theorem dX7_deal_13 : decode cX7_deal 13 = .ok (.iload_n 1, 1) := by decide +kernel
theorem dX7_deal_14 : decode cX7_deal 14 = .ok (.bipush 8, 2) := by decide +kernel
theorem dX7_deal_16 : decode cX7_deal 16 = .ok (.aload_n 0, 1) := by decide +kernel
theorem dX7_deal_17 : decode cX7_deal 17 = .ok (.getfield 28, 3) := by decide +kernel
theorem dX7_deal_20 : decode cX7_deal 20 = .ok (.getfield 81, 3) := by decide +kernel
theorem dX7_deal_23 : decode cX7_deal 23 = .ok (.isub, 1) := by decide +kernel
theorem dX7_deal_24 : decode cX7_deal 24 = .ok (.invokestatic 138, 3) := by decide +kernel
theorem dX7_deal_27 : decode cX7_deal 27 = .ok (.istore_n 2, 1) := by decide +kernel
theorem dX7_deal_28 : decode cX7_deal 28 = .ok (.iconst 0, 1) := by decide +kernel
theorem dX7_deal_29 : decode cX7_deal 29 = .ok (.istore_n 3, 1) := by decide +kernel
theorem dX7_deal_30 : decode cX7_deal 30 = .ok (.iload_n 3, 1) := by decide +kernel
theorem dX7_deal_31 : decode cX7_deal 31 = .ok (.iload_n 2, 1) := by decide +kernel
theorem dX7_deal_32 : decode cX7_deal 32 = .ok (.if_icmp .ge 19, 3) := by decide +kernel
theorem dX7_deal_35 : decode cX7_deal 35 = .ok (.aload_n 0, 1) := by decide +kernel
theorem dX7_deal_36 : decode cX7_deal 36 = .ok (.getfield 28, 3) := by decide +kernel
theorem dX7_deal_39 : decode cX7_deal 39 = .ok (.invokevirtual 143, 3) := by decide +kernel
theorem dX7_deal_42 : decode cX7_deal 42 = .ok (.ifCond .eq 9, 3) := by decide +kernel
theorem dX7_deal_45 : decode cX7_deal 45 = .ok (.iinc 3 1, 3) := by decide +kernel
theorem dX7_deal_48 : decode cX7_deal 48 = .ok (.goto (-18), 3) := by decide +kernel
theorem dX7_deal_51 : decode cX7_deal 51 = .ok (.iload_n 3, 1) := by decide +kernel
theorem dX7_deal_52 : decode cX7_deal 52 = .ok (.ireturn, 1) := by decide +kernel
theorem dX7_seed_0 : decode cX7_seed 0 = .ok (.aload_n 0, 1) := by decide +kernel
theorem dX7_seed_1 : decode cX7_seed 1 = .ok (.getfield 28, 3) := by decide +kernel
theorem dX7_seed_4 : decode cX7_seed 4 = .ok (.getfield 147, 3) := by decide +kernel
theorem dX7_seed_7 : decode cX7_seed 7 = .ok (.istore_n 2, 1) := by decide +kernel
theorem dX7_seed_8 : decode cX7_seed 8 = .ok (.aload_n 0, 1) := by decide +kernel
theorem dX7_seed_9 : decode cX7_seed 9 = .ok (.getfield 28, 3) := by decide +kernel
theorem dX7_seed_12 : decode cX7_seed 12 = .ok (.iload_n 1, 1) := by decide +kernel
theorem dX7_seed_13 : decode cX7_seed 13 = .ok (.putfield 147, 3) := by decide +kernel
theorem dX7_seed_16 : decode cX7_seed 16 = .ok (.iload_n 2, 1) := by decide +kernel
theorem dX7_seed_17 : decode cX7_seed 17 = .ok (.ireturn, 1) := by decide +kernel
theorem dX7_looks_0 : decode cX7_looks 0 = .ok (.aload_n 0, 1) := by decide +kernel
theorem dX7_looks_1 : decode cX7_looks 1 = .ok (.getfield 28, 3) := by decide +kernel
theorem dX7_looks_4 : decode cX7_looks 4 = .ok (.iload_n 1, 1) := by decide +kernel
theorem dX7_looks_5 : decode cX7_looks 5 = .ok (.invokevirtual 89, 3) := by decide +kernel
theorem dX7_looks_8 : decode cX7_looks 8 = .ok (.ifCond .ne 6, 3) := by decide +kernel
theorem dX7_looks_11 : decode cX7_looks 11 = .ok (.ldc 75, 2) := by decide +kernel
theorem dX7_looks_13 : decode cX7_looks 13 = .ok (.ireturn, 1) := by decide +kernel
theorem dX7_looks_14 : decode cX7_looks 14 = .ok (.aload_n 0, 1) := by decide +kernel
theorem dX7_looks_15 : decode cX7_looks 15 = .ok (.getfield 28, 3) := by decide +kernel
theorem dX7_looks_18 : decode cX7_looks 18 = .ok (.iload_n 1, 1) := by decide +kernel
theorem dX7_looks_19 : decode cX7_looks 19 = .ok (.invokevirtual 150, 3) := by decide +kernel
theorem dX7_looks_22 : decode cX7_looks 22 = .ok (.istore_n 2, 1) := by decide +kernel
theorem dX7_looks_23 : decode cX7_looks 23 = .ok (.iload_n 2, 1) := by decide +kernel
theorem dX7_looks_24 : decode cX7_looks 24 = .ok (.ifCond .lt 7, 3) := by decide +kernel
theorem dX7_looks_27 : decode cX7_looks 27 = .ok (.iload_n 2, 1) := by decide +kernel
theorem dX7_looks_28 : decode cX7_looks 28 = .ok (.goto 5, 3) := by decide +kernel
theorem dX7_looks_31 : decode cX7_looks 31 = .ok (.ldc 134, 2) := by decide +kernel
theorem dX7_looks_33 : decode cX7_looks 33 = .ok (.ireturn, 1) := by decide +kernel
theorem dX7_eyes_0 : decode cX7_eyes 0 = .ok (.aload_n 0, 1) := by decide +kernel
theorem dX7_eyes_1 : decode cX7_eyes 1 = .ok (.getfield 28, 3) := by decide +kernel
theorem dX7_eyes_4 : decode cX7_eyes 4 = .ok (.iload_n 1, 1) := by decide +kernel
theorem dX7_eyes_5 : decode cX7_eyes 5 = .ok (.invokevirtual 89, 3) := by decide +kernel
theorem dX7_eyes_8 : decode cX7_eyes 8 = .ok (.ifCond .ne 6, 3) := by decide +kernel
theorem dX7_eyes_11 : decode cX7_eyes 11 = .ok (.ldc 75, 2) := by decide +kernel
theorem dX7_eyes_13 : decode cX7_eyes 13 = .ok (.ireturn, 1) := by decide +kernel
theorem dX7_eyes_14 : decode cX7_eyes 14 = .ok (.aload_n 0, 1) := by decide +kernel
theorem dX7_eyes_15 : decode cX7_eyes 15 = .ok (.getfield 28, 3) := by decide +kernel
theorem dX7_eyes_18 : decode cX7_eyes 18 = .ok (.invokevirtual 153, 3) := by decide +kernel
theorem dX7_eyes_21 : decode cX7_eyes 21 = .ok (.aload_n 0, 1) := by decide +kernel
theorem dX7_eyes_22 : decode cX7_eyes 22 = .ok (.getfield 28, 3) := by decide +kernel
theorem dX7_eyes_25 : decode cX7_eyes 25 = .ok (.getfield 156, 3) := by decide +kernel
theorem dX7_eyes_28 : decode cX7_eyes 28 = .ok (.iload_n 1, 1) := by decide +kernel
theorem dX7_eyes_29 : decode cX7_eyes 29 = .ok (.iaload, 1) := by decide +kernel
theorem dX7_eyes_30 : decode cX7_eyes 30 = .ok (.ireturn, 1) := by decide +kernel
theorem dX7_sees_0 : decode cX7_sees 0 = .ok (.aload_n 0, 1) := by decide +kernel
theorem dX7_sees_1 : decode cX7_sees 1 = .ok (.getfield 28, 3) := by decide +kernel
theorem dX7_sees_4 : decode cX7_sees 4 = .ok (.iload_n 1, 1) := by decide +kernel
theorem dX7_sees_5 : decode cX7_sees 5 = .ok (.invokevirtual 89, 3) := by decide +kernel
theorem dX7_sees_8 : decode cX7_sees 8 = .ok (.ifCond .eq 14, 3) := by decide +kernel
theorem dX7_sees_11 : decode cX7_sees 11 = .ok (.aload_n 0, 1) := by decide +kernel
theorem dX7_sees_12 : decode cX7_sees 12 = .ok (.getfield 28, 3) := by decide +kernel
theorem dX7_sees_15 : decode cX7_sees 15 = .ok (.iload_n 1, 1) := by decide +kernel
theorem dX7_sees_16 : decode cX7_sees 16 = .ok (.invokevirtual 159, 3) := by decide +kernel
theorem dX7_sees_19 : decode cX7_sees 19 = .ok (.goto 5, 3) := by decide +kernel
theorem dX7_sees_22 : decode cX7_sees 22 = .ok (.ldc 75, 2) := by decide +kernel
theorem dX7_sees_24 : decode cX7_sees 24 = .ok (.ireturn, 1) := by decide +kernel
theorem dX7_days_0 : decode cX7_days 0 = .ok (.iload_n 1, 1) := by decide +kernel
theorem dX7_days_1 : decode cX7_days 1 = .ok (.iconst 1, 1) := by decide +kernel
theorem dX7_days_2 : decode cX7_days 2 = .ok (.bipush 100, 2) := by decide +kernel
theorem dX7_days_4 : decode cX7_days 4 = .ok (.invokestatic 67, 3) := by decide +kernel
theorem dX7_days_7 : decode cX7_days 7 = .ok (.ifCond .ne 6, 3) := by decide +kernel
theorem dX7_days_10 : decode cX7_days 10 = .ok (.ldc 75, 2) := by decide +kernel
theorem dX7_days_12 : decode cX7_days 12 = .ok (.ireturn, 1) := by decide +kernel
theorem dX7_days_13 : decode cX7_days 13 = .ok (.aload_n 0, 1) := by decide +kernel
theorem dX7_days_14 : decode cX7_days 14 = .ok (.getfield 28, 3) := by decide +kernel
theorem dX7_days_17 : decode cX7_days 17 = .ok (.getfield 162, 3) := by decide +kernel
theorem dX7_days_20 : decode cX7_days 20 = .ok (.istore_n 2, 1) := by decide +kernel
theorem dX7_days_21 : decode cX7_days 21 = .ok (.aload_n 0, 1) := by decide +kernel
theorem dX7_days_22 : decode cX7_days 22 = .ok (.getfield 28, 3) := by decide +kernel
theorem dX7_days_25 : decode cX7_days 25 = .ok (.iload_n 1, 1) := by decide +kernel
theorem dX7_days_26 : decode cX7_days 26 = .ok (.sipush 9999, 3) := by decide +kernel
theorem dX7_days_29 : decode cX7_days 29 = .ok (.aload_n 0, 1) := by decide +kernel
theorem dX7_days_30 : decode cX7_days 30 = .ok (.getfield 28, 3) := by decide +kernel
theorem dX7_days_33 : decode cX7_days 33 = .ok (.getfield 165, 3) := by decide +kernel
theorem dX7_days_36 : decode cX7_days 36 = .ok (.isub, 1) := by decide +kernel
theorem dX7_days_37 : decode cX7_days 37 = .ok (.invokestatic 138, 3) := by decide +kernel
theorem dX7_days_40 : decode cX7_days 40 = .ok (.invokevirtual 168, 3) := by decide +kernel
theorem dX7_days_43 : decode cX7_days 43 = .ok (.aload_n 0, 1) := by decide +kernel
theorem dX7_days_44 : decode cX7_days 44 = .ok (.getfield 28, 3) := by decide +kernel
theorem dX7_days_47 : decode cX7_days 47 = .ok (.getfield 162, 3) := by decide +kernel
theorem dX7_days_50 : decode cX7_days 50 = .ok (.iload_n 2, 1) := by decide +kernel
theorem dX7_days_51 : decode cX7_days 51 = .ok (.isub, 1) := by decide +kernel
theorem dX7_days_52 : decode cX7_days 52 = .ok (.ireturn, 1) := by decide +kernel
theorem dX7_town_0 : decode cX7_town 0 = .ok (.iload_n 1, 1) := by decide +kernel
theorem dX7_town_1 : decode cX7_town 1 = .ok (.tableswitch 75 0 4 #[35, 43, 51, 59, 67], 35) := by decide +kernel
theorem dX7_town_36 : decode cX7_town 36 = .ok (.aload_n 0, 1) := by decide +kernel
theorem dX7_town_37 : decode cX7_town 37 = .ok (.getfield 28, 3) := by decide +kernel
theorem dX7_town_40 : decode cX7_town 40 = .ok (.getfield 162, 3) := by decide +kernel
theorem dX7_town_43 : decode cX7_town 43 = .ok (.ireturn, 1) := by decide +kernel
theorem dX7_town_44 : decode cX7_town 44 = .ok (.aload_n 0, 1) := by decide +kernel
theorem dX7_town_45 : decode cX7_town 45 = .ok (.getfield 28, 3) := by decide +kernel
theorem dX7_town_48 : decode cX7_town 48 = .ok (.getfield 172, 3) := by decide +kernel
theorem dX7_town_51 : decode cX7_town 51 = .ok (.ireturn, 1) := by decide +kernel
theorem dX7_town_52 : decode cX7_town 52 = .ok (.aload_n 0, 1) := by decide +kernel
theorem dX7_town_53 : decode cX7_town 53 = .ok (.getfield 28, 3) := by decide +kernel
theorem dX7_town_56 : decode cX7_town 56 = .ok (.getfield 175, 3) := by decide +kernel
theorem dX7_town_59 : decode cX7_town 59 = .ok (.ireturn, 1) := by decide +kernel
theorem dX7_town_60 : decode cX7_town 60 = .ok (.aload_n 0, 1) := by decide +kernel
theorem dX7_town_61 : decode cX7_town 61 = .ok (.getfield 28, 3) := by decide +kernel
theorem dX7_town_64 : decode cX7_town 64 = .ok (.invokevirtual 178, 3) := by decide +kernel
theorem dX7_town_67 : decode cX7_town 67 = .ok (.ireturn, 1) := by decide +kernel
theorem dX7_town_68 : decode cX7_town 68 = .ok (.aload_n 0, 1) := by decide +kernel
theorem dX7_town_69 : decode cX7_town 69 = .ok (.getfield 28, 3) := by decide +kernel
theorem dX7_town_72 : decode cX7_town 72 = .ok (.getfield 131, 3) := by decide +kernel
theorem dX7_town_75 : decode cX7_town 75 = .ok (.ireturn, 1) := by decide +kernel
theorem dX7_town_76 : decode cX7_town 76 = .ok (.ldc 75, 2) := by decide +kernel
theorem dX7_town_78 : decode cX7_town 78 = .ok (.ireturn, 1) := by decide +kernel
theorem dX7_curtain_0 : decode cX7_curtain 0 = .ok (.aload_n 0, 1) := by decide +kernel
theorem dX7_curtain_1 : decode cX7_curtain 1 = .ok (.getfield 28, 3) := by decide +kernel
theorem dX7_curtain_4 : decode cX7_curtain 4 = .ok (.iload_n 1, 1) := by decide +kernel
theorem dX7_curtain_5 : decode cX7_curtain 5 = .ok (.invokevirtual 89, 3) := by decide +kernel
theorem dX7_curtain_8 : decode cX7_curtain 8 = .ok (.ifCond .eq 12, 3) := by decide +kernel
theorem dX7_curtain_11 : decode cX7_curtain 11 = .ok (.iload_n 2, 1) := by decide +kernel
theorem dX7_curtain_12 : decode cX7_curtain 12 = .ok (.iconst 0, 1) := by decide +kernel
theorem dX7_curtain_13 : decode cX7_curtain 13 = .ok (.iconst 1, 1) := by decide +kernel
theorem dX7_curtain_14 : decode cX7_curtain 14 = .ok (.invokestatic 67, 3) := by decide +kernel
theorem dX7_curtain_17 : decode cX7_curtain 17 = .ok (.ifCond .ne 6, 3) := by decide +kernel
theorem dX7_curtain_20 : decode cX7_curtain 20 = .ok (.ldc 75, 2) := by decide +kernel
theorem dX7_curtain_22 : decode cX7_curtain 22 = .ok (.ireturn, 1) := by decide +kernel
theorem dX7_curtain_23 : decode cX7_curtain 23 = .ok (.ldc 134, 2) := by decide +kernel
theorem dX7_curtain_25 : decode cX7_curtain 25 = .ok (.istore_n 3, 1) := by decide +kernel
theorem dX7_curtain_26 : decode cX7_curtain 26 = .ok (.ldc 134, 2) := by decide +kernel
theorem dX7_curtain_28 : decode cX7_curtain 28 = .ok (.istore 4, 2) := by decide +kernel
theorem dX7_curtain_30 : decode cX7_curtain 30 = .ok (.aload_n 0, 1) := by decide +kernel
theorem dX7_curtain_31 : decode cX7_curtain 31 = .ok (.getfield 35, 3) := by decide +kernel
theorem dX7_curtain_34 : decode cX7_curtain 34 = .ok (.aload_n 0, 1) := by decide +kernel
theorem dX7_curtain_35 : decode cX7_curtain 35 = .ok (.getfield 28, 3) := by decide +kernel
theorem dX7_curtain_38 : decode cX7_curtain 38 = .ok (.invokevirtual 182, 3) := by decide +kernel
theorem dX7_curtain_41 : decode cX7_curtain 41 = .ok (.iconst 0, 1) := by decide +kernel
theorem dX7_curtain_42 : decode cX7_curtain 42 = .ok (.istore 5, 2) := by decide +kernel
theorem dX7_curtain_44 : decode cX7_curtain 44 = .ok (.iload 5, 2) := by decide +kernel
theorem dX7_curtain_46 : decode cX7_curtain 46 = .ok (.bipush 20, 2) := by decide +kernel
theorem dX7_curtain_48 : decode cX7_curtain 48 = .ok (.if_icmp .ge 70, 3) := by decide +kernel
theorem dX7_curtain_51 : decode cX7_curtain 51 = .ok (.aload_n 0, 1) := by decide +kernel
theorem dX7_curtain_52 : decode cX7_curtain 52 = .ok (.getfield 28, 3) := by decide +kernel
theorem dX7_curtain_55 : decode cX7_curtain 55 = .ok (.iload 5, 2) := by decide +kernel
theorem dX7_curtain_57 : decode cX7_curtain 57 = .ok (.invokevirtual 76, 3) := by decide +kernel
theorem dX7_curtain_60 : decode cX7_curtain 60 = .ok (.ifCond .eq 52, 3) := by decide +kernel
theorem dX7_curtain_63 : decode cX7_curtain 63 = .ok (.aload_n 0, 1) := by decide +kernel
theorem dX7_curtain_64 : decode cX7_curtain 64 = .ok (.getfield 35, 3) := by decide +kernel
theorem dX7_curtain_67 : decode cX7_curtain 67 = .ok (.aload_n 0, 1) := by decide +kernel
theorem dX7_curtain_68 : decode cX7_curtain 68 = .ok (.getfield 28, 3) := by decide +kernel
theorem dX7_curtain_71 : decode cX7_curtain 71 = .ok (.getfield 131, 3) := by decide +kernel
theorem dX7_curtain_74 : decode cX7_curtain 74 = .ok (.iconst 1, 1) := by decide +kernel
theorem dX7_curtain_75 : decode cX7_curtain 75 = .ok (.iload 5, 2) := by decide +kernel
theorem dX7_curtain_77 : decode cX7_curtain 77 = .ok (.ishl, 1) := by decide +kernel
theorem dX7_curtain_78 : decode cX7_curtain 78 = .ok (.ior, 1) := by decide +kernel
theorem dX7_curtain_79 : decode cX7_curtain 79 = .ok (.putfield 131, 3) := by decide +kernel
theorem dX7_curtain_82 : decode cX7_curtain 82 = .ok (.aload_n 0, 1) := by decide +kernel
theorem dX7_curtain_83 : decode cX7_curtain 83 = .ok (.getfield 35, 3) := by decide +kernel
theorem dX7_curtain_86 : decode cX7_curtain 86 = .ok (.iload_n 1, 1) := by decide +kernel
theorem dX7_curtain_87 : decode cX7_curtain 87 = .ok (.invokevirtual 107, 3) := by decide +kernel
theorem dX7_curtain_90 : decode cX7_curtain 90 = .ok (.istore 6, 2) := by decide +kernel
theorem dX7_curtain_92 : decode cX7_curtain 92 = .ok (.iload_n 3, 1) := by decide +kernel
theorem dX7_curtain_93 : decode cX7_curtain 93 = .ok (.ldc 134, 2) := by decide +kernel
theorem dX7_curtain_95 : decode cX7_curtain 95 = .ok (.if_icmp .eq 10, 3) := by decide +kernel
theorem dX7_curtain_98 : decode cX7_curtain 98 = .ok (.iload 6, 2) := by decide +kernel
theorem dX7_curtain_100 : decode cX7_curtain 100 = .ok (.iload 4, 2) := by decide +kernel
theorem dX7_curtain_102 : decode cX7_curtain 102 = .ok (.if_icmp .ge 10, 3) := by decide +kernel
theorem dX7_curtain_105 : decode cX7_curtain 105 = .ok (.iload 5, 2) := by decide +kernel
theorem dX7_curtain_107 : decode cX7_curtain 107 = .ok (.istore_n 3, 1) := by decide +kernel
theorem dX7_curtain_108 : decode cX7_curtain 108 = .ok (.iload 6, 2) := by decide +kernel
theorem dX7_curtain_110 : decode cX7_curtain 110 = .ok (.istore 4, 2) := by decide +kernel
theorem dX7_curtain_112 : decode cX7_curtain 112 = .ok (.iinc 5 1, 3) := by decide +kernel
theorem dX7_curtain_115 : decode cX7_curtain 115 = .ok (.goto (-71), 3) := by decide +kernel
theorem dX7_curtain_118 : decode cX7_curtain 118 = .ok (.iload_n 2, 1) := by decide +kernel
theorem dX7_curtain_119 : decode cX7_curtain 119 = .ok (.ifCond .ne 7, 3) := by decide +kernel
theorem dX7_curtain_122 : decode cX7_curtain 122 = .ok (.iload_n 3, 1) := by decide +kernel
theorem dX7_curtain_123 : decode cX7_curtain 123 = .ok (.goto 5, 3) := by decide +kernel
theorem dX7_curtain_126 : decode cX7_curtain 126 = .ok (.iload 4, 2) := by decide +kernel
theorem dX7_curtain_128 : decode cX7_curtain 128 = .ok (.ireturn, 1) := by decide +kernel
theorem dX7_seat_0 : decode cX7_seat 0 = .ok (.aload_n 0, 1) := by decide +kernel
theorem dX7_seat_1 : decode cX7_seat 1 = .ok (.getfield 28, 3) := by decide +kernel
theorem dX7_seat_4 : decode cX7_seat 4 = .ok (.iload_n 1, 1) := by decide +kernel
theorem dX7_seat_5 : decode cX7_seat 5 = .ok (.invokevirtual 89, 3) := by decide +kernel
theorem dX7_seat_8 : decode cX7_seat 8 = .ok (.ifCond .eq 12, 3) := by decide +kernel
theorem dX7_seat_11 : decode cX7_seat 11 = .ok (.iload_n 2, 1) := by decide +kernel
theorem dX7_seat_12 : decode cX7_seat 12 = .ok (.iconst 0, 1) := by decide +kernel
theorem dX7_seat_13 : decode cX7_seat 13 = .ok (.iconst 1, 1) := by decide +kernel
theorem dX7_seat_14 : decode cX7_seat 14 = .ok (.invokestatic 67, 3) := by decide +kernel
theorem dX7_seat_17 : decode cX7_seat 17 = .ok (.ifCond .ne 6, 3) := by decide +kernel
theorem dX7_seat_20 : decode cX7_seat 20 = .ok (.ldc 75, 2) := by decide +kernel
theorem dX7_seat_22 : decode cX7_seat 22 = .ok (.ireturn, 1) := by decide +kernel
theorem dX7_seat_23 : decode cX7_seat 23 = .ok (.iconst (-1), 1) := by decide +kernel
theorem dX7_seat_24 : decode cX7_seat 24 = .ok (.istore_n 3, 1) := by decide +kernel
theorem dX7_seat_25 : decode cX7_seat 25 = .ok (.iconst (-1), 1) := by decide +kernel
theorem dX7_seat_26 : decode cX7_seat 26 = .ok (.istore 4, 2) := by decide +kernel
theorem dX7_seat_28 : decode cX7_seat 28 = .ok (.aload_n 0, 1) := by decide +kernel
theorem dX7_seat_29 : decode cX7_seat 29 = .ok (.getfield 35, 3) := by decide +kernel
theorem dX7_seat_32 : decode cX7_seat 32 = .ok (.aload_n 0, 1) := by decide +kernel
theorem dX7_seat_33 : decode cX7_seat 33 = .ok (.getfield 28, 3) := by decide +kernel
theorem dX7_seat_36 : decode cX7_seat 36 = .ok (.invokevirtual 182, 3) := by decide +kernel
theorem dX7_seat_39 : decode cX7_seat 39 = .ok (.iconst 0, 1) := by decide +kernel
theorem dX7_seat_40 : decode cX7_seat 40 = .ok (.istore 5, 2) := by decide +kernel
theorem dX7_seat_42 : decode cX7_seat 42 = .ok (.iload 5, 2) := by decide +kernel
theorem dX7_seat_44 : decode cX7_seat 44 = .ok (.bipush 20, 2) := by decide +kernel
theorem dX7_seat_46 : decode cX7_seat 46 = .ok (.if_icmp .ge 69, 3) := by decide +kernel
theorem dX7_seat_49 : decode cX7_seat 49 = .ok (.iload 5, 2) := by decide +kernel
theorem dX7_seat_51 : decode cX7_seat 51 = .ok (.aload_n 0, 1) := by decide +kernel
theorem dX7_seat_52 : decode cX7_seat 52 = .ok (.getfield 28, 3) := by decide +kernel
theorem dX7_seat_55 : decode cX7_seat 55 = .ok (.getfield 95, 3) := by decide +kernel
theorem dX7_seat_58 : decode cX7_seat 58 = .ok (.iload_n 1, 1) := by decide +kernel
theorem dX7_seat_59 : decode cX7_seat 59 = .ok (.iaload, 1) := by decide +kernel
theorem dX7_seat_60 : decode cX7_seat 60 = .ok (.if_icmp .eq 15, 3) := by decide +kernel
theorem dX7_seat_63 : decode cX7_seat 63 = .ok (.aload_n 0, 1) := by decide +kernel
theorem dX7_seat_64 : decode cX7_seat 64 = .ok (.getfield 28, 3) := by decide +kernel
theorem dX7_seat_67 : decode cX7_seat 67 = .ok (.iload 5, 2) := by decide +kernel
theorem dX7_seat_69 : decode cX7_seat 69 = .ok (.invokevirtual 76, 3) := by decide +kernel
theorem dX7_seat_72 : decode cX7_seat 72 = .ok (.ifCond .eq 37, 3) := by decide +kernel
theorem dX7_seat_75 : decode cX7_seat 75 = .ok (.aload_n 0, 1) := by decide +kernel
theorem dX7_seat_76 : decode cX7_seat 76 = .ok (.getfield 35, 3) := by decide +kernel
theorem dX7_seat_79 : decode cX7_seat 79 = .ok (.iload_n 1, 1) := by decide +kernel
theorem dX7_seat_80 : decode cX7_seat 80 = .ok (.iload 5, 2) := by decide +kernel
theorem dX7_seat_82 : decode cX7_seat 82 = .ok (.invokevirtual 124, 3) := by decide +kernel
theorem dX7_seat_85 : decode cX7_seat 85 = .ok (.aload_n 0, 1) := by decide +kernel
theorem dX7_seat_86 : decode cX7_seat 86 = .ok (.getfield 35, 3) := by decide +kernel
theorem dX7_seat_89 : decode cX7_seat 89 = .ok (.iload_n 1, 1) := by decide +kernel
theorem dX7_seat_90 : decode cX7_seat 90 = .ok (.invokevirtual 107, 3) := by decide +kernel
theorem dX7_seat_93 : decode cX7_seat 93 = .ok (.istore 6, 2) := by decide +kernel
theorem dX7_seat_95 : decode cX7_seat 95 = .ok (.iload 6, 2) := by decide +kernel
theorem dX7_seat_97 : decode cX7_seat 97 = .ok (.iload 4, 2) := by decide +kernel
theorem dX7_seat_99 : decode cX7_seat 99 = .ok (.if_icmp .le 10, 3) := by decide +kernel
theorem dX7_seat_102 : decode cX7_seat 102 = .ok (.iload 5, 2) := by decide +kernel
theorem dX7_seat_104 : decode cX7_seat 104 = .ok (.istore_n 3, 1) := by decide +kernel
theorem dX7_seat_105 : decode cX7_seat 105 = .ok (.iload 6, 2) := by decide +kernel
theorem dX7_seat_107 : decode cX7_seat 107 = .ok (.istore 4, 2) := by decide +kernel
theorem dX7_seat_109 : decode cX7_seat 109 = .ok (.iinc 5 1, 3) := by decide +kernel
theorem dX7_seat_112 : decode cX7_seat 112 = .ok (.goto (-70), 3) := by decide +kernel
theorem dX7_seat_115 : decode cX7_seat 115 = .ok (.iload_n 2, 1) := by decide +kernel
theorem dX7_seat_116 : decode cX7_seat 116 = .ok (.ifCond .ne 7, 3) := by decide +kernel
theorem dX7_seat_119 : decode cX7_seat 119 = .ok (.iload_n 3, 1) := by decide +kernel
theorem dX7_seat_120 : decode cX7_seat 120 = .ok (.goto 5, 3) := by decide +kernel
theorem dX7_seat_123 : decode cX7_seat 123 = .ok (.iload 4, 2) := by decide +kernel
theorem dX7_seat_125 : decode cX7_seat 125 = .ok (.ireturn, 1) := by decide +kernel
theorem dX7_behind_0 : decode cX7_behind 0 = .ok (.iload_n 1, 1) := by decide +kernel
theorem dX7_behind_1 : decode cX7_behind 1 = .ok (.iconst 0, 1) := by decide +kernel
theorem dX7_behind_2 : decode cX7_behind 2 = .ok (.bipush 100, 2) := by decide +kernel
theorem dX7_behind_4 : decode cX7_behind 4 = .ok (.invokestatic 67, 3) := by decide +kernel
theorem dX7_behind_7 : decode cX7_behind 7 = .ok (.ifCond .eq 20, 3) := by decide +kernel
theorem dX7_behind_10 : decode cX7_behind 10 = .ok (.iload_n 2, 1) := by decide +kernel
theorem dX7_behind_11 : decode cX7_behind 11 = .ok (.iconst 0, 1) := by decide +kernel
theorem dX7_behind_12 : decode cX7_behind 12 = .ok (.iconst 2, 1) := by decide +kernel
theorem dX7_behind_13 : decode cX7_behind 13 = .ok (.aload_n 0, 1) := by decide +kernel
theorem dX7_behind_14 : decode cX7_behind 14 = .ok (.getfield 28, 3) := by decide +kernel
theorem dX7_behind_17 : decode cX7_behind 17 = .ok (.getfield 81, 3) := by decide +kernel
theorem dX7_behind_20 : decode cX7_behind 20 = .ok (.iadd, 1) := by decide +kernel
theorem dX7_behind_21 : decode cX7_behind 21 = .ok (.invokestatic 67, 3) := by decide +kernel
theorem dX7_behind_24 : decode cX7_behind 24 = .ok (.ifCond .ne 6, 3) := by decide +kernel
theorem dX7_behind_27 : decode cX7_behind 27 = .ok (.ldc 75, 2) := by decide +kernel
theorem dX7_behind_29 : decode cX7_behind 29 = .ok (.ireturn, 1) := by decide +kernel
theorem dX7_behind_30 : decode cX7_behind 30 = .ok (.aload_n 0, 1) := by decide +kernel
theorem dX7_behind_31 : decode cX7_behind 31 = .ok (.getfield 35, 3) := by decide +kernel
theorem dX7_behind_34 : decode cX7_behind 34 = .ok (.aload_n 0, 1) := by decide +kernel
theorem dX7_behind_35 : decode cX7_behind 35 = .ok (.getfield 28, 3) := by decide +kernel
theorem dX7_behind_38 : decode cX7_behind 38 = .ok (.invokevirtual 182, 3) := by decide +kernel
theorem dX7_behind_41 : decode cX7_behind 41 = .ok (.aload_n 0, 1) := by decide +kernel
theorem dX7_behind_42 : decode cX7_behind 42 = .ok (.getfield 35, 3) := by decide +kernel
theorem dX7_behind_45 : decode cX7_behind 45 = .ok (.iload_n 1, 1) := by decide +kernel
theorem dX7_behind_46 : decode cX7_behind 46 = .ok (.invokevirtual 168, 3) := by decide +kernel
theorem dX7_behind_49 : decode cX7_behind 49 = .ok (.iload_n 2, 1) := by decide +kernel
theorem dX7_behind_50 : decode cX7_behind 50 = .ok (.tableswitch 50 0 2 #[26, 34, 42], 26) := by decide +kernel
theorem dX7_behind_76 : decode cX7_behind 76 = .ok (.aload_n 0, 1) := by decide +kernel
theorem dX7_behind_77 : decode cX7_behind 77 = .ok (.getfield 35, 3) := by decide +kernel
theorem dX7_behind_80 : decode cX7_behind 80 = .ok (.getfield 162, 3) := by decide +kernel
theorem dX7_behind_83 : decode cX7_behind 83 = .ok (.ireturn, 1) := by decide +kernel
theorem dX7_behind_84 : decode cX7_behind 84 = .ok (.aload_n 0, 1) := by decide +kernel
theorem dX7_behind_85 : decode cX7_behind 85 = .ok (.getfield 35, 3) := by decide +kernel
theorem dX7_behind_88 : decode cX7_behind 88 = .ok (.getfield 172, 3) := by decide +kernel
theorem dX7_behind_91 : decode cX7_behind 91 = .ok (.ireturn, 1) := by decide +kernel
theorem dX7_behind_92 : decode cX7_behind 92 = .ok (.aload_n 0, 1) := by decide +kernel
theorem dX7_behind_93 : decode cX7_behind 93 = .ok (.getfield 35, 3) := by decide +kernel
theorem dX7_behind_96 : decode cX7_behind 96 = .ok (.getfield 175, 3) := by decide +kernel
theorem dX7_behind_99 : decode cX7_behind 99 = .ok (.ireturn, 1) := by decide +kernel
theorem dX7_behind_100 : decode cX7_behind 100 = .ok (.aload_n 0, 1) := by decide +kernel
theorem dX7_behind_101 : decode cX7_behind 101 = .ok (.getfield 35, 3) := by decide +kernel
theorem dX7_behind_104 : decode cX7_behind 104 = .ok (.getfield 98, 3) := by decide +kernel
theorem dX7_behind_107 : decode cX7_behind 107 = .ok (.iload_n 2, 1) := by decide +kernel
theorem dX7_behind_108 : decode cX7_behind 108 = .ok (.iconst 3, 1) := by decide +kernel
theorem dX7_behind_109 : decode cX7_behind 109 = .ok (.isub, 1) := by decide +kernel
theorem dX7_behind_110 : decode cX7_behind 110 = .ok (.iaload, 1) := by decide +kernel
theorem dX7_behind_111 : decode cX7_behind 111 = .ok (.ireturn, 1) := by decide +kernel
theorem dX7_vanishes_0 : decode cX7_vanishes 0 = .ok (.aload_n 0, 1) := by decide +kernel
theorem dX7_vanishes_1 : decode cX7_vanishes 1 = .ok (.getfield 28, 3) := by decide +kernel
theorem dX7_vanishes_4 : decode cX7_vanishes 4 = .ok (.iload_n 1, 1) := by decide +kernel
theorem dX7_vanishes_5 : decode cX7_vanishes 5 = .ok (.invokevirtual 89, 3) := by decide +kernel
theorem dX7_vanishes_8 : decode cX7_vanishes 8 = .ok (.ifCond .eq 13, 3) := by decide +kernel
theorem dX7_vanishes_11 : decode cX7_vanishes 11 = .ok (.aload_n 0, 1) := by decide +kernel
theorem dX7_vanishes_12 : decode cX7_vanishes 12 = .ok (.iload_n 1, 1) := by decide +kernel
theorem dX7_vanishes_13 : decode cX7_vanishes 13 = .ok (.iconst 0, 1) := by decide +kernel
theorem dX7_vanishes_14 : decode cX7_vanishes 14 = .ok (.iconst 0, 1) := by decide +kernel
theorem dX7_vanishes_15 : decode cX7_vanishes 15 = .ok (.invokevirtual 186, 3) := by decide +kernel
theorem dX7_vanishes_18 : decode cX7_vanishes 18 = .ok (.goto 5, 3) := by decide +kernel
theorem dX7_vanishes_21 : decode cX7_vanishes 21 = .ok (.ldc 75, 2) := by decide +kernel
theorem dX7_vanishes_23 : decode cX7_vanishes 23 = .ok (.ireturn, 1) := by decide +kernel
theorem dX7_bumps_0 : decode cX7_bumps 0 = .ok (.aload_n 0, 1) := by decide +kernel
theorem dX7_bumps_1 : decode cX7_bumps 1 = .ok (.getfield 28, 3) := by decide +kernel
theorem dX7_bumps_4 : decode cX7_bumps 4 = .ok (.iload_n 1, 1) := by decide +kernel
theorem dX7_bumps_5 : decode cX7_bumps 5 = .ok (.invokevirtual 89, 3) := by decide +kernel
theorem dX7_bumps_8 : decode cX7_bumps 8 = .ok (.ifCond .eq 25, 3) := by decide +kernel
theorem dX7_bumps_11 : decode cX7_bumps 11 = .ok (.aload_n 0, 1) := by decide +kernel
theorem dX7_bumps_12 : decode cX7_bumps 12 = .ok (.iload_n 1, 1) := by decide +kernel
theorem dX7_bumps_13 : decode cX7_bumps 13 = .ok (.aload_n 0, 1) := by decide +kernel
theorem dX7_bumps_14 : decode cX7_bumps 14 = .ok (.getfield 28, 3) := by decide +kernel
theorem dX7_bumps_17 : decode cX7_bumps 17 = .ok (.getfield 135, 3) := by decide +kernel
theorem dX7_bumps_20 : decode cX7_bumps 20 = .ok (.iconst 0, 1) := by decide +kernel
theorem dX7_bumps_21 : decode cX7_bumps 21 = .ok (.iaload, 1) := by decide +kernel
theorem dX7_bumps_22 : decode cX7_bumps 22 = .ok (.iconst 1, 1) := by decide +kernel
theorem dX7_bumps_23 : decode cX7_bumps 23 = .ok (.iadd, 1) := by decide +kernel
theorem dX7_bumps_24 : decode cX7_bumps 24 = .ok (.sipush 200, 3) := by decide +kernel
theorem dX7_bumps_27 : decode cX7_bumps 27 = .ok (.invokevirtual 186, 3) := by decide +kernel
theorem dX7_bumps_30 : decode cX7_bumps 30 = .ok (.goto 5, 3) := by decide +kernel
theorem dX7_bumps_33 : decode cX7_bumps 33 = .ok (.ldc 75, 2) := by decide +kernel
theorem dX7_bumps_35 : decode cX7_bumps 35 = .ok (.ireturn, 1) := by decide +kernel
theorem dX7_loud_0 : decode cX7_loud 0 = .ok (.aload_n 0, 1) := by decide +kernel
theorem dX7_loud_1 : decode cX7_loud 1 = .ok (.iload_n 1, 1) := by decide +kernel
theorem dX7_loud_2 : decode cX7_loud 2 = .ok (.iload_n 2, 1) := by decide +kernel
theorem dX7_loud_3 : decode cX7_loud 3 = .ok (.iload_n 3, 1) := by decide +kernel
theorem dX7_loud_4 : decode cX7_loud 4 = .ok (.invokevirtual 190, 3) := by decide +kernel
theorem dX7_loud_7 : decode cX7_loud 7 = .ok (.ifCond .ne 6, 3) := by decide +kernel
theorem dX7_loud_10 : decode cX7_loud 10 = .ok (.ldc 75, 2) := by decide +kernel
theorem dX7_loud_12 : decode cX7_loud 12 = .ok (.ireturn, 1) := by decide +kernel
theorem dX7_loud_13 : decode cX7_loud 13 = .ok (.aload_n 0, 1) := by decide +kernel
theorem dX7_loud_14 : decode cX7_loud 14 = .ok (.iconst 0, 1) := by decide +kernel
theorem dX7_loud_15 : decode cX7_loud 15 = .ok (.iload_n 1, 1) := by decide +kernel
theorem dX7_loud_16 : decode cX7_loud 16 = .ok (.iload_n 2, 1) := by decide +kernel
theorem dX7_loud_17 : decode cX7_loud 17 = .ok (.iload_n 3, 1) := by decide +kernel
theorem dX7_loud_18 : decode cX7_loud 18 = .ok (.invokevirtual 193, 3) := by decide +kernel
theorem dX7_loud_21 : decode cX7_loud 21 = .ok (.ireturn, 1) := by decide +kernel
theorem dX7_loved_0 : decode cX7_loved 0 = .ok (.aload_n 0, 1) := by decide +kernel
theorem dX7_loved_1 : decode cX7_loved 1 = .ok (.iload_n 1, 1) := by decide +kernel
theorem dX7_loved_2 : decode cX7_loved 2 = .ok (.iload_n 2, 1) := by decide +kernel
theorem dX7_loved_3 : decode cX7_loved 3 = .ok (.iload_n 3, 1) := by decide +kernel
theorem dX7_loved_4 : decode cX7_loved 4 = .ok (.invokevirtual 190, 3) := by decide +kernel
theorem dX7_loved_7 : decode cX7_loved 7 = .ok (.ifCond .ne 6, 3) := by decide +kernel
theorem dX7_loved_10 : decode cX7_loved 10 = .ok (.ldc 75, 2) := by decide +kernel
theorem dX7_loved_12 : decode cX7_loved 12 = .ok (.ireturn, 1) := by decide +kernel
theorem dX7_loved_13 : decode cX7_loved 13 = .ok (.aload_n 0, 1) := by decide +kernel
theorem dX7_loved_14 : decode cX7_loved 14 = .ok (.getfield 28, 3) := by decide +kernel
theorem dX7_loved_17 : decode cX7_loved 17 = .ok (.getfield 81, 3) := by decide +kernel
theorem dX7_loved_20 : decode cX7_loved 20 = .ok (.iconst 2, 1) := by decide +kernel
theorem dX7_loved_21 : decode cX7_loved 21 = .ok (.if_icmp .ge 6, 3) := by decide +kernel
theorem dX7_loved_24 : decode cX7_loved 24 = .ok (.ldc 134, 2) := by decide +kernel
theorem dX7_loved_26 : decode cX7_loved 26 = .ok (.ireturn, 1) := by decide +kernel
theorem dX7_loved_27 : decode cX7_loved 27 = .ok (.aload_n 0, 1) := by decide +kernel
theorem dX7_loved_28 : decode cX7_loved 28 = .ok (.iconst 1, 1) := by decide +kernel
theorem dX7_loved_29 : decode cX7_loved 29 = .ok (.iload_n 1, 1) := by decide +kernel
theorem dX7_loved_30 : decode cX7_loved 30 = .ok (.iload_n 2, 1) := by decide +kernel
theorem dX7_loved_31 : decode cX7_loved 31 = .ok (.iload_n 3, 1) := by decide +kernel
theorem dX7_loved_32 : decode cX7_loved 32 = .ok (.invokevirtual 193, 3) := by decide +kernel
theorem dX7_loved_35 : decode cX7_loved 35 = .ok (.ireturn, 1) := by decide +kernel
theorem dX7_becomes_0 : decode cX7_becomes 0 = .ok (.aload_n 0, 1) := by decide +kernel
theorem dX7_becomes_1 : decode cX7_becomes 1 = .ok (.iload_n 1, 1) := by decide +kernel
theorem dX7_becomes_2 : decode cX7_becomes 2 = .ok (.iload_n 2, 1) := by decide +kernel
theorem dX7_becomes_3 : decode cX7_becomes 3 = .ok (.iload_n 3, 1) := by decide +kernel
theorem dX7_becomes_4 : decode cX7_becomes 4 = .ok (.invokevirtual 190, 3) := by decide +kernel
theorem dX7_becomes_7 : decode cX7_becomes 7 = .ok (.ifCond .ne 6, 3) := by decide +kernel
theorem dX7_becomes_10 : decode cX7_becomes 10 = .ok (.ldc 75, 2) := by decide +kernel
theorem dX7_becomes_12 : decode cX7_becomes 12 = .ok (.ireturn, 1) := by decide +kernel
theorem dX7_becomes_13 : decode cX7_becomes 13 = .ok (.aload_n 0, 1) := by decide +kernel
theorem dX7_becomes_14 : decode cX7_becomes 14 = .ok (.iconst 2, 1) := by decide +kernel
theorem dX7_becomes_15 : decode cX7_becomes 15 = .ok (.iload_n 1, 1) := by decide +kernel
theorem dX7_becomes_16 : decode cX7_becomes 16 = .ok (.iload_n 2, 1) := by decide +kernel
theorem dX7_becomes_17 : decode cX7_becomes 17 = .ok (.iload_n 3, 1) := by decide +kernel
theorem dX7_becomes_18 : decode cX7_becomes 18 = .ok (.invokevirtual 193, 3) := by decide +kernel
theorem dX7_becomes_21 : decode cX7_becomes 21 = .ok (.ireturn, 1) := by decide +kernel
theorem dX7_like_0 : decode cX7_like 0 = .ok (.iload_n 1, 1) := by decide +kernel
theorem dX7_like_1 : decode cX7_like 1 = .ok (.iconst 0, 1) := by decide +kernel
theorem dX7_like_2 : decode cX7_like 2 = .ok (.iconst 3, 1) := by decide +kernel
theorem dX7_like_3 : decode cX7_like 3 = .ok (.invokestatic 67, 3) := by decide +kernel
theorem dX7_like_6 : decode cX7_like 6 = .ok (.ifCond .eq 12, 3) := by decide +kernel
theorem dX7_like_9 : decode cX7_like 9 = .ok (.iload_n 2, 1) := by decide +kernel
theorem dX7_like_10 : decode cX7_like 10 = .ok (.iconst 0, 1) := by decide +kernel
theorem dX7_like_11 : decode cX7_like 11 = .ok (.iconst 1, 1) := by decide +kernel
theorem dX7_like_12 : decode cX7_like 12 = .ok (.invokestatic 67, 3) := by decide +kernel
theorem dX7_like_15 : decode cX7_like 15 = .ok (.ifCond .ne 6, 3) := by decide +kernel
theorem dX7_like_18 : decode cX7_like 18 = .ok (.ldc 75, 2) := by decide +kernel
theorem dX7_like_20 : decode cX7_like 20 = .ok (.ireturn, 1) := by decide +kernel
theorem dX7_like_21 : decode cX7_like 21 = .ok (.aload_n 0, 1) := by decide +kernel
theorem dX7_like_22 : decode cX7_like 22 = .ok (.getfield 40, 3) := by decide +kernel
theorem dX7_like_25 : decode cX7_like 25 = .ok (.iload_n 1, 1) := by decide +kernel
theorem dX7_like_26 : decode cX7_like 26 = .ok (.aaload, 1) := by decide +kernel
theorem dX7_like_27 : decode cX7_like 27 = .ok (.getfield 197, 3) := by decide +kernel
theorem dX7_like_30 : decode cX7_like 30 = .ok (.iconst (-1), 1) := by decide +kernel
theorem dX7_like_31 : decode cX7_like 31 = .ok (.if_icmp .ne 6, 3) := by decide +kernel
theorem dX7_like_34 : decode cX7_like 34 = .ok (.ldc 200, 2) := by decide +kernel
theorem dX7_like_36 : decode cX7_like 36 = .ok (.ireturn, 1) := by decide +kernel
theorem dX7_like_37 : decode cX7_like 37 = .ok (.aload_n 0, 1) := by decide +kernel
theorem dX7_like_38 : decode cX7_like 38 = .ok (.getfield 28, 3) := by decide +kernel
theorem dX7_like_41 : decode cX7_like 41 = .ok (.getfield 81, 3) := by decide +kernel
theorem dX7_like_44 : decode cX7_like 44 = .ok (.ifCond .ne 6, 3) := by decide +kernel
theorem dX7_like_47 : decode cX7_like 47 = .ok (.ldc 134, 2) := by decide +kernel
theorem dX7_like_49 : decode cX7_like 49 = .ok (.ireturn, 1) := by decide +kernel
theorem dX7_like_50 : decode cX7_like 50 = .ok (.aload_n 0, 1) := by decide +kernel
theorem dX7_like_51 : decode cX7_like 51 = .ok (.aload_n 0, 1) := by decide +kernel
theorem dX7_like_52 : decode cX7_like 52 = .ok (.getfield 40, 3) := by decide +kernel
theorem dX7_like_55 : decode cX7_like 55 = .ok (.iload_n 1, 1) := by decide +kernel
theorem dX7_like_56 : decode cX7_like 56 = .ok (.aaload, 1) := by decide +kernel
theorem dX7_like_57 : decode cX7_like 57 = .ok (.invokevirtual 201, 3) := by decide +kernel
theorem dX7_like_60 : decode cX7_like 60 = .ok (.iconst 0, 1) := by decide +kernel
theorem dX7_like_61 : decode cX7_like 61 = .ok (.istore_n 3, 1) := by decide +kernel
theorem dX7_like_62 : decode cX7_like 62 = .ok (.iconst 1, 1) := by decide +kernel
theorem dX7_like_63 : decode cX7_like 63 = .ok (.istore 4, 2) := by decide +kernel
theorem dX7_like_65 : decode cX7_like 65 = .ok (.iload 4, 2) := by decide +kernel
theorem dX7_like_67 : decode cX7_like 67 = .ok (.aload_n 0, 1) := by decide +kernel
theorem dX7_like_68 : decode cX7_like 68 = .ok (.getfield 28, 3) := by decide +kernel
theorem dX7_like_71 : decode cX7_like 71 = .ok (.getfield 81, 3) := by decide +kernel
theorem dX7_like_74 : decode cX7_like 74 = .ok (.if_icmp .ge 28, 3) := by decide +kernel
theorem dX7_like_77 : decode cX7_like 77 = .ok (.aload_n 0, 1) := by decide +kernel
theorem dX7_like_78 : decode cX7_like 78 = .ok (.getfield 54, 3) := by decide +kernel
theorem dX7_like_81 : decode cX7_like 81 = .ok (.iload 4, 2) := by decide +kernel
theorem dX7_like_83 : decode cX7_like 83 = .ok (.iaload, 1) := by decide +kernel
theorem dX7_like_84 : decode cX7_like 84 = .ok (.aload_n 0, 1) := by decide +kernel
theorem dX7_like_85 : decode cX7_like 85 = .ok (.getfield 54, 3) := by decide +kernel
theorem dX7_like_88 : decode cX7_like 88 = .ok (.iload_n 3, 1) := by decide +kernel
theorem dX7_like_89 : decode cX7_like 89 = .ok (.iaload, 1) := by decide +kernel
theorem dX7_like_90 : decode cX7_like 90 = .ok (.if_icmp .ge 6, 3) := by decide +kernel
theorem dX7_like_93 : decode cX7_like 93 = .ok (.iload 4, 2) := by decide +kernel
theorem dX7_like_95 : decode cX7_like 95 = .ok (.istore_n 3, 1) := by decide +kernel
theorem dX7_like_96 : decode cX7_like 96 = .ok (.iinc 4 1, 3) := by decide +kernel
theorem dX7_like_99 : decode cX7_like 99 = .ok (.goto (-34), 3) := by decide +kernel
theorem dX7_like_102 : decode cX7_like 102 = .ok (.iload_n 2, 1) := by decide +kernel
theorem dX7_like_103 : decode cX7_like 103 = .ok (.ifCond .ne 7, 3) := by decide +kernel
theorem dX7_like_106 : decode cX7_like 106 = .ok (.iload_n 3, 1) := by decide +kernel
theorem dX7_like_107 : decode cX7_like 107 = .ok (.goto 9, 3) := by decide +kernel
theorem dX7_like_110 : decode cX7_like 110 = .ok (.aload_n 0, 1) := by decide +kernel
theorem dX7_like_111 : decode cX7_like 111 = .ok (.getfield 54, 3) := by decide +kernel
theorem dX7_like_114 : decode cX7_like 114 = .ok (.iload_n 3, 1) := by decide +kernel
theorem dX7_like_115 : decode cX7_like 115 = .ok (.iaload, 1) := by decide +kernel
theorem dX7_like_116 : decode cX7_like 116 = .ok (.ireturn, 1) := by decide +kernel
theorem dX7_fee_0 : decode cX7_fee 0 = .ok (.aload_n 0, 1) := by decide +kernel
theorem dX7_fee_1 : decode cX7_fee 1 = .ok (.getfield 28, 3) := by decide +kernel
theorem dX7_fee_4 : decode cX7_fee 4 = .ok (.getfield 205, 3) := by decide +kernel
theorem dX7_fee_7 : decode cX7_fee 7 = .ok (.iconst 1, 1) := by decide +kernel
theorem dX7_fee_8 : decode cX7_fee 8 = .ok (.iaload, 1) := by decide +kernel
theorem dX7_fee_9 : decode cX7_fee 9 = .ok (.istore_n 1, 1) := by decide +kernel
theorem dX7_fee_10 : decode cX7_fee 10 = .ok (.iload_n 1, 1) := by decide +kernel
theorem dX7_fee_11 : decode cX7_fee 11 = .ok (.ifCond .ge 13, 3) := by decide +kernel
theorem dX7_fee_14 : decode cX7_fee 14 = .ok (.aload_n 0, 1) := by decide +kernel
theorem dX7_fee_15 : decode cX7_fee 15 = .ok (.getfield 28, 3) := by decide +kernel
theorem dX7_fee_18 : decode cX7_fee 18 = .ok (.getfield 162, 3) := by decide +kernel
theorem dX7_fee_21 : decode cX7_fee 21 = .ok (.goto 26, 3) := by decide +kernel
theorem dX7_fee_24 : decode cX7_fee 24 = .ok (.aload_n 0, 1) := by decide +kernel
theorem dX7_fee_25 : decode cX7_fee 25 = .ok (.getfield 10, 3) := by decide +kernel
theorem dX7_fee_28 : decode cX7_fee 28 = .ok (.iload_n 1, 1) := by decide +kernel
theorem dX7_fee_29 : decode cX7_fee 29 = .ok (.aload_n 0, 1) := by decide +kernel
theorem dX7_fee_30 : decode cX7_fee 30 = .ok (.getfield 28, 3) := by decide +kernel
theorem dX7_fee_33 : decode cX7_fee 33 = .ok (.getfield 162, 3) := by decide +kernel
theorem dX7_fee_36 : decode cX7_fee 36 = .ok (.aload_n 0, 1) := by decide +kernel
theorem dX7_fee_37 : decode cX7_fee 37 = .ok (.getfield 28, 3) := by decide +kernel
theorem dX7_fee_40 : decode cX7_fee 40 = .ok (.getfield 172, 3) := by decide +kernel
theorem dX7_fee_43 : decode cX7_fee 43 = .ok (.iconst 0, 1) := by decide +kernel
theorem dX7_fee_44 : decode cX7_fee 44 = .ok (.invokevirtual 208, 3) := by decide +kernel
theorem dX7_fee_47 : decode cX7_fee 47 = .ok (.ireturn, 1) := by decide +kernel
theorem dX7_fine_0 : decode cX7_fine 0 = .ok (.aload_n 0, 1) := by decide +kernel
theorem dX7_fine_1 : decode cX7_fine 1 = .ok (.getfield 28, 3) := by decide +kernel
theorem dX7_fine_4 : decode cX7_fine 4 = .ok (.iload_n 1, 1) := by decide +kernel
theorem dX7_fine_5 : decode cX7_fine 5 = .ok (.invokevirtual 89, 3) := by decide +kernel
theorem dX7_fine_8 : decode cX7_fine 8 = .ok (.ifCond .ne 6, 3) := by decide +kernel
theorem dX7_fine_11 : decode cX7_fine 11 = .ok (.ldc 75, 2) := by decide +kernel
theorem dX7_fine_13 : decode cX7_fine 13 = .ok (.ireturn, 1) := by decide +kernel
theorem dX7_fine_14 : decode cX7_fine 14 = .ok (.aload_n 0, 1) := by decide +kernel
theorem dX7_fine_15 : decode cX7_fine 15 = .ok (.getfield 28, 3) := by decide +kernel
theorem dX7_fine_18 : decode cX7_fine 18 = .ok (.getfield 205, 3) := by decide +kernel
theorem dX7_fine_21 : decode cX7_fine 21 = .ok (.iconst 2, 1) := by decide +kernel
theorem dX7_fine_22 : decode cX7_fine 22 = .ok (.iaload, 1) := by decide +kernel
theorem dX7_fine_23 : decode cX7_fine 23 = .ok (.istore_n 2, 1) := by decide +kernel
theorem dX7_fine_24 : decode cX7_fine 24 = .ok (.iload_n 2, 1) := by decide +kernel
theorem dX7_fine_25 : decode cX7_fine 25 = .ok (.ifCond .ge 15, 3) := by decide +kernel
theorem dX7_fine_28 : decode cX7_fine 28 = .ok (.aload_n 0, 1) := by decide +kernel
theorem dX7_fine_29 : decode cX7_fine 29 = .ok (.getfield 28, 3) := by decide +kernel
theorem dX7_fine_32 : decode cX7_fine 32 = .ok (.getfield 101, 3) := by decide +kernel
theorem dX7_fine_35 : decode cX7_fine 35 = .ok (.iload_n 1, 1) := by decide +kernel
theorem dX7_fine_36 : decode cX7_fine 36 = .ok (.iaload, 1) := by decide +kernel
theorem dX7_fine_37 : decode cX7_fine 37 = .ok (.goto 30, 3) := by decide +kernel
theorem dX7_fine_40 : decode cX7_fine 40 = .ok (.aload_n 0, 1) := by decide +kernel
theorem dX7_fine_41 : decode cX7_fine 41 = .ok (.getfield 10, 3) := by decide +kernel
theorem dX7_fine_44 : decode cX7_fine 44 = .ok (.iload_n 2, 1) := by decide +kernel
theorem dX7_fine_45 : decode cX7_fine 45 = .ok (.aload_n 0, 1) := by decide +kernel
theorem dX7_fine_46 : decode cX7_fine 46 = .ok (.getfield 28, 3) := by decide +kernel
theorem dX7_fine_49 : decode cX7_fine 49 = .ok (.getfield 98, 3) := by decide +kernel
theorem dX7_fine_52 : decode cX7_fine 52 = .ok (.iload_n 1, 1) := by decide +kernel
theorem dX7_fine_53 : decode cX7_fine 53 = .ok (.iaload, 1) := by decide +kernel
theorem dX7_fine_54 : decode cX7_fine 54 = .ok (.aload_n 0, 1) := by decide +kernel
theorem dX7_fine_55 : decode cX7_fine 55 = .ok (.getfield 28, 3) := by decide +kernel
theorem dX7_fine_58 : decode cX7_fine 58 = .ok (.getfield 95, 3) := by decide +kernel
theorem dX7_fine_61 : decode cX7_fine 61 = .ok (.iload_n 1, 1) := by decide +kernel
theorem dX7_fine_62 : decode cX7_fine 62 = .ok (.iaload, 1) := by decide +kernel
theorem dX7_fine_63 : decode cX7_fine 63 = .ok (.iconst 0, 1) := by decide +kernel
theorem dX7_fine_64 : decode cX7_fine 64 = .ok (.invokevirtual 208, 3) := by decide +kernel
theorem dX7_fine_67 : decode cX7_fine 67 = .ok (.ireturn, 1) := by decide +kernel
theorem dX7_feed_0 : decode cX7_feed 0 = .ok (.aload_n 0, 1) := by decide +kernel
theorem dX7_feed_1 : decode cX7_feed 1 = .ok (.getfield 19, 3) := by decide +kernel
theorem dX7_feed_4 : decode cX7_feed 4 = .ok (.getfield 211, 3) := by decide +kernel
theorem dX7_feed_7 : decode cX7_feed 7 = .ok (.bipush 12, 2) := by decide +kernel
theorem dX7_feed_9 : decode cX7_feed 9 = .ok (.iadd, 1) := by decide +kernel
theorem dX7_feed_10 : decode cX7_feed 10 = .ok (.bipush 96, 2) := by decide +kernel
theorem dX7_feed_12 : decode cX7_feed 12 = .ok (.if_icmp .le 6, 3) := by decide +kernel
theorem dX7_feed_15 : decode cX7_feed 15 = .ok (.ldc 84, 2) := by decide +kernel
theorem dX7_feed_17 : decode cX7_feed 17 = .ok (.ireturn, 1) := by decide +kernel
theorem dX7_feed_18 : decode cX7_feed 18 = .ok (.aload_n 0, 1) := by decide +kernel
theorem dX7_feed_19 : decode cX7_feed 19 = .ok (.getfield 19, 3) := by decide +kernel
theorem dX7_feed_22 : decode cX7_feed 22 = .ok (.iload_n 1, 1) := by decide +kernel
theorem dX7_feed_23 : decode cX7_feed 23 = .ok (.invokevirtual 214, 3) := by decide +kernel
theorem dX7_feed_26 : decode cX7_feed 26 = .ok (.aload_n 0, 1) := by decide +kernel
theorem dX7_feed_27 : decode cX7_feed 27 = .ok (.getfield 19, 3) := by decide +kernel
theorem dX7_feed_30 : decode cX7_feed 30 = .ok (.iload_n 2, 1) := by decide +kernel
theorem dX7_feed_31 : decode cX7_feed 31 = .ok (.invokevirtual 214, 3) := by decide +kernel
theorem dX7_feed_34 : decode cX7_feed 34 = .ok (.aload_n 0, 1) := by decide +kernel
theorem dX7_feed_35 : decode cX7_feed 35 = .ok (.getfield 19, 3) := by decide +kernel
theorem dX7_feed_38 : decode cX7_feed 38 = .ok (.iload_n 3, 1) := by decide +kernel
theorem dX7_feed_39 : decode cX7_feed 39 = .ok (.invokevirtual 214, 3) := by decide +kernel
theorem dX7_feed_42 : decode cX7_feed 42 = .ok (.aload_n 0, 1) := by decide +kernel
theorem dX7_feed_43 : decode cX7_feed 43 = .ok (.getfield 19, 3) := by decide +kernel
theorem dX7_feed_46 : decode cX7_feed 46 = .ok (.getfield 211, 3) := by decide +kernel
theorem dX7_feed_49 : decode cX7_feed 49 = .ok (.ireturn, 1) := by decide +kernel
theorem dX7_trim_0 : decode cX7_trim 0 = .ok (.iload_n 1, 1) := by decide +kernel
theorem dX7_trim_1 : decode cX7_trim 1 = .ok (.iconst 0, 1) := by decide +kernel
theorem dX7_trim_2 : decode cX7_trim 2 = .ok (.aload_n 0, 1) := by decide +kernel
theorem dX7_trim_3 : decode cX7_trim 3 = .ok (.getfield 19, 3) := by decide +kernel
theorem dX7_trim_6 : decode cX7_trim 6 = .ok (.getfield 211, 3) := by decide +kernel
theorem dX7_trim_9 : decode cX7_trim 9 = .ok (.invokestatic 67, 3) := by decide +kernel
theorem dX7_trim_12 : decode cX7_trim 12 = .ok (.ifCond .ne 6, 3) := by decide +kernel
theorem dX7_trim_15 : decode cX7_trim 15 = .ok (.ldc 75, 2) := by decide +kernel
theorem dX7_trim_17 : decode cX7_trim 17 = .ok (.ireturn, 1) := by decide +kernel
theorem dX7_trim_18 : decode cX7_trim 18 = .ok (.aload_n 0, 1) := by decide +kernel
theorem dX7_trim_19 : decode cX7_trim 19 = .ok (.getfield 19, 3) := by decide +kernel
theorem dX7_trim_22 : decode cX7_trim 22 = .ok (.iload_n 1, 1) := by decide +kernel
theorem dX7_trim_23 : decode cX7_trim 23 = .ok (.putfield 211, 3) := by decide +kernel
theorem dX7_trim_26 : decode cX7_trim 26 = .ok (.iload_n 1, 1) := by decide +kernel
theorem dX7_trim_27 : decode cX7_trim 27 = .ok (.ireturn, 1) := by decide +kernel
theorem dX7_text_0 : decode cX7_text 0 = .ok (.aload_n 0, 1) := by decide +kernel
theorem dX7_text_1 : decode cX7_text 1 = .ok (.getfield 28, 3) := by decide +kernel
theorem dX7_text_4 : decode cX7_text 4 = .ok (.getfield 217, 3) := by decide +kernel
theorem dX7_text_7 : decode cX7_text 7 = .ok (.bipush 14, 2) := by decide +kernel
theorem dX7_text_9 : decode cX7_text 9 = .ok (.invokestatic 138, 3) := by decide +kernel
theorem dX7_text_12 : decode cX7_text 12 = .ok (.istore_n 1, 1) := by decide +kernel
theorem dX7_text_13 : decode cX7_text 13 = .ok (.aload_n 0, 1) := by decide +kernel
theorem dX7_text_14 : decode cX7_text 14 = .ok (.getfield 10, 3) := by decide +kernel
theorem dX7_text_17 : decode cX7_text 17 = .ok (.getfield 220, 3) := by decide +kernel
theorem dX7_text_20 : decode cX7_text 20 = .ok (.iload_n 1, 1) := by decide +kernel
theorem dX7_text_21 : decode cX7_text 21 = .ok (.aaload, 1) := by decide +kernel
theorem dX7_text_22 : decode cX7_text 22 = .ok (.astore_n 2, 1) := by decide +kernel
theorem dX7_text_23 : decode cX7_text 23 = .ok (.aload_n 0, 1) := by decide +kernel
theorem dX7_text_24 : decode cX7_text 24 = .ok (.getfield 19, 3) := by decide +kernel
theorem dX7_text_27 : decode cX7_text 27 = .ok (.aload_n 2, 1) := by decide +kernel
theorem dX7_text_28 : decode cX7_text 28 = .ok (.invokevirtual 223, 3) := by decide +kernel
theorem dX7_text_31 : decode cX7_text 31 = .ok (.istore_n 3, 1) := by decide +kernel
theorem dX7_text_32 : decode cX7_text 32 = .ok (.iload_n 3, 1) := by decide +kernel
theorem dX7_text_33 : decode cX7_text 33 = .ok (.ifCond .lt 8, 3) := by decide +kernel
theorem dX7_text_36 : decode cX7_text 36 = .ok (.bipush (-100), 2) := by decide +kernel
theorem dX7_text_38 : decode cX7_text 38 = .ok (.iload_n 3, 1) := by decide +kernel
theorem dX7_text_39 : decode cX7_text 39 = .ok (.isub, 1) := by decide +kernel
theorem dX7_text_40 : decode cX7_text 40 = .ok (.ireturn, 1) := by decide +kernel
theorem dX7_text_41 : decode cX7_text 41 = .ok (.iload_n 1, 1) := by decide +kernel
theorem dX7_text_42 : decode cX7_text 42 = .ok (.bipush 14, 2) := by decide +kernel
theorem dX7_text_44 : decode cX7_text 44 = .ok (.if_icmp .lt 6, 3) := by decide +kernel
theorem dX7_text_47 : decode cX7_text 47 = .ok (.ldc 84, 2) := by decide +kernel
theorem dX7_text_49 : decode cX7_text 49 = .ok (.ireturn, 1) := by decide +kernel
theorem dX7_text_50 : decode cX7_text 50 = .ok (.aload_n 0, 1) := by decide +kernel
theorem dX7_text_51 : decode cX7_text 51 = .ok (.getfield 28, 3) := by decide +kernel
theorem dX7_text_54 : decode cX7_text 54 = .ok (.getfield 205, 3) := by decide +kernel
theorem dX7_text_57 : decode cX7_text 57 = .ok (.aload_n 2, 1) := by decide +kernel
theorem dX7_text_58 : decode cX7_text 58 = .ok (.getfield 227, 3) := by decide +kernel
theorem dX7_text_61 : decode cX7_text 61 = .ok (.iload_n 1, 1) := by decide +kernel
theorem dX7_text_62 : decode cX7_text 62 = .ok (.iastore, 1) := by decide +kernel
theorem dX7_text_63 : decode cX7_text 63 = .ok (.aload_n 0, 1) := by decide +kernel
theorem dX7_text_64 : decode cX7_text 64 = .ok (.getfield 28, 3) := by decide +kernel
theorem dX7_text_67 : decode cX7_text 67 = .ok (.iload_n 1, 1) := by decide +kernel
theorem dX7_text_68 : decode cX7_text 68 = .ok (.iconst 1, 1) := by decide +kernel
theorem dX7_text_69 : decode cX7_text 69 = .ok (.iadd, 1) := by decide +kernel
theorem dX7_text_70 : decode cX7_text 70 = .ok (.putfield 217, 3) := by decide +kernel
theorem dX7_text_73 : decode cX7_text 73 = .ok (.iload_n 1, 1) := by decide +kernel
theorem dX7_text_74 : decode cX7_text 74 = .ok (.ireturn, 1) := by decide +kernel
theorem dX7_textTold_0 : decode cX7_textTold 0 = .ok (.iload_n 1, 1) := by decide +kernel
theorem dX7_textTold_1 : decode cX7_textTold 1 = .ok (.iconst 0, 1) := by decide +kernel
theorem dX7_textTold_2 : decode cX7_textTold 2 = .ok (.aload_n 0, 1) := by decide +kernel
theorem dX7_textTold_3 : decode cX7_textTold 3 = .ok (.getfield 28, 3) := by decide +kernel
theorem dX7_textTold_6 : decode cX7_textTold 6 = .ok (.getfield 217, 3) := by decide +kernel
theorem dX7_textTold_9 : decode cX7_textTold 9 = .ok (.iconst 1, 1) := by decide +kernel
theorem dX7_textTold_10 : decode cX7_textTold 10 = .ok (.isub, 1) := by decide +kernel
theorem dX7_textTold_11 : decode cX7_textTold 11 = .ok (.invokestatic 67, 3) := by decide +kernel
theorem dX7_textTold_14 : decode cX7_textTold 14 = .ok (.ifCond .eq 12, 3) := by decide +kernel
theorem dX7_textTold_17 : decode cX7_textTold 17 = .ok (.iload_n 2, 1) := by decide +kernel
theorem dX7_textTold_18 : decode cX7_textTold 18 = .ok (.iconst 0, 1) := by decide +kernel
theorem dX7_textTold_19 : decode cX7_textTold 19 = .ok (.iconst 1, 1) := by decide +kernel
theorem dX7_textTold_20 : decode cX7_textTold 20 = .ok (.invokestatic 67, 3) := by decide +kernel
theorem dX7_textTold_23 : decode cX7_textTold 23 = .ok (.ifCond .ne 6, 3) := by decide +kernel
theorem dX7_textTold_26 : decode cX7_textTold 26 = .ok (.ldc 75, 2) := by decide +kernel
theorem dX7_textTold_28 : decode cX7_textTold 28 = .ok (.ireturn, 1) := by decide +kernel
theorem dX7_textTold_29 : decode cX7_textTold 29 = .ok (.iload_n 2, 1) := by decide +kernel
theorem dX7_textTold_30 : decode cX7_textTold 30 = .ok (.ifCond .ne 18, 3) := by decide +kernel
theorem dX7_textTold_33 : decode cX7_textTold 33 = .ok (.aload_n 0, 1) := by decide +kernel
theorem dX7_textTold_34 : decode cX7_textTold 34 = .ok (.getfield 10, 3) := by decide +kernel
theorem dX7_textTold_37 : decode cX7_textTold 37 = .ok (.getfield 220, 3) := by decide +kernel
theorem dX7_textTold_40 : decode cX7_textTold 40 = .ok (.iload_n 1, 1) := by decide +kernel
theorem dX7_textTold_41 : decode cX7_textTold 41 = .ok (.aaload, 1) := by decide +kernel
theorem dX7_textTold_42 : decode cX7_textTold 42 = .ok (.getfield 227, 3) := by decide +kernel
theorem dX7_textTold_45 : decode cX7_textTold 45 = .ok (.goto 15, 3) := by decide +kernel
theorem dX7_textTold_48 : decode cX7_textTold 48 = .ok (.aload_n 0, 1) := by decide +kernel
theorem dX7_textTold_49 : decode cX7_textTold 49 = .ok (.getfield 10, 3) := by decide +kernel
theorem dX7_textTold_52 : decode cX7_textTold 52 = .ok (.getfield 220, 3) := by decide +kernel
theorem dX7_textTold_55 : decode cX7_textTold 55 = .ok (.iload_n 1, 1) := by decide +kernel
theorem dX7_textTold_56 : decode cX7_textTold 56 = .ok (.aaload, 1) := by decide +kernel
theorem dX7_textTold_57 : decode cX7_textTold 57 = .ok (.getfield 232, 3) := by decide +kernel
theorem dX7_textTold_60 : decode cX7_textTold 60 = .ok (.ireturn, 1) := by decide +kernel
theorem dX7_why_0 : decode cX7_why 0 = .ok (.iload_n 1, 1) := by decide +kernel
theorem dX7_why_1 : decode cX7_why 1 = .ok (.iconst 0, 1) := by decide +kernel
theorem dX7_why_2 : decode cX7_why 2 = .ok (.iconst 2, 1) := by decide +kernel
theorem dX7_why_3 : decode cX7_why 3 = .ok (.invokestatic 67, 3) := by decide +kernel
theorem dX7_why_6 : decode cX7_why 6 = .ok (.ifCond .ne 6, 3) := by decide +kernel
theorem dX7_why_9 : decode cX7_why 9 = .ok (.ldc 75, 2) := by decide +kernel
theorem dX7_why_11 : decode cX7_why 11 = .ok (.ireturn, 1) := by decide +kernel
theorem dX7_why_12 : decode cX7_why 12 = .ok (.aload_n 0, 1) := by decide +kernel
theorem dX7_why_13 : decode cX7_why 13 = .ok (.getfield 28, 3) := by decide +kernel
theorem dX7_why_16 : decode cX7_why 16 = .ok (.getfield 205, 3) := by decide +kernel
theorem dX7_why_19 : decode cX7_why 19 = .ok (.iload_n 1, 1) := by decide +kernel
theorem dX7_why_20 : decode cX7_why 20 = .ok (.iaload, 1) := by decide +kernel
theorem dX7_why_21 : decode cX7_why 21 = .ok (.ifCond .lt 15, 3) := by decide +kernel
theorem dX7_why_24 : decode cX7_why 24 = .ok (.aload_n 0, 1) := by decide +kernel
theorem dX7_why_25 : decode cX7_why 25 = .ok (.getfield 28, 3) := by decide +kernel
theorem dX7_why_28 : decode cX7_why 28 = .ok (.getfield 205, 3) := by decide +kernel
theorem dX7_why_31 : decode cX7_why 31 = .ok (.iload_n 1, 1) := by decide +kernel
theorem dX7_why_32 : decode cX7_why 32 = .ok (.iaload, 1) := by decide +kernel
theorem dX7_why_33 : decode cX7_why 33 = .ok (.goto 5, 3) := by decide +kernel
theorem dX7_why_36 : decode cX7_why 36 = .ok (.ldc 134, 2) := by decide +kernel
theorem dX7_why_38 : decode cX7_why 38 = .ok (.ireturn, 1) := by decide +kernel
theorem dX7_sheet_0 : decode cX7_sheet 0 = .ok (.iload_n 1, 1) := by decide +kernel
theorem dX7_sheet_1 : decode cX7_sheet 1 = .ok (.iconst 0, 1) := by decide +kernel
theorem dX7_sheet_2 : decode cX7_sheet 2 = .ok (.iconst 3, 1) := by decide +kernel
theorem dX7_sheet_3 : decode cX7_sheet 3 = .ok (.invokestatic 67, 3) := by decide +kernel
theorem dX7_sheet_6 : decode cX7_sheet 6 = .ok (.ifCond .eq 12, 3) := by decide +kernel
theorem dX7_sheet_9 : decode cX7_sheet 9 = .ok (.iload_n 2, 1) := by decide +kernel
theorem dX7_sheet_10 : decode cX7_sheet 10 = .ok (.iconst (-1), 1) := by decide +kernel
theorem dX7_sheet_11 : decode cX7_sheet 11 = .ok (.iconst 1, 1) := by decide +kernel
theorem dX7_sheet_12 : decode cX7_sheet 12 = .ok (.invokestatic 67, 3) := by decide +kernel
theorem dX7_sheet_15 : decode cX7_sheet 15 = .ok (.ifCond .ne 6, 3) := by decide +kernel
theorem dX7_sheet_18 : decode cX7_sheet 18 = .ok (.ldc 75, 2) := by decide +kernel
theorem dX7_sheet_20 : decode cX7_sheet 20 = .ok (.ireturn, 1) := by decide +kernel
theorem dX7_sheet_21 : decode cX7_sheet 21 = .ok (.iload_n 2, 1) := by decide +kernel
theorem dX7_sheet_22 : decode cX7_sheet 22 = .ok (.iconst (-1), 1) := by decide +kernel
theorem dX7_sheet_23 : decode cX7_sheet 23 = .ok (.if_icmp .ne 7, 3) := by decide +kernel
theorem dX7_sheet_26 : decode cX7_sheet 26 = .ok (.iconst 0, 1) := by decide +kernel
theorem dX7_sheet_27 : decode cX7_sheet 27 = .ok (.goto 4, 3) := by decide +kernel
theorem dX7_sheet_30 : decode cX7_sheet 30 = .ok (.iload_n 3, 1) := by decide +kernel
theorem dX7_sheet_31 : decode cX7_sheet 31 = .ok (.istore 4, 2) := by decide +kernel
theorem dX7_sheet_33 : decode cX7_sheet 33 = .ok (.iload 4, 2) := by decide +kernel
theorem dX7_sheet_35 : decode cX7_sheet 35 = .ok (.bipush 24, 2) := by decide +kernel
theorem dX7_sheet_37 : decode cX7_sheet 37 = .ok (.if_icmp .le 6, 3) := by decide +kernel
theorem dX7_sheet_40 : decode cX7_sheet 40 = .ok (.ldc 75, 2) := by decide +kernel
theorem dX7_sheet_42 : decode cX7_sheet 42 = .ok (.ireturn, 1) := by decide +kernel
theorem dX7_sheet_43 : decode cX7_sheet 43 = .ok (.iload 4, 2) := by decide +kernel
theorem dX7_sheet_45 : decode cX7_sheet 45 = .ok (.ifCond .ge 6, 3) := by decide +kernel
theorem dX7_sheet_48 : decode cX7_sheet 48 = .ok (.ldc 235, 2) := by decide +kernel
theorem dX7_sheet_50 : decode cX7_sheet 50 = .ok (.ireturn, 1) := by decide +kernel
theorem dX7_sheet_51 : decode cX7_sheet 51 = .ok (.aload_n 0, 1) := by decide +kernel
theorem dX7_sheet_52 : decode cX7_sheet 52 = .ok (.getfield 40, 3) := by decide +kernel
theorem dX7_sheet_55 : decode cX7_sheet 55 = .ok (.iload_n 1, 1) := by decide +kernel
theorem dX7_sheet_56 : decode cX7_sheet 56 = .ok (.aaload, 1) := by decide +kernel
theorem dX7_sheet_57 : decode cX7_sheet 57 = .ok (.iload_n 2, 1) := by decide +kernel
theorem dX7_sheet_58 : decode cX7_sheet 58 = .ok (.iload 4, 2) := by decide +kernel
theorem dX7_sheet_60 : decode cX7_sheet 60 = .ok (.invokevirtual 236, 3) := by decide +kernel
theorem dX7_sheet_63 : decode cX7_sheet 63 = .ok (.iload 4, 2) := by decide +kernel
theorem dX7_sheet_65 : decode cX7_sheet 65 = .ok (.ireturn, 1) := by decide +kernel
theorem dX7_mark_0 : decode cX7_mark 0 = .ok (.aload_n 0, 1) := by decide +kernel
theorem dX7_mark_1 : decode cX7_mark 1 = .ok (.iload_n 1, 1) := by decide +kernel
theorem dX7_mark_2 : decode cX7_mark 2 = .ok (.invokevirtual 239, 3) := by decide +kernel
theorem dX7_mark_5 : decode cX7_mark 5 = .ok (.istore 4, 2) := by decide +kernel
theorem dX7_mark_7 : decode cX7_mark 7 = .ok (.iload 4, 2) := by decide +kernel
theorem dX7_mark_9 : decode cX7_mark 9 = .ok (.ifCond .eq 6, 3) := by decide +kernel
theorem dX7_mark_12 : decode cX7_mark 12 = .ok (.iload 4, 2) := by decide +kernel
theorem dX7_mark_14 : decode cX7_mark 14 = .ok (.ireturn, 1) := by decide +kernel
theorem dX7_mark_15 : decode cX7_mark 15 = .ok (.aload_n 0, 1) := by decide +kernel
theorem dX7_mark_16 : decode cX7_mark 16 = .ok (.getfield 40, 3) := by decide +kernel
theorem dX7_mark_19 : decode cX7_mark 19 = .ok (.iload_n 1, 1) := by decide +kernel
theorem dX7_mark_20 : decode cX7_mark 20 = .ok (.aaload, 1) := by decide +kernel
theorem dX7_mark_21 : decode cX7_mark 21 = .ok (.astore 5, 2) := by decide +kernel
theorem dX7_mark_23 : decode cX7_mark 23 = .ok (.iload_n 2, 1) := by decide +kernel
theorem dX7_mark_24 : decode cX7_mark 24 = .ok (.iconst 0, 1) := by decide +kernel
theorem dX7_mark_25 : decode cX7_mark 25 = .ok (.aload 5, 2) := by decide +kernel
theorem dX7_mark_27 : decode cX7_mark 27 = .ok (.getfield 242, 3) := by decide +kernel
theorem dX7_mark_30 : decode cX7_mark 30 = .ok (.iconst 1, 1) := by decide +kernel
theorem dX7_mark_31 : decode cX7_mark 31 = .ok (.isub, 1) := by decide +kernel
theorem dX7_mark_32 : decode cX7_mark 32 = .ok (.invokestatic 67, 3) := by decide +kernel
theorem dX7_mark_35 : decode cX7_mark 35 = .ok (.ifCond .ne 6, 3) := by decide +kernel
theorem dX7_mark_38 : decode cX7_mark 38 = .ok (.ldc 245, 2) := by decide +kernel
theorem dX7_mark_40 : decode cX7_mark 40 = .ok (.ireturn, 1) := by decide +kernel
theorem dX7_mark_41 : decode cX7_mark 41 = .ok (.aload 5, 2) := by decide +kernel
theorem dX7_mark_43 : decode cX7_mark 43 = .ok (.getfield 197, 3) := by decide +kernel
theorem dX7_mark_46 : decode cX7_mark 46 = .ok (.ifCond .ne 23, 3) := by decide +kernel
theorem dX7_mark_49 : decode cX7_mark 49 = .ok (.iload_n 3, 1) := by decide +kernel
theorem dX7_mark_50 : decode cX7_mark 50 = .ok (.ldc 134, 2) := by decide +kernel
theorem dX7_mark_52 : decode cX7_mark 52 = .ok (.if_icmp .ne 6, 3) := by decide +kernel
theorem dX7_mark_55 : decode cX7_mark 55 = .ok (.ldc 123, 2) := by decide +kernel
theorem dX7_mark_57 : decode cX7_mark 57 = .ok (.ireturn, 1) := by decide +kernel
theorem dX7_mark_58 : decode cX7_mark 58 = .ok (.aload 5, 2) := by decide +kernel
theorem dX7_mark_60 : decode cX7_mark 60 = .ok (.getfield 246, 3) := by decide +kernel
theorem dX7_mark_63 : decode cX7_mark 63 = .ok (.iload_n 2, 1) := by decide +kernel
theorem dX7_mark_64 : decode cX7_mark 64 = .ok (.iload_n 3, 1) := by decide +kernel
theorem dX7_mark_65 : decode cX7_mark 65 = .ok (.i2s, 1) := by decide +kernel
theorem dX7_mark_66 : decode cX7_mark 66 = .ok (.iastore, 1) := by decide +kernel
theorem dX7_mark_67 : decode cX7_mark 67 = .ok (.iconst 1, 1) := by decide +kernel
theorem dX7_mark_68 : decode cX7_mark 68 = .ok (.ireturn, 1) := by decide +kernel
theorem dX7_mark_69 : decode cX7_mark 69 = .ok (.iload_n 3, 1) := by decide +kernel
theorem dX7_mark_70 : decode cX7_mark 70 = .ok (.ldc 134, 2) := by decide +kernel
theorem dX7_mark_72 : decode cX7_mark 72 = .ok (.if_icmp .eq 17, 3) := by decide +kernel
theorem dX7_mark_75 : decode cX7_mark 75 = .ok (.iload_n 3, 1) := by decide +kernel
theorem dX7_mark_76 : decode cX7_mark 76 = .ok (.ldc 249, 2) := by decide +kernel
theorem dX7_mark_78 : decode cX7_mark 78 = .ok (.ldc 250, 2) := by decide +kernel
theorem dX7_mark_80 : decode cX7_mark 80 = .ok (.invokestatic 67, 3) := by decide +kernel
theorem dX7_mark_83 : decode cX7_mark 83 = .ok (.ifCond .ne 6, 3) := by decide +kernel
theorem dX7_mark_86 : decode cX7_mark 86 = .ok (.ldc 75, 2) := by decide +kernel
theorem dX7_mark_88 : decode cX7_mark 88 = .ok (.ireturn, 1) := by decide +kernel
theorem dX7_mark_89 : decode cX7_mark 89 = .ok (.aload 5, 2) := by decide +kernel
theorem dX7_mark_91 : decode cX7_mark 91 = .ok (.getfield 246, 3) := by decide +kernel
theorem dX7_mark_94 : decode cX7_mark 94 = .ok (.iload_n 2, 1) := by decide +kernel
theorem dX7_mark_95 : decode cX7_mark 95 = .ok (.iload_n 3, 1) := by decide +kernel
theorem dX7_mark_96 : decode cX7_mark 96 = .ok (.iastore, 1) := by decide +kernel
theorem dX7_mark_97 : decode cX7_mark 97 = .ok (.iconst 1, 1) := by decide +kernel
theorem dX7_mark_98 : decode cX7_mark 98 = .ok (.ireturn, 1) := by decide +kernel
theorem dX7_pour_0 : decode cX7_pour 0 = .ok (.aload_n 0, 1) := by decide +kernel
theorem dX7_pour_1 : decode cX7_pour 1 = .ok (.iload_n 1, 1) := by decide +kernel
theorem dX7_pour_2 : decode cX7_pour 2 = .ok (.invokevirtual 239, 3) := by decide +kernel
theorem dX7_pour_5 : decode cX7_pour 5 = .ok (.istore_n 2, 1) := by decide +kernel
theorem dX7_pour_6 : decode cX7_pour 6 = .ok (.iload_n 2, 1) := by decide +kernel
theorem dX7_pour_7 : decode cX7_pour 7 = .ok (.ifCond .eq 5, 3) := by decide +kernel
theorem dX7_pour_10 : decode cX7_pour 10 = .ok (.iload_n 2, 1) := by decide +kernel
theorem dX7_pour_11 : decode cX7_pour 11 = .ok (.ireturn, 1) := by decide +kernel
theorem dX7_pour_12 : decode cX7_pour 12 = .ok (.aload_n 0, 1) := by decide +kernel
theorem dX7_pour_13 : decode cX7_pour 13 = .ok (.getfield 40, 3) := by decide +kernel
theorem dX7_pour_16 : decode cX7_pour 16 = .ok (.iload_n 1, 1) := by decide +kernel
theorem dX7_pour_17 : decode cX7_pour 17 = .ok (.aaload, 1) := by decide +kernel
theorem dX7_pour_18 : decode cX7_pour 18 = .ok (.astore_n 3, 1) := by decide +kernel
theorem dX7_pour_19 : decode cX7_pour 19 = .ok (.iconst 0, 1) := by decide +kernel
theorem dX7_pour_20 : decode cX7_pour 20 = .ok (.istore 4, 2) := by decide +kernel
theorem dX7_pour_22 : decode cX7_pour 22 = .ok (.iconst 0, 1) := by decide +kernel
theorem dX7_pour_23 : decode cX7_pour 23 = .ok (.istore 5, 2) := by decide +kernel
theorem dX7_pour_25 : decode cX7_pour 25 = .ok (.iload 5, 2) := by decide +kernel
theorem dX7_pour_27 : decode cX7_pour 27 = .ok (.aload_n 0, 1) := by decide +kernel
theorem dX7_pour_28 : decode cX7_pour 28 = .ok (.getfield 28, 3) := by decide +kernel
theorem dX7_pour_31 : decode cX7_pour 31 = .ok (.getfield 81, 3) := by decide +kernel
theorem dX7_pour_34 : decode cX7_pour 34 = .ok (.aload_n 3, 1) := by decide +kernel
theorem dX7_pour_35 : decode cX7_pour 35 = .ok (.getfield 242, 3) := by decide +kernel
theorem dX7_pour_38 : decode cX7_pour 38 = .ok (.invokestatic 138, 3) := by decide +kernel
theorem dX7_pour_41 : decode cX7_pour 41 = .ok (.if_icmp .ge 74, 3) := by decide +kernel
theorem dX7_pour_44 : decode cX7_pour 44 = .ok (.aload_n 3, 1) := by decide +kernel
theorem dX7_pour_45 : decode cX7_pour 45 = .ok (.getfield 246, 3) := by decide +kernel
theorem dX7_pour_48 : decode cX7_pour 48 = .ok (.iload 5, 2) := by decide +kernel
theorem dX7_pour_50 : decode cX7_pour 50 = .ok (.iaload, 1) := by decide +kernel
theorem dX7_pour_51 : decode cX7_pour 51 = .ok (.ldc 134, 2) := by decide +kernel
theorem dX7_pour_53 : decode cX7_pour 53 = .ok (.if_icmp .eq 56, 3) := by decide +kernel
theorem dX7_pour_56 : decode cX7_pour 56 = .ok (.aload_n 3, 1) := by decide +kernel
theorem dX7_pour_57 : decode cX7_pour 57 = .ok (.getfield 246, 3) := by decide +kernel
theorem dX7_pour_60 : decode cX7_pour 60 = .ok (.iload 5, 2) := by decide +kernel
theorem dX7_pour_62 : decode cX7_pour 62 = .ok (.iaload, 1) := by decide +kernel
theorem dX7_pour_63 : decode cX7_pour 63 = .ok (.iconst 0, 1) := by decide +kernel
theorem dX7_pour_64 : decode cX7_pour 64 = .ok (.sipush 200, 3) := by decide +kernel
theorem dX7_pour_67 : decode cX7_pour 67 = .ok (.invokestatic 251, 3) := by decide +kernel
theorem dX7_pour_70 : decode cX7_pour 70 = .ok (.istore 6, 2) := by decide +kernel
theorem dX7_pour_72 : decode cX7_pour 72 = .ok (.iload 4, 2) := by decide +kernel
theorem dX7_pour_74 : decode cX7_pour 74 = .ok (.iload 6, 2) := by decide +kernel
theorem dX7_pour_76 : decode cX7_pour 76 = .ok (.aload_n 0, 1) := by decide +kernel
theorem dX7_pour_77 : decode cX7_pour 77 = .ok (.getfield 28, 3) := by decide +kernel
theorem dX7_pour_80 : decode cX7_pour 80 = .ok (.getfield 98, 3) := by decide +kernel
theorem dX7_pour_83 : decode cX7_pour 83 = .ok (.iload 5, 2) := by decide +kernel
theorem dX7_pour_85 : decode cX7_pour 85 = .ok (.iaload, 1) := by decide +kernel
theorem dX7_pour_86 : decode cX7_pour 86 = .ok (.if_icmp .eq 7, 3) := by decide +kernel
theorem dX7_pour_89 : decode cX7_pour 89 = .ok (.iconst 1, 1) := by decide +kernel
theorem dX7_pour_90 : decode cX7_pour 90 = .ok (.goto 4, 3) := by decide +kernel
theorem dX7_pour_93 : decode cX7_pour 93 = .ok (.iconst 0, 1) := by decide +kernel
theorem dX7_pour_94 : decode cX7_pour 94 = .ok (.iadd, 1) := by decide +kernel
theorem dX7_pour_95 : decode cX7_pour 95 = .ok (.istore 4, 2) := by decide +kernel
theorem dX7_pour_97 : decode cX7_pour 97 = .ok (.aload_n 0, 1) := by decide +kernel
theorem dX7_pour_98 : decode cX7_pour 98 = .ok (.getfield 28, 3) := by decide +kernel
theorem dX7_pour_101 : decode cX7_pour 101 = .ok (.getfield 98, 3) := by decide +kernel
theorem dX7_pour_104 : decode cX7_pour 104 = .ok (.iload 5, 2) := by decide +kernel
theorem dX7_pour_106 : decode cX7_pour 106 = .ok (.iload 6, 2) := by decide +kernel
theorem dX7_pour_108 : decode cX7_pour 108 = .ok (.iastore, 1) := by decide +kernel
theorem dX7_pour_109 : decode cX7_pour 109 = .ok (.iinc 5 1, 3) := by decide +kernel
theorem dX7_pour_112 : decode cX7_pour 112 = .ok (.goto (-87), 3) := by decide +kernel
theorem dX7_pour_115 : decode cX7_pour 115 = .ok (.iload 4, 2) := by decide +kernel
theorem dX7_pour_117 : decode cX7_pour 117 = .ok (.ireturn, 1) := by decide +kernel
theorem dX7_reads_0 : decode cX7_reads 0 = .ok (.aload_n 0, 1) := by decide +kernel
theorem dX7_reads_1 : decode cX7_reads 1 = .ok (.iload_n 1, 1) := by decide +kernel
theorem dX7_reads_2 : decode cX7_reads 2 = .ok (.invokevirtual 239, 3) := by decide +kernel
theorem dX7_reads_5 : decode cX7_reads 5 = .ok (.istore_n 2, 1) := by decide +kernel
theorem dX7_reads_6 : decode cX7_reads 6 = .ok (.iload_n 2, 1) := by decide +kernel
theorem dX7_reads_7 : decode cX7_reads 7 = .ok (.ifCond .eq 5, 3) := by decide +kernel
theorem dX7_reads_10 : decode cX7_reads 10 = .ok (.iload_n 2, 1) := by decide +kernel
theorem dX7_reads_11 : decode cX7_reads 11 = .ok (.ireturn, 1) := by decide +kernel
theorem dX7_reads_12 : decode cX7_reads 12 = .ok (.aload_n 0, 1) := by decide +kernel
theorem dX7_reads_13 : decode cX7_reads 13 = .ok (.getfield 40, 3) := by decide +kernel
theorem dX7_reads_16 : decode cX7_reads 16 = .ok (.iload_n 1, 1) := by decide +kernel
theorem dX7_reads_17 : decode cX7_reads 17 = .ok (.aaload, 1) := by decide +kernel
theorem dX7_reads_18 : decode cX7_reads 18 = .ok (.astore_n 3, 1) := by decide +kernel
theorem dX7_reads_19 : decode cX7_reads 19 = .ok (.iconst 0, 1) := by decide +kernel
theorem dX7_reads_20 : decode cX7_reads 20 = .ok (.istore 4, 2) := by decide +kernel
theorem dX7_reads_22 : decode cX7_reads 22 = .ok (.iload 4, 2) := by decide +kernel
theorem dX7_reads_24 : decode cX7_reads 24 = .ok (.aload_n 3, 1) := by decide +kernel
theorem dX7_reads_25 : decode cX7_reads 25 = .ok (.getfield 242, 3) := by decide +kernel
theorem dX7_reads_28 : decode cX7_reads 28 = .ok (.if_icmp .ge 68, 3) := by decide +kernel
theorem dX7_reads_31 : decode cX7_reads 31 = .ok (.iload 4, 2) := by decide +kernel
theorem dX7_reads_33 : decode cX7_reads 33 = .ok (.aload_n 0, 1) := by decide +kernel
theorem dX7_reads_34 : decode cX7_reads 34 = .ok (.getfield 28, 3) := by decide +kernel
theorem dX7_reads_37 : decode cX7_reads 37 = .ok (.getfield 81, 3) := by decide +kernel
theorem dX7_reads_40 : decode cX7_reads 40 = .ok (.if_icmp .ge 27, 3) := by decide +kernel
theorem dX7_reads_43 : decode cX7_reads 43 = .ok (.aload_n 3, 1) := by decide +kernel
theorem dX7_reads_44 : decode cX7_reads 44 = .ok (.getfield 246, 3) := by decide +kernel
theorem dX7_reads_47 : decode cX7_reads 47 = .ok (.iload 4, 2) := by decide +kernel
theorem dX7_reads_49 : decode cX7_reads 49 = .ok (.iaload, 1) := by decide +kernel
theorem dX7_reads_50 : decode cX7_reads 50 = .ok (.aload_n 0, 1) := by decide +kernel
theorem dX7_reads_51 : decode cX7_reads 51 = .ok (.getfield 28, 3) := by decide +kernel
theorem dX7_reads_54 : decode cX7_reads 54 = .ok (.getfield 95, 3) := by decide +kernel
theorem dX7_reads_57 : decode cX7_reads 57 = .ok (.iload 4, 2) := by decide +kernel
theorem dX7_reads_59 : decode cX7_reads 59 = .ok (.iaload, 1) := by decide +kernel
theorem dX7_reads_60 : decode cX7_reads 60 = .ok (.if_icmp .ne 7, 3) := by decide +kernel
theorem dX7_reads_63 : decode cX7_reads 63 = .ok (.iconst 1, 1) := by decide +kernel
theorem dX7_reads_64 : decode cX7_reads 64 = .ok (.goto 4, 3) := by decide +kernel
theorem dX7_reads_67 : decode cX7_reads 67 = .ok (.iconst 0, 1) := by decide +kernel
theorem dX7_reads_68 : decode cX7_reads 68 = .ok (.istore 5, 2) := by decide +kernel
theorem dX7_reads_70 : decode cX7_reads 70 = .ok (.aload_n 3, 1) := by decide +kernel
theorem dX7_reads_71 : decode cX7_reads 71 = .ok (.getfield 246, 3) := by decide +kernel
theorem dX7_reads_74 : decode cX7_reads 74 = .ok (.iload 4, 2) := by decide +kernel
theorem dX7_reads_76 : decode cX7_reads 76 = .ok (.iaload, 1) := by decide +kernel
theorem dX7_reads_77 : decode cX7_reads 77 = .ok (.ldc 134, 2) := by decide +kernel
theorem dX7_reads_79 : decode cX7_reads 79 = .ok (.if_icmp .eq 11, 3) := by decide +kernel
theorem dX7_reads_82 : decode cX7_reads 82 = .ok (.iload 5, 2) := by decide +kernel
theorem dX7_reads_84 : decode cX7_reads 84 = .ok (.ifCond .ne 6, 3) := by decide +kernel
theorem dX7_reads_87 : decode cX7_reads 87 = .ok (.iload 4, 2) := by decide +kernel
theorem dX7_reads_89 : decode cX7_reads 89 = .ok (.ireturn, 1) := by decide +kernel
theorem dX7_reads_90 : decode cX7_reads 90 = .ok (.iinc 4 1, 3) := by decide +kernel
theorem dX7_reads_93 : decode cX7_reads 93 = .ok (.goto (-71), 3) := by decide +kernel
theorem dX7_reads_96 : decode cX7_reads 96 = .ok (.ldc 134, 2) := by decide +kernel
theorem dX7_reads_98 : decode cX7_reads 98 = .ok (.ireturn, 1) := by decide +kernel
theorem dX7_copy_0 : decode cX7_copy 0 = .ok (.iload_n 1, 1) := by decide +kernel
theorem dX7_copy_1 : decode cX7_copy 1 = .ok (.iconst 0, 1) := by decide +kernel
theorem dX7_copy_2 : decode cX7_copy 2 = .ok (.iconst 3, 1) := by decide +kernel
theorem dX7_copy_3 : decode cX7_copy 3 = .ok (.invokestatic 67, 3) := by decide +kernel
theorem dX7_copy_6 : decode cX7_copy 6 = .ok (.ifCond .eq 12, 3) := by decide +kernel
theorem dX7_copy_9 : decode cX7_copy 9 = .ok (.iload_n 3, 1) := by decide +kernel
theorem dX7_copy_10 : decode cX7_copy 10 = .ok (.iconst 0, 1) := by decide +kernel
theorem dX7_copy_11 : decode cX7_copy 11 = .ok (.iconst 3, 1) := by decide +kernel
theorem dX7_copy_12 : decode cX7_copy 12 = .ok (.invokestatic 67, 3) := by decide +kernel
theorem dX7_copy_15 : decode cX7_copy 15 = .ok (.ifCond .ne 6, 3) := by decide +kernel
theorem dX7_copy_18 : decode cX7_copy 18 = .ok (.ldc 75, 2) := by decide +kernel
theorem dX7_copy_20 : decode cX7_copy 20 = .ok (.ireturn, 1) := by decide +kernel
theorem dX7_copy_21 : decode cX7_copy 21 = .ok (.aload_n 0, 1) := by decide +kernel
theorem dX7_copy_22 : decode cX7_copy 22 = .ok (.getfield 40, 3) := by decide +kernel
theorem dX7_copy_25 : decode cX7_copy 25 = .ok (.iload_n 1, 1) := by decide +kernel
theorem dX7_copy_26 : decode cX7_copy 26 = .ok (.aaload, 1) := by decide +kernel
theorem dX7_copy_27 : decode cX7_copy 27 = .ok (.astore 6, 2) := by decide +kernel
theorem dX7_copy_29 : decode cX7_copy 29 = .ok (.aload_n 0, 1) := by decide +kernel
theorem dX7_copy_30 : decode cX7_copy 30 = .ok (.getfield 40, 3) := by decide +kernel
theorem dX7_copy_33 : decode cX7_copy 33 = .ok (.iload_n 3, 1) := by decide +kernel
theorem dX7_copy_34 : decode cX7_copy 34 = .ok (.aaload, 1) := by decide +kernel
theorem dX7_copy_35 : decode cX7_copy 35 = .ok (.astore 7, 2) := by decide +kernel
theorem dX7_copy_37 : decode cX7_copy 37 = .ok (.aload 6, 2) := by decide +kernel
theorem dX7_copy_39 : decode cX7_copy 39 = .ok (.getfield 197, 3) := by decide +kernel
theorem dX7_copy_42 : decode cX7_copy 42 = .ok (.iconst (-1), 1) := by decide +kernel
theorem dX7_copy_43 : decode cX7_copy 43 = .ok (.if_icmp .eq 12, 3) := by decide +kernel
theorem dX7_copy_46 : decode cX7_copy 46 = .ok (.aload 7, 2) := by decide +kernel
theorem dX7_copy_48 : decode cX7_copy 48 = .ok (.getfield 197, 3) := by decide +kernel
theorem dX7_copy_51 : decode cX7_copy 51 = .ok (.iconst (-1), 1) := by decide +kernel
theorem dX7_copy_52 : decode cX7_copy 52 = .ok (.if_icmp .ne 6, 3) := by decide +kernel
theorem dX7_copy_55 : decode cX7_copy 55 = .ok (.ldc 200, 2) := by decide +kernel
theorem dX7_copy_57 : decode cX7_copy 57 = .ok (.ireturn, 1) := by decide +kernel
theorem dX7_copy_58 : decode cX7_copy 58 = .ok (.aload 6, 2) := by decide +kernel
theorem dX7_copy_60 : decode cX7_copy 60 = .ok (.getfield 197, 3) := by decide +kernel
theorem dX7_copy_63 : decode cX7_copy 63 = .ok (.aload 7, 2) := by decide +kernel
theorem dX7_copy_65 : decode cX7_copy 65 = .ok (.getfield 197, 3) := by decide +kernel
theorem dX7_copy_68 : decode cX7_copy 68 = .ok (.if_icmp .eq 6, 3) := by decide +kernel
theorem dX7_copy_71 : decode cX7_copy 71 = .ok (.ldc 123, 2) := by decide +kernel
theorem dX7_copy_73 : decode cX7_copy 73 = .ok (.ireturn, 1) := by decide +kernel
theorem dX7_copy_74 : decode cX7_copy 74 = .ok (.aload 6, 2) := by decide +kernel
theorem dX7_copy_76 : decode cX7_copy 76 = .ok (.iload_n 2, 1) := by decide +kernel
theorem dX7_copy_77 : decode cX7_copy 77 = .ok (.iload 5, 2) := by decide +kernel
theorem dX7_copy_79 : decode cX7_copy 79 = .ok (.invokevirtual 254, 3) := by decide +kernel
theorem dX7_copy_82 : decode cX7_copy 82 = .ok (.ifCond .eq 15, 3) := by decide +kernel
theorem dX7_copy_85 : decode cX7_copy 85 = .ok (.aload 7, 2) := by decide +kernel
theorem dX7_copy_87 : decode cX7_copy 87 = .ok (.iload 4, 2) := by decide +kernel
theorem dX7_copy_89 : decode cX7_copy 89 = .ok (.iload 5, 2) := by decide +kernel
theorem dX7_copy_91 : decode cX7_copy 91 = .ok (.invokevirtual 254, 3) := by decide +kernel
theorem dX7_copy_94 : decode cX7_copy 94 = .ok (.ifCond .ne 6, 3) := by decide +kernel
theorem dX7_copy_97 : decode cX7_copy 97 = .ok (.ldc 245, 2) := by decide +kernel
theorem dX7_copy_99 : decode cX7_copy 99 = .ok (.ireturn, 1) := by decide +kernel
theorem dX7_copy_100 : decode cX7_copy 100 = .ok (.aload 6, 2) := by decide +kernel
theorem dX7_copy_102 : decode cX7_copy 102 = .ok (.getfield 246, 3) := by decide +kernel
theorem dX7_copy_105 : decode cX7_copy 105 = .ok (.iload_n 2, 1) := by decide +kernel
theorem dX7_copy_106 : decode cX7_copy 106 = .ok (.aload 7, 2) := by decide +kernel
theorem dX7_copy_108 : decode cX7_copy 108 = .ok (.getfield 246, 3) := by decide +kernel
theorem dX7_copy_111 : decode cX7_copy 111 = .ok (.iload 4, 2) := by decide +kernel
theorem dX7_copy_113 : decode cX7_copy 113 = .ok (.iload 5, 2) := by decide +kernel
theorem dX7_copy_115 : decode cX7_copy 115 = .ok (.invokestatic 257, 3) := by decide +kernel
theorem dX7_copy_118 : decode cX7_copy 118 = .ok (.iload 5, 2) := by decide +kernel
theorem dX7_copy_120 : decode cX7_copy 120 = .ok (.ireturn, 1) := by decide +kernel
theorem dX7_lay_0 : decode cX7_lay 0 = .ok (.iload_n 1, 1) := by decide +kernel
theorem dX7_lay_1 : decode cX7_lay 1 = .ok (.iconst 0, 1) := by decide +kernel
theorem dX7_lay_2 : decode cX7_lay 2 = .ok (.iconst 4, 1) := by decide +kernel
theorem dX7_lay_3 : decode cX7_lay 3 = .ok (.invokestatic 67, 3) := by decide +kernel
theorem dX7_lay_6 : decode cX7_lay 6 = .ok (.ifCond .eq 12, 3) := by decide +kernel
theorem dX7_lay_9 : decode cX7_lay 9 = .ok (.iload_n 2, 1) := by decide +kernel
theorem dX7_lay_10 : decode cX7_lay 10 = .ok (.iconst 0, 1) := by decide +kernel
theorem dX7_lay_11 : decode cX7_lay 11 = .ok (.iconst 3, 1) := by decide +kernel
theorem dX7_lay_12 : decode cX7_lay 12 = .ok (.invokestatic 67, 3) := by decide +kernel
theorem dX7_lay_15 : decode cX7_lay 15 = .ok (.ifCond .ne 6, 3) := by decide +kernel
theorem dX7_lay_18 : decode cX7_lay 18 = .ok (.ldc 75, 2) := by decide +kernel
theorem dX7_lay_20 : decode cX7_lay 20 = .ok (.ireturn, 1) := by decide +kernel
theorem dX7_lay_21 : decode cX7_lay 21 = .ok (.iload_n 2, 1) := by decide +kernel
theorem dX7_lay_22 : decode cX7_lay 22 = .ok (.iconst 1, 1) := by decide +kernel
theorem dX7_lay_23 : decode cX7_lay 23 = .ok (.if_icmp .ne 14, 3) := by decide +kernel
theorem dX7_lay_26 : decode cX7_lay 26 = .ok (.aload_n 0, 1) := by decide +kernel
theorem dX7_lay_27 : decode cX7_lay 27 = .ok (.getfield 28, 3) := by decide +kernel
theorem dX7_lay_30 : decode cX7_lay 30 = .ok (.iload_n 3, 1) := by decide +kernel
theorem dX7_lay_31 : decode cX7_lay 31 = .ok (.invokevirtual 89, 3) := by decide +kernel
theorem dX7_lay_34 : decode cX7_lay 34 = .ok (.ifCond .eq 17, 3) := by decide +kernel
theorem dX7_lay_37 : decode cX7_lay 37 = .ok (.iload_n 2, 1) := by decide +kernel
theorem dX7_lay_38 : decode cX7_lay 38 = .ok (.iconst 2, 1) := by decide +kernel
theorem dX7_lay_39 : decode cX7_lay 39 = .ok (.if_icmp .ne 15, 3) := by decide +kernel
theorem dX7_lay_42 : decode cX7_lay 42 = .ok (.iload_n 3, 1) := by decide +kernel
theorem dX7_lay_43 : decode cX7_lay 43 = .ok (.iconst 0, 1) := by decide +kernel
theorem dX7_lay_44 : decode cX7_lay 44 = .ok (.iconst 3, 1) := by decide +kernel
theorem dX7_lay_45 : decode cX7_lay 45 = .ok (.invokestatic 67, 3) := by decide +kernel
theorem dX7_lay_48 : decode cX7_lay 48 = .ok (.ifCond .ne 6, 3) := by decide +kernel
theorem dX7_lay_51 : decode cX7_lay 51 = .ok (.ldc 75, 2) := by decide +kernel
theorem dX7_lay_53 : decode cX7_lay 53 = .ok (.ireturn, 1) := by decide +kernel
theorem dX7_lay_54 : decode cX7_lay 54 = .ok (.iload_n 2, 1) := by decide +kernel
theorem dX7_lay_55 : decode cX7_lay 55 = .ok (.iconst 2, 1) := by decide +kernel
theorem dX7_lay_56 : decode cX7_lay 56 = .ok (.if_icmp .ne 19, 3) := by decide +kernel
theorem dX7_lay_59 : decode cX7_lay 59 = .ok (.aload_n 0, 1) := by decide +kernel
theorem dX7_lay_60 : decode cX7_lay 60 = .ok (.getfield 40, 3) := by decide +kernel
theorem dX7_lay_63 : decode cX7_lay 63 = .ok (.iload_n 3, 1) := by decide +kernel
theorem dX7_lay_64 : decode cX7_lay 64 = .ok (.aaload, 1) := by decide +kernel
theorem dX7_lay_65 : decode cX7_lay 65 = .ok (.getfield 197, 3) := by decide +kernel
theorem dX7_lay_68 : decode cX7_lay 68 = .ok (.iconst (-1), 1) := by decide +kernel
theorem dX7_lay_69 : decode cX7_lay 69 = .ok (.if_icmp .ne 6, 3) := by decide +kernel
theorem dX7_lay_72 : decode cX7_lay 72 = .ok (.ldc 200, 2) := by decide +kernel
theorem dX7_lay_74 : decode cX7_lay 74 = .ok (.ireturn, 1) := by decide +kernel
theorem dX7_lay_75 : decode cX7_lay 75 = .ok (.aload_n 0, 1) := by decide +kernel
theorem dX7_lay_76 : decode cX7_lay 76 = .ok (.getfield 46, 3) := by decide +kernel
theorem dX7_lay_79 : decode cX7_lay 79 = .ok (.iload_n 1, 1) := by decide +kernel
theorem dX7_lay_80 : decode cX7_lay 80 = .ok (.aaload, 1) := by decide +kernel
theorem dX7_lay_81 : decode cX7_lay 81 = .ok (.astore 4, 2) := by decide +kernel
theorem dX7_lay_83 : decode cX7_lay 83 = .ok (.aload 4, 2) := by decide +kernel
theorem dX7_lay_85 : decode cX7_lay 85 = .ok (.getfield 263, 3) := by decide +kernel
theorem dX7_lay_88 : decode cX7_lay 88 = .ok (.istore 5, 2) := by decide +kernel
theorem dX7_lay_90 : decode cX7_lay 90 = .ok (.aload 4, 2) := by decide +kernel
theorem dX7_lay_92 : decode cX7_lay 92 = .ok (.iload_n 2, 1) := by decide +kernel
theorem dX7_lay_93 : decode cX7_lay 93 = .ok (.putfield 263, 3) := by decide +kernel
theorem dX7_lay_96 : decode cX7_lay 96 = .ok (.iload_n 2, 1) := by decide +kernel
theorem dX7_lay_97 : decode cX7_lay 97 = .ok (.iconst 1, 1) := by decide +kernel
theorem dX7_lay_98 : decode cX7_lay 98 = .ok (.if_icmp .ne 34, 3) := by decide +kernel
theorem dX7_lay_101 : decode cX7_lay 101 = .ok (.aload 4, 2) := by decide +kernel
theorem dX7_lay_103 : decode cX7_lay 103 = .ok (.aload_n 0, 1) := by decide +kernel
theorem dX7_lay_104 : decode cX7_lay 104 = .ok (.getfield 28, 3) := by decide +kernel
theorem dX7_lay_107 : decode cX7_lay 107 = .ok (.getfield 92, 3) := by decide +kernel
theorem dX7_lay_110 : decode cX7_lay 110 = .ok (.iload_n 3, 1) := by decide +kernel
theorem dX7_lay_111 : decode cX7_lay 111 = .ok (.iaload, 1) := by decide +kernel
theorem dX7_lay_112 : decode cX7_lay 112 = .ok (.putfield 266, 3) := by decide +kernel
theorem dX7_lay_115 : decode cX7_lay 115 = .ok (.aload 4, 2) := by decide +kernel
theorem dX7_lay_117 : decode cX7_lay 117 = .ok (.aload_n 0, 1) := by decide +kernel
theorem dX7_lay_118 : decode cX7_lay 118 = .ok (.getfield 28, 3) := by decide +kernel
theorem dX7_lay_121 : decode cX7_lay 121 = .ok (.getfield 98, 3) := by decide +kernel
theorem dX7_lay_124 : decode cX7_lay 124 = .ok (.iload_n 3, 1) := by decide +kernel
theorem dX7_lay_125 : decode cX7_lay 125 = .ok (.iaload, 1) := by decide +kernel
theorem dX7_lay_126 : decode cX7_lay 126 = .ok (.putfield 269, 3) := by decide +kernel
theorem dX7_lay_129 : decode cX7_lay 129 = .ok (.goto 36, 3) := by decide +kernel
theorem dX7_lay_132 : decode cX7_lay 132 = .ok (.iload_n 2, 1) := by decide +kernel
theorem dX7_lay_133 : decode cX7_lay 133 = .ok (.iconst 2, 1) := by decide +kernel
theorem dX7_lay_134 : decode cX7_lay 134 = .ok (.if_icmp .ne 20, 3) := by decide +kernel
theorem dX7_lay_137 : decode cX7_lay 137 = .ok (.aload 4, 2) := by decide +kernel
theorem dX7_lay_139 : decode cX7_lay 139 = .ok (.getfield 272, 3) := by decide +kernel
theorem dX7_lay_142 : decode cX7_lay 142 = .ok (.aload_n 0, 1) := by decide +kernel
theorem dX7_lay_143 : decode cX7_lay 143 = .ok (.getfield 40, 3) := by decide +kernel
theorem dX7_lay_146 : decode cX7_lay 146 = .ok (.iload_n 3, 1) := by decide +kernel
theorem dX7_lay_147 : decode cX7_lay 147 = .ok (.aaload, 1) := by decide +kernel
theorem dX7_lay_148 : decode cX7_lay 148 = .ok (.invokevirtual 276, 3) := by decide +kernel
theorem dX7_lay_151 : decode cX7_lay 151 = .ok (.goto 14, 3) := by decide +kernel
theorem dX7_lay_154 : decode cX7_lay 154 = .ok (.iload_n 2, 1) := by decide +kernel
theorem dX7_lay_155 : decode cX7_lay 155 = .ok (.iconst 3, 1) := by decide +kernel
theorem dX7_lay_156 : decode cX7_lay 156 = .ok (.if_icmp .ne 9, 3) := by decide +kernel
theorem dX7_lay_159 : decode cX7_lay 159 = .ok (.aload 4, 2) := by decide +kernel
theorem dX7_lay_161 : decode cX7_lay 161 = .ok (.iload_n 3, 1) := by decide +kernel
theorem dX7_lay_162 : decode cX7_lay 162 = .ok (.putfield 278, 3) := by decide +kernel
theorem dX7_lay_165 : decode cX7_lay 165 = .ok (.iload 5, 2) := by decide +kernel
theorem dX7_lay_167 : decode cX7_lay 167 = .ok (.ireturn, 1) := by decide +kernel
theorem dX7_ask_0 : decode cX7_ask 0 = .ok (.iload_n 2, 1) := by decide +kernel
theorem dX7_ask_1 : decode cX7_ask 1 = .ok (.iconst 0, 1) := by decide +kernel
theorem dX7_ask_2 : decode cX7_ask 2 = .ok (.iconst 5, 1) := by decide +kernel
theorem dX7_ask_3 : decode cX7_ask 3 = .ok (.invokestatic 67, 3) := by decide +kernel
theorem dX7_ask_6 : decode cX7_ask 6 = .ok (.ifCond .eq 12, 3) := by decide +kernel
theorem dX7_ask_9 : decode cX7_ask 9 = .ok (.aload_n 0, 1) := by decide +kernel
theorem dX7_ask_10 : decode cX7_ask 10 = .ok (.iload_n 1, 1) := by decide +kernel
theorem dX7_ask_11 : decode cX7_ask 11 = .ok (.iconst 1, 1) := by decide +kernel
theorem dX7_ask_12 : decode cX7_ask 12 = .ok (.invokevirtual 281, 3) := by decide +kernel
theorem dX7_ask_15 : decode cX7_ask 15 = .ok (.goto 5, 3) := by decide +kernel
theorem dX7_ask_18 : decode cX7_ask 18 = .ok (.ldc 75, 2) := by decide +kernel
theorem dX7_ask_20 : decode cX7_ask 20 = .ok (.istore_n 3, 1) := by decide +kernel
theorem dX7_ask_21 : decode cX7_ask 21 = .ok (.iload_n 3, 1) := by decide +kernel
theorem dX7_ask_22 : decode cX7_ask 22 = .ok (.ifCond .eq 5, 3) := by decide +kernel
theorem dX7_ask_25 : decode cX7_ask 25 = .ok (.iload_n 3, 1) := by decide +kernel
theorem dX7_ask_26 : decode cX7_ask 26 = .ok (.ireturn, 1) := by decide +kernel
theorem dX7_ask_27 : decode cX7_ask 27 = .ok (.aload_n 0, 1) := by decide +kernel
theorem dX7_ask_28 : decode cX7_ask 28 = .ok (.getfield 46, 3) := by decide +kernel
theorem dX7_ask_31 : decode cX7_ask 31 = .ok (.iload_n 1, 1) := by decide +kernel
theorem dX7_ask_32 : decode cX7_ask 32 = .ok (.aaload, 1) := by decide +kernel
theorem dX7_ask_33 : decode cX7_ask 33 = .ok (.astore 4, 2) := by decide +kernel
theorem dX7_ask_35 : decode cX7_ask 35 = .ok (.aload 4, 2) := by decide +kernel
theorem dX7_ask_37 : decode cX7_ask 37 = .ok (.getfield 266, 3) := by decide +kernel
theorem dX7_ask_40 : decode cX7_ask 40 = .ok (.iload_n 2, 1) := by decide +kernel
theorem dX7_ask_41 : decode cX7_ask 41 = .ok (.invokestatic 120, 3) := by decide +kernel
theorem dX7_ask_44 : decode cX7_ask 44 = .ok (.ifCond .eq 19, 3) := by decide +kernel
theorem dX7_ask_47 : decode cX7_ask 47 = .ok (.aload 4, 2) := by decide +kernel
theorem dX7_ask_49 : decode cX7_ask 49 = .ok (.getfield 266, 3) := by decide +kernel
theorem dX7_ask_52 : decode cX7_ask 52 = .ok (.aload 4, 2) := by decide +kernel
theorem dX7_ask_54 : decode cX7_ask 54 = .ok (.getfield 269, 3) := by decide +kernel
theorem dX7_ask_57 : decode cX7_ask 57 = .ok (.invokestatic 117, 3) := by decide +kernel
theorem dX7_ask_60 : decode cX7_ask 60 = .ok (.goto 5, 3) := by decide +kernel
theorem dX7_ask_63 : decode cX7_ask 63 = .ok (.ldc 123, 2) := by decide +kernel
theorem dX7_ask_65 : decode cX7_ask 65 = .ok (.ireturn, 1) := by decide +kernel
theorem dX7_item_0 : decode cX7_item 0 = .ok (.aload_n 0, 1) := by decide +kernel
theorem dX7_item_1 : decode cX7_item 1 = .ok (.iload_n 1, 1) := by decide +kernel
theorem dX7_item_2 : decode cX7_item 2 = .ok (.iconst 2, 1) := by decide +kernel
theorem dX7_item_3 : decode cX7_item 3 = .ok (.invokevirtual 281, 3) := by decide +kernel
theorem dX7_item_6 : decode cX7_item 6 = .ok (.istore_n 3, 1) := by decide +kernel
theorem dX7_item_7 : decode cX7_item 7 = .ok (.iload_n 3, 1) := by decide +kernel
theorem dX7_item_8 : decode cX7_item 8 = .ok (.ifCond .eq 5, 3) := by decide +kernel
theorem dX7_item_11 : decode cX7_item 11 = .ok (.iload_n 3, 1) := by decide +kernel
theorem dX7_item_12 : decode cX7_item 12 = .ok (.ireturn, 1) := by decide +kernel
theorem dX7_item_13 : decode cX7_item 13 = .ok (.aload_n 0, 1) := by decide +kernel
theorem dX7_item_14 : decode cX7_item 14 = .ok (.getfield 46, 3) := by decide +kernel
theorem dX7_item_17 : decode cX7_item 17 = .ok (.iload_n 1, 1) := by decide +kernel
theorem dX7_item_18 : decode cX7_item 18 = .ok (.aaload, 1) := by decide +kernel
theorem dX7_item_19 : decode cX7_item 19 = .ok (.getfield 272, 3) := by decide +kernel
theorem dX7_item_22 : decode cX7_item 22 = .ok (.astore 4, 2) := by decide +kernel
theorem dX7_item_24 : decode cX7_item 24 = .ok (.iload_n 2, 1) := by decide +kernel
theorem dX7_item_25 : decode cX7_item 25 = .ok (.iconst 0, 1) := by decide +kernel
theorem dX7_item_26 : decode cX7_item 26 = .ok (.aload 4, 2) := by decide +kernel
theorem dX7_item_28 : decode cX7_item 28 = .ok (.getfield 242, 3) := by decide +kernel
theorem dX7_item_31 : decode cX7_item 31 = .ok (.iconst 1, 1) := by decide +kernel
theorem dX7_item_32 : decode cX7_item 32 = .ok (.isub, 1) := by decide +kernel
theorem dX7_item_33 : decode cX7_item 33 = .ok (.invokestatic 67, 3) := by decide +kernel
theorem dX7_item_36 : decode cX7_item 36 = .ok (.ifCond .ne 6, 3) := by decide +kernel
theorem dX7_item_39 : decode cX7_item 39 = .ok (.ldc 245, 2) := by decide +kernel
theorem dX7_item_41 : decode cX7_item 41 = .ok (.ireturn, 1) := by decide +kernel
theorem dX7_item_42 : decode cX7_item 42 = .ok (.aload 4, 2) := by decide +kernel
theorem dX7_item_44 : decode cX7_item 44 = .ok (.getfield 246, 3) := by decide +kernel
theorem dX7_item_47 : decode cX7_item 47 = .ok (.iload_n 2, 1) := by decide +kernel
theorem dX7_item_48 : decode cX7_item 48 = .ok (.iaload, 1) := by decide +kernel
theorem dX7_item_49 : decode cX7_item 49 = .ok (.ldc 134, 2) := by decide +kernel
theorem dX7_item_51 : decode cX7_item 51 = .ok (.if_icmp .ne 8, 3) := by decide +kernel
theorem dX7_item_54 : decode cX7_item 54 = .ok (.ldc 123, 2) := by decide +kernel
theorem dX7_item_56 : decode cX7_item 56 = .ok (.goto 10, 3) := by decide +kernel
theorem dX7_item_59 : decode cX7_item 59 = .ok (.aload 4, 2) := by decide +kernel
theorem dX7_item_61 : decode cX7_item 61 = .ok (.getfield 246, 3) := by decide +kernel
theorem dX7_item_64 : decode cX7_item 64 = .ok (.iload_n 2, 1) := by decide +kernel
theorem dX7_item_65 : decode cX7_item 65 = .ok (.iaload, 1) := by decide +kernel
theorem dX7_item_66 : decode cX7_item 66 = .ok (.ireturn, 1) := by decide +kernel
theorem dX7_rest_0 : decode cX7_rest 0 = .ok (.aload_n 0, 1) := by decide +kernel
theorem dX7_rest_1 : decode cX7_rest 1 = .ok (.iload_n 1, 1) := by decide +kernel
theorem dX7_rest_2 : decode cX7_rest 2 = .ok (.iconst 3, 1) := by decide +kernel
theorem dX7_rest_3 : decode cX7_rest 3 = .ok (.invokevirtual 281, 3) := by decide +kernel
theorem dX7_rest_6 : decode cX7_rest 6 = .ok (.istore_n 3, 1) := by decide +kernel
theorem dX7_rest_7 : decode cX7_rest 7 = .ok (.iload_n 3, 1) := by decide +kernel
theorem dX7_rest_8 : decode cX7_rest 8 = .ok (.ifCond .eq 5, 3) := by decide +kernel
theorem dX7_rest_11 : decode cX7_rest 11 = .ok (.iload_n 3, 1) := by decide +kernel
theorem dX7_rest_12 : decode cX7_rest 12 = .ok (.ireturn, 1) := by decide +kernel
theorem dX7_rest_13 : decode cX7_rest 13 = .ok (.iload_n 2, 1) := by decide +kernel
theorem dX7_rest_14 : decode cX7_rest 14 = .ok (.ifCond .ne 8, 3) := by decide +kernel
theorem dX7_rest_17 : decode cX7_rest 17 = .ok (.ldc 80, 2) := by decide +kernel
theorem dX7_rest_19 : decode cX7_rest 19 = .ok (.goto 14, 3) := by decide +kernel
theorem dX7_rest_22 : decode cX7_rest 22 = .ok (.aload_n 0, 1) := by decide +kernel
theorem dX7_rest_23 : decode cX7_rest 23 = .ok (.getfield 46, 3) := by decide +kernel
theorem dX7_rest_26 : decode cX7_rest 26 = .ok (.iload_n 1, 1) := by decide +kernel
theorem dX7_rest_27 : decode cX7_rest 27 = .ok (.aaload, 1) := by decide +kernel
theorem dX7_rest_28 : decode cX7_rest 28 = .ok (.getfield 278, 3) := by decide +kernel
theorem dX7_rest_31 : decode cX7_rest 31 = .ok (.iload_n 2, 1) := by decide +kernel
theorem dX7_rest_32 : decode cX7_rest 32 = .ok (.irem, 1) := by decide +kernel
theorem dX7_rest_33 : decode cX7_rest 33 = .ok (.ireturn, 1) := by decide +kernel
theorem dX7_tell_0 : decode cX7_tell 0 = .ok (.aload_n 0, 1) := by decide +kernel
theorem dX7_tell_1 : decode cX7_tell 1 = .ok (.getfield 57, 3) := by decide +kernel
theorem dX7_tell_4 : decode cX7_tell 4 = .ok (.bipush 60, 2) := by decide +kernel
theorem dX7_tell_6 : decode cX7_tell 6 = .ok (.if_icmp .lt 6, 3) := by decide +kernel
theorem dX7_tell_9 : decode cX7_tell 9 = .ok (.ldc 84, 2) := by decide +kernel
theorem dX7_tell_11 : decode cX7_tell 11 = .ok (.ireturn, 1) := by decide +kernel
theorem dX7_tell_12 : decode cX7_tell 12 = .ok (.aload_n 0, 1) := by decide +kernel
theorem dX7_tell_13 : decode cX7_tell 13 = .ok (.getfield 50, 3) := by decide +kernel
theorem dX7_tell_16 : decode cX7_tell 16 = .ok (.aload_n 0, 1) := by decide +kernel
theorem dX7_tell_17 : decode cX7_tell 17 = .ok (.getfield 57, 3) := by decide +kernel
theorem dX7_tell_20 : decode cX7_tell 20 = .ok (.iload_n 1, 1) := by decide +kernel
theorem dX7_tell_21 : decode cX7_tell 21 = .ok (.iastore, 1) := by decide +kernel
theorem dX7_tell_22 : decode cX7_tell 22 = .ok (.aload_n 0, 1) := by decide +kernel
theorem dX7_tell_23 : decode cX7_tell 23 = .ok (.dup, 1) := by decide +kernel
theorem dX7_tell_24 : decode cX7_tell 24 = .ok (.getfield 57, 3) := by decide +kernel
theorem dX7_tell_27 : decode cX7_tell 27 = .ok (.iconst 1, 1) := by decide +kernel
theorem dX7_tell_28 : decode cX7_tell 28 = .ok (.iadd, 1) := by decide +kernel
theorem dX7_tell_29 : decode cX7_tell 29 = .ok (.putfield 57, 3) := by decide +kernel
theorem dX7_tell_32 : decode cX7_tell 32 = .ok (.aload_n 0, 1) := by decide +kernel
theorem dX7_tell_33 : decode cX7_tell 33 = .ok (.getfield 57, 3) := by decide +kernel
theorem dX7_tell_36 : decode cX7_tell 36 = .ok (.ireturn, 1) := by decide +kernel
theorem dX7_check_0 : decode cX7_check 0 = .ok (.aload_n 0, 1) := by decide +kernel
theorem dX7_check_1 : decode cX7_check 1 = .ok (.getfield 57, 3) := by decide +kernel
theorem dX7_check_4 : decode cX7_check 4 = .ok (.istore_n 2, 1) := by decide +kernel
theorem dX7_check_5 : decode cX7_check 5 = .ok (.aload_n 0, 1) := by decide +kernel
theorem dX7_check_6 : decode cX7_check 6 = .ok (.iconst 0, 1) := by decide +kernel
theorem dX7_check_7 : decode cX7_check 7 = .ok (.putfield 57, 3) := by decide +kernel
theorem dX7_check_10 : decode cX7_check 10 = .ok (.iload_n 1, 1) := by decide +kernel
theorem dX7_check_11 : decode cX7_check 11 = .ok (.iconst 1, 1) := by decide +kernel
theorem dX7_check_12 : decode cX7_check 12 = .ok (.bipush 30, 2) := by decide +kernel
theorem dX7_check_14 : decode cX7_check 14 = .ok (.invokestatic 67, 3) := by decide +kernel
theorem dX7_check_17 : decode cX7_check 17 = .ok (.ifCond .ne 6, 3) := by decide +kernel
theorem dX7_check_20 : decode cX7_check 20 = .ok (.ldc 75, 2) := by decide +kernel
theorem dX7_check_22 : decode cX7_check 22 = .ok (.ireturn, 1) := by decide +kernel
theorem dX7_check_23 : decode cX7_check 23 = .ok (.aload_n 0, 1) := by decide +kernel
theorem dX7_check_24 : decode cX7_check 24 = .ok (.getfield 61, 3) := by decide +kernel
theorem dX7_check_27 : decode cX7_check 27 = .ok (.ifCond .ne 6, 3) := by decide +kernel
theorem dX7_check_30 : decode cX7_check 30 = .ok (.ldc 80, 2) := by decide +kernel
theorem dX7_check_32 : decode cX7_check 32 = .ok (.ireturn, 1) := by decide +kernel
theorem dX7_check_33 : decode cX7_check 33 = .ok (.iconst 2, 1) := by decide +kernel
theorem dX7_check_34 : decode cX7_check 34 = .ok (.iload_n 1, 1) := by decide +kernel
theorem dX7_check_35 : decode cX7_check 35 = .ok (.sipush 9999, 3) := by decide +kernel
theorem dX7_check_38 : decode cX7_check 38 = .ok (.aload_n 0, 1) := by decide +kernel
theorem dX7_check_39 : decode cX7_check 39 = .ok (.getfield 32, 3) := by decide +kernel
theorem dX7_check_42 : decode cX7_check 42 = .ok (.getfield 165, 3) := by decide +kernel
theorem dX7_check_45 : decode cX7_check 45 = .ok (.isub, 1) := by decide +kernel
theorem dX7_check_46 : decode cX7_check 46 = .ok (.invokestatic 138, 3) := by decide +kernel
theorem dX7_check_49 : decode cX7_check 49 = .ok (.imul, 1) := by decide +kernel
theorem dX7_check_50 : decode cX7_check 50 = .ok (.istore_n 3, 1) := by decide +kernel
theorem dX7_check_51 : decode cX7_check 51 = .ok (.aload_n 0, 1) := by decide +kernel
theorem dX7_check_52 : decode cX7_check 52 = .ok (.getfield 35, 3) := by decide +kernel
theorem dX7_check_55 : decode cX7_check 55 = .ok (.aload_n 0, 1) := by decide +kernel
theorem dX7_check_56 : decode cX7_check 56 = .ok (.getfield 32, 3) := by decide +kernel
theorem dX7_check_59 : decode cX7_check 59 = .ok (.invokevirtual 182, 3) := by decide +kernel
theorem dX7_check_62 : decode cX7_check 62 = .ok (.iconst 0, 1) := by decide +kernel
theorem dX7_check_63 : decode cX7_check 63 = .ok (.istore 4, 2) := by decide +kernel
theorem dX7_check_65 : decode cX7_check 65 = .ok (.iload 4, 2) := by decide +kernel
theorem dX7_check_67 : decode cX7_check 67 = .ok (.iload_n 3, 1) := by decide +kernel
theorem dX7_check_68 : decode cX7_check 68 = .ok (.if_icmp .ge 73, 3) := by decide +kernel
theorem dX7_check_71 : decode cX7_check 71 = .ok (.iload 4, 2) := by decide +kernel
theorem dX7_check_73 : decode cX7_check 73 = .ok (.iconst 2, 1) := by decide +kernel
theorem dX7_check_74 : decode cX7_check 74 = .ok (.irem, 1) := by decide +kernel
theorem dX7_check_75 : decode cX7_check 75 = .ok (.ifCond .ne 11, 3) := by decide +kernel
theorem dX7_check_78 : decode cX7_check 78 = .ok (.aload_n 0, 1) := by decide +kernel
theorem dX7_check_79 : decode cX7_check 79 = .ok (.getfield 35, 3) := by decide +kernel
theorem dX7_check_82 : decode cX7_check 82 = .ok (.iconst 1, 1) := by decide +kernel
theorem dX7_check_83 : decode cX7_check 83 = .ok (.invokevirtual 168, 3) := by decide +kernel
theorem dX7_check_86 : decode cX7_check 86 = .ok (.iload 4, 2) := by decide +kernel
theorem dX7_check_88 : decode cX7_check 88 = .ok (.iconst 2, 1) := by decide +kernel
theorem dX7_check_89 : decode cX7_check 89 = .ok (.irem, 1) := by decide +kernel
theorem dX7_check_90 : decode cX7_check 90 = .ok (.ifCond .ne 13, 3) := by decide +kernel
theorem dX7_check_93 : decode cX7_check 93 = .ok (.aload_n 0, 1) := by decide +kernel
theorem dX7_check_94 : decode cX7_check 94 = .ok (.getfield 35, 3) := by decide +kernel
theorem dX7_check_97 : decode cX7_check 97 = .ok (.getfield 162, 3) := by decide +kernel
theorem dX7_check_100 : decode cX7_check 100 = .ok (.goto 10, 3) := by decide +kernel
theorem dX7_check_103 : decode cX7_check 103 = .ok (.aload_n 0, 1) := by decide +kernel
theorem dX7_check_104 : decode cX7_check 104 = .ok (.getfield 35, 3) := by decide +kernel
theorem dX7_check_107 : decode cX7_check 107 = .ok (.invokevirtual 178, 3) := by decide +kernel
theorem dX7_check_110 : decode cX7_check 110 = .ok (.istore 5, 2) := by decide +kernel
theorem dX7_check_112 : decode cX7_check 112 = .ok (.iload 4, 2) := by decide +kernel
theorem dX7_check_114 : decode cX7_check 114 = .ok (.iload_n 2, 1) := by decide +kernel
theorem dX7_check_115 : decode cX7_check 115 = .ok (.if_icmp .ge 15, 3) := by decide +kernel
theorem dX7_check_118 : decode cX7_check 118 = .ok (.aload_n 0, 1) := by decide +kernel
theorem dX7_check_119 : decode cX7_check 119 = .ok (.getfield 50, 3) := by decide +kernel
theorem dX7_check_122 : decode cX7_check 122 = .ok (.iload 4, 2) := by decide +kernel
theorem dX7_check_124 : decode cX7_check 124 = .ok (.iaload, 1) := by decide +kernel
theorem dX7_check_125 : decode cX7_check 125 = .ok (.iload 5, 2) := by decide +kernel
theorem dX7_check_127 : decode cX7_check 127 = .ok (.if_icmp .eq 8, 3) := by decide +kernel
theorem dX7_check_130 : decode cX7_check 130 = .ok (.iconst 1, 1) := by decide +kernel
theorem dX7_check_131 : decode cX7_check 131 = .ok (.iload 4, 2) := by decide +kernel
theorem dX7_check_133 : decode cX7_check 133 = .ok (.iadd, 1) := by decide +kernel
theorem dX7_check_134 : decode cX7_check 134 = .ok (.ireturn, 1) := by decide +kernel
theorem dX7_check_135 : decode cX7_check 135 = .ok (.iinc 4 1, 3) := by decide +kernel
theorem dX7_check_138 : decode cX7_check 138 = .ok (.goto (-73), 3) := by decide +kernel
theorem dX7_check_141 : decode cX7_check 141 = .ok (.iload_n 2, 1) := by decide +kernel
theorem dX7_check_142 : decode cX7_check 142 = .ok (.iload_n 3, 1) := by decide +kernel
theorem dX7_check_143 : decode cX7_check 143 = .ok (.if_icmp .le 9, 3) := by decide +kernel
theorem dX7_check_146 : decode cX7_check 146 = .ok (.iconst 1, 1) := by decide +kernel
theorem dX7_check_147 : decode cX7_check 147 = .ok (.iload_n 3, 1) := by decide +kernel
theorem dX7_check_148 : decode cX7_check 148 = .ok (.iadd, 1) := by decide +kernel
theorem dX7_check_149 : decode cX7_check 149 = .ok (.goto 4, 3) := by decide +kernel
theorem dX7_check_152 : decode cX7_check 152 = .ok (.iconst 0, 1) := by decide +kernel
theorem dX7_check_153 : decode cX7_check 153 = .ok (.ireturn, 1) := by decide +kernel
theorem dX7_keep_0 : decode cX7_keep 0 = .ok (.aload_n 0, 1) := by decide +kernel
theorem dX7_keep_1 : decode cX7_keep 1 = .ok (.getfield 32, 3) := by decide +kernel
theorem dX7_keep_4 : decode cX7_keep 4 = .ok (.aload_n 0, 1) := by decide +kernel
theorem dX7_keep_5 : decode cX7_keep 5 = .ok (.getfield 28, 3) := by decide +kernel
theorem dX7_keep_8 : decode cX7_keep 8 = .ok (.invokevirtual 182, 3) := by decide +kernel
theorem dX7_keep_11 : decode cX7_keep 11 = .ok (.aload_n 0, 1) := by decide +kernel
theorem dX7_keep_12 : decode cX7_keep 12 = .ok (.iconst 1, 1) := by decide +kernel
theorem dX7_keep_13 : decode cX7_keep 13 = .ok (.putfield 61, 3) := by decide +kernel
theorem dX7_keep_16 : decode cX7_keep 16 = .ok (.aload_n 0, 1) := by decide +kernel
theorem dX7_keep_17 : decode cX7_keep 17 = .ok (.getfield 32, 3) := by decide +kernel
theorem dX7_keep_20 : decode cX7_keep 20 = .ok (.getfield 81, 3) := by decide +kernel
theorem dX7_keep_23 : decode cX7_keep 23 = .ok (.ireturn, 1) := by decide +kernel
theorem dX7_back_0 : decode cX7_back 0 = .ok (.aload_n 0, 1) := by decide +kernel
theorem dX7_back_1 : decode cX7_back 1 = .ok (.getfield 61, 3) := by decide +kernel
theorem dX7_back_4 : decode cX7_back 4 = .ok (.ifCond .ne 6, 3) := by decide +kernel
theorem dX7_back_7 : decode cX7_back 7 = .ok (.ldc 80, 2) := by decide +kernel
theorem dX7_back_9 : decode cX7_back 9 = .ok (.ireturn, 1) := by decide +kernel
theorem dX7_back_10 : decode cX7_back 10 = .ok (.aload_n 0, 1) := by decide +kernel
theorem dX7_back_11 : decode cX7_back 11 = .ok (.getfield 28, 3) := by decide +kernel
theorem dX7_back_14 : decode cX7_back 14 = .ok (.aload_n 0, 1) := by decide +kernel
theorem dX7_back_15 : decode cX7_back 15 = .ok (.getfield 32, 3) := by decide +kernel
theorem dX7_back_18 : decode cX7_back 18 = .ok (.invokevirtual 182, 3) := by decide +kernel
theorem dX7_back_21 : decode cX7_back 21 = .ok (.aload_n 0, 1) := by decide +kernel
theorem dX7_back_22 : decode cX7_back 22 = .ok (.getfield 28, 3) := by decide +kernel
theorem dX7_back_25 : decode cX7_back 25 = .ok (.getfield 81, 3) := by decide +kernel
theorem dX7_back_28 : decode cX7_back 28 = .ok (.ireturn, 1) := by decide +kernel
theorem dX7_count_0 : decode cX7_count 0 = .ok (.iload_n 1, 1) := by decide +kernel
theorem dX7_count_1 : decode cX7_count 1 = .ok (.tableswitch 126 0 8 #[51, 59, 67, 77, 87, 97, 105, 110, 118], 51) := by decide +kernel
theorem dX7_count_52 : decode cX7_count 52 = .ok (.aload_n 0, 1) := by decide +kernel
theorem dX7_count_53 : decode cX7_count 53 = .ok (.getfield 28, 3) := by decide +kernel
theorem dX7_count_56 : decode cX7_count 56 = .ok (.getfield 81, 3) := by decide +kernel
theorem dX7_count_59 : decode cX7_count 59 = .ok (.ireturn, 1) := by decide +kernel
theorem dX7_count_60 : decode cX7_count 60 = .ok (.aload_n 0, 1) := by decide +kernel
theorem dX7_count_61 : decode cX7_count 61 = .ok (.getfield 28, 3) := by decide +kernel
theorem dX7_count_64 : decode cX7_count 64 = .ok (.getfield 165, 3) := by decide +kernel
theorem dX7_count_67 : decode cX7_count 67 = .ok (.ireturn, 1) := by decide +kernel
theorem dX7_count_68 : decode cX7_count 68 = .ok (.aload_n 0, 1) := by decide +kernel
theorem dX7_count_69 : decode cX7_count 69 = .ok (.getfield 28, 3) := by decide +kernel
theorem dX7_count_72 : decode cX7_count 72 = .ok (.getfield 135, 3) := by decide +kernel
theorem dX7_count_75 : decode cX7_count 75 = .ok (.iconst 0, 1) := by decide +kernel
theorem dX7_count_76 : decode cX7_count 76 = .ok (.iaload, 1) := by decide +kernel
theorem dX7_count_77 : decode cX7_count 77 = .ok (.ireturn, 1) := by decide +kernel
theorem dX7_count_78 : decode cX7_count 78 = .ok (.aload_n 0, 1) := by decide +kernel
theorem dX7_count_79 : decode cX7_count 79 = .ok (.getfield 28, 3) := by decide +kernel
theorem dX7_count_82 : decode cX7_count 82 = .ok (.getfield 135, 3) := by decide +kernel
theorem dX7_count_85 : decode cX7_count 85 = .ok (.iconst 1, 1) := by decide +kernel
theorem dX7_count_86 : decode cX7_count 86 = .ok (.iaload, 1) := by decide +kernel
theorem dX7_count_87 : decode cX7_count 87 = .ok (.ireturn, 1) := by decide +kernel
theorem dX7_count_88 : decode cX7_count 88 = .ok (.aload_n 0, 1) := by decide +kernel
theorem dX7_count_89 : decode cX7_count 89 = .ok (.getfield 28, 3) := by decide +kernel
theorem dX7_count_92 : decode cX7_count 92 = .ok (.getfield 135, 3) := by decide +kernel
theorem dX7_count_95 : decode cX7_count 95 = .ok (.iconst 2, 1) := by decide +kernel
theorem dX7_count_96 : decode cX7_count 96 = .ok (.iaload, 1) := by decide +kernel
theorem dX7_count_97 : decode cX7_count 97 = .ok (.ireturn, 1) := by decide +kernel
theorem dX7_count_98 : decode cX7_count 98 = .ok (.aload_n 0, 1) := by decide +kernel
theorem dX7_count_99 : decode cX7_count 99 = .ok (.getfield 28, 3) := by decide +kernel
theorem dX7_count_102 : decode cX7_count 102 = .ok (.getfield 217, 3) := by decide +kernel
theorem dX7_count_105 : decode cX7_count 105 = .ok (.ireturn, 1) := by decide +kernel
theorem dX7_count_106 : decode cX7_count 106 = .ok (.aload_n 0, 1) := by decide +kernel
theorem dX7_count_107 : decode cX7_count 107 = .ok (.getfield 57, 3) := by decide +kernel
theorem dX7_count_110 : decode cX7_count 110 = .ok (.ireturn, 1) := by decide +kernel
theorem dX7_count_111 : decode cX7_count 111 = .ok (.aload_n 0, 1) := by decide +kernel
theorem dX7_count_112 : decode cX7_count 112 = .ok (.getfield 19, 3) := by decide +kernel
theorem dX7_count_115 : decode cX7_count 115 = .ok (.getfield 211, 3) := by decide +kernel
theorem dX7_count_118 : decode cX7_count 118 = .ok (.ireturn, 1) := by decide +kernel
theorem dX7_count_119 : decode cX7_count 119 = .ok (.aload_n 0, 1) := by decide +kernel
theorem dX7_count_120 : decode cX7_count 120 = .ok (.getfield 28, 3) := by decide +kernel
theorem dX7_count_123 : decode cX7_count 123 = .ok (.getfield 147, 3) := by decide +kernel
theorem dX7_count_126 : decode cX7_count 126 = .ok (.ireturn, 1) := by decide +kernel
theorem dX7_count_127 : decode cX7_count 127 = .ok (.ldc 75, 2) := by decide +kernel
theorem dX7_count_129 : decode cX7_count 129 = .ok (.ireturn, 1) := by decide +kernel
theorem dX7_isWithin_0 : decode cX7_isWithin 0 = .ok (.iload_n 0, 1) := by decide +kernel
theorem dX7_isWithin_1 : decode cX7_isWithin 1 = .ok (.iload_n 1, 1) := by decide +kernel
theorem dX7_isWithin_2 : decode cX7_isWithin 2 = .ok (.if_icmp .lt 12, 3) := by decide +kernel
theorem dX7_isWithin_5 : decode cX7_isWithin 5 = .ok (.iload_n 0, 1) := by decide +kernel
theorem dX7_isWithin_6 : decode cX7_isWithin 6 = .ok (.iload_n 2, 1) := by decide +kernel
theorem dX7_isWithin_7 : decode cX7_isWithin 7 = .ok (.if_icmp .gt 7, 3) := by decide +kernel
theorem dX7_isWithin_10 : decode cX7_isWithin 10 = .ok (.iconst 1, 1) := by decide +kernel
theorem dX7_isWithin_11 : decode cX7_isWithin 11 = .ok (.goto 4, 3) := by decide +kernel
theorem dX7_isWithin_14 : decode cX7_isWithin 14 = .ok (.iconst 0, 1) := by decide +kernel
theorem dX7_isWithin_15 : decode cX7_isWithin 15 = .ok (.ireturn, 1) := by decide +kernel
theorem dX7_held_0 : decode cX7_held 0 = .ok (.iload_n 1, 1) := by decide +kernel
theorem dX7_held_1 : decode cX7_held 1 = .ok (.iload_n 2, 1) := by decide +kernel
theorem dX7_held_2 : decode cX7_held 2 = .ok (.iload_n 0, 1) := by decide +kernel
theorem dX7_held_3 : decode cX7_held 3 = .ok (.invokestatic 138, 3) := by decide +kernel
theorem dX7_held_6 : decode cX7_held 6 = .ok (.invokestatic 284, 3) := by decide +kernel
theorem dX7_held_9 : decode cX7_held 9 = .ok (.ireturn, 1) := by decide +kernel
theorem dX7_isValue_0 : decode cX7_isValue 0 = .ok (.iload_n 0, 1) := by decide +kernel
theorem dX7_isValue_1 : decode cX7_isValue 1 = .ok (.tableswitch 52 2 4 #[27, 36, 44], 27) := by decide +kernel
theorem dX7_isValue_28 : decode cX7_isValue 28 = .ok (.iload_n 1, 1) := by decide +kernel
theorem dX7_isValue_29 : decode cX7_isValue 29 = .ok (.iconst 0, 1) := by decide +kernel
theorem dX7_isValue_30 : decode cX7_isValue 30 = .ok (.sipush 200, 3) := by decide +kernel
theorem dX7_isValue_33 : decode cX7_isValue 33 = .ok (.invokestatic 67, 3) := by decide +kernel
theorem dX7_isValue_36 : decode cX7_isValue 36 = .ok (.ireturn, 1) := by decide +kernel
theorem dX7_isValue_37 : decode cX7_isValue 37 = .ok (.iload_n 1, 1) := by decide +kernel
theorem dX7_isValue_38 : decode cX7_isValue 38 = .ok (.iconst 0, 1) := by decide +kernel
theorem dX7_isValue_39 : decode cX7_isValue 39 = .ok (.bipush 50, 2) := by decide +kernel
theorem dX7_isValue_41 : decode cX7_isValue 41 = .ok (.invokestatic 67, 3) := by decide +kernel
theorem dX7_isValue_44 : decode cX7_isValue 44 = .ok (.ireturn, 1) := by decide +kernel
theorem dX7_isValue_45 : decode cX7_isValue 45 = .ok (.iload_n 1, 1) := by decide +kernel
theorem dX7_isValue_46 : decode cX7_isValue 46 = .ok (.iconst (-1), 1) := by decide +kernel
theorem dX7_isValue_47 : decode cX7_isValue 47 = .ok (.bipush 7, 2) := by decide +kernel
theorem dX7_isValue_49 : decode cX7_isValue 49 = .ok (.invokestatic 67, 3) := by decide +kernel
theorem dX7_isValue_52 : decode cX7_isValue 52 = .ok (.ireturn, 1) := by decide +kernel
theorem dX7_isValue_53 : decode cX7_isValue 53 = .ok (.iconst 0, 1) := by decide +kernel
theorem dX7_isValue_54 : decode cX7_isValue 54 = .ok (.ireturn, 1) := by decide +kernel
theorem dX7_isSupposable_0 : decode cX7_isSupposable 0 = .ok (.aload_n 0, 1) := by decide +kernel
theorem dX7_isSupposable_1 : decode cX7_isSupposable 1 = .ok (.getfield 28, 3) := by decide +kernel
theorem dX7_isSupposable_4 : decode cX7_isSupposable 4 = .ok (.iload_n 1, 1) := by decide +kernel
theorem dX7_isSupposable_5 : decode cX7_isSupposable 5 = .ok (.invokevirtual 89, 3) := by decide +kernel
theorem dX7_isSupposable_8 : decode cX7_isSupposable 8 = .ok (.ifCond .eq 26, 3) := by decide +kernel
theorem dX7_isSupposable_11 : decode cX7_isSupposable 11 = .ok (.iload_n 2, 1) := by decide +kernel
theorem dX7_isSupposable_12 : decode cX7_isSupposable 12 = .ok (.iconst 1, 1) := by decide +kernel
theorem dX7_isSupposable_13 : decode cX7_isSupposable 13 = .ok (.bipush 60, 2) := by decide +kernel
theorem dX7_isSupposable_15 : decode cX7_isSupposable 15 = .ok (.invokestatic 67, 3) := by decide +kernel
theorem dX7_isSupposable_18 : decode cX7_isSupposable 18 = .ok (.ifCond .eq 16, 3) := by decide +kernel
theorem dX7_isSupposable_21 : decode cX7_isSupposable 21 = .ok (.iload_n 3, 1) := by decide +kernel
theorem dX7_isSupposable_22 : decode cX7_isSupposable 22 = .ok (.iconst 0, 1) := by decide +kernel
theorem dX7_isSupposable_23 : decode cX7_isSupposable 23 = .ok (.iconst 1, 1) := by decide +kernel
theorem dX7_isSupposable_24 : decode cX7_isSupposable 24 = .ok (.invokestatic 67, 3) := by decide +kernel
theorem dX7_isSupposable_27 : decode cX7_isSupposable 27 = .ok (.ifCond .eq 7, 3) := by decide +kernel
theorem dX7_isSupposable_30 : decode cX7_isSupposable 30 = .ok (.iconst 1, 1) := by decide +kernel
theorem dX7_isSupposable_31 : decode cX7_isSupposable 31 = .ok (.goto 4, 3) := by decide +kernel
theorem dX7_isSupposable_34 : decode cX7_isSupposable 34 = .ok (.iconst 0, 1) := by decide +kernel
theorem dX7_isSupposable_35 : decode cX7_isSupposable 35 = .ok (.ireturn, 1) := by decide +kernel
theorem dX7_firstDay_0 : decode cX7_firstDay 0 = .ok (.aload_n 0, 1) := by decide +kernel
theorem dX7_firstDay_1 : decode cX7_firstDay 1 = .ok (.getfield 35, 3) := by decide +kernel
theorem dX7_firstDay_4 : decode cX7_firstDay 4 = .ok (.aload_n 0, 1) := by decide +kernel
theorem dX7_firstDay_5 : decode cX7_firstDay 5 = .ok (.getfield 28, 3) := by decide +kernel
theorem dX7_firstDay_8 : decode cX7_firstDay 8 = .ok (.invokevirtual 182, 3) := by decide +kernel
theorem dX7_firstDay_11 : decode cX7_firstDay 11 = .ok (.iconst 0, 1) := by decide +kernel
theorem dX7_firstDay_12 : decode cX7_firstDay 12 = .ok (.istore 4, 2) := by decide +kernel
theorem dX7_firstDay_14 : decode cX7_firstDay 14 = .ok (.iload 4, 2) := by decide +kernel
theorem dX7_firstDay_16 : decode cX7_firstDay 16 = .ok (.sipush 200, 3) := by decide +kernel
theorem dX7_firstDay_19 : decode cX7_firstDay 19 = .ok (.if_icmp .gt 42, 3) := by decide +kernel
theorem dX7_firstDay_22 : decode cX7_firstDay 22 = .ok (.iload 4, 2) := by decide +kernel
theorem dX7_firstDay_24 : decode cX7_firstDay 24 = .ok (.ifCond .le 11, 3) := by decide +kernel
theorem dX7_firstDay_27 : decode cX7_firstDay 27 = .ok (.aload_n 0, 1) := by decide +kernel
theorem dX7_firstDay_28 : decode cX7_firstDay 28 = .ok (.getfield 35, 3) := by decide +kernel
theorem dX7_firstDay_31 : decode cX7_firstDay 31 = .ok (.iconst 1, 1) := by decide +kernel
theorem dX7_firstDay_32 : decode cX7_firstDay 32 = .ok (.invokevirtual 168, 3) := by decide +kernel
theorem dX7_firstDay_35 : decode cX7_firstDay 35 = .ok (.aload_n 0, 1) := by decide +kernel
theorem dX7_firstDay_36 : decode cX7_firstDay 36 = .ok (.getfield 35, 3) := by decide +kernel
theorem dX7_firstDay_39 : decode cX7_firstDay 39 = .ok (.getfield 98, 3) := by decide +kernel
theorem dX7_firstDay_42 : decode cX7_firstDay 42 = .ok (.iload_n 1, 1) := by decide +kernel
theorem dX7_firstDay_43 : decode cX7_firstDay 43 = .ok (.iaload, 1) := by decide +kernel
theorem dX7_firstDay_44 : decode cX7_firstDay 44 = .ok (.iload_n 2, 1) := by decide +kernel
theorem dX7_firstDay_45 : decode cX7_firstDay 45 = .ok (.iload_n 3, 1) := by decide +kernel
theorem dX7_firstDay_46 : decode cX7_firstDay 46 = .ok (.invokestatic 67, 3) := by decide +kernel
theorem dX7_firstDay_49 : decode cX7_firstDay 49 = .ok (.ifCond .eq 6, 3) := by decide +kernel
theorem dX7_firstDay_52 : decode cX7_firstDay 52 = .ok (.iload 4, 2) := by decide +kernel
theorem dX7_firstDay_54 : decode cX7_firstDay 54 = .ok (.ireturn, 1) := by decide +kernel
theorem dX7_firstDay_55 : decode cX7_firstDay 55 = .ok (.iinc 4 1, 3) := by decide +kernel
theorem dX7_firstDay_58 : decode cX7_firstDay 58 = .ok (.goto (-44), 3) := by decide +kernel
theorem dX7_firstDay_61 : decode cX7_firstDay 61 = .ok (.ldc 134, 2) := by decide +kernel
theorem dX7_firstDay_63 : decode cX7_firstDay 63 = .ok (.ireturn, 1) := by decide +kernel
theorem dX7_tallest_0 : decode cX7_tallest 0 = .ok (.ldc 134, 2) := by decide +kernel
theorem dX7_tallest_2 : decode cX7_tallest 2 = .ok (.istore 5, 2) := by decide +kernel
theorem dX7_tallest_4 : decode cX7_tallest 4 = .ok (.ldc 134, 2) := by decide +kernel
theorem dX7_tallest_6 : decode cX7_tallest 6 = .ok (.istore 6, 2) := by decide +kernel
theorem dX7_tallest_8 : decode cX7_tallest 8 = .ok (.iload_n 1, 1) := by decide +kernel
theorem dX7_tallest_9 : decode cX7_tallest 9 = .ok (.ifCond .ne 8, 3) := by decide +kernel
theorem dX7_tallest_12 : decode cX7_tallest 12 = .ok (.bipush 50, 2) := by decide +kernel
theorem dX7_tallest_14 : decode cX7_tallest 14 = .ok (.goto 21, 3) := by decide +kernel
theorem dX7_tallest_17 : decode cX7_tallest 17 = .ok (.iload_n 1, 1) := by decide +kernel
theorem dX7_tallest_18 : decode cX7_tallest 18 = .ok (.iconst 1, 1) := by decide +kernel
theorem dX7_tallest_19 : decode cX7_tallest 19 = .ok (.if_icmp .ne 15, 3) := by decide +kernel
theorem dX7_tallest_22 : decode cX7_tallest 22 = .ok (.aload_n 0, 1) := by decide +kernel
theorem dX7_tallest_23 : decode cX7_tallest 23 = .ok (.getfield 28, 3) := by decide +kernel
theorem dX7_tallest_26 : decode cX7_tallest 26 = .ok (.getfield 81, 3) := by decide +kernel
theorem dX7_tallest_29 : decode cX7_tallest 29 = .ok (.iconst 1, 1) := by decide +kernel
theorem dX7_tallest_30 : decode cX7_tallest 30 = .ok (.isub, 1) := by decide +kernel
theorem dX7_tallest_31 : decode cX7_tallest 31 = .ok (.goto 4, 3) := by decide +kernel
theorem dX7_tallest_34 : decode cX7_tallest 34 = .ok (.iconst 5, 1) := by decide +kernel
theorem dX7_tallest_35 : decode cX7_tallest 35 = .ok (.istore 7, 2) := by decide +kernel
theorem dX7_tallest_37 : decode cX7_tallest 37 = .ok (.iload_n 1, 1) := by decide +kernel
theorem dX7_tallest_38 : decode cX7_tallest 38 = .ok (.ifCond .ne 7, 3) := by decide +kernel
theorem dX7_tallest_41 : decode cX7_tallest 41 = .ok (.iconst 5, 1) := by decide +kernel
theorem dX7_tallest_42 : decode cX7_tallest 42 = .ok (.goto 4, 3) := by decide +kernel
theorem dX7_tallest_45 : decode cX7_tallest 45 = .ok (.iconst 1, 1) := by decide +kernel
theorem dX7_tallest_46 : decode cX7_tallest 46 = .ok (.istore 8, 2) := by decide +kernel
theorem dX7_tallest_48 : decode cX7_tallest 48 = .ok (.iconst 0, 1) := by decide +kernel
theorem dX7_tallest_49 : decode cX7_tallest 49 = .ok (.istore 9, 2) := by decide +kernel
theorem dX7_tallest_51 : decode cX7_tallest 51 = .ok (.iload 9, 2) := by decide +kernel
theorem dX7_tallest_53 : decode cX7_tallest 53 = .ok (.iload 7, 2) := by decide +kernel
theorem dX7_tallest_55 : decode cX7_tallest 55 = .ok (.if_icmp .gt 93, 3) := by decide +kernel
theorem dX7_tallest_58 : decode cX7_tallest 58 = .ok (.iload_n 1, 1) := by decide +kernel
theorem dX7_tallest_59 : decode cX7_tallest 59 = .ok (.iconst 1, 1) := by decide +kernel
theorem dX7_tallest_60 : decode cX7_tallest 60 = .ok (.if_icmp .ne 12, 3) := by decide +kernel
theorem dX7_tallest_63 : decode cX7_tallest 63 = .ok (.iload 9, 2) := by decide +kernel
theorem dX7_tallest_65 : decode cX7_tallest 65 = .ok (.iload_n 2, 1) := by decide +kernel
theorem dX7_tallest_66 : decode cX7_tallest 66 = .ok (.if_icmp .ne 6, 3) := by decide +kernel
theorem dX7_tallest_69 : decode cX7_tallest 69 = .ok (.goto 69, 3) := by decide +kernel
theorem dX7_tallest_72 : decode cX7_tallest 72 = .ok (.aload_n 0, 1) := by decide +kernel
theorem dX7_tallest_73 : decode cX7_tallest 73 = .ok (.getfield 35, 3) := by decide +kernel
theorem dX7_tallest_76 : decode cX7_tallest 76 = .ok (.aload_n 0, 1) := by decide +kernel
theorem dX7_tallest_77 : decode cX7_tallest 77 = .ok (.getfield 28, 3) := by decide +kernel
theorem dX7_tallest_80 : decode cX7_tallest 80 = .ok (.invokevirtual 182, 3) := by decide +kernel
theorem dX7_tallest_83 : decode cX7_tallest 83 = .ok (.aload_n 0, 1) := by decide +kernel
theorem dX7_tallest_84 : decode cX7_tallest 84 = .ok (.getfield 35, 3) := by decide +kernel
theorem dX7_tallest_87 : decode cX7_tallest 87 = .ok (.iload_n 1, 1) := by decide +kernel
theorem dX7_tallest_88 : decode cX7_tallest 88 = .ok (.iload_n 2, 1) := by decide +kernel
theorem dX7_tallest_89 : decode cX7_tallest 89 = .ok (.iload 9, 2) := by decide +kernel
theorem dX7_tallest_91 : decode cX7_tallest 91 = .ok (.invokevirtual 287, 3) := by decide +kernel
theorem dX7_tallest_94 : decode cX7_tallest 94 = .ok (.aload_n 0, 1) := by decide +kernel
theorem dX7_tallest_95 : decode cX7_tallest 95 = .ok (.getfield 35, 3) := by decide +kernel
theorem dX7_tallest_98 : decode cX7_tallest 98 = .ok (.iload_n 3, 1) := by decide +kernel
theorem dX7_tallest_99 : decode cX7_tallest 99 = .ok (.invokevirtual 168, 3) := by decide +kernel
theorem dX7_tallest_102 : decode cX7_tallest 102 = .ok (.iload 5, 2) := by decide +kernel
theorem dX7_tallest_104 : decode cX7_tallest 104 = .ok (.ldc 134, 2) := by decide +kernel
theorem dX7_tallest_106 : decode cX7_tallest 106 = .ok (.if_icmp .eq 17, 3) := by decide +kernel
theorem dX7_tallest_109 : decode cX7_tallest 109 = .ok (.aload_n 0, 1) := by decide +kernel
theorem dX7_tallest_110 : decode cX7_tallest 110 = .ok (.getfield 35, 3) := by decide +kernel
theorem dX7_tallest_113 : decode cX7_tallest 113 = .ok (.getfield 98, 3) := by decide +kernel
theorem dX7_tallest_116 : decode cX7_tallest 116 = .ok (.iload_n 2, 1) := by decide +kernel
theorem dX7_tallest_117 : decode cX7_tallest 117 = .ok (.iaload, 1) := by decide +kernel
theorem dX7_tallest_118 : decode cX7_tallest 118 = .ok (.iload 6, 2) := by decide +kernel
theorem dX7_tallest_120 : decode cX7_tallest 120 = .ok (.if_icmp .le 18, 3) := by decide +kernel
theorem dX7_tallest_123 : decode cX7_tallest 123 = .ok (.iload 9, 2) := by decide +kernel
theorem dX7_tallest_125 : decode cX7_tallest 125 = .ok (.istore 5, 2) := by decide +kernel
theorem dX7_tallest_127 : decode cX7_tallest 127 = .ok (.aload_n 0, 1) := by decide +kernel
theorem dX7_tallest_128 : decode cX7_tallest 128 = .ok (.getfield 35, 3) := by decide +kernel
theorem dX7_tallest_131 : decode cX7_tallest 131 = .ok (.getfield 98, 3) := by decide +kernel
theorem dX7_tallest_134 : decode cX7_tallest 134 = .ok (.iload_n 2, 1) := by decide +kernel
theorem dX7_tallest_135 : decode cX7_tallest 135 = .ok (.iaload, 1) := by decide +kernel
theorem dX7_tallest_136 : decode cX7_tallest 136 = .ok (.istore 6, 2) := by decide +kernel
theorem dX7_tallest_138 : decode cX7_tallest 138 = .ok (.iload 9, 2) := by decide +kernel
theorem dX7_tallest_140 : decode cX7_tallest 140 = .ok (.iload 8, 2) := by decide +kernel
theorem dX7_tallest_142 : decode cX7_tallest 142 = .ok (.iadd, 1) := by decide +kernel
theorem dX7_tallest_143 : decode cX7_tallest 143 = .ok (.istore 9, 2) := by decide +kernel
theorem dX7_tallest_145 : decode cX7_tallest 145 = .ok (.goto (-94), 3) := by decide +kernel
theorem dX7_tallest_148 : decode cX7_tallest 148 = .ok (.iload 4, 2) := by decide +kernel
theorem dX7_tallest_150 : decode cX7_tallest 150 = .ok (.ifCond .ne 8, 3) := by decide +kernel
theorem dX7_tallest_153 : decode cX7_tallest 153 = .ok (.iload 5, 2) := by decide +kernel
theorem dX7_tallest_155 : decode cX7_tallest 155 = .ok (.goto 5, 3) := by decide +kernel
theorem dX7_tallest_158 : decode cX7_tallest 158 = .ok (.iload 6, 2) := by decide +kernel
theorem dX7_tallest_160 : decode cX7_tallest 160 = .ok (.ireturn, 1) := by decide +kernel
theorem dX7_addDifferences_0 : decode cX7_addDifferences 0 = .ok (.iconst 0, 1) := by decide +kernel
theorem dX7_addDifferences_1 : decode cX7_addDifferences 1 = .ok (.istore_n 2, 1) := by decide +kernel
theorem dX7_addDifferences_2 : decode cX7_addDifferences 2 = .ok (.iload_n 2, 1) := by decide +kernel
theorem dX7_addDifferences_3 : decode cX7_addDifferences 3 = .ok (.bipush 8, 2) := by decide +kernel
theorem dX7_addDifferences_5 : decode cX7_addDifferences 5 = .ok (.if_icmp .ge 16, 3) := by decide +kernel
theorem dX7_addDifferences_8 : decode cX7_addDifferences 8 = .ok (.aload_n 0, 1) := by decide +kernel
theorem dX7_addDifferences_9 : decode cX7_addDifferences 9 = .ok (.getfield 54, 3) := by decide +kernel
theorem dX7_addDifferences_12 : decode cX7_addDifferences 12 = .ok (.iload_n 2, 1) := by decide +kernel
theorem dX7_addDifferences_13 : decode cX7_addDifferences 13 = .ok (.iconst 0, 1) := by decide +kernel
theorem dX7_addDifferences_14 : decode cX7_addDifferences 14 = .ok (.iastore, 1) := by decide +kernel
theorem dX7_addDifferences_15 : decode cX7_addDifferences 15 = .ok (.iinc 2 1, 3) := by decide +kernel
theorem dX7_addDifferences_18 : decode cX7_addDifferences 18 = .ok (.goto (-16), 3) := by decide +kernel
theorem dX7_addDifferences_21 : decode cX7_addDifferences 21 = .ok (.aload_n 0, 1) := by decide +kernel
theorem dX7_addDifferences_22 : decode cX7_addDifferences 22 = .ok (.getfield 35, 3) := by decide +kernel
theorem dX7_addDifferences_25 : decode cX7_addDifferences 25 = .ok (.aload_n 0, 1) := by decide +kernel
theorem dX7_addDifferences_26 : decode cX7_addDifferences 26 = .ok (.getfield 28, 3) := by decide +kernel
theorem dX7_addDifferences_29 : decode cX7_addDifferences 29 = .ok (.invokevirtual 182, 3) := by decide +kernel
theorem dX7_addDifferences_32 : decode cX7_addDifferences 32 = .ok (.iconst 0, 1) := by decide +kernel
theorem dX7_addDifferences_33 : decode cX7_addDifferences 33 = .ok (.istore_n 2, 1) := by decide +kernel
theorem dX7_addDifferences_34 : decode cX7_addDifferences 34 = .ok (.iload_n 2, 1) := by decide +kernel
theorem dX7_addDifferences_35 : decode cX7_addDifferences 35 = .ok (.aload_n 1, 1) := by decide +kernel
theorem dX7_addDifferences_36 : decode cX7_addDifferences 36 = .ok (.getfield 242, 3) := by decide +kernel
theorem dX7_addDifferences_39 : decode cX7_addDifferences 39 = .ok (.if_icmp .ge 79, 3) := by decide +kernel
theorem dX7_addDifferences_42 : decode cX7_addDifferences 42 = .ok (.iload_n 2, 1) := by decide +kernel
theorem dX7_addDifferences_43 : decode cX7_addDifferences 43 = .ok (.ifCond .le 11, 3) := by decide +kernel
theorem dX7_addDifferences_46 : decode cX7_addDifferences 46 = .ok (.aload_n 0, 1) := by decide +kernel
theorem dX7_addDifferences_47 : decode cX7_addDifferences 47 = .ok (.getfield 35, 3) := by decide +kernel
theorem dX7_addDifferences_50 : decode cX7_addDifferences 50 = .ok (.iconst 1, 1) := by decide +kernel
theorem dX7_addDifferences_51 : decode cX7_addDifferences 51 = .ok (.invokevirtual 168, 3) := by decide +kernel
theorem dX7_addDifferences_54 : decode cX7_addDifferences 54 = .ok (.iconst 0, 1) := by decide +kernel
theorem dX7_addDifferences_55 : decode cX7_addDifferences 55 = .ok (.istore_n 3, 1) := by decide +kernel
theorem dX7_addDifferences_56 : decode cX7_addDifferences 56 = .ok (.iload_n 3, 1) := by decide +kernel
theorem dX7_addDifferences_57 : decode cX7_addDifferences 57 = .ok (.aload_n 0, 1) := by decide +kernel
theorem dX7_addDifferences_58 : decode cX7_addDifferences 58 = .ok (.getfield 28, 3) := by decide +kernel
theorem dX7_addDifferences_61 : decode cX7_addDifferences 61 = .ok (.getfield 81, 3) := by decide +kernel
theorem dX7_addDifferences_64 : decode cX7_addDifferences 64 = .ok (.if_icmp .ge 48, 3) := by decide +kernel
theorem dX7_addDifferences_67 : decode cX7_addDifferences 67 = .ok (.aload_n 1, 1) := by decide +kernel
theorem dX7_addDifferences_68 : decode cX7_addDifferences 68 = .ok (.getfield 246, 3) := by decide +kernel
theorem dX7_addDifferences_71 : decode cX7_addDifferences 71 = .ok (.iload_n 2, 1) := by decide +kernel
theorem dX7_addDifferences_72 : decode cX7_addDifferences 72 = .ok (.iaload, 1) := by decide +kernel
theorem dX7_addDifferences_73 : decode cX7_addDifferences 73 = .ok (.ldc 134, 2) := by decide +kernel
theorem dX7_addDifferences_75 : decode cX7_addDifferences 75 = .ok (.if_icmp .eq 37, 3) := by decide +kernel
theorem dX7_addDifferences_78 : decode cX7_addDifferences 78 = .ok (.aload_n 0, 1) := by decide +kernel
theorem dX7_addDifferences_79 : decode cX7_addDifferences 79 = .ok (.getfield 54, 3) := by decide +kernel
theorem dX7_addDifferences_82 : decode cX7_addDifferences 82 = .ok (.iload_n 3, 1) := by decide +kernel
theorem dX7_addDifferences_83 : decode cX7_addDifferences 83 = .ok (.dup2, 1) := by decide +kernel
theorem dX7_addDifferences_84 : decode cX7_addDifferences 84 = .ok (.iaload, 1) := by decide +kernel
theorem dX7_addDifferences_85 : decode cX7_addDifferences 85 = .ok (.aload_n 0, 1) := by decide +kernel
theorem dX7_addDifferences_86 : decode cX7_addDifferences 86 = .ok (.getfield 35, 3) := by decide +kernel
theorem dX7_addDifferences_89 : decode cX7_addDifferences 89 = .ok (.getfield 98, 3) := by decide +kernel
theorem dX7_addDifferences_92 : decode cX7_addDifferences 92 = .ok (.iload_n 3, 1) := by decide +kernel
theorem dX7_addDifferences_93 : decode cX7_addDifferences 93 = .ok (.iaload, 1) := by decide +kernel
theorem dX7_addDifferences_94 : decode cX7_addDifferences 94 = .ok (.aload_n 1, 1) := by decide +kernel
theorem dX7_addDifferences_95 : decode cX7_addDifferences 95 = .ok (.getfield 246, 3) := by decide +kernel
theorem dX7_addDifferences_98 : decode cX7_addDifferences 98 = .ok (.iload_n 2, 1) := by decide +kernel
theorem dX7_addDifferences_99 : decode cX7_addDifferences 99 = .ok (.iaload, 1) := by decide +kernel
theorem dX7_addDifferences_100 : decode cX7_addDifferences 100 = .ok (.isub, 1) := by decide +kernel
theorem dX7_addDifferences_101 : decode cX7_addDifferences 101 = .ok (.invokestatic 291, 3) := by decide +kernel
theorem dX7_addDifferences_104 : decode cX7_addDifferences 104 = .ok (.iadd, 1) := by decide +kernel
theorem dX7_addDifferences_105 : decode cX7_addDifferences 105 = .ok (.iastore, 1) := by decide +kernel
theorem dX7_addDifferences_106 : decode cX7_addDifferences 106 = .ok (.iinc 3 1, 3) := by decide +kernel
theorem dX7_addDifferences_109 : decode cX7_addDifferences 109 = .ok (.goto (-53), 3) := by decide +kernel
theorem dX7_addDifferences_112 : decode cX7_addDifferences 112 = .ok (.iinc 2 1, 3) := by decide +kernel
theorem dX7_addDifferences_115 : decode cX7_addDifferences 115 = .ok (.goto (-81), 3) := by decide +kernel
theorem dX7_addDifferences_118 : decode cX7_addDifferences 118 = .ok (.return_, 1) := by decide +kernel
theorem dX7_sheetFinding_0 : decode cX7_sheetFinding 0 = .ok (.iload_n 1, 1) := by decide +kernel
theorem dX7_sheetFinding_1 : decode cX7_sheetFinding 1 = .ok (.iconst 0, 1) := by decide +kernel
theorem dX7_sheetFinding_2 : decode cX7_sheetFinding 2 = .ok (.iconst 3, 1) := by decide +kernel
theorem dX7_sheetFinding_3 : decode cX7_sheetFinding 3 = .ok (.invokestatic 67, 3) := by decide +kernel
theorem dX7_sheetFinding_6 : decode cX7_sheetFinding 6 = .ok (.ifCond .ne 6, 3) := by decide +kernel
theorem dX7_sheetFinding_9 : decode cX7_sheetFinding 9 = .ok (.ldc 75, 2) := by decide +kernel
theorem dX7_sheetFinding_11 : decode cX7_sheetFinding 11 = .ok (.ireturn, 1) := by decide +kernel
theorem dX7_sheetFinding_12 : decode cX7_sheetFinding 12 = .ok (.aload_n 0, 1) := by decide +kernel
theorem dX7_sheetFinding_13 : decode cX7_sheetFinding 13 = .ok (.getfield 40, 3) := by decide +kernel
theorem dX7_sheetFinding_16 : decode cX7_sheetFinding 16 = .ok (.iload_n 1, 1) := by decide +kernel
theorem dX7_sheetFinding_17 : decode cX7_sheetFinding 17 = .ok (.aaload, 1) := by decide +kernel
theorem dX7_sheetFinding_18 : decode cX7_sheetFinding 18 = .ok (.getfield 197, 3) := by decide +kernel
theorem dX7_sheetFinding_21 : decode cX7_sheetFinding 21 = .ok (.iconst (-1), 1) := by decide +kernel
theorem dX7_sheetFinding_22 : decode cX7_sheetFinding 22 = .ok (.if_icmp .ne 8, 3) := by decide +kernel
theorem dX7_sheetFinding_25 : decode cX7_sheetFinding 25 = .ok (.ldc 200, 2) := by decide +kernel
theorem dX7_sheetFinding_27 : decode cX7_sheetFinding 27 = .ok (.goto 4, 3) := by decide +kernel
theorem dX7_sheetFinding_30 : decode cX7_sheetFinding 30 = .ok (.iconst 0, 1) := by decide +kernel
theorem dX7_sheetFinding_31 : decode cX7_sheetFinding 31 = .ok (.ireturn, 1) := by decide +kernel
theorem dX7_slotFinding_0 : decode cX7_slotFinding 0 = .ok (.iload_n 1, 1) := by decide +kernel
theorem dX7_slotFinding_1 : decode cX7_slotFinding 1 = .ok (.iconst 0, 1) := by decide +kernel
theorem dX7_slotFinding_2 : decode cX7_slotFinding 2 = .ok (.iconst 4, 1) := by decide +kernel
theorem dX7_slotFinding_3 : decode cX7_slotFinding 3 = .ok (.invokestatic 67, 3) := by decide +kernel
theorem dX7_slotFinding_6 : decode cX7_slotFinding 6 = .ok (.ifCond .ne 6, 3) := by decide +kernel
theorem dX7_slotFinding_9 : decode cX7_slotFinding 9 = .ok (.ldc 75, 2) := by decide +kernel
theorem dX7_slotFinding_11 : decode cX7_slotFinding 11 = .ok (.ireturn, 1) := by decide +kernel
theorem dX7_slotFinding_12 : decode cX7_slotFinding 12 = .ok (.aload_n 0, 1) := by decide +kernel
theorem dX7_slotFinding_13 : decode cX7_slotFinding 13 = .ok (.getfield 46, 3) := by decide +kernel
theorem dX7_slotFinding_16 : decode cX7_slotFinding 16 = .ok (.iload_n 1, 1) := by decide +kernel
theorem dX7_slotFinding_17 : decode cX7_slotFinding 17 = .ok (.aaload, 1) := by decide +kernel
theorem dX7_slotFinding_18 : decode cX7_slotFinding 18 = .ok (.getfield 263, 3) := by decide +kernel
theorem dX7_slotFinding_21 : decode cX7_slotFinding 21 = .ok (.ifCond .ne 6, 3) := by decide +kernel
theorem dX7_slotFinding_24 : decode cX7_slotFinding 24 = .ok (.ldc 200, 2) := by decide +kernel
theorem dX7_slotFinding_26 : decode cX7_slotFinding 26 = .ok (.ireturn, 1) := by decide +kernel
theorem dX7_slotFinding_27 : decode cX7_slotFinding 27 = .ok (.aload_n 0, 1) := by decide +kernel
theorem dX7_slotFinding_28 : decode cX7_slotFinding 28 = .ok (.getfield 46, 3) := by decide +kernel
theorem dX7_slotFinding_31 : decode cX7_slotFinding 31 = .ok (.iload_n 1, 1) := by decide +kernel
theorem dX7_slotFinding_32 : decode cX7_slotFinding 32 = .ok (.aaload, 1) := by decide +kernel
theorem dX7_slotFinding_33 : decode cX7_slotFinding 33 = .ok (.getfield 263, 3) := by decide +kernel
theorem dX7_slotFinding_36 : decode cX7_slotFinding 36 = .ok (.iload_n 2, 1) := by decide +kernel
theorem dX7_slotFinding_37 : decode cX7_slotFinding 37 = .ok (.if_icmp .ne 7, 3) := by decide +kernel
theorem dX7_slotFinding_40 : decode cX7_slotFinding 40 = .ok (.iconst 0, 1) := by decide +kernel
theorem dX7_slotFinding_41 : decode cX7_slotFinding 41 = .ok (.goto 5, 3) := by decide +kernel
theorem dX7_slotFinding_44 : decode cX7_slotFinding 44 = .ok (.ldc 123, 2) := by decide +kernel
theorem dX7_slotFinding_46 : decode cX7_slotFinding 46 = .ok (.ireturn, 1) := by decide +kernel
