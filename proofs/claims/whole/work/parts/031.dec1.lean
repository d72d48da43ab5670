theorem dR_early_132 : decode bR_early 132 = .ok (.iload 6, 2) := by decide +kernel
theorem dR_early_134 : decode bR_early 134 = .ok (.aload_n 0, 1) := by decide +kernel
theorem dR_early_135 : decode bR_early 135 = .ok (.getfield 21, 3) := by decide +kernel
theorem dR_early_138 : decode bR_early 138 = .ok (.getfield 154, 3) := by decide +kernel
theorem dR_early_141 : decode bR_early 141 = .ok (.if_icmp .gt 6, 3) := by decide +kernel
theorem dR_early_144 : decode bR_early 144 = .ok (.ldc 217, 2) := by decide +kernel
theorem dR_early_146 : decode bR_early 146 = .ok (.ireturn, 1) := by decide +kernel
theorem dR_early_147 : decode bR_early 147 = .ok (.iinc 5 1, 3) := by decide +kernel
theorem dR_early_150 : decode bR_early 150 = .ok (.goto (-102), 3) := by decide +kernel
theorem dR_early_153 : decode bR_early 153 = .ok (.ldc 217, 2) := by decide +kernel
theorem dR_early_155 : decode bR_early 155 = .ok (.ireturn, 1) := by decide +kernel
theorem dR_strong_0 : decode bR_strong 0 = .ok (.aload_n 0, 1) := by decide +kernel
theorem dR_strong_1 : decode bR_strong 1 = .ok (.getfield 12, 3) := by decide +kernel
theorem dR_strong_4 : decode bR_strong 4 = .ok (.iload_n 1, 1) := by decide +kernel
theorem dR_strong_5 : decode bR_strong 5 = .ok (.invokevirtual 60, 3) := by decide +kernel
theorem dR_strong_8 : decode bR_strong 8 = .ok (.ifCond .eq 14, 3) := by decide +kernel
theorem dR_strong_11 : decode bR_strong 11 = .ok (.iload_n 2, 1) := by decide +kernel
theorem dR_strong_12 : decode bR_strong 12 = .ok (.iconst 1, 1) := by decide +kernel
theorem dR_strong_13 : decode bR_strong 13 = .ok (.sipush 192, 3) := by decide +kernel
theorem dR_strong_16 : decode bR_strong 16 = .ok (.invokestatic 28, 3) := by decide +kernel
theorem dR_strong_19 : decode bR_strong 19 = .ok (.ifCond .ne 13, 3) := by decide +kernel
theorem dR_strong_22 : decode bR_strong 22 = .ok (.new 36, 3) := by decide +kernel
theorem dR_strong_25 : decode bR_strong 25 = .ok (.dup, 1) := by decide +kernel
theorem dR_strong_26 : decode bR_strong 26 = .ok (.ldc 218, 2) := by decide +kernel
theorem dR_strong_28 : decode bR_strong 28 = .ok (.invokespecial 40, 3) := by decide +kernel
theorem dR_strong_31 : decode bR_strong 31 = .ok (.athrow, 1) := by decide +kernel
theorem dR_strong_32 : decode bR_strong 32 = .ok (.iconst 0, 1) := by decide +kernel
theorem dR_strong_33 : decode bR_strong 33 = .ok (.istore_n 3, 1) := by decide +kernel
theorem dR_strong_34 : decode bR_strong 34 = .ok (.iload_n 3, 1) := by decide +kernel
theorem dR_strong_35 : decode bR_strong 35 = .ok (.ldc 157, 2) := by decide +kernel
theorem dR_strong_37 : decode bR_strong 37 = .ok (.if_icmp .gt 59, 3) := by decide +kernel
theorem dR_strong_40 : decode bR_strong 40 = .ok (.aload_n 0, 1) := by decide +kernel
theorem dR_strong_41 : decode bR_strong 41 = .ok (.getfield 25, 3) := by decide +kernel
theorem dR_strong_44 : decode bR_strong 44 = .ok (.aload_n 0, 1) := by decide +kernel
theorem dR_strong_45 : decode bR_strong 45 = .ok (.getfield 21, 3) := by decide +kernel
theorem dR_strong_48 : decode bR_strong 48 = .ok (.invokevirtual 209, 3) := by decide +kernel
theorem dR_strong_51 : decode bR_strong 51 = .ok (.aload_n 0, 1) := by decide +kernel
theorem dR_strong_52 : decode bR_strong 52 = .ok (.getfield 25, 3) := by decide +kernel
theorem dR_strong_55 : decode bR_strong 55 = .ok (.iload_n 1, 1) := by decide +kernel
theorem dR_strong_56 : decode bR_strong 56 = .ok (.iload_n 3, 1) := by decide +kernel
theorem dR_strong_57 : decode bR_strong 57 = .ok (.invokevirtual 220, 3) := by decide +kernel
theorem dR_strong_60 : decode bR_strong 60 = .ok (.aload_n 0, 1) := by decide +kernel
theorem dR_strong_61 : decode bR_strong 61 = .ok (.getfield 25, 3) := by decide +kernel
theorem dR_strong_64 : decode bR_strong 64 = .ok (.iload_n 1, 1) := by decide +kernel
theorem dR_strong_65 : decode bR_strong 65 = .ok (.iload_n 2, 1) := by decide +kernel
theorem dR_strong_66 : decode bR_strong 66 = .ok (.invokevirtual 223, 3) := by decide +kernel
theorem dR_strong_69 : decode bR_strong 69 = .ok (.ifCond .eq 5, 3) := by decide +kernel
theorem dR_strong_72 : decode bR_strong 72 = .ok (.iload_n 3, 1) := by decide +kernel
theorem dR_strong_73 : decode bR_strong 73 = .ok (.ireturn, 1) := by decide +kernel
theorem dR_strong_74 : decode bR_strong 74 = .ok (.aload_n 0, 1) := by decide +kernel
theorem dR_strong_75 : decode bR_strong 75 = .ok (.getfield 25, 3) := by decide +kernel
theorem dR_strong_78 : decode bR_strong 78 = .ok (.getfield 226, 3) := by decide +kernel
theorem dR_strong_81 : decode bR_strong 81 = .ok (.ifCond .ne 6, 3) := by decide +kernel
theorem dR_strong_84 : decode bR_strong 84 = .ok (.ldc 217, 2) := by decide +kernel
theorem dR_strong_86 : decode bR_strong 86 = .ok (.ireturn, 1) := by decide +kernel
theorem dR_strong_87 : decode bR_strong 87 = .ok (.iinc 3 1000, 6) := by decide +kernel
theorem dR_strong_93 : decode bR_strong 93 = .ok (.goto (-59), 3) := by decide +kernel
theorem dR_strong_96 : decode bR_strong 96 = .ok (.ldc 217, 2) := by decide +kernel
theorem dR_strong_98 : decode bR_strong 98 = .ok (.ireturn, 1) := by decide +kernel
theorem dR_isWithin_0 : decode bR_isWithin 0 = .ok (.iload_n 0, 1) := by decide +kernel
theorem dR_isWithin_1 : decode bR_isWithin 1 = .ok (.iload_n 1, 1) := by decide +kernel
theorem dR_isWithin_2 : decode bR_isWithin 2 = .ok (.if_icmp .lt 12, 3) := by decide +kernel
theorem dR_isWithin_5 : decode bR_isWithin 5 = .ok (.iload_n 0, 1) := by decide +kernel
theorem dR_isWithin_6 : decode bR_isWithin 6 = .ok (.iload_n 2, 1) := by decide +kernel
theorem dR_isWithin_7 : decode bR_isWithin 7 = .ok (.if_icmp .gt 7, 3) := by decide +kernel
theorem dR_isWithin_10 : decode bR_isWithin 10 = .ok (.iconst 1, 1) := by decide +kernel
theorem dR_isWithin_11 : decode bR_isWithin 11 = .ok (.goto 4, 3) := by decide +kernel
theorem dR_isWithin_14 : decode bR_isWithin 14 = .ok (.iconst 0, 1) := by decide +kernel
theorem dR_isWithin_15 : decode bR_isWithin 15 = .ok (.ireturn, 1) := by decide +kernel
theorem dR_isWarmth_0 : decode bR_isWarmth 0 = .ok (.iload_n 0, 1) := by decide +kernel
theorem dR_isWarmth_1 : decode bR_isWarmth 1 = .ok (.sipush (-5000), 3) := by decide +kernel
theorem dR_isWarmth_4 : decode bR_isWarmth 4 = .ok (.sipush 5000, 3) := by decide +kernel
theorem dR_isWarmth_7 : decode bR_isWarmth 7 = .ok (.invokestatic 28, 3) := by decide +kernel
theorem dR_isWarmth_10 : decode bR_isWarmth 10 = .ok (.ireturn, 1) := by decide +kernel
theorem dR_isHour_0 : decode bR_isHour 0 = .ok (.iload_n 0, 1) := by decide +kernel
theorem dR_isHour_1 : decode bR_isHour 1 = .ok (.iconst 0, 1) := by decide +kernel
theorem dR_isHour_2 : decode bR_isHour 2 = .ok (.bipush 23, 2) := by decide +kernel
theorem dR_isHour_4 : decode bR_isHour 4 = .ok (.invokestatic 28, 3) := by decide +kernel
theorem dR_isHour_7 : decode bR_isHour 7 = .ok (.ireturn, 1) := by decide +kernel
theorem dR_isSide_0 : decode bR_isSide 0 = .ok (.iload_n 0, 1) := by decide +kernel
theorem dR_isSide_1 : decode bR_isSide 1 = .ok (.iconst 0, 1) := by decide +kernel
theorem dR_isSide_2 : decode bR_isSide 2 = .ok (.iconst 3, 1) := by decide +kernel
theorem dR_isSide_3 : decode bR_isSide 3 = .ok (.invokestatic 28, 3) := by decide +kernel
theorem dR_isSide_6 : decode bR_isSide 6 = .ok (.ireturn, 1) := by decide +kernel
theorem dR_isPlan_0 : decode bR_isPlan 0 = .ok (.iload_n 0, 1) := by decide +kernel
theorem dR_isPlan_1 : decode bR_isPlan 1 = .ok (.ifCond .ne 13, 3) := by decide +kernel
theorem dR_isPlan_4 : decode bR_isPlan 4 = .ok (.iload_n 1, 1) := by decide +kernel
theorem dR_isPlan_5 : decode bR_isPlan 5 = .ok (.iconst 0, 1) := by decide +kernel
theorem dR_isPlan_6 : decode bR_isPlan 6 = .ok (.bipush 100, 2) := by decide +kernel
theorem dR_isPlan_8 : decode bR_isPlan 8 = .ok (.invokestatic 28, 3) := by decide +kernel
theorem dR_isPlan_11 : decode bR_isPlan 11 = .ok (.goto 21, 3) := by decide +kernel
theorem dR_isPlan_14 : decode bR_isPlan 14 = .ok (.iload_n 1, 1) := by decide +kernel
theorem dR_isPlan_15 : decode bR_isPlan 15 = .ok (.ldc 217, 2) := by decide +kernel
theorem dR_isPlan_17 : decode bR_isPlan 17 = .ok (.if_icmp .eq 10, 3) := by decide +kernel
theorem dR_isPlan_20 : decode bR_isPlan 20 = .ok (.iload_n 1, 1) := by decide +kernel
theorem dR_isPlan_21 : decode bR_isPlan 21 = .ok (.invokestatic 32, 3) := by decide +kernel
theorem dR_isPlan_24 : decode bR_isPlan 24 = .ok (.ifCond .eq 7, 3) := by decide +kernel
theorem dR_isPlan_27 : decode bR_isPlan 27 = .ok (.iconst 1, 1) := by decide +kernel
theorem dR_isPlan_28 : decode bR_isPlan 28 = .ok (.goto 4, 3) := by decide +kernel
theorem dR_isPlan_31 : decode bR_isPlan 31 = .ok (.iconst 0, 1) := by decide +kernel
theorem dR_isPlan_32 : decode bR_isPlan 32 = .ok (.ireturn, 1) := by decide +kernel
theorem dM_init_0 : decode bM_init 0 = .ok (.aload_n 0, 1) := by decide +kernel
theorem dM_init_1 : decode bM_init 1 = .ok (.invokespecial 1, 3) := by decide +kernel
theorem dM_init_4 : decode bM_init 4 = .ok (.aload_n 0, 1) := by decide +kernel
theorem dM_init_5 : decode bM_init 5 = .ok (.bipush 8, 2) := by decide +kernel
theorem dM_init_7 : decode bM_init 7 = .ok (.newarray .int, 2) := by decide +kernel
theorem dM_init_9 : decode bM_init 9 = .ok (.putfield 7, 3) := by decide +kernel
theorem dM_init_12 : decode bM_init 12 = .ok (.aload_n 0, 1) := by decide +kernel
theorem dM_init_13 : decode bM_init 13 = .ok (.bipush 8, 2) := by decide +kernel
theorem dM_init_15 : decode bM_init 15 = .ok (.newarray .long, 2) := by decide +kernel
theorem dM_init_17 : decode bM_init 17 = .ok (.putfield 13, 3) := by decide +kernel
theorem dM_init_20 : decode bM_init 20 = .ok (.aload_n 0, 1) := by decide +kernel
theorem dM_init_21 : decode bM_init 21 = .ok (.bipush 8, 2) := by decide +kernel
theorem dM_init_23 : decode bM_init 23 = .ok (.newarray .int, 2) := by decide +kernel
theorem dM_init_25 : decode bM_init 25 = .ok (.putfield 17, 3) := by decide +kernel
theorem dM_init_28 : decode bM_init 28 = .ok (.aload_n 0, 1) := by decide +kernel
theorem dM_init_29 : decode bM_init 29 = .ok (.bipush 8, 2) := by decide +kernel
theorem dM_init_31 : decode bM_init 31 = .ok (.newarray .long, 2) := by decide +kernel
theorem dM_init_33 : decode bM_init 33 = .ok (.putfield 20, 3) := by decide +kernel
theorem dM_init_36 : decode bM_init 36 = .ok (.aload_n 0, 1) := by decide +kernel
theorem dM_init_37 : decode bM_init 37 = .ok (.bipush 8, 2) := by decide +kernel
theorem dM_init_39 : decode bM_init 39 = .ok (.newarray .long, 2) := by decide +kernel
theorem dM_init_41 : decode bM_init 41 = .ok (.putfield 23, 3) := by decide +kernel
theorem dM_init_44 : decode bM_init 44 = .ok (.aload_n 0, 1) := by decide +kernel
theorem dM_init_45 : decode bM_init 45 = .ok (.bipush 8, 2) := by decide +kernel
theorem dM_init_47 : decode bM_init 47 = .ok (.newarray .long, 2) := by decide +kernel
theorem dM_init_49 : decode bM_init 49 = .ok (.putfield 26, 3) := by decide +kernel
theorem dM_init_52 : decode bM_init 52 = .ok (.aload_n 0, 1) := by decide +kernel
theorem dM_init_53 : decode bM_init 53 = .ok (.bipush 8, 2) := by decide +kernel
theorem dM_init_55 : decode bM_init 55 = .ok (.newarray .int, 2) := by decide +kernel
theorem dM_init_57 : decode bM_init 57 = .ok (.putfield 29, 3) := by decide +kernel
theorem dM_init_60 : decode bM_init 60 = .ok (.aload_n 0, 1) := by decide +kernel
theorem dM_init_61 : decode bM_init 61 = .ok (.bipush 8, 2) := by decide +kernel
theorem dM_init_63 : decode bM_init 63 = .ok (.newarray .int, 2) := by decide +kernel
theorem dM_init_65 : decode bM_init 65 = .ok (.putfield 32, 3) := by decide +kernel
theorem dM_init_68 : decode bM_init 68 = .ok (.aload_n 0, 1) := by decide +kernel
theorem dM_init_69 : decode bM_init 69 = .ok (.bipush 20, 2) := by decide +kernel
theorem dM_init_71 : decode bM_init 71 = .ok (.newarray .int, 2) := by decide +kernel
theorem dM_init_73 : decode bM_init 73 = .ok (.putfield 35, 3) := by decide +kernel
theorem dM_init_76 : decode bM_init 76 = .ok (.aload_n 0, 1) := by decide +kernel
theorem dM_init_77 : decode bM_init 77 = .ok (.bipush 20, 2) := by decide +kernel
theorem dM_init_79 : decode bM_init 79 = .ok (.newarray .int, 2) := by decide +kernel
theorem dM_init_81 : decode bM_init 81 = .ok (.putfield 38, 3) := by decide +kernel
theorem dM_init_84 : decode bM_init 84 = .ok (.aload_n 0, 1) := by decide +kernel
theorem dM_init_85 : decode bM_init 85 = .ok (.bipush 20, 2) := by decide +kernel
theorem dM_init_87 : decode bM_init 87 = .ok (.newarray .int, 2) := by decide +kernel
theorem dM_init_89 : decode bM_init 89 = .ok (.putfield 41, 3) := by decide +kernel
theorem dM_init_92 : decode bM_init 92 = .ok (.aload_n 0, 1) := by decide +kernel
theorem dM_init_93 : decode bM_init 93 = .ok (.bipush 12, 2) := by decide +kernel
theorem dM_init_95 : decode bM_init 95 = .ok (.newarray .int, 2) := by decide +kernel
theorem dM_init_97 : decode bM_init 97 = .ok (.putfield 44, 3) := by decide +kernel
theorem dM_init_100 : decode bM_init 100 = .ok (.aload_n 0, 1) := by decide +kernel
theorem dM_init_101 : decode bM_init 101 = .ok (.bipush 12, 2) := by decide +kernel
theorem dM_init_103 : decode bM_init 103 = .ok (.newarray .int, 2) := by decide +kernel
theorem dM_init_105 : decode bM_init 105 = .ok (.putfield 47, 3) := by decide +kernel
theorem dM_init_108 : decode bM_init 108 = .ok (.aload_n 0, 1) := by decide +kernel
theorem dM_init_109 : decode bM_init 109 = .ok (.bipush 12, 2) := by decide +kernel
theorem dM_init_111 : decode bM_init 111 = .ok (.newarray .int, 2) := by decide +kernel
theorem dM_init_113 : decode bM_init 113 = .ok (.putfield 50, 3) := by decide +kernel
theorem dM_init_116 : decode bM_init 116 = .ok (.aload_n 0, 1) := by decide +kernel
theorem dM_init_117 : decode bM_init 117 = .ok (.bipush 12, 2) := by decide +kernel
theorem dM_init_119 : decode bM_init 119 = .ok (.newarray .int, 2) := by decide +kernel
theorem dM_init_121 : decode bM_init 121 = .ok (.putfield 53, 3) := by decide +kernel
theorem dM_init_124 : decode bM_init 124 = .ok (.aload_n 0, 1) := by decide +kernel
theorem dM_init_125 : decode bM_init 125 = .ok (.bipush 24, 2) := by decide +kernel
theorem dM_init_127 : decode bM_init 127 = .ok (.newarray .int, 2) := by decide +kernel
theorem dM_init_129 : decode bM_init 129 = .ok (.putfield 56, 3) := by decide +kernel
theorem dM_init_132 : decode bM_init 132 = .ok (.aload_n 0, 1) := by decide +kernel
theorem dM_init_133 : decode bM_init 133 = .ok (.bipush 96, 2) := by decide +kernel
theorem dM_init_135 : decode bM_init 135 = .ok (.newarray .int, 2) := by decide +kernel
theorem dM_init_137 : decode bM_init 137 = .ok (.putfield 59, 3) := by decide +kernel
theorem dM_init_140 : decode bM_init 140 = .ok (.aload_n 0, 1) := by decide +kernel
theorem dM_init_141 : decode bM_init 141 = .ok (.sipush 192, 3) := by decide +kernel
theorem dM_init_144 : decode bM_init 144 = .ok (.newarray .int, 2) := by decide +kernel
theorem dM_init_146 : decode bM_init 146 = .ok (.putfield 62, 3) := by decide +kernel
theorem dM_init_149 : decode bM_init 149 = .ok (.aload_n 0, 1) := by decide +kernel
theorem dM_init_150 : decode bM_init 150 = .ok (.sipush 192, 3) := by decide +kernel
theorem dM_init_153 : decode bM_init 153 = .ok (.newarray .int, 2) := by decide +kernel
theorem dM_init_155 : decode bM_init 155 = .ok (.putfield 65, 3) := by decide +kernel
theorem dM_init_158 : decode bM_init 158 = .ok (.aload_n 0, 1) := by decide +kernel
theorem dM_init_159 : decode bM_init 159 = .ok (.sipush 192, 3) := by decide +kernel
theorem dM_init_162 : decode bM_init 162 = .ok (.newarray .int, 2) := by decide +kernel
theorem dM_init_164 : decode bM_init 164 = .ok (.putfield 68, 3) := by decide +kernel
theorem dM_init_167 : decode bM_init 167 = .ok (.aload_n 0, 1) := by decide +kernel
theorem dM_init_168 : decode bM_init 168 = .ok (.bipush 8, 2) := by decide +kernel
theorem dM_init_170 : decode bM_init 170 = .ok (.newarray .long, 2) := by decide +kernel
theorem dM_init_172 : decode bM_init 172 = .ok (.putfield 71, 3) := by decide +kernel
theorem dM_init_175 : decode bM_init 175 = .ok (.aload_n 0, 1) := by decide +kernel
theorem dM_init_176 : decode bM_init 176 = .ok (.iconst (-1), 1) := by decide +kernel
theorem dM_init_177 : decode bM_init 177 = .ok (.putfield 74, 3) := by decide +kernel
theorem dM_init_180 : decode bM_init 180 = .ok (.aload_n 0, 1) := by decide +kernel
theorem dM_init_181 : decode bM_init 181 = .ok (.bipush 44, 2) := by decide +kernel
theorem dM_init_183 : decode bM_init 183 = .ok (.newarray .long, 2) := by decide +kernel
theorem dM_init_185 : decode bM_init 185 = .ok (.putfield 78, 3) := by decide +kernel
theorem dM_init_188 : decode bM_init 188 = .ok (.iconst 0, 1) := by decide +kernel
theorem dM_init_189 : decode bM_init 189 = .ok (.istore_n 1, 1) := by decide +kernel
theorem dM_init_190 : decode bM_init 190 = .ok (.iload_n 1, 1) := by decide +kernel
theorem dM_init_191 : decode bM_init 191 = .ok (.sipush 192, 3) := by decide +kernel
theorem dM_init_194 : decode bM_init 194 = .ok (.if_icmp .ge 25, 3) := by decide +kernel
theorem dM_init_197 : decode bM_init 197 = .ok (.aload_n 0, 1) := by decide +kernel
theorem dM_init_198 : decode bM_init 198 = .ok (.getfield 65, 3) := by decide +kernel
theorem dM_init_201 : decode bM_init 201 = .ok (.iload_n 1, 1) := by decide +kernel
theorem dM_init_202 : decode bM_init 202 = .ok (.ldc 81, 2) := by decide +kernel
theorem dM_init_204 : decode bM_init 204 = .ok (.iastore, 1) := by decide +kernel
theorem dM_init_205 : decode bM_init 205 = .ok (.aload_n 0, 1) := by decide +kernel
theorem dM_init_206 : decode bM_init 206 = .ok (.getfield 68, 3) := by decide +kernel
theorem dM_init_209 : decode bM_init 209 = .ok (.iload_n 1, 1) := by decide +kernel
theorem dM_init_210 : decode bM_init 210 = .ok (.ldc 81, 2) := by decide +kernel
theorem dM_init_212 : decode bM_init 212 = .ok (.iastore, 1) := by decide +kernel
theorem dM_init_213 : decode bM_init 213 = .ok (.iinc 1 1, 3) := by decide +kernel
theorem dM_init_216 : decode bM_init 216 = .ok (.goto (-26), 3) := by decide +kernel
theorem dM_init_219 : decode bM_init 219 = .ok (.return_, 1) := by decide +kernel
theorem dM_thrown_0 : decode bM_thrown 0 = .ok (.aload_n 0, 1) := by decide +kernel
theorem dM_thrown_1 : decode bM_thrown 1 = .ok (.getfield 82, 3) := by decide +kernel
theorem dM_thrown_4 : decode bM_thrown 4 = .ok (.ireturn, 1) := by decide +kernel
theorem dM_in_0 : decode bM_in 0 = .ok (.iload_n 0, 1) := by decide +kernel
theorem dM_in_1 : decode bM_in 1 = .ok (.iload_n 1, 1) := by decide +kernel
theorem dM_in_2 : decode bM_in 2 = .ok (.if_icmp .lt 12, 3) := by decide +kernel
theorem dM_in_5 : decode bM_in 5 = .ok (.iload_n 0, 1) := by decide +kernel
theorem dM_in_6 : decode bM_in 6 = .ok (.iload_n 2, 1) := by decide +kernel
theorem dM_in_7 : decode bM_in 7 = .ok (.if_icmp .gt 7, 3) := by decide +kernel
theorem dM_in_10 : decode bM_in 10 = .ok (.iconst 1, 1) := by decide +kernel
theorem dM_in_11 : decode bM_in 11 = .ok (.goto 4, 3) := by decide +kernel
theorem dM_in_14 : decode bM_in 14 = .ok (.iconst 0, 1) := by decide +kernel
theorem dM_in_15 : decode bM_in 15 = .ok (.ireturn, 1) := by decide +kernel
theorem dM_isWarmth_0 : decode bM_isWarmth 0 = .ok (.iload_n 0, 1) := by decide +kernel
theorem dM_isWarmth_1 : decode bM_isWarmth 1 = .ok (.sipush (-5000), 3) := by decide +kernel
theorem dM_isWarmth_4 : decode bM_isWarmth 4 = .ok (.sipush 5000, 3) := by decide +kernel
theorem dM_isWarmth_7 : decode bM_isWarmth 7 = .ok (.invokestatic 85, 3) := by decide +kernel
theorem dM_isWarmth_10 : decode bM_isWarmth 10 = .ok (.ireturn, 1) := by decide +kernel
theorem dM_isRoom_0 : decode bM_isRoom 0 = .ok (.iload_n 1, 1) := by decide +kernel
theorem dM_isRoom_1 : decode bM_isRoom 1 = .ok (.iconst 0, 1) := by decide +kernel
theorem dM_isRoom_2 : decode bM_isRoom 2 = .ok (.aload_n 0, 1) := by decide +kernel
theorem dM_isRoom_3 : decode bM_isRoom 3 = .ok (.getfield 89, 3) := by decide +kernel
theorem dM_isRoom_6 : decode bM_isRoom 6 = .ok (.iconst 1, 1) := by decide +kernel
theorem dM_isRoom_7 : decode bM_isRoom 7 = .ok (.isub, 1) := by decide +kernel
theorem dM_isRoom_8 : decode bM_isRoom 8 = .ok (.invokestatic 85, 3) := by decide +kernel
theorem dM_isRoom_11 : decode bM_isRoom 11 = .ok (.ireturn, 1) := by decide +kernel
theorem dM_floor_0 : decode bM_floor 0 = .ok (.lload_n 0, 1) := by decide +kernel
theorem dM_floor_1 : decode bM_floor 1 = .ok (.iload_n 2, 1) := by decide +kernel
theorem dM_floor_2 : decode bM_floor 2 = .ok (.i2l, 1) := by decide +kernel
theorem dM_floor_3 : decode bM_floor 3 = .ok (.ldiv, 1) := by decide +kernel
theorem dM_floor_4 : decode bM_floor 4 = .ok (.lstore_n 3, 1) := by decide +kernel
theorem dM_floor_5 : decode bM_floor 5 = .ok (.lload_n 3, 1) := by decide +kernel
theorem dM_floor_6 : decode bM_floor 6 = .ok (.iload_n 2, 1) := by decide +kernel
theorem dM_floor_7 : decode bM_floor 7 = .ok (.i2l, 1) := by decide +kernel
theorem dM_floor_8 : decode bM_floor 8 = .ok (.lmul, 1) := by decide +kernel
theorem dM_floor_9 : decode bM_floor 9 = .ok (.lload_n 0, 1) := by decide +kernel
theorem dM_floor_10 : decode bM_floor 10 = .ok (.lcmp, 1) := by decide +kernel
theorem dM_floor_11 : decode bM_floor 11 = .ok (.ifCond .le 9, 3) := by decide +kernel
theorem dM_floor_14 : decode bM_floor 14 = .ok (.lload_n 3, 1) := by decide +kernel
theorem dM_floor_15 : decode bM_floor 15 = .ok (.lconst 1, 1) := by decide +kernel
theorem dM_floor_16 : decode bM_floor 16 = .ok (.lsub, 1) := by decide +kernel
theorem dM_floor_17 : decode bM_floor 17 = .ok (.goto 4, 3) := by decide +kernel
theorem dM_floor_20 : decode bM_floor 20 = .ok (.lload_n 3, 1) := by decide +kernel
theorem dM_floor_21 : decode bM_floor 21 = .ok (.lreturn, 1) := by decide +kernel
theorem dM_room_0 : decode bM_room 0 = .ok (.aload_n 0, 1) := by decide +kernel
theorem dM_room_1 : decode bM_room 1 = .ok (.iload_n 1, 1) := by decide +kernel
theorem dM_room_2 : decode bM_room 2 = .ok (.iconst 1, 1) := by decide +kernel
theorem dM_room_3 : decode bM_room 3 = .ok (.sipush 10000, 3) := by decide +kernel
theorem dM_room_6 : decode bM_room 6 = .ok (.invokestatic 85, 3) := by decide +kernel
theorem dM_room_9 : decode bM_room 9 = .ok (.ifCond .eq 10, 3) := by decide +kernel
theorem dM_room_12 : decode bM_room 12 = .ok (.iload_n 2, 1) := by decide +kernel
theorem dM_room_13 : decode bM_room 13 = .ok (.invokestatic 92, 3) := by decide +kernel
theorem dM_room_16 : decode bM_room 16 = .ok (.ifCond .ne 7, 3) := by decide +kernel
theorem dM_room_19 : decode bM_room 19 = .ok (.iconst 1, 1) := by decide +kernel
theorem dM_room_20 : decode bM_room 20 = .ok (.goto 17, 3) := by decide +kernel
theorem dM_room_23 : decode bM_room 23 = .ok (.aload_n 0, 1) := by decide +kernel
theorem dM_room_24 : decode bM_room 24 = .ok (.getfield 89, 3) := by decide +kernel
theorem dM_room_27 : decode bM_room 27 = .ok (.bipush 8, 2) := by decide +kernel
theorem dM_room_29 : decode bM_room 29 = .ok (.if_icmp .ne 7, 3) := by decide +kernel
theorem dM_room_32 : decode bM_room 32 = .ok (.iconst 2, 1) := by decide +kernel
theorem dM_room_33 : decode bM_room 33 = .ok (.goto 4, 3) := by decide +kernel
theorem dM_room_36 : decode bM_room 36 = .ok (.iconst 0, 1) := by decide +kernel
theorem dM_room_37 : decode bM_room 37 = .ok (.putfield 82, 3) := by decide +kernel
theorem dM_room_40 : decode bM_room 40 = .ok (.aload_n 0, 1) := by decide +kernel
theorem dM_room_41 : decode bM_room 41 = .ok (.getfield 82, 3) := by decide +kernel
theorem dM_room_44 : decode bM_room 44 = .ok (.ifCond .le 5, 3) := by decide +kernel
theorem dM_room_47 : decode bM_room 47 = .ok (.iconst 0, 1) := by decide +kernel
theorem dM_room_48 : decode bM_room 48 = .ok (.ireturn, 1) := by decide +kernel
theorem dM_room_49 : decode bM_room 49 = .ok (.aload_n 0, 1) := by decide +kernel
theorem dM_room_50 : decode bM_room 50 = .ok (.getfield 7, 3) := by decide +kernel
theorem dM_room_53 : decode bM_room 53 = .ok (.aload_n 0, 1) := by decide +kernel
theorem dM_room_54 : decode bM_room 54 = .ok (.getfield 89, 3) := by decide +kernel
theorem dM_room_57 : decode bM_room 57 = .ok (.iload_n 1, 1) := by decide +kernel
theorem dM_room_58 : decode bM_room 58 = .ok (.iastore, 1) := by decide +kernel
theorem dM_room_59 : decode bM_room 59 = .ok (.aload_n 0, 1) := by decide +kernel
theorem dM_room_60 : decode bM_room 60 = .ok (.getfield 13, 3) := by decide +kernel
theorem dM_room_63 : decode bM_room 63 = .ok (.aload_n 0, 1) := by decide +kernel
theorem dM_room_64 : decode bM_room 64 = .ok (.getfield 89, 3) := by decide +kernel
theorem dM_room_67 : decode bM_room 67 = .ok (.iload_n 1, 1) := by decide +kernel
theorem dM_room_68 : decode bM_room 68 = .ok (.i2l, 1) := by decide +kernel
theorem dM_room_69 : decode bM_room 69 = .ok (.iload_n 2, 1) := by decide +kernel
theorem dM_room_70 : decode bM_room 70 = .ok (.i2l, 1) := by decide +kernel
theorem dM_room_71 : decode bM_room 71 = .ok (.lmul, 1) := by decide +kernel
theorem dM_room_72 : decode bM_room 72 = .ok (.lastore, 1) := by decide +kernel
theorem dM_room_73 : decode bM_room 73 = .ok (.aload_n 0, 1) := by decide +kernel
theorem dM_room_74 : decode bM_room 74 = .ok (.dup, 1) := by decide +kernel
theorem dM_room_75 : decode bM_room 75 = .ok (.getfield 96, 3) := by decide +kernel
theorem dM_room_78 : decode bM_room 78 = .ok (.aload_n 0, 1) := by decide +kernel
theorem dM_room_79 : decode bM_room 79 = .ok (.getfield 13, 3) := by decide +kernel
theorem dM_room_82 : decode bM_room 82 = .ok (.aload_n 0, 1) := by decide +kernel
theorem dM_room_83 : decode bM_room 83 = .ok (.getfield 89, 3) := by decide +kernel
theorem dM_room_86 : decode bM_room 86 = .ok (.laload, 1) := by decide +kernel
theorem dM_room_87 : decode bM_room 87 = .ok (.ladd, 1) := by decide +kernel
theorem dM_room_88 : decode bM_room 88 = .ok (.putfield 96, 3) := by decide +kernel
theorem dM_room_91 : decode bM_room 91 = .ok (.aload_n 0, 1) := by decide +kernel
theorem dM_room_92 : decode bM_room 92 = .ok (.dup, 1) := by decide +kernel
theorem dM_room_93 : decode bM_room 93 = .ok (.getfield 89, 3) := by decide +kernel
theorem dM_room_96 : decode bM_room 96 = .ok (.iconst 1, 1) := by decide +kernel
theorem dM_room_97 : decode bM_room 97 = .ok (.iadd, 1) := by decide +kernel
theorem dM_room_98 : decode bM_room 98 = .ok (.putfield 89, 3) := by decide +kernel
theorem dM_room_101 : decode bM_room 101 = .ok (.aload_n 0, 1) := by decide +kernel
theorem dM_room_102 : decode bM_room 102 = .ok (.getfield 89, 3) := by decide +kernel
theorem dM_room_105 : decode bM_room 105 = .ok (.iconst 1, 1) := by decide +kernel
theorem dM_room_106 : decode bM_room 106 = .ok (.isub, 1) := by decide +kernel
theorem dM_room_107 : decode bM_room 107 = .ok (.ireturn, 1) := by decide +kernel
theorem dM_isTooMuch_0 : decode bM_isTooMuch 0 = .ok (.iload_n 2, 1) := by decide +kernel
theorem dM_isTooMuch_1 : decode bM_isTooMuch 1 = .ok (.i2l, 1) := by decide +kernel
theorem dM_isTooMuch_2 : decode bM_isTooMuch 2 = .ok (.lstore_n 3, 1) := by decide +kernel
theorem dM_isTooMuch_3 : decode bM_isTooMuch 3 = .ok (.iconst 0, 1) := by decide +kernel
theorem dM_isTooMuch_4 : decode bM_isTooMuch 4 = .ok (.istore 5, 2) := by decide +kernel
theorem dM_isTooMuch_6 : decode bM_isTooMuch 6 = .ok (.iload 5, 2) := by decide +kernel
theorem dM_isTooMuch_8 : decode bM_isTooMuch 8 = .ok (.aload_n 0, 1) := by decide +kernel
theorem dM_isTooMuch_9 : decode bM_isTooMuch 9 = .ok (.getfield 100, 3) := by decide +kernel
theorem dM_isTooMuch_12 : decode bM_isTooMuch 12 = .ok (.if_icmp .ge 46, 3) := by decide +kernel
theorem dM_isTooMuch_15 : decode bM_isTooMuch 15 = .ok (.lload_n 3, 1) := by decide +kernel
theorem dM_isTooMuch_16 : decode bM_isTooMuch 16 = .ok (.aload_n 0, 1) := by decide +kernel
theorem dM_isTooMuch_17 : decode bM_isTooMuch 17 = .ok (.getfield 35, 3) := by decide +kernel
theorem dM_isTooMuch_20 : decode bM_isTooMuch 20 = .ok (.iload 5, 2) := by decide +kernel
theorem dM_isTooMuch_22 : decode bM_isTooMuch 22 = .ok (.iaload, 1) := by decide +kernel
theorem dM_isTooMuch_23 : decode bM_isTooMuch 23 = .ok (.iload_n 1, 1) := by decide +kernel
theorem dM_isTooMuch_24 : decode bM_isTooMuch 24 = .ok (.if_icmp .eq 14, 3) := by decide +kernel
theorem dM_isTooMuch_27 : decode bM_isTooMuch 27 = .ok (.aload_n 0, 1) := by decide +kernel
theorem dM_isTooMuch_28 : decode bM_isTooMuch 28 = .ok (.getfield 38, 3) := by decide +kernel
theorem dM_isTooMuch_31 : decode bM_isTooMuch 31 = .ok (.iload 5, 2) := by decide +kernel
theorem dM_isTooMuch_33 : decode bM_isTooMuch 33 = .ok (.iaload, 1) := by decide +kernel
theorem dM_isTooMuch_34 : decode bM_isTooMuch 34 = .ok (.iload_n 1, 1) := by decide +kernel
theorem dM_isTooMuch_35 : decode bM_isTooMuch 35 = .ok (.if_icmp .ne 14, 3) := by decide +kernel
theorem dM_isTooMuch_38 : decode bM_isTooMuch 38 = .ok (.aload_n 0, 1) := by decide +kernel
theorem dM_isTooMuch_39 : decode bM_isTooMuch 39 = .ok (.getfield 41, 3) := by decide +kernel
theorem dM_isTooMuch_42 : decode bM_isTooMuch 42 = .ok (.iload 5, 2) := by decide +kernel
theorem dM_isTooMuch_44 : decode bM_isTooMuch 44 = .ok (.iaload, 1) := by decide +kernel
theorem dM_isTooMuch_45 : decode bM_isTooMuch 45 = .ok (.i2l, 1) := by decide +kernel
theorem dM_isTooMuch_46 : decode bM_isTooMuch 46 = .ok (.goto 4, 3) := by decide +kernel
theorem dM_isTooMuch_49 : decode bM_isTooMuch 49 = .ok (.lconst 0, 1) := by decide +kernel
theorem dM_isTooMuch_50 : decode bM_isTooMuch 50 = .ok (.ladd, 1) := by decide +kernel
theorem dM_isTooMuch_51 : decode bM_isTooMuch 51 = .ok (.lstore_n 3, 1) := by decide +kernel
theorem dM_isTooMuch_52 : decode bM_isTooMuch 52 = .ok (.iinc 5 1, 3) := by decide +kernel
theorem dM_isTooMuch_55 : decode bM_isTooMuch 55 = .ok (.goto (-49), 3) := by decide +kernel
theorem dM_isTooMuch_58 : decode bM_isTooMuch 58 = .ok (.iload_n 1, 1) := by decide +kernel
theorem dM_isTooMuch_59 : decode bM_isTooMuch 59 = .ok (.ifCond .lt 23, 3) := by decide +kernel
theorem dM_isTooMuch_62 : decode bM_isTooMuch 62 = .ok (.lload_n 3, 1) := by decide +kernel
theorem dM_isTooMuch_63 : decode bM_isTooMuch 63 = .ok (.ldc2_w 103, 3) := by decide +kernel
theorem dM_isTooMuch_66 : decode bM_isTooMuch 66 = .ok (.aload_n 0, 1) := by decide +kernel
theorem dM_isTooMuch_67 : decode bM_isTooMuch 67 = .ok (.getfield 7, 3) := by decide +kernel
theorem dM_isTooMuch_70 : decode bM_isTooMuch 70 = .ok (.iload_n 1, 1) := by decide +kernel
theorem dM_isTooMuch_71 : decode bM_isTooMuch 71 = .ok (.iaload, 1) := by decide +kernel
theorem dM_isTooMuch_72 : decode bM_isTooMuch 72 = .ok (.i2l, 1) := by decide +kernel
theorem dM_isTooMuch_73 : decode bM_isTooMuch 73 = .ok (.lmul, 1) := by decide +kernel
theorem dM_isTooMuch_74 : decode bM_isTooMuch 74 = .ok (.lcmp, 1) := by decide +kernel
theorem dM_isTooMuch_75 : decode bM_isTooMuch 75 = .ok (.ifCond .le 7, 3) := by decide +kernel
theorem dM_isTooMuch_78 : decode bM_isTooMuch 78 = .ok (.iconst 1, 1) := by decide +kernel
theorem dM_isTooMuch_79 : decode bM_isTooMuch 79 = .ok (.goto 4, 3) := by decide +kernel
theorem dM_isTooMuch_82 : decode bM_isTooMuch 82 = .ok (.iconst 0, 1) := by decide +kernel
theorem dM_isTooMuch_83 : decode bM_isTooMuch 83 = .ok (.ireturn, 1) := by decide +kernel
theorem dM_wall_0 : decode bM_wall 0 = .ok (.aload_n 0, 1) := by decide +kernel
theorem dM_wall_1 : decode bM_wall 1 = .ok (.iload_n 1, 1) := by decide +kernel
theorem dM_wall_2 : decode bM_wall 2 = .ok (.invokevirtual 105, 3) := by decide +kernel
theorem dM_wall_5 : decode bM_wall 5 = .ok (.ifCond .eq 36, 3) := by decide +kernel
theorem dM_wall_8 : decode bM_wall 8 = .ok (.iload_n 2, 1) := by decide +kernel
theorem dM_wall_9 : decode bM_wall 9 = .ok (.iconst (-1), 1) := by decide +kernel
theorem dM_wall_10 : decode bM_wall 10 = .ok (.if_icmp .eq 11, 3) := by decide +kernel
theorem dM_wall_13 : decode bM_wall 13 = .ok (.aload_n 0, 1) := by decide +kernel
theorem dM_wall_14 : decode bM_wall 14 = .ok (.iload_n 2, 1) := by decide +kernel
theorem dM_wall_15 : decode bM_wall 15 = .ok (.invokevirtual 105, 3) := by decide +kernel
theorem dM_wall_18 : decode bM_wall 18 = .ok (.ifCond .eq 23, 3) := by decide +kernel
theorem dM_wall_21 : decode bM_wall 21 = .ok (.iload_n 2, 1) := by decide +kernel
theorem dM_wall_22 : decode bM_wall 22 = .ok (.iload_n 1, 1) := by decide +kernel
theorem dM_wall_23 : decode bM_wall 23 = .ok (.if_icmp .eq 18, 3) := by decide +kernel
theorem dM_wall_26 : decode bM_wall 26 = .ok (.iload_n 3, 1) := by decide +kernel
theorem dM_wall_27 : decode bM_wall 27 = .ok (.iconst 0, 1) := by decide +kernel
theorem dM_wall_28 : decode bM_wall 28 = .ok (.sipush 1000, 3) := by decide +kernel
theorem dM_wall_31 : decode bM_wall 31 = .ok (.invokestatic 85, 3) := by decide +kernel
theorem dM_wall_34 : decode bM_wall 34 = .ok (.ifCond .eq 7, 3) := by decide +kernel
theorem dM_wall_37 : decode bM_wall 37 = .ok (.iconst 1, 1) := by decide +kernel
theorem dM_wall_38 : decode bM_wall 38 = .ok (.goto 4, 3) := by decide +kernel
theorem dM_wall_41 : decode bM_wall 41 = .ok (.iconst 0, 1) := by decide +kernel
theorem dM_wall_42 : decode bM_wall 42 = .ok (.istore 4, 2) := by decide +kernel
theorem dM_wall_44 : decode bM_wall 44 = .ok (.aload_n 0, 1) := by decide +kernel
theorem dM_wall_45 : decode bM_wall 45 = .ok (.iload 4, 2) := by decide +kernel
theorem dM_wall_47 : decode bM_wall 47 = .ok (.ifCond .ne 7, 3) := by decide +kernel
theorem dM_wall_50 : decode bM_wall 50 = .ok (.iconst 1, 1) := by decide +kernel
theorem dM_wall_51 : decode bM_wall 51 = .ok (.goto 35, 3) := by decide +kernel
theorem dM_wall_54 : decode bM_wall 54 = .ok (.aload_n 0, 1) := by decide +kernel
theorem dM_wall_55 : decode bM_wall 55 = .ok (.getfield 100, 3) := by decide +kernel
theorem dM_wall_58 : decode bM_wall 58 = .ok (.bipush 20, 2) := by decide +kernel
theorem dM_wall_60 : decode bM_wall 60 = .ok (.if_icmp .eq 21, 3) := by decide +kernel
theorem dM_wall_63 : decode bM_wall 63 = .ok (.aload_n 0, 1) := by decide +kernel
theorem dM_wall_64 : decode bM_wall 64 = .ok (.iload_n 1, 1) := by decide +kernel
theorem dM_wall_65 : decode bM_wall 65 = .ok (.iload_n 3, 1) := by decide +kernel
theorem dM_wall_66 : decode bM_wall 66 = .ok (.invokevirtual 108, 3) := by decide +kernel
theorem dM_wall_69 : decode bM_wall 69 = .ok (.ifCond .ne 12, 3) := by decide +kernel
theorem dM_wall_72 : decode bM_wall 72 = .ok (.aload_n 0, 1) := by decide +kernel
theorem dM_wall_73 : decode bM_wall 73 = .ok (.iload_n 2, 1) := by decide +kernel
theorem dM_wall_74 : decode bM_wall 74 = .ok (.iload_n 3, 1) := by decide +kernel
theorem dM_wall_75 : decode bM_wall 75 = .ok (.invokevirtual 108, 3) := by decide +kernel
theorem dM_wall_78 : decode bM_wall 78 = .ok (.ifCond .eq 7, 3) := by decide +kernel
theorem dM_wall_81 : decode bM_wall 81 = .ok (.iconst 2, 1) := by decide +kernel
theorem dM_wall_82 : decode bM_wall 82 = .ok (.goto 4, 3) := by decide +kernel
theorem dM_wall_85 : decode bM_wall 85 = .ok (.iconst 0, 1) := by decide +kernel
theorem dM_wall_86 : decode bM_wall 86 = .ok (.putfield 82, 3) := by decide +kernel
theorem dM_wall_89 : decode bM_wall 89 = .ok (.aload_n 0, 1) := by decide +kernel
theorem dM_wall_90 : decode bM_wall 90 = .ok (.getfield 82, 3) := by decide +kernel
theorem dM_wall_93 : decode bM_wall 93 = .ok (.ifCond .le 5, 3) := by decide +kernel
theorem dM_wall_96 : decode bM_wall 96 = .ok (.iconst 0, 1) := by decide +kernel
theorem dM_wall_97 : decode bM_wall 97 = .ok (.ireturn, 1) := by decide +kernel
theorem dM_wall_98 : decode bM_wall 98 = .ok (.aload_n 0, 1) := by decide +kernel
theorem dM_wall_99 : decode bM_wall 99 = .ok (.getfield 35, 3) := by decide +kernel
theorem dM_wall_102 : decode bM_wall 102 = .ok (.aload_n 0, 1) := by decide +kernel
theorem dM_wall_103 : decode bM_wall 103 = .ok (.getfield 100, 3) := by decide +kernel
theorem dM_wall_106 : decode bM_wall 106 = .ok (.iload_n 1, 1) := by decide +kernel
theorem dM_wall_107 : decode bM_wall 107 = .ok (.iastore, 1) := by decide +kernel
theorem dM_wall_108 : decode bM_wall 108 = .ok (.aload_n 0, 1) := by decide +kernel
theorem dM_wall_109 : decode bM_wall 109 = .ok (.getfield 38, 3) := by decide +kernel
theorem dM_wall_112 : decode bM_wall 112 = .ok (.aload_n 0, 1) := by decide +kernel
theorem dM_wall_113 : decode bM_wall 113 = .ok (.getfield 100, 3) := by decide +kernel
theorem dM_wall_116 : decode bM_wall 116 = .ok (.iload_n 2, 1) := by decide +kernel
theorem dM_wall_117 : decode bM_wall 117 = .ok (.iastore, 1) := by decide +kernel
theorem dM_wall_118 : decode bM_wall 118 = .ok (.aload_n 0, 1) := by decide +kernel
theorem dM_wall_119 : decode bM_wall 119 = .ok (.getfield 41, 3) := by decide +kernel
theorem dM_wall_122 : decode bM_wall 122 = .ok (.aload_n 0, 1) := by decide +kernel
theorem dM_wall_123 : decode bM_wall 123 = .ok (.getfield 100, 3) := by decide +kernel
theorem dM_wall_126 : decode bM_wall 126 = .ok (.iload_n 3, 1) := by decide +kernel
theorem dM_wall_127 : decode bM_wall 127 = .ok (.iastore, 1) := by decide +kernel
theorem dM_wall_128 : decode bM_wall 128 = .ok (.aload_n 0, 1) := by decide +kernel
theorem dM_wall_129 : decode bM_wall 129 = .ok (.dup, 1) := by decide +kernel
theorem dM_wall_130 : decode bM_wall 130 = .ok (.getfield 100, 3) := by decide +kernel
theorem dM_wall_133 : decode bM_wall 133 = .ok (.iconst 1, 1) := by decide +kernel
theorem dM_wall_134 : decode bM_wall 134 = .ok (.iadd, 1) := by decide +kernel
theorem dM_wall_135 : decode bM_wall 135 = .ok (.putfield 100, 3) := by decide +kernel
theorem dM_wall_138 : decode bM_wall 138 = .ok (.aload_n 0, 1) := by decide +kernel
theorem dM_wall_139 : decode bM_wall 139 = .ok (.getfield 100, 3) := by decide +kernel
theorem dM_wall_142 : decode bM_wall 142 = .ok (.iconst 1, 1) := by decide +kernel
theorem dM_wall_143 : decode bM_wall 143 = .ok (.isub, 1) := by decide +kernel
theorem dM_wall_144 : decode bM_wall 144 = .ok (.ireturn, 1) := by decide +kernel
theorem dM_leads_0 : decode bM_leads 0 = .ok (.iload_n 1, 1) := by decide +kernel
theorem dM_leads_1 : decode bM_leads 1 = .ok (.iconst 0, 1) := by decide +kernel
theorem dM_leads_2 : decode bM_leads 2 = .ok (.aload_n 0, 1) := by decide +kernel
theorem dM_leads_3 : decode bM_leads 3 = .ok (.getfield 100, 3) := by decide +kernel
theorem dM_leads_6 : decode bM_leads 6 = .ok (.iconst 1, 1) := by decide +kernel
theorem dM_leads_7 : decode bM_leads 7 = .ok (.isub, 1) := by decide +kernel
theorem dM_leads_8 : decode bM_leads 8 = .ok (.invokestatic 85, 3) := by decide +kernel
theorem dM_leads_11 : decode bM_leads 11 = .ok (.ifCond .eq 18, 3) := by decide +kernel
theorem dM_leads_14 : decode bM_leads 14 = .ok (.iload_n 2, 1) := by decide +kernel
theorem dM_leads_15 : decode bM_leads 15 = .ok (.iconst 0, 1) := by decide +kernel
theorem dM_leads_16 : decode bM_leads 16 = .ok (.sipush 1000, 3) := by decide +kernel
theorem dM_leads_19 : decode bM_leads 19 = .ok (.invokestatic 85, 3) := by decide +kernel
theorem dM_leads_22 : decode bM_leads 22 = .ok (.ifCond .eq 7, 3) := by decide +kernel
theorem dM_leads_25 : decode bM_leads 25 = .ok (.iconst 1, 1) := by decide +kernel
theorem dM_leads_26 : decode bM_leads 26 = .ok (.goto 4, 3) := by decide +kernel
theorem dM_leads_29 : decode bM_leads 29 = .ok (.iconst 0, 1) := by decide +kernel
theorem dM_leads_30 : decode bM_leads 30 = .ok (.istore_n 3, 1) := by decide +kernel
theorem dM_leads_31 : decode bM_leads 31 = .ok (.aload_n 0, 1) := by decide +kernel
theorem dM_leads_32 : decode bM_leads 32 = .ok (.iload_n 3, 1) := by decide +kernel
theorem dM_leads_33 : decode bM_leads 33 = .ok (.ifCond .ne 7, 3) := by decide +kernel
theorem dM_leads_36 : decode bM_leads 36 = .ok (.iconst 1, 1) := by decide +kernel
theorem dM_leads_37 : decode bM_leads 37 = .ok (.goto 50, 3) := by decide +kernel
theorem dM_leads_40 : decode bM_leads 40 = .ok (.aload_n 0, 1) := by decide +kernel
theorem dM_leads_41 : decode bM_leads 41 = .ok (.aload_n 0, 1) := by decide +kernel
theorem dM_leads_42 : decode bM_leads 42 = .ok (.getfield 35, 3) := by decide +kernel
theorem dM_leads_45 : decode bM_leads 45 = .ok (.iload_n 1, 1) := by decide +kernel
theorem dM_leads_46 : decode bM_leads 46 = .ok (.iaload, 1) := by decide +kernel
theorem dM_leads_47 : decode bM_leads 47 = .ok (.iload_n 2, 1) := by decide +kernel
theorem dM_leads_48 : decode bM_leads 48 = .ok (.aload_n 0, 1) := by decide +kernel
theorem dM_leads_49 : decode bM_leads 49 = .ok (.getfield 41, 3) := by decide +kernel
theorem dM_leads_52 : decode bM_leads 52 = .ok (.iload_n 1, 1) := by decide +kernel
theorem dM_leads_53 : decode bM_leads 53 = .ok (.iaload, 1) := by decide +kernel
theorem dM_leads_54 : decode bM_leads 54 = .ok (.isub, 1) := by decide +kernel
theorem dM_leads_55 : decode bM_leads 55 = .ok (.invokevirtual 108, 3) := by decide +kernel
theorem dM_leads_58 : decode bM_leads 58 = .ok (.ifCond .ne 24, 3) := by decide +kernel
theorem dM_leads_61 : decode bM_leads 61 = .ok (.aload_n 0, 1) := by decide +kernel
theorem dM_leads_62 : decode bM_leads 62 = .ok (.aload_n 0, 1) := by decide +kernel
theorem dM_leads_63 : decode bM_leads 63 = .ok (.getfield 38, 3) := by decide +kernel
theorem dM_leads_66 : decode bM_leads 66 = .ok (.iload_n 1, 1) := by decide +kernel
theorem dM_leads_67 : decode bM_leads 67 = .ok (.iaload, 1) := by decide +kernel
theorem dM_leads_68 : decode bM_leads 68 = .ok (.iload_n 2, 1) := by decide +kernel
theorem dM_leads_69 : decode bM_leads 69 = .ok (.aload_n 0, 1) := by decide +kernel
theorem dM_leads_70 : decode bM_leads 70 = .ok (.getfield 41, 3) := by decide +kernel
theorem dM_leads_73 : decode bM_leads 73 = .ok (.iload_n 1, 1) := by decide +kernel
theorem dM_leads_74 : decode bM_leads 74 = .ok (.iaload, 1) := by decide +kernel
theorem dM_leads_75 : decode bM_leads 75 = .ok (.isub, 1) := by decide +kernel
theorem dM_leads_76 : decode bM_leads 76 = .ok (.invokevirtual 108, 3) := by decide +kernel
theorem dM_leads_79 : decode bM_leads 79 = .ok (.ifCond .eq 7, 3) := by decide +kernel
theorem dM_leads_82 : decode bM_leads 82 = .ok (.iconst 2, 1) := by decide +kernel
theorem dM_leads_83 : decode bM_leads 83 = .ok (.goto 4, 3) := by decide +kernel
theorem dM_leads_86 : decode bM_leads 86 = .ok (.iconst 0, 1) := by decide +kernel
theorem dM_leads_87 : decode bM_leads 87 = .ok (.putfield 82, 3) := by decide +kernel
theorem dM_leads_90 : decode bM_leads 90 = .ok (.aload_n 0, 1) := by decide +kernel
theorem dM_leads_91 : decode bM_leads 91 = .ok (.getfield 82, 3) := by decide +kernel
theorem dM_leads_94 : decode bM_leads 94 = .ok (.ifCond .le 5, 3) := by decide +kernel
theorem dM_leads_97 : decode bM_leads 97 = .ok (.iconst 0, 1) := by decide +kernel
theorem dM_leads_98 : decode bM_leads 98 = .ok (.ireturn, 1) := by decide +kernel
theorem dM_leads_99 : decode bM_leads 99 = .ok (.aload_n 0, 1) := by decide +kernel
theorem dM_leads_100 : decode bM_leads 100 = .ok (.getfield 41, 3) := by decide +kernel
theorem dM_leads_103 : decode bM_leads 103 = .ok (.iload_n 1, 1) := by decide +kernel
theorem dM_leads_104 : decode bM_leads 104 = .ok (.iaload, 1) := by decide +kernel
theorem dM_leads_105 : decode bM_leads 105 = .ok (.istore 4, 2) := by decide +kernel
theorem dM_leads_107 : decode bM_leads 107 = .ok (.aload_n 0, 1) := by decide +kernel
theorem dM_leads_108 : decode bM_leads 108 = .ok (.getfield 41, 3) := by decide +kernel
theorem dM_leads_111 : decode bM_leads 111 = .ok (.iload_n 1, 1) := by decide +kernel
theorem dM_leads_112 : decode bM_leads 112 = .ok (.iload_n 2, 1) := by decide +kernel
theorem dM_leads_113 : decode bM_leads 113 = .ok (.iastore, 1) := by decide +kernel
theorem dM_leads_114 : decode bM_leads 114 = .ok (.iload 4, 2) := by decide +kernel
theorem dM_leads_116 : decode bM_leads 116 = .ok (.ireturn, 1) := by decide +kernel
theorem dM_window_0 : decode bM_window 0 = .ok (.aload_n 0, 1) := by decide +kernel
theorem dM_window_1 : decode bM_window 1 = .ok (.iload_n 1, 1) := by decide +kernel
theorem dM_window_2 : decode bM_window 2 = .ok (.invokevirtual 105, 3) := by decide +kernel
theorem dM_window_5 : decode bM_window 5 = .ok (.ifCond .eq 34, 3) := by decide +kernel
theorem dM_window_8 : decode bM_window 8 = .ok (.iload_n 2, 1) := by decide +kernel
theorem dM_window_9 : decode bM_window 9 = .ok (.iconst 0, 1) := by decide +kernel
theorem dM_window_10 : decode bM_window 10 = .ok (.iconst 3, 1) := by decide +kernel
theorem dM_window_11 : decode bM_window 11 = .ok (.invokestatic 85, 3) := by decide +kernel
theorem dM_window_14 : decode bM_window 14 = .ok (.ifCond .eq 25, 3) := by decide +kernel
theorem dM_window_17 : decode bM_window 17 = .ok (.iload_n 3, 1) := by decide +kernel
theorem dM_window_18 : decode bM_window 18 = .ok (.iconst 0, 1) := by decide +kernel
theorem dM_window_19 : decode bM_window 19 = .ok (.bipush 100, 2) := by decide +kernel
theorem dM_window_21 : decode bM_window 21 = .ok (.invokestatic 85, 3) := by decide +kernel
theorem dM_window_24 : decode bM_window 24 = .ok (.ifCond .eq 15, 3) := by decide +kernel
theorem dM_window_27 : decode bM_window 27 = .ok (.iload 4, 2) := by decide +kernel
theorem dM_window_29 : decode bM_window 29 = .ok (.invokestatic 92, 3) := by decide +kernel
theorem dM_window_32 : decode bM_window 32 = .ok (.ifCond .eq 7, 3) := by decide +kernel
theorem dM_window_35 : decode bM_window 35 = .ok (.iconst 1, 1) := by decide +kernel
theorem dM_window_36 : decode bM_window 36 = .ok (.goto 4, 3) := by decide +kernel
theorem dM_window_39 : decode bM_window 39 = .ok (.iconst 0, 1) := by decide +kernel
theorem dM_window_40 : decode bM_window 40 = .ok (.istore 5, 2) := by decide +kernel
theorem dM_window_42 : decode bM_window 42 = .ok (.aload_n 0, 1) := by decide +kernel
theorem dM_window_43 : decode bM_window 43 = .ok (.iload 5, 2) := by decide +kernel
theorem dM_window_45 : decode bM_window 45 = .ok (.ifCond .ne 7, 3) := by decide +kernel
theorem dM_window_48 : decode bM_window 48 = .ok (.iconst 1, 1) := by decide +kernel
theorem dM_window_49 : decode bM_window 49 = .ok (.goto 17, 3) := by decide +kernel
theorem dM_window_52 : decode bM_window 52 = .ok (.aload_n 0, 1) := by decide +kernel
theorem dM_window_53 : decode bM_window 53 = .ok (.getfield 112, 3) := by decide +kernel
theorem dM_window_56 : decode bM_window 56 = .ok (.bipush 12, 2) := by decide +kernel
theorem dM_window_58 : decode bM_window 58 = .ok (.if_icmp .ne 7, 3) := by decide +kernel
theorem dM_window_61 : decode bM_window 61 = .ok (.iconst 2, 1) := by decide +kernel
theorem dM_window_62 : decode bM_window 62 = .ok (.goto 4, 3) := by decide +kernel
theorem dM_window_65 : decode bM_window 65 = .ok (.iconst 0, 1) := by decide +kernel
theorem dM_window_66 : decode bM_window 66 = .ok (.putfield 82, 3) := by decide +kernel
theorem dM_window_69 : decode bM_window 69 = .ok (.aload_n 0, 1) := by decide +kernel
theorem dM_window_70 : decode bM_window 70 = .ok (.getfield 82, 3) := by decide +kernel
theorem dM_window_73 : decode bM_window 73 = .ok (.ifCond .le 5, 3) := by decide +kernel
theorem dM_window_76 : decode bM_window 76 = .ok (.iconst 0, 1) := by decide +kernel
theorem dM_window_77 : decode bM_window 77 = .ok (.ireturn, 1) := by decide +kernel
theorem dM_window_78 : decode bM_window 78 = .ok (.aload_n 0, 1) := by decide +kernel
theorem dM_window_79 : decode bM_window 79 = .ok (.getfield 44, 3) := by decide +kernel
theorem dM_window_82 : decode bM_window 82 = .ok (.aload_n 0, 1) := by decide +kernel
theorem dM_window_83 : decode bM_window 83 = .ok (.getfield 112, 3) := by decide +kernel
theorem dM_window_86 : decode bM_window 86 = .ok (.iload_n 1, 1) := by decide +kernel
theorem dM_window_87 : decode bM_window 87 = .ok (.iastore, 1) := by decide +kernel
theorem dM_window_88 : decode bM_window 88 = .ok (.aload_n 0, 1) := by decide +kernel
theorem dM_window_89 : decode bM_window 89 = .ok (.getfield 47, 3) := by decide +kernel
theorem dM_window_92 : decode bM_window 92 = .ok (.aload_n 0, 1) := by decide +kernel
theorem dM_window_93 : decode bM_window 93 = .ok (.getfield 112, 3) := by decide +kernel
theorem dM_window_96 : decode bM_window 96 = .ok (.iload_n 2, 1) := by decide +kernel
theorem dM_window_97 : decode bM_window 97 = .ok (.iastore, 1) := by decide +kernel
theorem dM_window_98 : decode bM_window 98 = .ok (.aload_n 0, 1) := by decide +kernel
theorem dM_window_99 : decode bM_window 99 = .ok (.getfield 50, 3) := by decide +kernel
theorem dM_window_102 : decode bM_window 102 = .ok (.aload_n 0, 1) := by decide +kernel
theorem dM_window_103 : decode bM_window 103 = .ok (.getfield 112, 3) := by decide +kernel
theorem dM_window_106 : decode bM_window 106 = .ok (.iload_n 3, 1) := by decide +kernel
theorem dM_window_107 : decode bM_window 107 = .ok (.iastore, 1) := by decide +kernel
theorem dM_window_108 : decode bM_window 108 = .ok (.aload_n 0, 1) := by decide +kernel
theorem dM_window_109 : decode bM_window 109 = .ok (.getfield 53, 3) := by decide +kernel
theorem dM_window_112 : decode bM_window 112 = .ok (.aload_n 0, 1) := by decide +kernel
theorem dM_window_113 : decode bM_window 113 = .ok (.getfield 112, 3) := by decide +kernel
theorem dM_window_116 : decode bM_window 116 = .ok (.iload 4, 2) := by decide +kernel
theorem dM_window_118 : decode bM_window 118 = .ok (.iastore, 1) := by decide +kernel
theorem dM_window_119 : decode bM_window 119 = .ok (.aload_n 0, 1) := by decide +kernel
theorem dM_window_120 : decode bM_window 120 = .ok (.dup, 1) := by decide +kernel
theorem dM_window_121 : decode bM_window 121 = .ok (.getfield 112, 3) := by decide +kernel
theorem dM_window_124 : decode bM_window 124 = .ok (.iconst 1, 1) := by decide +kernel
theorem dM_window_125 : decode bM_window 125 = .ok (.iadd, 1) := by decide +kernel
theorem dM_window_126 : decode bM_window 126 = .ok (.putfield 112, 3) := by decide +kernel
theorem dM_window_129 : decode bM_window 129 = .ok (.aload_n 0, 1) := by decide +kernel
theorem dM_window_130 : decode bM_window 130 = .ok (.getfield 112, 3) := by decide +kernel
theorem dM_window_133 : decode bM_window 133 = .ok (.iconst 1, 1) := by decide +kernel
theorem dM_window_134 : decode bM_window 134 = .ok (.isub, 1) := by decide +kernel
theorem dM_window_135 : decode bM_window 135 = .ok (.ireturn, 1) := by decide +kernel
theorem dM_outside_0 : decode bM_outside 0 = .ok (.aload_n 0, 1) := by decide +kernel
theorem dM_outside_1 : decode bM_outside 1 = .ok (.iload_n 1, 1) := by decide +kernel
theorem dM_outside_2 : decode bM_outside 2 = .ok (.iconst 0, 1) := by decide +kernel
theorem dM_outside_3 : decode bM_outside 3 = .ok (.bipush 23, 2) := by decide +kernel
theorem dM_outside_5 : decode bM_outside 5 = .ok (.invokestatic 85, 3) := by decide +kernel
theorem dM_outside_8 : decode bM_outside 8 = .ok (.ifCond .eq 14, 3) := by decide +kernel
theorem dM_outside_11 : decode bM_outside 11 = .ok (.iload_n 2, 1) := by decide +kernel
theorem dM_outside_12 : decode bM_outside 12 = .ok (.invokestatic 92, 3) := by decide +kernel
theorem dM_outside_15 : decode bM_outside 15 = .ok (.ifCond .eq 7, 3) := by decide +kernel
theorem dM_outside_18 : decode bM_outside 18 = .ok (.iconst 0, 1) := by decide +kernel
theorem dM_outside_19 : decode bM_outside 19 = .ok (.goto 4, 3) := by decide +kernel
