theorem dM_outside_22 : decode bM_outside 22 = .ok (.iconst 1, 1) := by decide +kernel
theorem dM_outside_23 : decode bM_outside 23 = .ok (.putfield 82, 3) := by decide +kernel
theorem dM_outside_26 : decode bM_outside 26 = .ok (.aload_n 0, 1) := by decide +kernel
theorem dM_outside_27 : decode bM_outside 27 = .ok (.getfield 82, 3) := by decide +kernel
theorem dM_outside_30 : decode bM_outside 30 = .ok (.ifCond .le 5, 3) := by decide +kernel
theorem dM_outside_33 : decode bM_outside 33 = .ok (.iconst 0, 1) := by decide +kernel
theorem dM_outside_34 : decode bM_outside 34 = .ok (.ireturn, 1) := by decide +kernel
theorem dM_outside_35 : decode bM_outside 35 = .ok (.aload_n 0, 1) := by decide +kernel
theorem dM_outside_36 : decode bM_outside 36 = .ok (.getfield 56, 3) := by decide +kernel
theorem dM_outside_39 : decode bM_outside 39 = .ok (.iload_n 1, 1) := by decide +kernel
theorem dM_outside_40 : decode bM_outside 40 = .ok (.iaload, 1) := by decide +kernel
theorem dM_outside_41 : decode bM_outside 41 = .ok (.istore_n 3, 1) := by decide +kernel
theorem dM_outside_42 : decode bM_outside 42 = .ok (.aload_n 0, 1) := by decide +kernel
theorem dM_outside_43 : decode bM_outside 43 = .ok (.getfield 56, 3) := by decide +kernel
theorem dM_outside_46 : decode bM_outside 46 = .ok (.iload_n 1, 1) := by decide +kernel
theorem dM_outside_47 : decode bM_outside 47 = .ok (.iload_n 2, 1) := by decide +kernel
theorem dM_outside_48 : decode bM_outside 48 = .ok (.iastore, 1) := by decide +kernel
theorem dM_outside_49 : decode bM_outside 49 = .ok (.iload_n 3, 1) := by decide +kernel
theorem dM_outside_50 : decode bM_outside 50 = .ok (.ireturn, 1) := by decide +kernel
theorem dM_sun_0 : decode bM_sun 0 = .ok (.aload_n 0, 1) := by decide +kernel
theorem dM_sun_1 : decode bM_sun 1 = .ok (.iload_n 1, 1) := by decide +kernel
theorem dM_sun_2 : decode bM_sun 2 = .ok (.iconst 0, 1) := by decide +kernel
theorem dM_sun_3 : decode bM_sun 3 = .ok (.iconst 3, 1) := by decide +kernel
theorem dM_sun_4 : decode bM_sun 4 = .ok (.invokestatic 85, 3) := by decide +kernel
theorem dM_sun_7 : decode bM_sun 7 = .ok (.ifCond .eq 28, 3) := by decide +kernel
theorem dM_sun_10 : decode bM_sun 10 = .ok (.iload_n 2, 1) := by decide +kernel
theorem dM_sun_11 : decode bM_sun 11 = .ok (.iconst 0, 1) := by decide +kernel
theorem dM_sun_12 : decode bM_sun 12 = .ok (.bipush 23, 2) := by decide +kernel
theorem dM_sun_14 : decode bM_sun 14 = .ok (.invokestatic 85, 3) := by decide +kernel
theorem dM_sun_17 : decode bM_sun 17 = .ok (.ifCond .eq 18, 3) := by decide +kernel
theorem dM_sun_20 : decode bM_sun 20 = .ok (.iload_n 3, 1) := by decide +kernel
theorem dM_sun_21 : decode bM_sun 21 = .ok (.iconst 0, 1) := by decide +kernel
theorem dM_sun_22 : decode bM_sun 22 = .ok (.sipush 1000, 3) := by decide +kernel
theorem dM_sun_25 : decode bM_sun 25 = .ok (.invokestatic 85, 3) := by decide +kernel
theorem dM_sun_28 : decode bM_sun 28 = .ok (.ifCond .eq 7, 3) := by decide +kernel
theorem dM_sun_31 : decode bM_sun 31 = .ok (.iconst 0, 1) := by decide +kernel
theorem dM_sun_32 : decode bM_sun 32 = .ok (.goto 4, 3) := by decide +kernel
theorem dM_sun_35 : decode bM_sun 35 = .ok (.iconst 1, 1) := by decide +kernel
theorem dM_sun_36 : decode bM_sun 36 = .ok (.putfield 82, 3) := by decide +kernel
theorem dM_sun_39 : decode bM_sun 39 = .ok (.aload_n 0, 1) := by decide +kernel
theorem dM_sun_40 : decode bM_sun 40 = .ok (.getfield 82, 3) := by decide +kernel
theorem dM_sun_43 : decode bM_sun 43 = .ok (.ifCond .le 5, 3) := by decide +kernel
theorem dM_sun_46 : decode bM_sun 46 = .ok (.iconst 0, 1) := by decide +kernel
theorem dM_sun_47 : decode bM_sun 47 = .ok (.ireturn, 1) := by decide +kernel
theorem dM_sun_48 : decode bM_sun 48 = .ok (.aload_n 0, 1) := by decide +kernel
theorem dM_sun_49 : decode bM_sun 49 = .ok (.getfield 59, 3) := by decide +kernel
theorem dM_sun_52 : decode bM_sun 52 = .ok (.bipush 24, 2) := by decide +kernel
theorem dM_sun_54 : decode bM_sun 54 = .ok (.iload_n 1, 1) := by decide +kernel
theorem dM_sun_55 : decode bM_sun 55 = .ok (.imul, 1) := by decide +kernel
theorem dM_sun_56 : decode bM_sun 56 = .ok (.iload_n 2, 1) := by decide +kernel
theorem dM_sun_57 : decode bM_sun 57 = .ok (.iadd, 1) := by decide +kernel
theorem dM_sun_58 : decode bM_sun 58 = .ok (.iaload, 1) := by decide +kernel
theorem dM_sun_59 : decode bM_sun 59 = .ok (.istore 4, 2) := by decide +kernel
theorem dM_sun_61 : decode bM_sun 61 = .ok (.aload_n 0, 1) := by decide +kernel
theorem dM_sun_62 : decode bM_sun 62 = .ok (.getfield 59, 3) := by decide +kernel
theorem dM_sun_65 : decode bM_sun 65 = .ok (.bipush 24, 2) := by decide +kernel
theorem dM_sun_67 : decode bM_sun 67 = .ok (.iload_n 1, 1) := by decide +kernel
theorem dM_sun_68 : decode bM_sun 68 = .ok (.imul, 1) := by decide +kernel
theorem dM_sun_69 : decode bM_sun 69 = .ok (.iload_n 2, 1) := by decide +kernel
theorem dM_sun_70 : decode bM_sun 70 = .ok (.iadd, 1) := by decide +kernel
theorem dM_sun_71 : decode bM_sun 71 = .ok (.iload_n 3, 1) := by decide +kernel
theorem dM_sun_72 : decode bM_sun 72 = .ok (.iastore, 1) := by decide +kernel
theorem dM_sun_73 : decode bM_sun 73 = .ok (.iload 4, 2) := by decide +kernel
theorem dM_sun_75 : decode bM_sun 75 = .ok (.ireturn, 1) := by decide +kernel
theorem dM_plan_0 : decode bM_plan 0 = .ok (.aload_n 0, 1) := by decide +kernel
theorem dM_plan_1 : decode bM_plan 1 = .ok (.iload_n 1, 1) := by decide +kernel
theorem dM_plan_2 : decode bM_plan 2 = .ok (.invokevirtual 105, 3) := by decide +kernel
theorem dM_plan_5 : decode bM_plan 5 = .ok (.ifCond .eq 57, 3) := by decide +kernel
theorem dM_plan_8 : decode bM_plan 8 = .ok (.iload_n 2, 1) := by decide +kernel
theorem dM_plan_9 : decode bM_plan 9 = .ok (.iconst 0, 1) := by decide +kernel
theorem dM_plan_10 : decode bM_plan 10 = .ok (.bipush 23, 2) := by decide +kernel
theorem dM_plan_12 : decode bM_plan 12 = .ok (.invokestatic 85, 3) := by decide +kernel
theorem dM_plan_15 : decode bM_plan 15 = .ok (.ifCond .eq 47, 3) := by decide +kernel
theorem dM_plan_18 : decode bM_plan 18 = .ok (.iload_n 3, 1) := by decide +kernel
theorem dM_plan_19 : decode bM_plan 19 = .ok (.ifCond .ne 14, 3) := by decide +kernel
theorem dM_plan_22 : decode bM_plan 22 = .ok (.iload 4, 2) := by decide +kernel
theorem dM_plan_24 : decode bM_plan 24 = .ok (.iconst 0, 1) := by decide +kernel
theorem dM_plan_25 : decode bM_plan 25 = .ok (.bipush 100, 2) := by decide +kernel
theorem dM_plan_27 : decode bM_plan 27 = .ok (.invokestatic 85, 3) := by decide +kernel
theorem dM_plan_30 : decode bM_plan 30 = .ok (.ifCond .ne 28, 3) := by decide +kernel
theorem dM_plan_33 : decode bM_plan 33 = .ok (.iload_n 3, 1) := by decide +kernel
theorem dM_plan_34 : decode bM_plan 34 = .ok (.iconst 1, 1) := by decide +kernel
theorem dM_plan_35 : decode bM_plan 35 = .ok (.if_icmp .eq 8, 3) := by decide +kernel
theorem dM_plan_38 : decode bM_plan 38 = .ok (.iload_n 3, 1) := by decide +kernel
theorem dM_plan_39 : decode bM_plan 39 = .ok (.iconst 2, 1) := by decide +kernel
theorem dM_plan_40 : decode bM_plan 40 = .ok (.if_icmp .ne 22, 3) := by decide +kernel
theorem dM_plan_43 : decode bM_plan 43 = .ok (.iload 4, 2) := by decide +kernel
theorem dM_plan_45 : decode bM_plan 45 = .ok (.ldc 81, 2) := by decide +kernel
theorem dM_plan_47 : decode bM_plan 47 = .ok (.if_icmp .eq 11, 3) := by decide +kernel
theorem dM_plan_50 : decode bM_plan 50 = .ok (.iload 4, 2) := by decide +kernel
theorem dM_plan_52 : decode bM_plan 52 = .ok (.invokestatic 92, 3) := by decide +kernel
theorem dM_plan_55 : decode bM_plan 55 = .ok (.ifCond .eq 7, 3) := by decide +kernel
theorem dM_plan_58 : decode bM_plan 58 = .ok (.iconst 1, 1) := by decide +kernel
theorem dM_plan_59 : decode bM_plan 59 = .ok (.goto 4, 3) := by decide +kernel
theorem dM_plan_62 : decode bM_plan 62 = .ok (.iconst 0, 1) := by decide +kernel
theorem dM_plan_63 : decode bM_plan 63 = .ok (.istore 5, 2) := by decide +kernel
theorem dM_plan_65 : decode bM_plan 65 = .ok (.aload_n 0, 1) := by decide +kernel
theorem dM_plan_66 : decode bM_plan 66 = .ok (.iload 5, 2) := by decide +kernel
theorem dM_plan_68 : decode bM_plan 68 = .ok (.ifCond .eq 7, 3) := by decide +kernel
theorem dM_plan_71 : decode bM_plan 71 = .ok (.iconst 0, 1) := by decide +kernel
theorem dM_plan_72 : decode bM_plan 72 = .ok (.goto 4, 3) := by decide +kernel
theorem dM_plan_75 : decode bM_plan 75 = .ok (.iconst 1, 1) := by decide +kernel
theorem dM_plan_76 : decode bM_plan 76 = .ok (.putfield 82, 3) := by decide +kernel
theorem dM_plan_79 : decode bM_plan 79 = .ok (.aload_n 0, 1) := by decide +kernel
theorem dM_plan_80 : decode bM_plan 80 = .ok (.getfield 82, 3) := by decide +kernel
theorem dM_plan_83 : decode bM_plan 83 = .ok (.ifCond .le 5, 3) := by decide +kernel
theorem dM_plan_86 : decode bM_plan 86 = .ok (.iconst 0, 1) := by decide +kernel
theorem dM_plan_87 : decode bM_plan 87 = .ok (.ireturn, 1) := by decide +kernel
theorem dM_plan_88 : decode bM_plan 88 = .ok (.bipush 24, 2) := by decide +kernel
theorem dM_plan_90 : decode bM_plan 90 = .ok (.iload_n 1, 1) := by decide +kernel
theorem dM_plan_91 : decode bM_plan 91 = .ok (.imul, 1) := by decide +kernel
theorem dM_plan_92 : decode bM_plan 92 = .ok (.iload_n 2, 1) := by decide +kernel
theorem dM_plan_93 : decode bM_plan 93 = .ok (.iadd, 1) := by decide +kernel
theorem dM_plan_94 : decode bM_plan 94 = .ok (.istore 6, 2) := by decide +kernel
theorem dM_plan_96 : decode bM_plan 96 = .ok (.iload_n 3, 1) := by decide +kernel
theorem dM_plan_97 : decode bM_plan 97 = .ok (.ifCond .ne 13, 3) := by decide +kernel
theorem dM_plan_100 : decode bM_plan 100 = .ok (.aload_n 0, 1) := by decide +kernel
theorem dM_plan_101 : decode bM_plan 101 = .ok (.getfield 62, 3) := by decide +kernel
theorem dM_plan_104 : decode bM_plan 104 = .ok (.iload 6, 2) := by decide +kernel
theorem dM_plan_106 : decode bM_plan 106 = .ok (.iaload, 1) := by decide +kernel
theorem dM_plan_107 : decode bM_plan 107 = .ok (.goto 25, 3) := by decide +kernel
theorem dM_plan_110 : decode bM_plan 110 = .ok (.iload_n 3, 1) := by decide +kernel
theorem dM_plan_111 : decode bM_plan 111 = .ok (.iconst 1, 1) := by decide +kernel
theorem dM_plan_112 : decode bM_plan 112 = .ok (.if_icmp .ne 13, 3) := by decide +kernel
theorem dM_plan_115 : decode bM_plan 115 = .ok (.aload_n 0, 1) := by decide +kernel
theorem dM_plan_116 : decode bM_plan 116 = .ok (.getfield 65, 3) := by decide +kernel
theorem dM_plan_119 : decode bM_plan 119 = .ok (.iload 6, 2) := by decide +kernel
theorem dM_plan_121 : decode bM_plan 121 = .ok (.iaload, 1) := by decide +kernel
theorem dM_plan_122 : decode bM_plan 122 = .ok (.goto 10, 3) := by decide +kernel
theorem dM_plan_125 : decode bM_plan 125 = .ok (.aload_n 0, 1) := by decide +kernel
theorem dM_plan_126 : decode bM_plan 126 = .ok (.getfield 68, 3) := by decide +kernel
theorem dM_plan_129 : decode bM_plan 129 = .ok (.iload 6, 2) := by decide +kernel
theorem dM_plan_131 : decode bM_plan 131 = .ok (.iaload, 1) := by decide +kernel
theorem dM_plan_132 : decode bM_plan 132 = .ok (.istore 7, 2) := by decide +kernel
theorem dM_plan_134 : decode bM_plan 134 = .ok (.aload_n 0, 1) := by decide +kernel
theorem dM_plan_135 : decode bM_plan 135 = .ok (.getfield 62, 3) := by decide +kernel
theorem dM_plan_138 : decode bM_plan 138 = .ok (.iload 6, 2) := by decide +kernel
theorem dM_plan_140 : decode bM_plan 140 = .ok (.iload_n 3, 1) := by decide +kernel
theorem dM_plan_141 : decode bM_plan 141 = .ok (.ifCond .ne 8, 3) := by decide +kernel
theorem dM_plan_144 : decode bM_plan 144 = .ok (.iload 4, 2) := by decide +kernel
theorem dM_plan_146 : decode bM_plan 146 = .ok (.goto 10, 3) := by decide +kernel
theorem dM_plan_149 : decode bM_plan 149 = .ok (.aload_n 0, 1) := by decide +kernel
theorem dM_plan_150 : decode bM_plan 150 = .ok (.getfield 62, 3) := by decide +kernel
theorem dM_plan_153 : decode bM_plan 153 = .ok (.iload 6, 2) := by decide +kernel
theorem dM_plan_155 : decode bM_plan 155 = .ok (.iaload, 1) := by decide +kernel
theorem dM_plan_156 : decode bM_plan 156 = .ok (.iastore, 1) := by decide +kernel
theorem dM_plan_157 : decode bM_plan 157 = .ok (.aload_n 0, 1) := by decide +kernel
theorem dM_plan_158 : decode bM_plan 158 = .ok (.getfield 65, 3) := by decide +kernel
theorem dM_plan_161 : decode bM_plan 161 = .ok (.iload 6, 2) := by decide +kernel
theorem dM_plan_163 : decode bM_plan 163 = .ok (.iload_n 3, 1) := by decide +kernel
theorem dM_plan_164 : decode bM_plan 164 = .ok (.iconst 1, 1) := by decide +kernel
theorem dM_plan_165 : decode bM_plan 165 = .ok (.if_icmp .ne 8, 3) := by decide +kernel
theorem dM_plan_168 : decode bM_plan 168 = .ok (.iload 4, 2) := by decide +kernel
theorem dM_plan_170 : decode bM_plan 170 = .ok (.goto 10, 3) := by decide +kernel
theorem dM_plan_173 : decode bM_plan 173 = .ok (.aload_n 0, 1) := by decide +kernel
theorem dM_plan_174 : decode bM_plan 174 = .ok (.getfield 65, 3) := by decide +kernel
theorem dM_plan_177 : decode bM_plan 177 = .ok (.iload 6, 2) := by decide +kernel
theorem dM_plan_179 : decode bM_plan 179 = .ok (.iaload, 1) := by decide +kernel
theorem dM_plan_180 : decode bM_plan 180 = .ok (.iastore, 1) := by decide +kernel
theorem dM_plan_181 : decode bM_plan 181 = .ok (.aload_n 0, 1) := by decide +kernel
theorem dM_plan_182 : decode bM_plan 182 = .ok (.getfield 68, 3) := by decide +kernel
theorem dM_plan_185 : decode bM_plan 185 = .ok (.iload 6, 2) := by decide +kernel
theorem dM_plan_187 : decode bM_plan 187 = .ok (.iload_n 3, 1) := by decide +kernel
theorem dM_plan_188 : decode bM_plan 188 = .ok (.iconst 2, 1) := by decide +kernel
theorem dM_plan_189 : decode bM_plan 189 = .ok (.if_icmp .ne 8, 3) := by decide +kernel
theorem dM_plan_192 : decode bM_plan 192 = .ok (.iload 4, 2) := by decide +kernel
theorem dM_plan_194 : decode bM_plan 194 = .ok (.goto 10, 3) := by decide +kernel
theorem dM_plan_197 : decode bM_plan 197 = .ok (.aload_n 0, 1) := by decide +kernel
theorem dM_plan_198 : decode bM_plan 198 = .ok (.getfield 68, 3) := by decide +kernel
theorem dM_plan_201 : decode bM_plan 201 = .ok (.iload 6, 2) := by decide +kernel
theorem dM_plan_203 : decode bM_plan 203 = .ok (.iaload, 1) := by decide +kernel
theorem dM_plan_204 : decode bM_plan 204 = .ok (.iastore, 1) := by decide +kernel
theorem dM_plan_205 : decode bM_plan 205 = .ok (.iload 7, 2) := by decide +kernel
theorem dM_plan_207 : decode bM_plan 207 = .ok (.ireturn, 1) := by decide +kernel
theorem dM_most_0 : decode bM_most 0 = .ok (.aload_n 0, 1) := by decide +kernel
theorem dM_most_1 : decode bM_most 1 = .ok (.aload_n 0, 1) := by decide +kernel
theorem dM_most_2 : decode bM_most 2 = .ok (.iload_n 1, 1) := by decide +kernel
theorem dM_most_3 : decode bM_most 3 = .ok (.invokevirtual 105, 3) := by decide +kernel
theorem dM_most_6 : decode bM_most 6 = .ok (.ifCond .eq 26, 3) := by decide +kernel
theorem dM_most_9 : decode bM_most 9 = .ok (.iload_n 2, 1) := by decide +kernel
theorem dM_most_10 : decode bM_most 10 = .ok (.iconst 0, 1) := by decide +kernel
theorem dM_most_11 : decode bM_most 11 = .ok (.iconst 1, 1) := by decide +kernel
theorem dM_most_12 : decode bM_most 12 = .ok (.invokestatic 85, 3) := by decide +kernel
theorem dM_most_15 : decode bM_most 15 = .ok (.ifCond .eq 17, 3) := by decide +kernel
theorem dM_most_18 : decode bM_most 18 = .ok (.iload_n 3, 1) := by decide +kernel
theorem dM_most_19 : decode bM_most 19 = .ok (.iconst 0, 1) := by decide +kernel
theorem dM_most_20 : decode bM_most 20 = .ok (.ldc 115, 2) := by decide +kernel
theorem dM_most_22 : decode bM_most 22 = .ok (.invokestatic 85, 3) := by decide +kernel
theorem dM_most_25 : decode bM_most 25 = .ok (.ifCond .eq 7, 3) := by decide +kernel
theorem dM_most_28 : decode bM_most 28 = .ok (.iconst 0, 1) := by decide +kernel
theorem dM_most_29 : decode bM_most 29 = .ok (.goto 4, 3) := by decide +kernel
theorem dM_most_32 : decode bM_most 32 = .ok (.iconst 1, 1) := by decide +kernel
theorem dM_most_33 : decode bM_most 33 = .ok (.putfield 82, 3) := by decide +kernel
theorem dM_most_36 : decode bM_most 36 = .ok (.aload_n 0, 1) := by decide +kernel
theorem dM_most_37 : decode bM_most 37 = .ok (.getfield 82, 3) := by decide +kernel
theorem dM_most_40 : decode bM_most 40 = .ok (.ifCond .le 5, 3) := by decide +kernel
theorem dM_most_43 : decode bM_most 43 = .ok (.iconst 0, 1) := by decide +kernel
theorem dM_most_44 : decode bM_most 44 = .ok (.ireturn, 1) := by decide +kernel
theorem dM_most_45 : decode bM_most 45 = .ok (.iload_n 2, 1) := by decide +kernel
theorem dM_most_46 : decode bM_most 46 = .ok (.ifCond .ne 12, 3) := by decide +kernel
theorem dM_most_49 : decode bM_most 49 = .ok (.aload_n 0, 1) := by decide +kernel
theorem dM_most_50 : decode bM_most 50 = .ok (.getfield 29, 3) := by decide +kernel
theorem dM_most_53 : decode bM_most 53 = .ok (.iload_n 1, 1) := by decide +kernel
theorem dM_most_54 : decode bM_most 54 = .ok (.iaload, 1) := by decide +kernel
theorem dM_most_55 : decode bM_most 55 = .ok (.goto 9, 3) := by decide +kernel
theorem dM_most_58 : decode bM_most 58 = .ok (.aload_n 0, 1) := by decide +kernel
theorem dM_most_59 : decode bM_most 59 = .ok (.getfield 32, 3) := by decide +kernel
theorem dM_most_62 : decode bM_most 62 = .ok (.iload_n 1, 1) := by decide +kernel
theorem dM_most_63 : decode bM_most 63 = .ok (.iaload, 1) := by decide +kernel
theorem dM_most_64 : decode bM_most 64 = .ok (.istore 4, 2) := by decide +kernel
theorem dM_most_66 : decode bM_most 66 = .ok (.aload_n 0, 1) := by decide +kernel
theorem dM_most_67 : decode bM_most 67 = .ok (.getfield 29, 3) := by decide +kernel
theorem dM_most_70 : decode bM_most 70 = .ok (.iload_n 1, 1) := by decide +kernel
theorem dM_most_71 : decode bM_most 71 = .ok (.iload_n 2, 1) := by decide +kernel
theorem dM_most_72 : decode bM_most 72 = .ok (.ifCond .ne 7, 3) := by decide +kernel
theorem dM_most_75 : decode bM_most 75 = .ok (.iload_n 3, 1) := by decide +kernel
theorem dM_most_76 : decode bM_most 76 = .ok (.goto 9, 3) := by decide +kernel
theorem dM_most_79 : decode bM_most 79 = .ok (.aload_n 0, 1) := by decide +kernel
theorem dM_most_80 : decode bM_most 80 = .ok (.getfield 29, 3) := by decide +kernel
theorem dM_most_83 : decode bM_most 83 = .ok (.iload_n 1, 1) := by decide +kernel
theorem dM_most_84 : decode bM_most 84 = .ok (.iaload, 1) := by decide +kernel
theorem dM_most_85 : decode bM_most 85 = .ok (.iastore, 1) := by decide +kernel
theorem dM_most_86 : decode bM_most 86 = .ok (.aload_n 0, 1) := by decide +kernel
theorem dM_most_87 : decode bM_most 87 = .ok (.getfield 32, 3) := by decide +kernel
theorem dM_most_90 : decode bM_most 90 = .ok (.iload_n 1, 1) := by decide +kernel
theorem dM_most_91 : decode bM_most 91 = .ok (.iload_n 2, 1) := by decide +kernel
theorem dM_most_92 : decode bM_most 92 = .ok (.iconst 1, 1) := by decide +kernel
theorem dM_most_93 : decode bM_most 93 = .ok (.if_icmp .ne 7, 3) := by decide +kernel
theorem dM_most_96 : decode bM_most 96 = .ok (.iload_n 3, 1) := by decide +kernel
theorem dM_most_97 : decode bM_most 97 = .ok (.goto 9, 3) := by decide +kernel
theorem dM_most_100 : decode bM_most 100 = .ok (.aload_n 0, 1) := by decide +kernel
theorem dM_most_101 : decode bM_most 101 = .ok (.getfield 32, 3) := by decide +kernel
theorem dM_most_104 : decode bM_most 104 = .ok (.iload_n 1, 1) := by decide +kernel
theorem dM_most_105 : decode bM_most 105 = .ok (.iaload, 1) := by decide +kernel
theorem dM_most_106 : decode bM_most 106 = .ok (.iastore, 1) := by decide +kernel
theorem dM_most_107 : decode bM_most 107 = .ok (.iload 4, 2) := by decide +kernel
theorem dM_most_109 : decode bM_most 109 = .ok (.ireturn, 1) := by decide +kernel
theorem dM_ease_0 : decode bM_ease 0 = .ok (.aload_n 0, 1) := by decide +kernel
theorem dM_ease_1 : decode bM_ease 1 = .ok (.iload_n 1, 1) := by decide +kernel
theorem dM_ease_2 : decode bM_ease 2 = .ok (.invokestatic 92, 3) := by decide +kernel
theorem dM_ease_5 : decode bM_ease 5 = .ok (.ifCond .eq 19, 3) := by decide +kernel
theorem dM_ease_8 : decode bM_ease 8 = .ok (.iload_n 2, 1) := by decide +kernel
theorem dM_ease_9 : decode bM_ease 9 = .ok (.invokestatic 92, 3) := by decide +kernel
theorem dM_ease_12 : decode bM_ease 12 = .ok (.ifCond .eq 12, 3) := by decide +kernel
theorem dM_ease_15 : decode bM_ease 15 = .ok (.iload_n 1, 1) := by decide +kernel
theorem dM_ease_16 : decode bM_ease 16 = .ok (.iload_n 2, 1) := by decide +kernel
theorem dM_ease_17 : decode bM_ease 17 = .ok (.if_icmp .gt 7, 3) := by decide +kernel
theorem dM_ease_20 : decode bM_ease 20 = .ok (.iconst 0, 1) := by decide +kernel
theorem dM_ease_21 : decode bM_ease 21 = .ok (.goto 4, 3) := by decide +kernel
theorem dM_ease_24 : decode bM_ease 24 = .ok (.iconst 1, 1) := by decide +kernel
theorem dM_ease_25 : decode bM_ease 25 = .ok (.putfield 82, 3) := by decide +kernel
theorem dM_ease_28 : decode bM_ease 28 = .ok (.aload_n 0, 1) := by decide +kernel
theorem dM_ease_29 : decode bM_ease 29 = .ok (.getfield 82, 3) := by decide +kernel
theorem dM_ease_32 : decode bM_ease 32 = .ok (.ifCond .ne 13, 3) := by decide +kernel
theorem dM_ease_35 : decode bM_ease 35 = .ok (.aload_n 0, 1) := by decide +kernel
theorem dM_ease_36 : decode bM_ease 36 = .ok (.iload_n 1, 1) := by decide +kernel
theorem dM_ease_37 : decode bM_ease 37 = .ok (.putfield 116, 3) := by decide +kernel
theorem dM_ease_40 : decode bM_ease 40 = .ok (.aload_n 0, 1) := by decide +kernel
theorem dM_ease_41 : decode bM_ease 41 = .ok (.iload_n 2, 1) := by decide +kernel
theorem dM_ease_42 : decode bM_ease 42 = .ok (.putfield 119, 3) := by decide +kernel
theorem dM_ease_45 : decode bM_ease 45 = .ok (.return_, 1) := by decide +kernel
theorem dM_warmthOf_0 : decode bM_warmthOf 0 = .ok (.aload_n 0, 1) := by decide +kernel
theorem dM_warmthOf_1 : decode bM_warmthOf 1 = .ok (.getfield 13, 3) := by decide +kernel
theorem dM_warmthOf_4 : decode bM_warmthOf 4 = .ok (.iload_n 1, 1) := by decide +kernel
theorem dM_warmthOf_5 : decode bM_warmthOf 5 = .ok (.laload, 1) := by decide +kernel
theorem dM_warmthOf_6 : decode bM_warmthOf 6 = .ok (.aload_n 0, 1) := by decide +kernel
theorem dM_warmthOf_7 : decode bM_warmthOf 7 = .ok (.getfield 7, 3) := by decide +kernel
theorem dM_warmthOf_10 : decode bM_warmthOf 10 = .ok (.iload_n 1, 1) := by decide +kernel
theorem dM_warmthOf_11 : decode bM_warmthOf 11 = .ok (.iaload, 1) := by decide +kernel
theorem dM_warmthOf_12 : decode bM_warmthOf 12 = .ok (.invokestatic 122, 3) := by decide +kernel
theorem dM_warmthOf_15 : decode bM_warmthOf 15 = .ok (.lreturn, 1) := by decide +kernel
theorem dM_flows_0 : decode bM_flows 0 = .ok (.iconst 0, 1) := by decide +kernel
theorem dM_flows_1 : decode bM_flows 1 = .ok (.istore_n 2, 1) := by decide +kernel
theorem dM_flows_2 : decode bM_flows 2 = .ok (.iload_n 2, 1) := by decide +kernel
theorem dM_flows_3 : decode bM_flows 3 = .ok (.aload_n 0, 1) := by decide +kernel
theorem dM_flows_4 : decode bM_flows 4 = .ok (.getfield 89, 3) := by decide +kernel
theorem dM_flows_7 : decode bM_flows 7 = .ok (.if_icmp .ge 20, 3) := by decide +kernel
theorem dM_flows_10 : decode bM_flows 10 = .ok (.aload_n 0, 1) := by decide +kernel
theorem dM_flows_11 : decode bM_flows 11 = .ok (.getfield 71, 3) := by decide +kernel
theorem dM_flows_14 : decode bM_flows 14 = .ok (.iload_n 2, 1) := by decide +kernel
theorem dM_flows_15 : decode bM_flows 15 = .ok (.aload_n 0, 1) := by decide +kernel
theorem dM_flows_16 : decode bM_flows 16 = .ok (.iload_n 2, 1) := by decide +kernel
theorem dM_flows_17 : decode bM_flows 17 = .ok (.invokevirtual 126, 3) := by decide +kernel
theorem dM_flows_20 : decode bM_flows 20 = .ok (.lastore, 1) := by decide +kernel
theorem dM_flows_21 : decode bM_flows 21 = .ok (.iinc 2 1, 3) := by decide +kernel
theorem dM_flows_24 : decode bM_flows 24 = .ok (.goto (-22), 3) := by decide +kernel
theorem dM_flows_27 : decode bM_flows 27 = .ok (.iconst 0, 1) := by decide +kernel
theorem dM_flows_28 : decode bM_flows 28 = .ok (.istore_n 2, 1) := by decide +kernel
theorem dM_flows_29 : decode bM_flows 29 = .ok (.iload_n 2, 1) := by decide +kernel
theorem dM_flows_30 : decode bM_flows 30 = .ok (.aload_n 0, 1) := by decide +kernel
theorem dM_flows_31 : decode bM_flows 31 = .ok (.getfield 100, 3) := by decide +kernel
theorem dM_flows_34 : decode bM_flows 34 = .ok (.if_icmp .ge 109, 3) := by decide +kernel
theorem dM_flows_37 : decode bM_flows 37 = .ok (.aload_n 0, 1) := by decide +kernel
theorem dM_flows_38 : decode bM_flows 38 = .ok (.getfield 35, 3) := by decide +kernel
theorem dM_flows_41 : decode bM_flows 41 = .ok (.iload_n 2, 1) := by decide +kernel
theorem dM_flows_42 : decode bM_flows 42 = .ok (.iaload, 1) := by decide +kernel
theorem dM_flows_43 : decode bM_flows 43 = .ok (.istore_n 3, 1) := by decide +kernel
theorem dM_flows_44 : decode bM_flows 44 = .ok (.aload_n 0, 1) := by decide +kernel
theorem dM_flows_45 : decode bM_flows 45 = .ok (.getfield 38, 3) := by decide +kernel
theorem dM_flows_48 : decode bM_flows 48 = .ok (.iload_n 2, 1) := by decide +kernel
theorem dM_flows_49 : decode bM_flows 49 = .ok (.iaload, 1) := by decide +kernel
theorem dM_flows_50 : decode bM_flows 50 = .ok (.istore 4, 2) := by decide +kernel
theorem dM_flows_52 : decode bM_flows 52 = .ok (.aload_n 0, 1) := by decide +kernel
theorem dM_flows_53 : decode bM_flows 53 = .ok (.getfield 71, 3) := by decide +kernel
theorem dM_flows_56 : decode bM_flows 56 = .ok (.iload_n 3, 1) := by decide +kernel
theorem dM_flows_57 : decode bM_flows 57 = .ok (.laload, 1) := by decide +kernel
theorem dM_flows_58 : decode bM_flows 58 = .ok (.iload 4, 2) := by decide +kernel
theorem dM_flows_60 : decode bM_flows 60 = .ok (.ifCond .ge 13, 3) := by decide +kernel
theorem dM_flows_63 : decode bM_flows 63 = .ok (.aload_n 0, 1) := by decide +kernel
theorem dM_flows_64 : decode bM_flows 64 = .ok (.getfield 56, 3) := by decide +kernel
theorem dM_flows_67 : decode bM_flows 67 = .ok (.iload_n 1, 1) := by decide +kernel
theorem dM_flows_68 : decode bM_flows 68 = .ok (.iaload, 1) := by decide +kernel
theorem dM_flows_69 : decode bM_flows 69 = .ok (.i2l, 1) := by decide +kernel
theorem dM_flows_70 : decode bM_flows 70 = .ok (.goto 10, 3) := by decide +kernel
theorem dM_flows_73 : decode bM_flows 73 = .ok (.aload_n 0, 1) := by decide +kernel
theorem dM_flows_74 : decode bM_flows 74 = .ok (.getfield 71, 3) := by decide +kernel
theorem dM_flows_77 : decode bM_flows 77 = .ok (.iload 4, 2) := by decide +kernel
theorem dM_flows_79 : decode bM_flows 79 = .ok (.laload, 1) := by decide +kernel
theorem dM_flows_80 : decode bM_flows 80 = .ok (.lsub, 1) := by decide +kernel
theorem dM_flows_81 : decode bM_flows 81 = .ok (.aload_n 0, 1) := by decide +kernel
theorem dM_flows_82 : decode bM_flows 82 = .ok (.getfield 41, 3) := by decide +kernel
theorem dM_flows_85 : decode bM_flows 85 = .ok (.iload_n 2, 1) := by decide +kernel
theorem dM_flows_86 : decode bM_flows 86 = .ok (.iaload, 1) := by decide +kernel
theorem dM_flows_87 : decode bM_flows 87 = .ok (.i2l, 1) := by decide +kernel
theorem dM_flows_88 : decode bM_flows 88 = .ok (.lmul, 1) := by decide +kernel
theorem dM_flows_89 : decode bM_flows 89 = .ok (.ldc2_w 103, 3) := by decide +kernel
theorem dM_flows_92 : decode bM_flows 92 = .ok (.ldiv, 1) := by decide +kernel
theorem dM_flows_93 : decode bM_flows 93 = .ok (.lstore 5, 2) := by decide +kernel
theorem dM_flows_95 : decode bM_flows 95 = .ok (.aload_n 0, 1) := by decide +kernel
theorem dM_flows_96 : decode bM_flows 96 = .ok (.getfield 13, 3) := by decide +kernel
theorem dM_flows_99 : decode bM_flows 99 = .ok (.iload_n 3, 1) := by decide +kernel
theorem dM_flows_100 : decode bM_flows 100 = .ok (.dup2, 1) := by decide +kernel
theorem dM_flows_101 : decode bM_flows 101 = .ok (.laload, 1) := by decide +kernel
theorem dM_flows_102 : decode bM_flows 102 = .ok (.lload 5, 2) := by decide +kernel
theorem dM_flows_104 : decode bM_flows 104 = .ok (.lsub, 1) := by decide +kernel
theorem dM_flows_105 : decode bM_flows 105 = .ok (.lastore, 1) := by decide +kernel
theorem dM_flows_106 : decode bM_flows 106 = .ok (.iload 4, 2) := by decide +kernel
theorem dM_flows_108 : decode bM_flows 108 = .ok (.ifCond .ge 17, 3) := by decide +kernel
theorem dM_flows_111 : decode bM_flows 111 = .ok (.aload_n 0, 1) := by decide +kernel
theorem dM_flows_112 : decode bM_flows 112 = .ok (.dup, 1) := by decide +kernel
theorem dM_flows_113 : decode bM_flows 113 = .ok (.getfield 130, 3) := by decide +kernel
theorem dM_flows_116 : decode bM_flows 116 = .ok (.lload 5, 2) := by decide +kernel
theorem dM_flows_118 : decode bM_flows 118 = .ok (.ladd, 1) := by decide +kernel
theorem dM_flows_119 : decode bM_flows 119 = .ok (.putfield 130, 3) := by decide +kernel
theorem dM_flows_122 : decode bM_flows 122 = .ok (.goto 15, 3) := by decide +kernel
theorem dM_flows_125 : decode bM_flows 125 = .ok (.aload_n 0, 1) := by decide +kernel
theorem dM_flows_126 : decode bM_flows 126 = .ok (.getfield 13, 3) := by decide +kernel
theorem dM_flows_129 : decode bM_flows 129 = .ok (.iload 4, 2) := by decide +kernel
theorem dM_flows_131 : decode bM_flows 131 = .ok (.dup2, 1) := by decide +kernel
theorem dM_flows_132 : decode bM_flows 132 = .ok (.laload, 1) := by decide +kernel
theorem dM_flows_133 : decode bM_flows 133 = .ok (.lload 5, 2) := by decide +kernel
theorem dM_flows_135 : decode bM_flows 135 = .ok (.ladd, 1) := by decide +kernel
theorem dM_flows_136 : decode bM_flows 136 = .ok (.lastore, 1) := by decide +kernel
theorem dM_flows_137 : decode bM_flows 137 = .ok (.iinc 2 1, 3) := by decide +kernel
theorem dM_flows_140 : decode bM_flows 140 = .ok (.goto (-111), 3) := by decide +kernel
theorem dM_flows_143 : decode bM_flows 143 = .ok (.iconst 0, 1) := by decide +kernel
theorem dM_flows_144 : decode bM_flows 144 = .ok (.istore_n 2, 1) := by decide +kernel
theorem dM_flows_145 : decode bM_flows 145 = .ok (.iload_n 2, 1) := by decide +kernel
theorem dM_flows_146 : decode bM_flows 146 = .ok (.aload_n 0, 1) := by decide +kernel
theorem dM_flows_147 : decode bM_flows 147 = .ok (.getfield 112, 3) := by decide +kernel
theorem dM_flows_150 : decode bM_flows 150 = .ok (.if_icmp .ge 96, 3) := by decide +kernel
theorem dM_flows_153 : decode bM_flows 153 = .ok (.aload_n 0, 1) := by decide +kernel
theorem dM_flows_154 : decode bM_flows 154 = .ok (.getfield 44, 3) := by decide +kernel
theorem dM_flows_157 : decode bM_flows 157 = .ok (.iload_n 2, 1) := by decide +kernel
theorem dM_flows_158 : decode bM_flows 158 = .ok (.iaload, 1) := by decide +kernel
theorem dM_flows_159 : decode bM_flows 159 = .ok (.istore_n 3, 1) := by decide +kernel
theorem dM_flows_160 : decode bM_flows 160 = .ok (.aload_n 0, 1) := by decide +kernel
theorem dM_flows_161 : decode bM_flows 161 = .ok (.getfield 50, 3) := by decide +kernel
theorem dM_flows_164 : decode bM_flows 164 = .ok (.iload_n 2, 1) := by decide +kernel
theorem dM_flows_165 : decode bM_flows 165 = .ok (.iaload, 1) := by decide +kernel
theorem dM_flows_166 : decode bM_flows 166 = .ok (.aload_n 0, 1) := by decide +kernel
theorem dM_flows_167 : decode bM_flows 167 = .ok (.getfield 59, 3) := by decide +kernel
theorem dM_flows_170 : decode bM_flows 170 = .ok (.bipush 24, 2) := by decide +kernel
theorem dM_flows_172 : decode bM_flows 172 = .ok (.aload_n 0, 1) := by decide +kernel
theorem dM_flows_173 : decode bM_flows 173 = .ok (.getfield 47, 3) := by decide +kernel
theorem dM_flows_176 : decode bM_flows 176 = .ok (.iload_n 2, 1) := by decide +kernel
theorem dM_flows_177 : decode bM_flows 177 = .ok (.iaload, 1) := by decide +kernel
theorem dM_flows_178 : decode bM_flows 178 = .ok (.imul, 1) := by decide +kernel
theorem dM_flows_179 : decode bM_flows 179 = .ok (.iload_n 1, 1) := by decide +kernel
theorem dM_flows_180 : decode bM_flows 180 = .ok (.iadd, 1) := by decide +kernel
theorem dM_flows_181 : decode bM_flows 181 = .ok (.iaload, 1) := by decide +kernel
theorem dM_flows_182 : decode bM_flows 182 = .ok (.imul, 1) := by decide +kernel
theorem dM_flows_183 : decode bM_flows 183 = .ok (.bipush 10, 2) := by decide +kernel
theorem dM_flows_185 : decode bM_flows 185 = .ok (.idiv, 1) := by decide +kernel
theorem dM_flows_186 : decode bM_flows 186 = .ok (.istore 4, 2) := by decide +kernel
theorem dM_flows_188 : decode bM_flows 188 = .ok (.aload_n 0, 1) := by decide +kernel
theorem dM_flows_189 : decode bM_flows 189 = .ok (.getfield 71, 3) := by decide +kernel
theorem dM_flows_192 : decode bM_flows 192 = .ok (.iload_n 3, 1) := by decide +kernel
theorem dM_flows_193 : decode bM_flows 193 = .ok (.laload, 1) := by decide +kernel
theorem dM_flows_194 : decode bM_flows 194 = .ok (.aload_n 0, 1) := by decide +kernel
theorem dM_flows_195 : decode bM_flows 195 = .ok (.getfield 53, 3) := by decide +kernel
theorem dM_flows_198 : decode bM_flows 198 = .ok (.iload_n 2, 1) := by decide +kernel
theorem dM_flows_199 : decode bM_flows 199 = .ok (.iaload, 1) := by decide +kernel
theorem dM_flows_200 : decode bM_flows 200 = .ok (.i2l, 1) := by decide +kernel
theorem dM_flows_201 : decode bM_flows 201 = .ok (.lcmp, 1) := by decide +kernel
theorem dM_flows_202 : decode bM_flows 202 = .ok (.ifCond .le 10, 3) := by decide +kernel
theorem dM_flows_205 : decode bM_flows 205 = .ok (.iload 4, 2) := by decide +kernel
theorem dM_flows_207 : decode bM_flows 207 = .ok (.iconst 4, 1) := by decide +kernel
theorem dM_flows_208 : decode bM_flows 208 = .ok (.idiv, 1) := by decide +kernel
theorem dM_flows_209 : decode bM_flows 209 = .ok (.goto 5, 3) := by decide +kernel
theorem dM_flows_212 : decode bM_flows 212 = .ok (.iload 4, 2) := by decide +kernel
theorem dM_flows_214 : decode bM_flows 214 = .ok (.istore 4, 2) := by decide +kernel
theorem dM_flows_216 : decode bM_flows 216 = .ok (.aload_n 0, 1) := by decide +kernel
theorem dM_flows_217 : decode bM_flows 217 = .ok (.getfield 13, 3) := by decide +kernel
theorem dM_flows_220 : decode bM_flows 220 = .ok (.iload_n 3, 1) := by decide +kernel
theorem dM_flows_221 : decode bM_flows 221 = .ok (.dup2, 1) := by decide +kernel
theorem dM_flows_222 : decode bM_flows 222 = .ok (.laload, 1) := by decide +kernel
theorem dM_flows_223 : decode bM_flows 223 = .ok (.iload 4, 2) := by decide +kernel
theorem dM_flows_225 : decode bM_flows 225 = .ok (.i2l, 1) := by decide +kernel
theorem dM_flows_226 : decode bM_flows 226 = .ok (.ladd, 1) := by decide +kernel
theorem dM_flows_227 : decode bM_flows 227 = .ok (.lastore, 1) := by decide +kernel
theorem dM_flows_228 : decode bM_flows 228 = .ok (.aload_n 0, 1) := by decide +kernel
theorem dM_flows_229 : decode bM_flows 229 = .ok (.dup, 1) := by decide +kernel
theorem dM_flows_230 : decode bM_flows 230 = .ok (.getfield 133, 3) := by decide +kernel
theorem dM_flows_233 : decode bM_flows 233 = .ok (.iload 4, 2) := by decide +kernel
theorem dM_flows_235 : decode bM_flows 235 = .ok (.i2l, 1) := by decide +kernel
theorem dM_flows_236 : decode bM_flows 236 = .ok (.ladd, 1) := by decide +kernel
theorem dM_flows_237 : decode bM_flows 237 = .ok (.putfield 133, 3) := by decide +kernel
theorem dM_flows_240 : decode bM_flows 240 = .ok (.iinc 2 1, 3) := by decide +kernel
theorem dM_flows_243 : decode bM_flows 243 = .ok (.goto (-98), 3) := by decide +kernel
theorem dM_flows_246 : decode bM_flows 246 = .ok (.iconst 0, 1) := by decide +kernel
theorem dM_flows_247 : decode bM_flows 247 = .ok (.istore_n 2, 1) := by decide +kernel
theorem dM_flows_248 : decode bM_flows 248 = .ok (.iload_n 2, 1) := by decide +kernel
theorem dM_flows_249 : decode bM_flows 249 = .ok (.aload_n 0, 1) := by decide +kernel
theorem dM_flows_250 : decode bM_flows 250 = .ok (.getfield 89, 3) := by decide +kernel
theorem dM_flows_253 : decode bM_flows 253 = .ok (.if_icmp .ge 59, 3) := by decide +kernel
theorem dM_flows_256 : decode bM_flows 256 = .ok (.aload_n 0, 1) := by decide +kernel
theorem dM_flows_257 : decode bM_flows 257 = .ok (.getfield 13, 3) := by decide +kernel
theorem dM_flows_260 : decode bM_flows 260 = .ok (.iload_n 2, 1) := by decide +kernel
theorem dM_flows_261 : decode bM_flows 261 = .ok (.dup2, 1) := by decide +kernel
theorem dM_flows_262 : decode bM_flows 262 = .ok (.laload, 1) := by decide +kernel
theorem dM_flows_263 : decode bM_flows 263 = .ok (.ldc2_w 103, 3) := by decide +kernel
theorem dM_flows_266 : decode bM_flows 266 = .ok (.aload_n 0, 1) := by decide +kernel
theorem dM_flows_267 : decode bM_flows 267 = .ok (.getfield 62, 3) := by decide +kernel
theorem dM_flows_270 : decode bM_flows 270 = .ok (.bipush 24, 2) := by decide +kernel
theorem dM_flows_272 : decode bM_flows 272 = .ok (.iload_n 2, 1) := by decide +kernel
theorem dM_flows_273 : decode bM_flows 273 = .ok (.imul, 1) := by decide +kernel
theorem dM_flows_274 : decode bM_flows 274 = .ok (.iload_n 1, 1) := by decide +kernel
theorem dM_flows_275 : decode bM_flows 275 = .ok (.iadd, 1) := by decide +kernel
theorem dM_flows_276 : decode bM_flows 276 = .ok (.iaload, 1) := by decide +kernel
theorem dM_flows_277 : decode bM_flows 277 = .ok (.i2l, 1) := by decide +kernel
theorem dM_flows_278 : decode bM_flows 278 = .ok (.lmul, 1) := by decide +kernel
theorem dM_flows_279 : decode bM_flows 279 = .ok (.ladd, 1) := by decide +kernel
theorem dM_flows_280 : decode bM_flows 280 = .ok (.lastore, 1) := by decide +kernel
theorem dM_flows_281 : decode bM_flows 281 = .ok (.aload_n 0, 1) := by decide +kernel
theorem dM_flows_282 : decode bM_flows 282 = .ok (.dup, 1) := by decide +kernel
theorem dM_flows_283 : decode bM_flows 283 = .ok (.getfield 136, 3) := by decide +kernel
theorem dM_flows_286 : decode bM_flows 286 = .ok (.ldc2_w 103, 3) := by decide +kernel
theorem dM_flows_289 : decode bM_flows 289 = .ok (.aload_n 0, 1) := by decide +kernel
theorem dM_flows_290 : decode bM_flows 290 = .ok (.getfield 62, 3) := by decide +kernel
theorem dM_flows_293 : decode bM_flows 293 = .ok (.bipush 24, 2) := by decide +kernel
theorem dM_flows_295 : decode bM_flows 295 = .ok (.iload_n 2, 1) := by decide +kernel
theorem dM_flows_296 : decode bM_flows 296 = .ok (.imul, 1) := by decide +kernel
theorem dM_flows_297 : decode bM_flows 297 = .ok (.iload_n 1, 1) := by decide +kernel
theorem dM_flows_298 : decode bM_flows 298 = .ok (.iadd, 1) := by decide +kernel
theorem dM_flows_299 : decode bM_flows 299 = .ok (.iaload, 1) := by decide +kernel
theorem dM_flows_300 : decode bM_flows 300 = .ok (.i2l, 1) := by decide +kernel
theorem dM_flows_301 : decode bM_flows 301 = .ok (.lmul, 1) := by decide +kernel
theorem dM_flows_302 : decode bM_flows 302 = .ok (.ladd, 1) := by decide +kernel
theorem dM_flows_303 : decode bM_flows 303 = .ok (.putfield 136, 3) := by decide +kernel
theorem dM_flows_306 : decode bM_flows 306 = .ok (.iinc 2 1, 3) := by decide +kernel
theorem dM_flows_309 : decode bM_flows 309 = .ok (.goto (-61), 3) := by decide +kernel
theorem dM_flows_312 : decode bM_flows 312 = .ok (.return_, 1) := by decide +kernel
theorem dM_step_0 : decode bM_step 0 = .ok (.aload_n 0, 1) := by decide +kernel
theorem dM_step_1 : decode bM_step 1 = .ok (.getfield 139, 3) := by decide +kernel
theorem dM_step_4 : decode bM_step 4 = .ok (.iconst 4, 1) := by decide +kernel
theorem dM_step_5 : decode bM_step 5 = .ok (.idiv, 1) := by decide +kernel
theorem dM_step_6 : decode bM_step 6 = .ok (.bipush 24, 2) := by decide +kernel
theorem dM_step_8 : decode bM_step 8 = .ok (.irem, 1) := by decide +kernel
theorem dM_step_9 : decode bM_step 9 = .ok (.istore_n 1, 1) := by decide +kernel
theorem dM_step_10 : decode bM_step 10 = .ok (.aload_n 0, 1) := by decide +kernel
theorem dM_step_11 : decode bM_step 11 = .ok (.iload_n 1, 1) := by decide +kernel
theorem dM_step_12 : decode bM_step 12 = .ok (.invokevirtual 142, 3) := by decide +kernel
theorem dM_step_15 : decode bM_step 15 = .ok (.iconst 0, 1) := by decide +kernel
theorem dM_step_16 : decode bM_step 16 = .ok (.istore_n 2, 1) := by decide +kernel
theorem dM_step_17 : decode bM_step 17 = .ok (.iload_n 2, 1) := by decide +kernel
theorem dM_step_18 : decode bM_step 18 = .ok (.aload_n 0, 1) := by decide +kernel
theorem dM_step_19 : decode bM_step 19 = .ok (.getfield 89, 3) := by decide +kernel
theorem dM_step_22 : decode bM_step 22 = .ok (.if_icmp .ge 269, 3) := by decide +kernel
theorem dM_step_25 : decode bM_step 25 = .ok (.iload_n 2, 1) := by decide +kernel
theorem dM_step_26 : decode bM_step 26 = .ok (.aload_n 0, 1) := by decide +kernel
theorem dM_step_27 : decode bM_step 27 = .ok (.getfield 74, 3) := by decide +kernel
theorem dM_step_30 : decode bM_step 30 = .ok (.if_icmp .ne 21, 3) := by decide +kernel
theorem dM_step_33 : decode bM_step 33 = .ok (.aload_n 0, 1) := by decide +kernel
theorem dM_step_34 : decode bM_step 34 = .ok (.getfield 139, 3) := by decide +kernel
theorem dM_step_37 : decode bM_step 37 = .ok (.aload_n 0, 1) := by decide +kernel
theorem dM_step_38 : decode bM_step 38 = .ok (.getfield 146, 3) := by decide +kernel
theorem dM_step_41 : decode bM_step 41 = .ok (.if_icmp .lt 10, 3) := by decide +kernel
theorem dM_step_44 : decode bM_step 44 = .ok (.aload_n 0, 1) := by decide +kernel
theorem dM_step_45 : decode bM_step 45 = .ok (.getfield 149, 3) := by decide +kernel
theorem dM_step_48 : decode bM_step 48 = .ok (.goto 14, 3) := by decide +kernel
theorem dM_step_51 : decode bM_step 51 = .ok (.aload_n 0, 1) := by decide +kernel
theorem dM_step_52 : decode bM_step 52 = .ok (.getfield 65, 3) := by decide +kernel
theorem dM_step_55 : decode bM_step 55 = .ok (.bipush 24, 2) := by decide +kernel
theorem dM_step_57 : decode bM_step 57 = .ok (.iload_n 2, 1) := by decide +kernel
theorem dM_step_58 : decode bM_step 58 = .ok (.imul, 1) := by decide +kernel
theorem dM_step_59 : decode bM_step 59 = .ok (.iload_n 1, 1) := by decide +kernel
theorem dM_step_60 : decode bM_step 60 = .ok (.iadd, 1) := by decide +kernel
theorem dM_step_61 : decode bM_step 61 = .ok (.iaload, 1) := by decide +kernel
theorem dM_step_62 : decode bM_step 62 = .ok (.istore_n 3, 1) := by decide +kernel
theorem dM_step_63 : decode bM_step 63 = .ok (.iload_n 3, 1) := by decide +kernel
theorem dM_step_64 : decode bM_step 64 = .ok (.ldc 81, 2) := by decide +kernel
theorem dM_step_66 : decode bM_step 66 = .ok (.if_icmp .ne 7, 3) := by decide +kernel
theorem dM_step_69 : decode bM_step 69 = .ok (.lconst 0, 1) := by decide +kernel
theorem dM_step_70 : decode bM_step 70 = .ok (.goto 20, 3) := by decide +kernel
theorem dM_step_73 : decode bM_step 73 = .ok (.aload_n 0, 1) := by decide +kernel
theorem dM_step_74 : decode bM_step 74 = .ok (.getfield 7, 3) := by decide +kernel
theorem dM_step_77 : decode bM_step 77 = .ok (.iload_n 2, 1) := by decide +kernel
theorem dM_step_78 : decode bM_step 78 = .ok (.iaload, 1) := by decide +kernel
theorem dM_step_79 : decode bM_step 79 = .ok (.i2l, 1) := by decide +kernel
theorem dM_step_80 : decode bM_step 80 = .ok (.iload_n 3, 1) := by decide +kernel
theorem dM_step_81 : decode bM_step 81 = .ok (.i2l, 1) := by decide +kernel
theorem dM_step_82 : decode bM_step 82 = .ok (.lmul, 1) := by decide +kernel
theorem dM_step_83 : decode bM_step 83 = .ok (.aload_n 0, 1) := by decide +kernel
theorem dM_step_84 : decode bM_step 84 = .ok (.getfield 13, 3) := by decide +kernel
theorem dM_step_87 : decode bM_step 87 = .ok (.iload_n 2, 1) := by decide +kernel
theorem dM_step_88 : decode bM_step 88 = .ok (.laload, 1) := by decide +kernel
theorem dM_step_89 : decode bM_step 89 = .ok (.lsub, 1) := by decide +kernel
theorem dM_step_90 : decode bM_step 90 = .ok (.lstore 4, 2) := by decide +kernel
theorem dM_step_92 : decode bM_step 92 = .ok (.lload 4, 2) := by decide +kernel
theorem dM_step_94 : decode bM_step 94 = .ok (.lconst 0, 1) := by decide +kernel
theorem dM_step_95 : decode bM_step 95 = .ok (.lcmp, 1) := by decide +kernel
theorem dM_step_96 : decode bM_step 96 = .ok (.ifCond .ge 7, 3) := by decide +kernel
theorem dM_step_99 : decode bM_step 99 = .ok (.lconst 0, 1) := by decide +kernel
theorem dM_step_100 : decode bM_step 100 = .ok (.goto 28, 3) := by decide +kernel
theorem dM_step_103 : decode bM_step 103 = .ok (.lload 4, 2) := by decide +kernel
theorem dM_step_105 : decode bM_step 105 = .ok (.aload_n 0, 1) := by decide +kernel
theorem dM_step_106 : decode bM_step 106 = .ok (.getfield 29, 3) := by decide +kernel
theorem dM_step_109 : decode bM_step 109 = .ok (.iload_n 2, 1) := by decide +kernel
theorem dM_step_110 : decode bM_step 110 = .ok (.iaload, 1) := by decide +kernel
theorem dM_step_111 : decode bM_step 111 = .ok (.i2l, 1) := by decide +kernel
theorem dM_step_112 : decode bM_step 112 = .ok (.lcmp, 1) := by decide +kernel
theorem dM_step_113 : decode bM_step 113 = .ok (.ifCond .le 13, 3) := by decide +kernel
theorem dM_step_116 : decode bM_step 116 = .ok (.aload_n 0, 1) := by decide +kernel
theorem dM_step_117 : decode bM_step 117 = .ok (.getfield 29, 3) := by decide +kernel
theorem dM_step_120 : decode bM_step 120 = .ok (.iload_n 2, 1) := by decide +kernel
theorem dM_step_121 : decode bM_step 121 = .ok (.iaload, 1) := by decide +kernel
theorem dM_step_122 : decode bM_step 122 = .ok (.i2l, 1) := by decide +kernel
theorem dM_step_123 : decode bM_step 123 = .ok (.goto 5, 3) := by decide +kernel
theorem dM_step_126 : decode bM_step 126 = .ok (.lload 4, 2) := by decide +kernel
theorem dM_step_128 : decode bM_step 128 = .ok (.lstore 6, 2) := by decide +kernel
theorem dM_step_130 : decode bM_step 130 = .ok (.aload_n 0, 1) := by decide +kernel
theorem dM_step_131 : decode bM_step 131 = .ok (.getfield 13, 3) := by decide +kernel
theorem dM_step_134 : decode bM_step 134 = .ok (.iload_n 2, 1) := by decide +kernel
theorem dM_step_135 : decode bM_step 135 = .ok (.dup2, 1) := by decide +kernel
theorem dM_step_136 : decode bM_step 136 = .ok (.laload, 1) := by decide +kernel
theorem dM_step_137 : decode bM_step 137 = .ok (.lload 6, 2) := by decide +kernel
theorem dM_step_139 : decode bM_step 139 = .ok (.ladd, 1) := by decide +kernel
theorem dM_step_140 : decode bM_step 140 = .ok (.lastore, 1) := by decide +kernel
theorem dM_step_141 : decode bM_step 141 = .ok (.aload_n 0, 1) := by decide +kernel
theorem dM_step_142 : decode bM_step 142 = .ok (.getfield 20, 3) := by decide +kernel
theorem dM_step_145 : decode bM_step 145 = .ok (.iload_n 2, 1) := by decide +kernel
theorem dM_step_146 : decode bM_step 146 = .ok (.dup2, 1) := by decide +kernel
theorem dM_step_147 : decode bM_step 147 = .ok (.laload, 1) := by decide +kernel
theorem dM_step_148 : decode bM_step 148 = .ok (.lload 6, 2) := by decide +kernel
theorem dM_step_150 : decode bM_step 150 = .ok (.ladd, 1) := by decide +kernel
theorem dM_step_151 : decode bM_step 151 = .ok (.lastore, 1) := by decide +kernel
theorem dM_step_152 : decode bM_step 152 = .ok (.aload_n 0, 1) := by decide +kernel
theorem dM_step_153 : decode bM_step 153 = .ok (.getfield 26, 3) := by decide +kernel
theorem dM_step_156 : decode bM_step 156 = .ok (.iload_n 2, 1) := by decide +kernel
theorem dM_step_157 : decode bM_step 157 = .ok (.lload 6, 2) := by decide +kernel
theorem dM_step_159 : decode bM_step 159 = .ok (.aload_n 0, 1) := by decide +kernel
theorem dM_step_160 : decode bM_step 160 = .ok (.getfield 26, 3) := by decide +kernel
theorem dM_step_163 : decode bM_step 163 = .ok (.iload_n 2, 1) := by decide +kernel
theorem dM_step_164 : decode bM_step 164 = .ok (.laload, 1) := by decide +kernel
theorem dM_step_165 : decode bM_step 165 = .ok (.lcmp, 1) := by decide +kernel
theorem dM_step_166 : decode bM_step 166 = .ok (.ifCond .le 8, 3) := by decide +kernel
theorem dM_step_169 : decode bM_step 169 = .ok (.lload 6, 2) := by decide +kernel
theorem dM_step_171 : decode bM_step 171 = .ok (.goto 9, 3) := by decide +kernel
theorem dM_step_174 : decode bM_step 174 = .ok (.aload_n 0, 1) := by decide +kernel
theorem dM_step_175 : decode bM_step 175 = .ok (.getfield 26, 3) := by decide +kernel
theorem dM_step_178 : decode bM_step 178 = .ok (.iload_n 2, 1) := by decide +kernel
theorem dM_step_179 : decode bM_step 179 = .ok (.laload, 1) := by decide +kernel
theorem dM_step_180 : decode bM_step 180 = .ok (.lastore, 1) := by decide +kernel
theorem dM_step_181 : decode bM_step 181 = .ok (.aload_n 0, 1) := by decide +kernel
theorem dM_step_182 : decode bM_step 182 = .ok (.getfield 68, 3) := by decide +kernel
theorem dM_step_185 : decode bM_step 185 = .ok (.bipush 24, 2) := by decide +kernel
theorem dM_step_187 : decode bM_step 187 = .ok (.iload_n 2, 1) := by decide +kernel
theorem dM_step_188 : decode bM_step 188 = .ok (.imul, 1) := by decide +kernel
theorem dM_step_189 : decode bM_step 189 = .ok (.iload_n 1, 1) := by decide +kernel
theorem dM_step_190 : decode bM_step 190 = .ok (.iadd, 1) := by decide +kernel
theorem dM_step_191 : decode bM_step 191 = .ok (.iaload, 1) := by decide +kernel
theorem dM_step_192 : decode bM_step 192 = .ok (.istore 8, 2) := by decide +kernel
theorem dM_step_194 : decode bM_step 194 = .ok (.iload 8, 2) := by decide +kernel
theorem dM_step_196 : decode bM_step 196 = .ok (.ldc 81, 2) := by decide +kernel
theorem dM_step_198 : decode bM_step 198 = .ok (.if_icmp .ne 7, 3) := by decide +kernel
theorem dM_step_201 : decode bM_step 201 = .ok (.lconst 0, 1) := by decide +kernel
theorem dM_step_202 : decode bM_step 202 = .ok (.goto 21, 3) := by decide +kernel
theorem dM_step_205 : decode bM_step 205 = .ok (.aload_n 0, 1) := by decide +kernel
theorem dM_step_206 : decode bM_step 206 = .ok (.getfield 13, 3) := by decide +kernel
theorem dM_step_209 : decode bM_step 209 = .ok (.iload_n 2, 1) := by decide +kernel
theorem dM_step_210 : decode bM_step 210 = .ok (.laload, 1) := by decide +kernel
theorem dM_step_211 : decode bM_step 211 = .ok (.aload_n 0, 1) := by decide +kernel
theorem dM_step_212 : decode bM_step 212 = .ok (.getfield 7, 3) := by decide +kernel
theorem dM_step_215 : decode bM_step 215 = .ok (.iload_n 2, 1) := by decide +kernel
theorem dM_step_216 : decode bM_step 216 = .ok (.iaload, 1) := by decide +kernel
theorem dM_step_217 : decode bM_step 217 = .ok (.i2l, 1) := by decide +kernel
theorem dM_step_218 : decode bM_step 218 = .ok (.iload 8, 2) := by decide +kernel
theorem dM_step_220 : decode bM_step 220 = .ok (.i2l, 1) := by decide +kernel
theorem dM_step_221 : decode bM_step 221 = .ok (.lmul, 1) := by decide +kernel
