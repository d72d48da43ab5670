theorem dC_coolDown_29 : decode bC_coolDown 29 = .ok (.iaload, 1) := by decide +kernel
theorem dC_coolDown_30 : decode bC_coolDown 30 = .ok (.i2l, 1) := by decide +kernel
theorem dC_coolDown_31 : decode bC_coolDown 31 = .ok (.iload_n 3, 1) := by decide +kernel
theorem dC_coolDown_32 : decode bC_coolDown 32 = .ok (.i2l, 1) := by decide +kernel
theorem dC_coolDown_33 : decode bC_coolDown 33 = .ok (.lmul, 1) := by decide +kernel
theorem dC_coolDown_34 : decode bC_coolDown 34 = .ok (.lsub, 1) := by decide +kernel
theorem dC_coolDown_35 : decode bC_coolDown 35 = .ok (.lstore 4, 2) := by decide +kernel
theorem dC_coolDown_37 : decode bC_coolDown 37 = .ok (.lload 4, 2) := by decide +kernel
theorem dC_coolDown_39 : decode bC_coolDown 39 = .ok (.lconst 0, 1) := by decide +kernel
theorem dC_coolDown_40 : decode bC_coolDown 40 = .ok (.lcmp, 1) := by decide +kernel
theorem dC_coolDown_41 : decode bC_coolDown 41 = .ok (.ifCond .gt 4, 3) := by decide +kernel
theorem dC_coolDown_44 : decode bC_coolDown 44 = .ok (.return_, 1) := by decide +kernel
theorem dC_coolDown_45 : decode bC_coolDown 45 = .ok (.lload 4, 2) := by decide +kernel
theorem dC_coolDown_47 : decode bC_coolDown 47 = .ok (.aload_n 0, 1) := by decide +kernel
theorem dC_coolDown_48 : decode bC_coolDown 48 = .ok (.getfield 38, 3) := by decide +kernel
theorem dC_coolDown_51 : decode bC_coolDown 51 = .ok (.getfield 194, 3) := by decide +kernel
theorem dC_coolDown_54 : decode bC_coolDown 54 = .ok (.iconst 1, 1) := by decide +kernel
theorem dC_coolDown_55 : decode bC_coolDown 55 = .ok (.aaload, 1) := by decide +kernel
theorem dC_coolDown_56 : decode bC_coolDown 56 = .ok (.iload_n 1, 1) := by decide +kernel
theorem dC_coolDown_57 : decode bC_coolDown 57 = .ok (.iaload, 1) := by decide +kernel
theorem dC_coolDown_58 : decode bC_coolDown 58 = .ok (.i2l, 1) := by decide +kernel
theorem dC_coolDown_59 : decode bC_coolDown 59 = .ok (.invokestatic 188, 3) := by decide +kernel
theorem dC_coolDown_62 : decode bC_coolDown 62 = .ok (.lstore 6, 2) := by decide +kernel
theorem dC_coolDown_64 : decode bC_coolDown 64 = .ok (.aload_n 0, 1) := by decide +kernel
theorem dC_coolDown_65 : decode bC_coolDown 65 = .ok (.getfield 9, 3) := by decide +kernel
theorem dC_coolDown_68 : decode bC_coolDown 68 = .ok (.iload_n 1, 1) := by decide +kernel
theorem dC_coolDown_69 : decode bC_coolDown 69 = .ok (.dup2, 1) := by decide +kernel
theorem dC_coolDown_70 : decode bC_coolDown 70 = .ok (.laload, 1) := by decide +kernel
theorem dC_coolDown_71 : decode bC_coolDown 71 = .ok (.lload 6, 2) := by decide +kernel
theorem dC_coolDown_73 : decode bC_coolDown 73 = .ok (.lsub, 1) := by decide +kernel
theorem dC_coolDown_74 : decode bC_coolDown 74 = .ok (.lastore, 1) := by decide +kernel
theorem dC_coolDown_75 : decode bC_coolDown 75 = .ok (.aload_n 0, 1) := by decide +kernel
theorem dC_coolDown_76 : decode bC_coolDown 76 = .ok (.getfield 21, 3) := by decide +kernel
theorem dC_coolDown_79 : decode bC_coolDown 79 = .ok (.iload_n 1, 1) := by decide +kernel
theorem dC_coolDown_80 : decode bC_coolDown 80 = .ok (.dup2, 1) := by decide +kernel
theorem dC_coolDown_81 : decode bC_coolDown 81 = .ok (.laload, 1) := by decide +kernel
theorem dC_coolDown_82 : decode bC_coolDown 82 = .ok (.lload 6, 2) := by decide +kernel
theorem dC_coolDown_84 : decode bC_coolDown 84 = .ok (.ladd, 1) := by decide +kernel
theorem dC_coolDown_85 : decode bC_coolDown 85 = .ok (.lastore, 1) := by decide +kernel
theorem dC_coolDown_86 : decode bC_coolDown 86 = .ok (.return_, 1) := by decide +kernel
theorem dC_countUneasy_0 : decode bC_countUneasy 0 = .ok (.iconst 0, 1) := by decide +kernel
theorem dC_countUneasy_1 : decode bC_countUneasy 1 = .ok (.istore_n 2, 1) := by decide +kernel
theorem dC_countUneasy_2 : decode bC_countUneasy 2 = .ok (.iload_n 2, 1) := by decide +kernel
theorem dC_countUneasy_3 : decode bC_countUneasy 3 = .ok (.aload_n 0, 1) := by decide +kernel
theorem dC_countUneasy_4 : decode bC_countUneasy 4 = .ok (.getfield 38, 3) := by decide +kernel
theorem dC_countUneasy_7 : decode bC_countUneasy 7 = .ok (.getfield 79, 3) := by decide +kernel
theorem dC_countUneasy_10 : decode bC_countUneasy 10 = .ok (.if_icmp .ge 60, 3) := by decide +kernel
theorem dC_countUneasy_13 : decode bC_countUneasy 13 = .ok (.aload_n 0, 1) := by decide +kernel
theorem dC_countUneasy_14 : decode bC_countUneasy 14 = .ok (.iload_n 2, 1) := by decide +kernel
theorem dC_countUneasy_15 : decode bC_countUneasy 15 = .ok (.invokevirtual 101, 3) := by decide +kernel
theorem dC_countUneasy_18 : decode bC_countUneasy 18 = .ok (.lstore_n 3, 1) := by decide +kernel
theorem dC_countUneasy_19 : decode bC_countUneasy 19 = .ok (.aload_n 0, 1) := by decide +kernel
theorem dC_countUneasy_20 : decode bC_countUneasy 20 = .ok (.iload_n 2, 1) := by decide +kernel
theorem dC_countUneasy_21 : decode bC_countUneasy 21 = .ok (.iload_n 1, 1) := by decide +kernel
theorem dC_countUneasy_22 : decode bC_countUneasy 22 = .ok (.invokevirtual 97, 3) := by decide +kernel
theorem dC_countUneasy_25 : decode bC_countUneasy 25 = .ok (.ifCond .eq 39, 3) := by decide +kernel
theorem dC_countUneasy_28 : decode bC_countUneasy 28 = .ok (.lload_n 3, 1) := by decide +kernel
theorem dC_countUneasy_29 : decode bC_countUneasy 29 = .ok (.aload_n 0, 1) := by decide +kernel
theorem dC_countUneasy_30 : decode bC_countUneasy 30 = .ok (.getfield 38, 3) := by decide +kernel
theorem dC_countUneasy_33 : decode bC_countUneasy 33 = .ok (.getfield 105, 3) := by decide +kernel
theorem dC_countUneasy_36 : decode bC_countUneasy 36 = .ok (.i2l, 1) := by decide +kernel
theorem dC_countUneasy_37 : decode bC_countUneasy 37 = .ok (.lcmp, 1) := by decide +kernel
theorem dC_countUneasy_38 : decode bC_countUneasy 38 = .ok (.ifCond .lt 16, 3) := by decide +kernel
theorem dC_countUneasy_41 : decode bC_countUneasy 41 = .ok (.lload_n 3, 1) := by decide +kernel
theorem dC_countUneasy_42 : decode bC_countUneasy 42 = .ok (.aload_n 0, 1) := by decide +kernel
theorem dC_countUneasy_43 : decode bC_countUneasy 43 = .ok (.getfield 38, 3) := by decide +kernel
theorem dC_countUneasy_46 : decode bC_countUneasy 46 = .ok (.getfield 197, 3) := by decide +kernel
theorem dC_countUneasy_49 : decode bC_countUneasy 49 = .ok (.i2l, 1) := by decide +kernel
theorem dC_countUneasy_50 : decode bC_countUneasy 50 = .ok (.lcmp, 1) := by decide +kernel
theorem dC_countUneasy_51 : decode bC_countUneasy 51 = .ok (.ifCond .le 13, 3) := by decide +kernel
theorem dC_countUneasy_54 : decode bC_countUneasy 54 = .ok (.aload_n 0, 1) := by decide +kernel
theorem dC_countUneasy_55 : decode bC_countUneasy 55 = .ok (.getfield 27, 3) := by decide +kernel
theorem dC_countUneasy_58 : decode bC_countUneasy 58 = .ok (.iload_n 2, 1) := by decide +kernel
theorem dC_countUneasy_59 : decode bC_countUneasy 59 = .ok (.dup2, 1) := by decide +kernel
theorem dC_countUneasy_60 : decode bC_countUneasy 60 = .ok (.iaload, 1) := by decide +kernel
theorem dC_countUneasy_61 : decode bC_countUneasy 61 = .ok (.iconst 1, 1) := by decide +kernel
theorem dC_countUneasy_62 : decode bC_countUneasy 62 = .ok (.iadd, 1) := by decide +kernel
theorem dC_countUneasy_63 : decode bC_countUneasy 63 = .ok (.iastore, 1) := by decide +kernel
theorem dC_countUneasy_64 : decode bC_countUneasy 64 = .ok (.iinc 2 1, 3) := by decide +kernel
theorem dC_countUneasy_67 : decode bC_countUneasy 67 = .ok (.goto (-65), 3) := by decide +kernel
theorem dC_countUneasy_70 : decode bC_countUneasy 70 = .ok (.return_, 1) := by decide +kernel
theorem dH_init_0 : decode bH_init 0 = .ok (.aload_n 0, 1) := by decide +kernel
theorem dH_init_1 : decode bH_init 1 = .ok (.invokespecial 3, 3) := by decide +kernel
theorem dH_init_4 : decode bH_init 4 = .ok (.aload_n 0, 1) := by decide +kernel
theorem dH_init_5 : decode bH_init 5 = .ok (.bipush 8, 2) := by decide +kernel
theorem dH_init_7 : decode bH_init 7 = .ok (.newarray .int, 2) := by decide +kernel
theorem dH_init_9 : decode bH_init 9 = .ok (.putfield 9, 3) := by decide +kernel
theorem dH_init_12 : decode bH_init 12 = .ok (.aload_n 0, 1) := by decide +kernel
theorem dH_init_13 : decode bH_init 13 = .ok (.bipush 8, 2) := by decide +kernel
theorem dH_init_15 : decode bH_init 15 = .ok (.newarray .int, 2) := by decide +kernel
theorem dH_init_17 : decode bH_init 17 = .ok (.putfield 15, 3) := by decide +kernel
theorem dH_init_20 : decode bH_init 20 = .ok (.aload_n 0, 1) := by decide +kernel
theorem dH_init_21 : decode bH_init 21 = .ok (.iconst 2, 1) := by decide +kernel
theorem dH_init_22 : decode bH_init 22 = .ok (.bipush 8, 2) := by decide +kernel
theorem dH_init_24 : decode bH_init 24 = .ok (.multianewarray 18 2, 4) := by decide +kernel
theorem dH_init_28 : decode bH_init 28 = .ok (.putfield 20, 3) := by decide +kernel
theorem dH_init_31 : decode bH_init 31 = .ok (.aload_n 0, 1) := by decide +kernel
theorem dH_init_32 : decode bH_init 32 = .ok (.iconst 3, 1) := by decide +kernel
theorem dH_init_33 : decode bH_init 33 = .ok (.sipush 192, 3) := by decide +kernel
theorem dH_init_36 : decode bH_init 36 = .ok (.multianewarray 18 2, 4) := by decide +kernel
theorem dH_init_40 : decode bH_init 40 = .ok (.putfield 23, 3) := by decide +kernel
theorem dH_init_43 : decode bH_init 43 = .ok (.aload_n 0, 1) := by decide +kernel
theorem dH_init_44 : decode bH_init 44 = .ok (.bipush 20, 2) := by decide +kernel
theorem dH_init_46 : decode bH_init 46 = .ok (.newarray .int, 2) := by decide +kernel
theorem dH_init_48 : decode bH_init 48 = .ok (.putfield 26, 3) := by decide +kernel
theorem dH_init_51 : decode bH_init 51 = .ok (.aload_n 0, 1) := by decide +kernel
theorem dH_init_52 : decode bH_init 52 = .ok (.bipush 20, 2) := by decide +kernel
theorem dH_init_54 : decode bH_init 54 = .ok (.newarray .int, 2) := by decide +kernel
theorem dH_init_56 : decode bH_init 56 = .ok (.putfield 29, 3) := by decide +kernel
theorem dH_init_59 : decode bH_init 59 = .ok (.aload_n 0, 1) := by decide +kernel
theorem dH_init_60 : decode bH_init 60 = .ok (.bipush 20, 2) := by decide +kernel
theorem dH_init_62 : decode bH_init 62 = .ok (.newarray .int, 2) := by decide +kernel
theorem dH_init_64 : decode bH_init 64 = .ok (.putfield 32, 3) := by decide +kernel
theorem dH_init_67 : decode bH_init 67 = .ok (.aload_n 0, 1) := by decide +kernel
theorem dH_init_68 : decode bH_init 68 = .ok (.bipush 12, 2) := by decide +kernel
theorem dH_init_70 : decode bH_init 70 = .ok (.newarray .int, 2) := by decide +kernel
theorem dH_init_72 : decode bH_init 72 = .ok (.putfield 35, 3) := by decide +kernel
theorem dH_init_75 : decode bH_init 75 = .ok (.aload_n 0, 1) := by decide +kernel
theorem dH_init_76 : decode bH_init 76 = .ok (.bipush 12, 2) := by decide +kernel
theorem dH_init_78 : decode bH_init 78 = .ok (.newarray .int, 2) := by decide +kernel
theorem dH_init_80 : decode bH_init 80 = .ok (.putfield 38, 3) := by decide +kernel
theorem dH_init_83 : decode bH_init 83 = .ok (.aload_n 0, 1) := by decide +kernel
theorem dH_init_84 : decode bH_init 84 = .ok (.bipush 12, 2) := by decide +kernel
theorem dH_init_86 : decode bH_init 86 = .ok (.newarray .int, 2) := by decide +kernel
theorem dH_init_88 : decode bH_init 88 = .ok (.putfield 41, 3) := by decide +kernel
theorem dH_init_91 : decode bH_init 91 = .ok (.aload_n 0, 1) := by decide +kernel
theorem dH_init_92 : decode bH_init 92 = .ok (.bipush 12, 2) := by decide +kernel
theorem dH_init_94 : decode bH_init 94 = .ok (.newarray .int, 2) := by decide +kernel
theorem dH_init_96 : decode bH_init 96 = .ok (.putfield 44, 3) := by decide +kernel
theorem dH_init_99 : decode bH_init 99 = .ok (.aload_n 0, 1) := by decide +kernel
theorem dH_init_100 : decode bH_init 100 = .ok (.bipush 24, 2) := by decide +kernel
theorem dH_init_102 : decode bH_init 102 = .ok (.newarray .int, 2) := by decide +kernel
theorem dH_init_104 : decode bH_init 104 = .ok (.putfield 47, 3) := by decide +kernel
theorem dH_init_107 : decode bH_init 107 = .ok (.aload_n 0, 1) := by decide +kernel
theorem dH_init_108 : decode bH_init 108 = .ok (.iconst 4, 1) := by decide +kernel
theorem dH_init_109 : decode bH_init 109 = .ok (.bipush 24, 2) := by decide +kernel
theorem dH_init_111 : decode bH_init 111 = .ok (.multianewarray 18 2, 4) := by decide +kernel
theorem dH_init_115 : decode bH_init 115 = .ok (.putfield 50, 3) := by decide +kernel
theorem dH_init_118 : decode bH_init 118 = .ok (.aload_n 0, 1) := by decide +kernel
theorem dH_init_119 : decode bH_init 119 = .ok (.getfield 23, 3) := by decide +kernel
theorem dH_init_122 : decode bH_init 122 = .ok (.iconst 1, 1) := by decide +kernel
theorem dH_init_123 : decode bH_init 123 = .ok (.aaload, 1) := by decide +kernel
theorem dH_init_124 : decode bH_init 124 = .ok (.ldc 53, 2) := by decide +kernel
theorem dH_init_126 : decode bH_init 126 = .ok (.invokestatic 54, 3) := by decide +kernel
theorem dH_init_129 : decode bH_init 129 = .ok (.aload_n 0, 1) := by decide +kernel
theorem dH_init_130 : decode bH_init 130 = .ok (.getfield 23, 3) := by decide +kernel
theorem dH_init_133 : decode bH_init 133 = .ok (.iconst 2, 1) := by decide +kernel
theorem dH_init_134 : decode bH_init 134 = .ok (.aaload, 1) := by decide +kernel
theorem dH_init_135 : decode bH_init 135 = .ok (.ldc 53, 2) := by decide +kernel
theorem dH_init_137 : decode bH_init 137 = .ok (.invokestatic 54, 3) := by decide +kernel
theorem dH_init_140 : decode bH_init 140 = .ok (.return_, 1) := by decide +kernel
theorem dH_hasRoom_0 : decode bH_hasRoom 0 = .ok (.iload_n 1, 1) := by decide +kernel
theorem dH_hasRoom_1 : decode bH_hasRoom 1 = .ok (.ifCond .lt 15, 3) := by decide +kernel
theorem dH_hasRoom_4 : decode bH_hasRoom 4 = .ok (.iload_n 1, 1) := by decide +kernel
theorem dH_hasRoom_5 : decode bH_hasRoom 5 = .ok (.aload_n 0, 1) := by decide +kernel
theorem dH_hasRoom_6 : decode bH_hasRoom 6 = .ok (.getfield 60, 3) := by decide +kernel
theorem dH_hasRoom_9 : decode bH_hasRoom 9 = .ok (.if_icmp .ge 7, 3) := by decide +kernel
theorem dH_hasRoom_12 : decode bH_hasRoom 12 = .ok (.iconst 1, 1) := by decide +kernel
theorem dH_hasRoom_13 : decode bH_hasRoom 13 = .ok (.goto 4, 3) := by decide +kernel
theorem dH_hasRoom_16 : decode bH_hasRoom 16 = .ok (.iconst 0, 1) := by decide +kernel
theorem dH_hasRoom_17 : decode bH_hasRoom 17 = .ok (.ireturn, 1) := by decide +kernel
theorem dH_bears_0 : decode bH_bears 0 = .ok (.aload_n 0, 1) := by decide +kernel
theorem dH_bears_1 : decode bH_bears 1 = .ok (.iload_n 1, 1) := by decide +kernel
theorem dH_bears_2 : decode bH_bears 2 = .ok (.invokevirtual 64, 3) := by decide +kernel
theorem dH_bears_5 : decode bH_bears 5 = .ok (.ifCond .eq 23, 3) := by decide +kernel
theorem dH_bears_8 : decode bH_bears 8 = .ok (.aload_n 0, 1) := by decide +kernel
theorem dH_bears_9 : decode bH_bears 9 = .ok (.getfield 15, 3) := by decide +kernel
theorem dH_bears_12 : decode bH_bears 12 = .ok (.iload_n 1, 1) := by decide +kernel
theorem dH_bears_13 : decode bH_bears 13 = .ok (.iaload, 1) := by decide +kernel
theorem dH_bears_14 : decode bH_bears 14 = .ok (.iload_n 2, 1) := by decide +kernel
theorem dH_bears_15 : decode bH_bears 15 = .ok (.iadd, 1) := by decide +kernel
theorem dH_bears_16 : decode bH_bears 16 = .ok (.bipush 100, 2) := by decide +kernel
theorem dH_bears_18 : decode bH_bears 18 = .ok (.aload_n 0, 1) := by decide +kernel
theorem dH_bears_19 : decode bH_bears 19 = .ok (.getfield 9, 3) := by decide +kernel
theorem dH_bears_22 : decode bH_bears 22 = .ok (.iload_n 1, 1) := by decide +kernel
theorem dH_bears_23 : decode bH_bears 23 = .ok (.iaload, 1) := by decide +kernel
theorem dH_bears_24 : decode bH_bears 24 = .ok (.imul, 1) := by decide +kernel
theorem dH_bears_25 : decode bH_bears 25 = .ok (.if_icmp .gt 7, 3) := by decide +kernel
theorem dH_bears_28 : decode bH_bears 28 = .ok (.iconst 1, 1) := by decide +kernel
theorem dH_bears_29 : decode bH_bears 29 = .ok (.goto 4, 3) := by decide +kernel
theorem dH_bears_32 : decode bH_bears 32 = .ok (.iconst 0, 1) := by decide +kernel
theorem dH_bears_33 : decode bH_bears 33 = .ok (.ireturn, 1) := by decide +kernel
theorem dH_addRoom_0 : decode bH_addRoom 0 = .ok (.aload_n 0, 1) := by decide +kernel
theorem dH_addRoom_1 : decode bH_addRoom 1 = .ok (.getfield 60, 3) := by decide +kernel
theorem dH_addRoom_4 : decode bH_addRoom 4 = .ok (.istore_n 2, 1) := by decide +kernel
theorem dH_addRoom_5 : decode bH_addRoom 5 = .ok (.aload_n 0, 1) := by decide +kernel
theorem dH_addRoom_6 : decode bH_addRoom 6 = .ok (.getfield 9, 3) := by decide +kernel
theorem dH_addRoom_9 : decode bH_addRoom 9 = .ok (.iload_n 2, 1) := by decide +kernel
theorem dH_addRoom_10 : decode bH_addRoom 10 = .ok (.iload_n 1, 1) := by decide +kernel
theorem dH_addRoom_11 : decode bH_addRoom 11 = .ok (.iastore, 1) := by decide +kernel
theorem dH_addRoom_12 : decode bH_addRoom 12 = .ok (.aload_n 0, 1) := by decide +kernel
theorem dH_addRoom_13 : decode bH_addRoom 13 = .ok (.dup, 1) := by decide +kernel
theorem dH_addRoom_14 : decode bH_addRoom 14 = .ok (.getfield 60, 3) := by decide +kernel
theorem dH_addRoom_17 : decode bH_addRoom 17 = .ok (.iconst 1, 1) := by decide +kernel
theorem dH_addRoom_18 : decode bH_addRoom 18 = .ok (.iadd, 1) := by decide +kernel
theorem dH_addRoom_19 : decode bH_addRoom 19 = .ok (.putfield 60, 3) := by decide +kernel
theorem dH_addRoom_22 : decode bH_addRoom 22 = .ok (.iload_n 2, 1) := by decide +kernel
theorem dH_addRoom_23 : decode bH_addRoom 23 = .ok (.ireturn, 1) := by decide +kernel
theorem dH_addWall_0 : decode bH_addWall 0 = .ok (.aload_n 0, 1) := by decide +kernel
theorem dH_addWall_1 : decode bH_addWall 1 = .ok (.getfield 68, 3) := by decide +kernel
theorem dH_addWall_4 : decode bH_addWall 4 = .ok (.istore 4, 2) := by decide +kernel
theorem dH_addWall_6 : decode bH_addWall 6 = .ok (.aload_n 0, 1) := by decide +kernel
theorem dH_addWall_7 : decode bH_addWall 7 = .ok (.getfield 26, 3) := by decide +kernel
theorem dH_addWall_10 : decode bH_addWall 10 = .ok (.iload 4, 2) := by decide +kernel
theorem dH_addWall_12 : decode bH_addWall 12 = .ok (.iload_n 1, 1) := by decide +kernel
theorem dH_addWall_13 : decode bH_addWall 13 = .ok (.iastore, 1) := by decide +kernel
theorem dH_addWall_14 : decode bH_addWall 14 = .ok (.aload_n 0, 1) := by decide +kernel
theorem dH_addWall_15 : decode bH_addWall 15 = .ok (.getfield 29, 3) := by decide +kernel
theorem dH_addWall_18 : decode bH_addWall 18 = .ok (.iload 4, 2) := by decide +kernel
theorem dH_addWall_20 : decode bH_addWall 20 = .ok (.iload_n 2, 1) := by decide +kernel
theorem dH_addWall_21 : decode bH_addWall 21 = .ok (.iastore, 1) := by decide +kernel
theorem dH_addWall_22 : decode bH_addWall 22 = .ok (.aload_n 0, 1) := by decide +kernel
theorem dH_addWall_23 : decode bH_addWall 23 = .ok (.dup, 1) := by decide +kernel
theorem dH_addWall_24 : decode bH_addWall 24 = .ok (.getfield 68, 3) := by decide +kernel
theorem dH_addWall_27 : decode bH_addWall 27 = .ok (.iconst 1, 1) := by decide +kernel
theorem dH_addWall_28 : decode bH_addWall 28 = .ok (.iadd, 1) := by decide +kernel
theorem dH_addWall_29 : decode bH_addWall 29 = .ok (.putfield 68, 3) := by decide +kernel
theorem dH_addWall_32 : decode bH_addWall 32 = .ok (.aload_n 0, 1) := by decide +kernel
theorem dH_addWall_33 : decode bH_addWall 33 = .ok (.iload 4, 2) := by decide +kernel
theorem dH_addWall_35 : decode bH_addWall 35 = .ok (.iload_n 3, 1) := by decide +kernel
theorem dH_addWall_36 : decode bH_addWall 36 = .ok (.invokevirtual 71, 3) := by decide +kernel
theorem dH_addWall_39 : decode bH_addWall 39 = .ok (.iload 4, 2) := by decide +kernel
theorem dH_addWall_41 : decode bH_addWall 41 = .ok (.ireturn, 1) := by decide +kernel
theorem dH_addLeads_0 : decode bH_addLeads 0 = .ok (.aload_n 0, 1) := by decide +kernel
theorem dH_addLeads_1 : decode bH_addLeads 1 = .ok (.getfield 32, 3) := by decide +kernel
theorem dH_addLeads_4 : decode bH_addLeads 4 = .ok (.iload_n 1, 1) := by decide +kernel
theorem dH_addLeads_5 : decode bH_addLeads 5 = .ok (.dup2, 1) := by decide +kernel
theorem dH_addLeads_6 : decode bH_addLeads 6 = .ok (.iaload, 1) := by decide +kernel
theorem dH_addLeads_7 : decode bH_addLeads 7 = .ok (.iload_n 2, 1) := by decide +kernel
theorem dH_addLeads_8 : decode bH_addLeads 8 = .ok (.iadd, 1) := by decide +kernel
theorem dH_addLeads_9 : decode bH_addLeads 9 = .ok (.iastore, 1) := by decide +kernel
theorem dH_addLeads_10 : decode bH_addLeads 10 = .ok (.aload_n 0, 1) := by decide +kernel
theorem dH_addLeads_11 : decode bH_addLeads 11 = .ok (.getfield 15, 3) := by decide +kernel
theorem dH_addLeads_14 : decode bH_addLeads 14 = .ok (.aload_n 0, 1) := by decide +kernel
theorem dH_addLeads_15 : decode bH_addLeads 15 = .ok (.getfield 26, 3) := by decide +kernel
theorem dH_addLeads_18 : decode bH_addLeads 18 = .ok (.iload_n 1, 1) := by decide +kernel
theorem dH_addLeads_19 : decode bH_addLeads 19 = .ok (.iaload, 1) := by decide +kernel
theorem dH_addLeads_20 : decode bH_addLeads 20 = .ok (.dup2, 1) := by decide +kernel
theorem dH_addLeads_21 : decode bH_addLeads 21 = .ok (.iaload, 1) := by decide +kernel
theorem dH_addLeads_22 : decode bH_addLeads 22 = .ok (.iload_n 2, 1) := by decide +kernel
theorem dH_addLeads_23 : decode bH_addLeads 23 = .ok (.iadd, 1) := by decide +kernel
theorem dH_addLeads_24 : decode bH_addLeads 24 = .ok (.iastore, 1) := by decide +kernel
theorem dH_addLeads_25 : decode bH_addLeads 25 = .ok (.aload_n 0, 1) := by decide +kernel
theorem dH_addLeads_26 : decode bH_addLeads 26 = .ok (.getfield 29, 3) := by decide +kernel
theorem dH_addLeads_29 : decode bH_addLeads 29 = .ok (.iload_n 1, 1) := by decide +kernel
theorem dH_addLeads_30 : decode bH_addLeads 30 = .ok (.iaload, 1) := by decide +kernel
theorem dH_addLeads_31 : decode bH_addLeads 31 = .ok (.iconst (-1), 1) := by decide +kernel
theorem dH_addLeads_32 : decode bH_addLeads 32 = .ok (.if_icmp .eq 18, 3) := by decide +kernel
theorem dH_addLeads_35 : decode bH_addLeads 35 = .ok (.aload_n 0, 1) := by decide +kernel
theorem dH_addLeads_36 : decode bH_addLeads 36 = .ok (.getfield 15, 3) := by decide +kernel
theorem dH_addLeads_39 : decode bH_addLeads 39 = .ok (.aload_n 0, 1) := by decide +kernel
theorem dH_addLeads_40 : decode bH_addLeads 40 = .ok (.getfield 29, 3) := by decide +kernel
theorem dH_addLeads_43 : decode bH_addLeads 43 = .ok (.iload_n 1, 1) := by decide +kernel
theorem dH_addLeads_44 : decode bH_addLeads 44 = .ok (.iaload, 1) := by decide +kernel
theorem dH_addLeads_45 : decode bH_addLeads 45 = .ok (.dup2, 1) := by decide +kernel
theorem dH_addLeads_46 : decode bH_addLeads 46 = .ok (.iaload, 1) := by decide +kernel
theorem dH_addLeads_47 : decode bH_addLeads 47 = .ok (.iload_n 2, 1) := by decide +kernel
theorem dH_addLeads_48 : decode bH_addLeads 48 = .ok (.iadd, 1) := by decide +kernel
theorem dH_addLeads_49 : decode bH_addLeads 49 = .ok (.iastore, 1) := by decide +kernel
theorem dH_addLeads_50 : decode bH_addLeads 50 = .ok (.return_, 1) := by decide +kernel
theorem dH_addWindow_0 : decode bH_addWindow 0 = .ok (.aload_n 0, 1) := by decide +kernel
theorem dH_addWindow_1 : decode bH_addWindow 1 = .ok (.getfield 75, 3) := by decide +kernel
theorem dH_addWindow_4 : decode bH_addWindow 4 = .ok (.istore 5, 2) := by decide +kernel
theorem dH_addWindow_6 : decode bH_addWindow 6 = .ok (.aload_n 0, 1) := by decide +kernel
theorem dH_addWindow_7 : decode bH_addWindow 7 = .ok (.getfield 35, 3) := by decide +kernel
theorem dH_addWindow_10 : decode bH_addWindow 10 = .ok (.iload 5, 2) := by decide +kernel
theorem dH_addWindow_12 : decode bH_addWindow 12 = .ok (.iload_n 1, 1) := by decide +kernel
theorem dH_addWindow_13 : decode bH_addWindow 13 = .ok (.iastore, 1) := by decide +kernel
theorem dH_addWindow_14 : decode bH_addWindow 14 = .ok (.aload_n 0, 1) := by decide +kernel
theorem dH_addWindow_15 : decode bH_addWindow 15 = .ok (.getfield 38, 3) := by decide +kernel
theorem dH_addWindow_18 : decode bH_addWindow 18 = .ok (.iload 5, 2) := by decide +kernel
theorem dH_addWindow_20 : decode bH_addWindow 20 = .ok (.iload_n 2, 1) := by decide +kernel
theorem dH_addWindow_21 : decode bH_addWindow 21 = .ok (.iastore, 1) := by decide +kernel
theorem dH_addWindow_22 : decode bH_addWindow 22 = .ok (.aload_n 0, 1) := by decide +kernel
theorem dH_addWindow_23 : decode bH_addWindow 23 = .ok (.getfield 41, 3) := by decide +kernel
theorem dH_addWindow_26 : decode bH_addWindow 26 = .ok (.iload 5, 2) := by decide +kernel
theorem dH_addWindow_28 : decode bH_addWindow 28 = .ok (.iload_n 3, 1) := by decide +kernel
theorem dH_addWindow_29 : decode bH_addWindow 29 = .ok (.iastore, 1) := by decide +kernel
theorem dH_addWindow_30 : decode bH_addWindow 30 = .ok (.aload_n 0, 1) := by decide +kernel
theorem dH_addWindow_31 : decode bH_addWindow 31 = .ok (.getfield 44, 3) := by decide +kernel
theorem dH_addWindow_34 : decode bH_addWindow 34 = .ok (.iload 5, 2) := by decide +kernel
theorem dH_addWindow_36 : decode bH_addWindow 36 = .ok (.iload 4, 2) := by decide +kernel
theorem dH_addWindow_38 : decode bH_addWindow 38 = .ok (.iastore, 1) := by decide +kernel
theorem dH_addWindow_39 : decode bH_addWindow 39 = .ok (.aload_n 0, 1) := by decide +kernel
theorem dH_addWindow_40 : decode bH_addWindow 40 = .ok (.dup, 1) := by decide +kernel
theorem dH_addWindow_41 : decode bH_addWindow 41 = .ok (.getfield 75, 3) := by decide +kernel
theorem dH_addWindow_44 : decode bH_addWindow 44 = .ok (.iconst 1, 1) := by decide +kernel
theorem dH_addWindow_45 : decode bH_addWindow 45 = .ok (.iadd, 1) := by decide +kernel
theorem dH_addWindow_46 : decode bH_addWindow 46 = .ok (.putfield 75, 3) := by decide +kernel
theorem dH_addWindow_49 : decode bH_addWindow 49 = .ok (.iload 5, 2) := by decide +kernel
theorem dH_addWindow_51 : decode bH_addWindow 51 = .ok (.ireturn, 1) := by decide +kernel
theorem dJ_floorDiv_0 : decode bJ_floorDiv 0 = .ok (.lload_n 0, 1) := by decide +kernel
theorem dJ_floorDiv_1 : decode bJ_floorDiv 1 = .ok (.lload_n 2, 1) := by decide +kernel
theorem dJ_floorDiv_2 : decode bJ_floorDiv 2 = .ok (.ldiv, 1) := by decide +kernel
theorem dJ_floorDiv_3 : decode bJ_floorDiv 3 = .ok (.lstore 4, 2) := by decide +kernel
theorem dJ_floorDiv_5 : decode bJ_floorDiv 5 = .ok (.lload_n 0, 1) := by decide +kernel
theorem dJ_floorDiv_6 : decode bJ_floorDiv 6 = .ok (.lload_n 2, 1) := by decide +kernel
theorem dJ_floorDiv_7 : decode bJ_floorDiv 7 = .ok (.lxor, 1) := by decide +kernel
theorem dJ_floorDiv_8 : decode bJ_floorDiv 8 = .ok (.lconst 0, 1) := by decide +kernel
theorem dJ_floorDiv_9 : decode bJ_floorDiv 9 = .ok (.lcmp, 1) := by decide +kernel
theorem dJ_floorDiv_10 : decode bJ_floorDiv 10 = .ok (.ifCond .ge 17, 3) := by decide +kernel
theorem dJ_floorDiv_13 : decode bJ_floorDiv 13 = .ok (.lload 4, 2) := by decide +kernel
theorem dJ_floorDiv_15 : decode bJ_floorDiv 15 = .ok (.lload_n 2, 1) := by decide +kernel
theorem dJ_floorDiv_16 : decode bJ_floorDiv 16 = .ok (.lmul, 1) := by decide +kernel
theorem dJ_floorDiv_17 : decode bJ_floorDiv 17 = .ok (.lload_n 0, 1) := by decide +kernel
theorem dJ_floorDiv_18 : decode bJ_floorDiv 18 = .ok (.lcmp, 1) := by decide +kernel
theorem dJ_floorDiv_19 : decode bJ_floorDiv 19 = .ok (.ifCond .eq 8, 3) := by decide +kernel
theorem dJ_floorDiv_22 : decode bJ_floorDiv 22 = .ok (.lload 4, 2) := by decide +kernel
theorem dJ_floorDiv_24 : decode bJ_floorDiv 24 = .ok (.lconst 1, 1) := by decide +kernel
theorem dJ_floorDiv_25 : decode bJ_floorDiv 25 = .ok (.lsub, 1) := by decide +kernel
theorem dJ_floorDiv_26 : decode bJ_floorDiv 26 = .ok (.lreturn, 1) := by decide +kernel
theorem dJ_floorDiv_27 : decode bJ_floorDiv 27 = .ok (.lload 4, 2) := by decide +kernel
theorem dJ_floorDiv_29 : decode bJ_floorDiv 29 = .ok (.lreturn, 1) := by decide +kernel
theorem dJ_floorMod_0 : decode bJ_floorMod 0 = .ok (.iload_n 0, 1) := by decide +kernel
theorem dJ_floorMod_1 : decode bJ_floorMod 1 = .ok (.iload_n 1, 1) := by decide +kernel
theorem dJ_floorMod_2 : decode bJ_floorMod 2 = .ok (.irem, 1) := by decide +kernel
theorem dJ_floorMod_3 : decode bJ_floorMod 3 = .ok (.istore_n 2, 1) := by decide +kernel
theorem dJ_floorMod_4 : decode bJ_floorMod 4 = .ok (.iload_n 0, 1) := by decide +kernel
theorem dJ_floorMod_5 : decode bJ_floorMod 5 = .ok (.iload_n 1, 1) := by decide +kernel
theorem dJ_floorMod_6 : decode bJ_floorMod 6 = .ok (.ixor, 1) := by decide +kernel
theorem dJ_floorMod_7 : decode bJ_floorMod 7 = .ok (.ifCond .ge 11, 3) := by decide +kernel
theorem dJ_floorMod_10 : decode bJ_floorMod 10 = .ok (.iload_n 2, 1) := by decide +kernel
theorem dJ_floorMod_11 : decode bJ_floorMod 11 = .ok (.ifCond .eq 7, 3) := by decide +kernel
theorem dJ_floorMod_14 : decode bJ_floorMod 14 = .ok (.iload_n 2, 1) := by decide +kernel
theorem dJ_floorMod_15 : decode bJ_floorMod 15 = .ok (.iload_n 1, 1) := by decide +kernel
theorem dJ_floorMod_16 : decode bJ_floorMod 16 = .ok (.iadd, 1) := by decide +kernel
theorem dJ_floorMod_17 : decode bJ_floorMod 17 = .ok (.ireturn, 1) := by decide +kernel
theorem dJ_floorMod_18 : decode bJ_floorMod 18 = .ok (.iload_n 2, 1) := by decide +kernel
theorem dJ_floorMod_19 : decode bJ_floorMod 19 = .ok (.ireturn, 1) := by decide +kernel
theorem dA_fill_0 : decode bA_fill 0 = .ok (.iconst 0, 1) := by decide +kernel
theorem dA_fill_1 : decode bA_fill 1 = .ok (.istore_n 2, 1) := by decide +kernel
theorem dA_fill_2 : decode bA_fill 2 = .ok (.aload_n 0, 1) := by decide +kernel
theorem dA_fill_3 : decode bA_fill 3 = .ok (.arraylength, 1) := by decide +kernel
theorem dA_fill_4 : decode bA_fill 4 = .ok (.istore_n 3, 1) := by decide +kernel
theorem dA_fill_5 : decode bA_fill 5 = .ok (.iload_n 2, 1) := by decide +kernel
theorem dA_fill_6 : decode bA_fill 6 = .ok (.iload_n 3, 1) := by decide +kernel
theorem dA_fill_7 : decode bA_fill 7 = .ok (.if_icmp .ge 13, 3) := by decide +kernel
theorem dA_fill_10 : decode bA_fill 10 = .ok (.aload_n 0, 1) := by decide +kernel
theorem dA_fill_11 : decode bA_fill 11 = .ok (.iload_n 2, 1) := by decide +kernel
theorem dA_fill_12 : decode bA_fill 12 = .ok (.iload_n 1, 1) := by decide +kernel
theorem dA_fill_13 : decode bA_fill 13 = .ok (.iastore, 1) := by decide +kernel
theorem dA_fill_14 : decode bA_fill 14 = .ok (.iinc 2 1, 3) := by decide +kernel
theorem dA_fill_17 : decode bA_fill 17 = .ok (.goto (-12), 3) := by decide +kernel
theorem dA_fill_20 : decode bA_fill 20 = .ok (.return_, 1) := by decide +kernel
