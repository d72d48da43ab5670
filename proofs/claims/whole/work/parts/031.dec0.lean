theorem dR_init_0 : decode bR_init 0 = .ok (.aload_n 0, 1) := by decide +kernel
theorem dR_init_1 : decode bR_init 1 = .ok (.invokespecial 3, 3) := by decide +kernel
theorem dR_init_4 : decode bR_init 4 = .ok (.aload_n 0, 1) := by decide +kernel
theorem dR_init_5 : decode bR_init 5 = .ok (.new 9, 3) := by decide +kernel
theorem dR_init_8 : decode bR_init 8 = .ok (.dup, 1) := by decide +kernel
theorem dR_init_9 : decode bR_init 9 = .ok (.invokespecial 11, 3) := by decide +kernel
theorem dR_init_12 : decode bR_init 12 = .ok (.putfield 12, 3) := by decide +kernel
theorem dR_init_15 : decode bR_init 15 = .ok (.aload_n 0, 1) := by decide +kernel
theorem dR_init_16 : decode bR_init 16 = .ok (.new 16, 3) := by decide +kernel
theorem dR_init_19 : decode bR_init 19 = .ok (.dup, 1) := by decide +kernel
theorem dR_init_20 : decode bR_init 20 = .ok (.aload_n 0, 1) := by decide +kernel
theorem dR_init_21 : decode bR_init 21 = .ok (.getfield 12, 3) := by decide +kernel
theorem dR_init_24 : decode bR_init 24 = .ok (.invokespecial 18, 3) := by decide +kernel
theorem dR_init_27 : decode bR_init 27 = .ok (.putfield 21, 3) := by decide +kernel
theorem dR_init_30 : decode bR_init 30 = .ok (.aload_n 0, 1) := by decide +kernel
theorem dR_init_31 : decode bR_init 31 = .ok (.new 16, 3) := by decide +kernel
theorem dR_init_34 : decode bR_init 34 = .ok (.dup, 1) := by decide +kernel
theorem dR_init_35 : decode bR_init 35 = .ok (.aload_n 0, 1) := by decide +kernel
theorem dR_init_36 : decode bR_init 36 = .ok (.getfield 12, 3) := by decide +kernel
theorem dR_init_39 : decode bR_init 39 = .ok (.invokespecial 18, 3) := by decide +kernel
theorem dR_init_42 : decode bR_init 42 = .ok (.putfield 25, 3) := by decide +kernel
theorem dR_init_45 : decode bR_init 45 = .ok (.return_, 1) := by decide +kernel
theorem dR_room_0 : decode bR_room 0 = .ok (.iload_n 1, 1) := by decide +kernel
theorem dR_room_1 : decode bR_room 1 = .ok (.iconst 1, 1) := by decide +kernel
theorem dR_room_2 : decode bR_room 2 = .ok (.sipush 10000, 3) := by decide +kernel
theorem dR_room_5 : decode bR_room 5 = .ok (.invokestatic 28, 3) := by decide +kernel
theorem dR_room_8 : decode bR_room 8 = .ok (.ifCond .eq 10, 3) := by decide +kernel
theorem dR_room_11 : decode bR_room 11 = .ok (.iload_n 2, 1) := by decide +kernel
theorem dR_room_12 : decode bR_room 12 = .ok (.invokestatic 32, 3) := by decide +kernel
theorem dR_room_15 : decode bR_room 15 = .ok (.ifCond .ne 13, 3) := by decide +kernel
theorem dR_room_18 : decode bR_room 18 = .ok (.new 36, 3) := by decide +kernel
theorem dR_room_21 : decode bR_room 21 = .ok (.dup, 1) := by decide +kernel
theorem dR_room_22 : decode bR_room 22 = .ok (.ldc 38, 2) := by decide +kernel
theorem dR_room_24 : decode bR_room 24 = .ok (.invokespecial 40, 3) := by decide +kernel
theorem dR_room_27 : decode bR_room 27 = .ok (.athrow, 1) := by decide +kernel
theorem dR_room_28 : decode bR_room 28 = .ok (.aload_n 0, 1) := by decide +kernel
theorem dR_room_29 : decode bR_room 29 = .ok (.getfield 12, 3) := by decide +kernel
theorem dR_room_32 : decode bR_room 32 = .ok (.getfield 43, 3) := by decide +kernel
theorem dR_room_35 : decode bR_room 35 = .ok (.bipush 8, 2) := by decide +kernel
theorem dR_room_37 : decode bR_room 37 = .ok (.if_icmp .lt 13, 3) := by decide +kernel
theorem dR_room_40 : decode bR_room 40 = .ok (.new 47, 3) := by decide +kernel
theorem dR_room_43 : decode bR_room 43 = .ok (.dup, 1) := by decide +kernel
theorem dR_room_44 : decode bR_room 44 = .ok (.ldc 49, 2) := by decide +kernel
theorem dR_room_46 : decode bR_room 46 = .ok (.invokespecial 51, 3) := by decide +kernel
theorem dR_room_49 : decode bR_room 49 = .ok (.athrow, 1) := by decide +kernel
theorem dR_room_50 : decode bR_room 50 = .ok (.aload_n 0, 1) := by decide +kernel
theorem dR_room_51 : decode bR_room 51 = .ok (.getfield 12, 3) := by decide +kernel
theorem dR_room_54 : decode bR_room 54 = .ok (.iload_n 1, 1) := by decide +kernel
theorem dR_room_55 : decode bR_room 55 = .ok (.invokevirtual 52, 3) := by decide +kernel
theorem dR_room_58 : decode bR_room 58 = .ok (.istore_n 3, 1) := by decide +kernel
theorem dR_room_59 : decode bR_room 59 = .ok (.aload_n 0, 1) := by decide +kernel
theorem dR_room_60 : decode bR_room 60 = .ok (.getfield 21, 3) := by decide +kernel
theorem dR_room_63 : decode bR_room 63 = .ok (.iload_n 3, 1) := by decide +kernel
theorem dR_room_64 : decode bR_room 64 = .ok (.iload_n 1, 1) := by decide +kernel
theorem dR_room_65 : decode bR_room 65 = .ok (.i2l, 1) := by decide +kernel
theorem dR_room_66 : decode bR_room 66 = .ok (.iload_n 2, 1) := by decide +kernel
theorem dR_room_67 : decode bR_room 67 = .ok (.i2l, 1) := by decide +kernel
theorem dR_room_68 : decode bR_room 68 = .ok (.lmul, 1) := by decide +kernel
theorem dR_room_69 : decode bR_room 69 = .ok (.invokevirtual 56, 3) := by decide +kernel
theorem dR_room_72 : decode bR_room 72 = .ok (.iload_n 3, 1) := by decide +kernel
theorem dR_room_73 : decode bR_room 73 = .ok (.ireturn, 1) := by decide +kernel
theorem dR_wall_0 : decode bR_wall 0 = .ok (.aload_n 0, 1) := by decide +kernel
theorem dR_wall_1 : decode bR_wall 1 = .ok (.getfield 12, 3) := by decide +kernel
theorem dR_wall_4 : decode bR_wall 4 = .ok (.iload_n 1, 1) := by decide +kernel
theorem dR_wall_5 : decode bR_wall 5 = .ok (.invokevirtual 60, 3) := by decide +kernel
theorem dR_wall_8 : decode bR_wall 8 = .ok (.ifCond .eq 19, 3) := by decide +kernel
theorem dR_wall_11 : decode bR_wall 11 = .ok (.iload_n 1, 1) := by decide +kernel
theorem dR_wall_12 : decode bR_wall 12 = .ok (.iload_n 2, 1) := by decide +kernel
theorem dR_wall_13 : decode bR_wall 13 = .ok (.if_icmp .eq 14, 3) := by decide +kernel
theorem dR_wall_16 : decode bR_wall 16 = .ok (.iload_n 3, 1) := by decide +kernel
theorem dR_wall_17 : decode bR_wall 17 = .ok (.iconst 0, 1) := by decide +kernel
theorem dR_wall_18 : decode bR_wall 18 = .ok (.sipush 1000, 3) := by decide +kernel
theorem dR_wall_21 : decode bR_wall 21 = .ok (.invokestatic 28, 3) := by decide +kernel
theorem dR_wall_24 : decode bR_wall 24 = .ok (.ifCond .ne 13, 3) := by decide +kernel
theorem dR_wall_27 : decode bR_wall 27 = .ok (.new 36, 3) := by decide +kernel
theorem dR_wall_30 : decode bR_wall 30 = .ok (.dup, 1) := by decide +kernel
theorem dR_wall_31 : decode bR_wall 31 = .ok (.ldc 63, 2) := by decide +kernel
theorem dR_wall_33 : decode bR_wall 33 = .ok (.invokespecial 40, 3) := by decide +kernel
theorem dR_wall_36 : decode bR_wall 36 = .ok (.athrow, 1) := by decide +kernel
theorem dR_wall_37 : decode bR_wall 37 = .ok (.iload_n 2, 1) := by decide +kernel
theorem dR_wall_38 : decode bR_wall 38 = .ok (.iconst (-1), 1) := by decide +kernel
theorem dR_wall_39 : decode bR_wall 39 = .ok (.if_icmp .eq 24, 3) := by decide +kernel
theorem dR_wall_42 : decode bR_wall 42 = .ok (.aload_n 0, 1) := by decide +kernel
theorem dR_wall_43 : decode bR_wall 43 = .ok (.getfield 12, 3) := by decide +kernel
theorem dR_wall_46 : decode bR_wall 46 = .ok (.iload_n 2, 1) := by decide +kernel
theorem dR_wall_47 : decode bR_wall 47 = .ok (.invokevirtual 60, 3) := by decide +kernel
theorem dR_wall_50 : decode bR_wall 50 = .ok (.ifCond .ne 13, 3) := by decide +kernel
theorem dR_wall_53 : decode bR_wall 53 = .ok (.new 36, 3) := by decide +kernel
theorem dR_wall_56 : decode bR_wall 56 = .ok (.dup, 1) := by decide +kernel
theorem dR_wall_57 : decode bR_wall 57 = .ok (.ldc 65, 2) := by decide +kernel
theorem dR_wall_59 : decode bR_wall 59 = .ok (.invokespecial 40, 3) := by decide +kernel
theorem dR_wall_62 : decode bR_wall 62 = .ok (.athrow, 1) := by decide +kernel
theorem dR_wall_63 : decode bR_wall 63 = .ok (.aload_n 0, 1) := by decide +kernel
theorem dR_wall_64 : decode bR_wall 64 = .ok (.getfield 12, 3) := by decide +kernel
theorem dR_wall_67 : decode bR_wall 67 = .ok (.getfield 67, 3) := by decide +kernel
theorem dR_wall_70 : decode bR_wall 70 = .ok (.bipush 20, 2) := by decide +kernel
theorem dR_wall_72 : decode bR_wall 72 = .ok (.if_icmp .ge 27, 3) := by decide +kernel
theorem dR_wall_75 : decode bR_wall 75 = .ok (.aload_n 0, 1) := by decide +kernel
theorem dR_wall_76 : decode bR_wall 76 = .ok (.getfield 12, 3) := by decide +kernel
theorem dR_wall_79 : decode bR_wall 79 = .ok (.iload_n 1, 1) := by decide +kernel
theorem dR_wall_80 : decode bR_wall 80 = .ok (.iload_n 3, 1) := by decide +kernel
theorem dR_wall_81 : decode bR_wall 81 = .ok (.invokevirtual 70, 3) := by decide +kernel
theorem dR_wall_84 : decode bR_wall 84 = .ok (.ifCond .eq 15, 3) := by decide +kernel
theorem dR_wall_87 : decode bR_wall 87 = .ok (.aload_n 0, 1) := by decide +kernel
theorem dR_wall_88 : decode bR_wall 88 = .ok (.getfield 12, 3) := by decide +kernel
theorem dR_wall_91 : decode bR_wall 91 = .ok (.iload_n 2, 1) := by decide +kernel
theorem dR_wall_92 : decode bR_wall 92 = .ok (.iload_n 3, 1) := by decide +kernel
theorem dR_wall_93 : decode bR_wall 93 = .ok (.invokevirtual 70, 3) := by decide +kernel
theorem dR_wall_96 : decode bR_wall 96 = .ok (.ifCond .ne 13, 3) := by decide +kernel
theorem dR_wall_99 : decode bR_wall 99 = .ok (.new 47, 3) := by decide +kernel
theorem dR_wall_102 : decode bR_wall 102 = .ok (.dup, 1) := by decide +kernel
theorem dR_wall_103 : decode bR_wall 103 = .ok (.ldc 74, 2) := by decide +kernel
theorem dR_wall_105 : decode bR_wall 105 = .ok (.invokespecial 51, 3) := by decide +kernel
theorem dR_wall_108 : decode bR_wall 108 = .ok (.athrow, 1) := by decide +kernel
theorem dR_wall_109 : decode bR_wall 109 = .ok (.aload_n 0, 1) := by decide +kernel
theorem dR_wall_110 : decode bR_wall 110 = .ok (.getfield 12, 3) := by decide +kernel
theorem dR_wall_113 : decode bR_wall 113 = .ok (.iload_n 1, 1) := by decide +kernel
theorem dR_wall_114 : decode bR_wall 114 = .ok (.iload_n 2, 1) := by decide +kernel
theorem dR_wall_115 : decode bR_wall 115 = .ok (.iload_n 3, 1) := by decide +kernel
theorem dR_wall_116 : decode bR_wall 116 = .ok (.invokevirtual 76, 3) := by decide +kernel
theorem dR_wall_119 : decode bR_wall 119 = .ok (.ireturn, 1) := by decide +kernel
theorem dR_leads_0 : decode bR_leads 0 = .ok (.iload_n 1, 1) := by decide +kernel
theorem dR_leads_1 : decode bR_leads 1 = .ok (.iconst 0, 1) := by decide +kernel
theorem dR_leads_2 : decode bR_leads 2 = .ok (.aload_n 0, 1) := by decide +kernel
theorem dR_leads_3 : decode bR_leads 3 = .ok (.getfield 12, 3) := by decide +kernel
theorem dR_leads_6 : decode bR_leads 6 = .ok (.getfield 67, 3) := by decide +kernel
theorem dR_leads_9 : decode bR_leads 9 = .ok (.iconst 1, 1) := by decide +kernel
theorem dR_leads_10 : decode bR_leads 10 = .ok (.isub, 1) := by decide +kernel
theorem dR_leads_11 : decode bR_leads 11 = .ok (.invokestatic 28, 3) := by decide +kernel
theorem dR_leads_14 : decode bR_leads 14 = .ok (.ifCond .eq 14, 3) := by decide +kernel
theorem dR_leads_17 : decode bR_leads 17 = .ok (.iload_n 2, 1) := by decide +kernel
theorem dR_leads_18 : decode bR_leads 18 = .ok (.iconst 0, 1) := by decide +kernel
theorem dR_leads_19 : decode bR_leads 19 = .ok (.sipush 1000, 3) := by decide +kernel
theorem dR_leads_22 : decode bR_leads 22 = .ok (.invokestatic 28, 3) := by decide +kernel
theorem dR_leads_25 : decode bR_leads 25 = .ok (.ifCond .ne 13, 3) := by decide +kernel
theorem dR_leads_28 : decode bR_leads 28 = .ok (.new 36, 3) := by decide +kernel
theorem dR_leads_31 : decode bR_leads 31 = .ok (.dup, 1) := by decide +kernel
theorem dR_leads_32 : decode bR_leads 32 = .ok (.ldc 80, 2) := by decide +kernel
theorem dR_leads_34 : decode bR_leads 34 = .ok (.invokespecial 40, 3) := by decide +kernel
theorem dR_leads_37 : decode bR_leads 37 = .ok (.athrow, 1) := by decide +kernel
theorem dR_leads_38 : decode bR_leads 38 = .ok (.aload_n 0, 1) := by decide +kernel
theorem dR_leads_39 : decode bR_leads 39 = .ok (.getfield 12, 3) := by decide +kernel
theorem dR_leads_42 : decode bR_leads 42 = .ok (.getfield 82, 3) := by decide +kernel
theorem dR_leads_45 : decode bR_leads 45 = .ok (.iload_n 1, 1) := by decide +kernel
theorem dR_leads_46 : decode bR_leads 46 = .ok (.iaload, 1) := by decide +kernel
theorem dR_leads_47 : decode bR_leads 47 = .ok (.istore_n 3, 1) := by decide +kernel
theorem dR_leads_48 : decode bR_leads 48 = .ok (.iload_n 2, 1) := by decide +kernel
theorem dR_leads_49 : decode bR_leads 49 = .ok (.iload_n 3, 1) := by decide +kernel
theorem dR_leads_50 : decode bR_leads 50 = .ok (.isub, 1) := by decide +kernel
theorem dR_leads_51 : decode bR_leads 51 = .ok (.istore 4, 2) := by decide +kernel
theorem dR_leads_53 : decode bR_leads 53 = .ok (.aload_n 0, 1) := by decide +kernel
theorem dR_leads_54 : decode bR_leads 54 = .ok (.getfield 12, 3) := by decide +kernel
theorem dR_leads_57 : decode bR_leads 57 = .ok (.aload_n 0, 1) := by decide +kernel
theorem dR_leads_58 : decode bR_leads 58 = .ok (.getfield 12, 3) := by decide +kernel
theorem dR_leads_61 : decode bR_leads 61 = .ok (.getfield 86, 3) := by decide +kernel
theorem dR_leads_64 : decode bR_leads 64 = .ok (.iload_n 1, 1) := by decide +kernel
theorem dR_leads_65 : decode bR_leads 65 = .ok (.iaload, 1) := by decide +kernel
theorem dR_leads_66 : decode bR_leads 66 = .ok (.iload 4, 2) := by decide +kernel
theorem dR_leads_68 : decode bR_leads 68 = .ok (.invokevirtual 70, 3) := by decide +kernel
theorem dR_leads_71 : decode bR_leads 71 = .ok (.ifCond .eq 24, 3) := by decide +kernel
theorem dR_leads_74 : decode bR_leads 74 = .ok (.aload_n 0, 1) := by decide +kernel
theorem dR_leads_75 : decode bR_leads 75 = .ok (.getfield 12, 3) := by decide +kernel
theorem dR_leads_78 : decode bR_leads 78 = .ok (.aload_n 0, 1) := by decide +kernel
theorem dR_leads_79 : decode bR_leads 79 = .ok (.getfield 12, 3) := by decide +kernel
theorem dR_leads_82 : decode bR_leads 82 = .ok (.getfield 89, 3) := by decide +kernel
theorem dR_leads_85 : decode bR_leads 85 = .ok (.iload_n 1, 1) := by decide +kernel
theorem dR_leads_86 : decode bR_leads 86 = .ok (.iaload, 1) := by decide +kernel
theorem dR_leads_87 : decode bR_leads 87 = .ok (.iload 4, 2) := by decide +kernel
theorem dR_leads_89 : decode bR_leads 89 = .ok (.invokevirtual 70, 3) := by decide +kernel
theorem dR_leads_92 : decode bR_leads 92 = .ok (.ifCond .ne 13, 3) := by decide +kernel
theorem dR_leads_95 : decode bR_leads 95 = .ok (.new 47, 3) := by decide +kernel
theorem dR_leads_98 : decode bR_leads 98 = .ok (.dup, 1) := by decide +kernel
theorem dR_leads_99 : decode bR_leads 99 = .ok (.ldc 92, 2) := by decide +kernel
theorem dR_leads_101 : decode bR_leads 101 = .ok (.invokespecial 51, 3) := by decide +kernel
theorem dR_leads_104 : decode bR_leads 104 = .ok (.athrow, 1) := by decide +kernel
theorem dR_leads_105 : decode bR_leads 105 = .ok (.aload_n 0, 1) := by decide +kernel
theorem dR_leads_106 : decode bR_leads 106 = .ok (.getfield 12, 3) := by decide +kernel
theorem dR_leads_109 : decode bR_leads 109 = .ok (.iload_n 1, 1) := by decide +kernel
theorem dR_leads_110 : decode bR_leads 110 = .ok (.iload 4, 2) := by decide +kernel
theorem dR_leads_112 : decode bR_leads 112 = .ok (.invokevirtual 94, 3) := by decide +kernel
theorem dR_leads_115 : decode bR_leads 115 = .ok (.iload_n 3, 1) := by decide +kernel
theorem dR_leads_116 : decode bR_leads 116 = .ok (.ireturn, 1) := by decide +kernel
theorem dR_window_0 : decode bR_window 0 = .ok (.aload_n 0, 1) := by decide +kernel
theorem dR_window_1 : decode bR_window 1 = .ok (.getfield 12, 3) := by decide +kernel
theorem dR_window_4 : decode bR_window 4 = .ok (.iload_n 1, 1) := by decide +kernel
theorem dR_window_5 : decode bR_window 5 = .ok (.invokevirtual 60, 3) := by decide +kernel
theorem dR_window_8 : decode bR_window 8 = .ok (.ifCond .eq 10, 3) := by decide +kernel
theorem dR_window_11 : decode bR_window 11 = .ok (.iload_n 2, 1) := by decide +kernel
theorem dR_window_12 : decode bR_window 12 = .ok (.invokestatic 98, 3) := by decide +kernel
theorem dR_window_15 : decode bR_window 15 = .ok (.ifCond .ne 13, 3) := by decide +kernel
theorem dR_window_18 : decode bR_window 18 = .ok (.new 36, 3) := by decide +kernel
theorem dR_window_21 : decode bR_window 21 = .ok (.dup, 1) := by decide +kernel
theorem dR_window_22 : decode bR_window 22 = .ok (.ldc 101, 2) := by decide +kernel
theorem dR_window_24 : decode bR_window 24 = .ok (.invokespecial 40, 3) := by decide +kernel
theorem dR_window_27 : decode bR_window 27 = .ok (.athrow, 1) := by decide +kernel
theorem dR_window_28 : decode bR_window 28 = .ok (.iload_n 3, 1) := by decide +kernel
theorem dR_window_29 : decode bR_window 29 = .ok (.iconst 0, 1) := by decide +kernel
theorem dR_window_30 : decode bR_window 30 = .ok (.bipush 100, 2) := by decide +kernel
theorem dR_window_32 : decode bR_window 32 = .ok (.invokestatic 28, 3) := by decide +kernel
theorem dR_window_35 : decode bR_window 35 = .ok (.ifCond .eq 11, 3) := by decide +kernel
theorem dR_window_38 : decode bR_window 38 = .ok (.iload 4, 2) := by decide +kernel
theorem dR_window_40 : decode bR_window 40 = .ok (.invokestatic 32, 3) := by decide +kernel
theorem dR_window_43 : decode bR_window 43 = .ok (.ifCond .ne 13, 3) := by decide +kernel
theorem dR_window_46 : decode bR_window 46 = .ok (.new 36, 3) := by decide +kernel
theorem dR_window_49 : decode bR_window 49 = .ok (.dup, 1) := by decide +kernel
theorem dR_window_50 : decode bR_window 50 = .ok (.ldc 103, 2) := by decide +kernel
theorem dR_window_52 : decode bR_window 52 = .ok (.invokespecial 40, 3) := by decide +kernel
theorem dR_window_55 : decode bR_window 55 = .ok (.athrow, 1) := by decide +kernel
theorem dR_window_56 : decode bR_window 56 = .ok (.aload_n 0, 1) := by decide +kernel
theorem dR_window_57 : decode bR_window 57 = .ok (.getfield 12, 3) := by decide +kernel
theorem dR_window_60 : decode bR_window 60 = .ok (.getfield 105, 3) := by decide +kernel
theorem dR_window_63 : decode bR_window 63 = .ok (.bipush 12, 2) := by decide +kernel
theorem dR_window_65 : decode bR_window 65 = .ok (.if_icmp .lt 13, 3) := by decide +kernel
theorem dR_window_68 : decode bR_window 68 = .ok (.new 47, 3) := by decide +kernel
theorem dR_window_71 : decode bR_window 71 = .ok (.dup, 1) := by decide +kernel
theorem dR_window_72 : decode bR_window 72 = .ok (.ldc 108, 2) := by decide +kernel
theorem dR_window_74 : decode bR_window 74 = .ok (.invokespecial 51, 3) := by decide +kernel
theorem dR_window_77 : decode bR_window 77 = .ok (.athrow, 1) := by decide +kernel
theorem dR_window_78 : decode bR_window 78 = .ok (.aload_n 0, 1) := by decide +kernel
theorem dR_window_79 : decode bR_window 79 = .ok (.getfield 12, 3) := by decide +kernel
theorem dR_window_82 : decode bR_window 82 = .ok (.iload_n 1, 1) := by decide +kernel
theorem dR_window_83 : decode bR_window 83 = .ok (.iload_n 2, 1) := by decide +kernel
theorem dR_window_84 : decode bR_window 84 = .ok (.iload_n 3, 1) := by decide +kernel
theorem dR_window_85 : decode bR_window 85 = .ok (.iload 4, 2) := by decide +kernel
theorem dR_window_87 : decode bR_window 87 = .ok (.invokevirtual 110, 3) := by decide +kernel
theorem dR_window_90 : decode bR_window 90 = .ok (.ireturn, 1) := by decide +kernel
theorem dR_outside_0 : decode bR_outside 0 = .ok (.iload_n 1, 1) := by decide +kernel
theorem dR_outside_1 : decode bR_outside 1 = .ok (.invokestatic 114, 3) := by decide +kernel
theorem dR_outside_4 : decode bR_outside 4 = .ok (.ifCond .eq 10, 3) := by decide +kernel
theorem dR_outside_7 : decode bR_outside 7 = .ok (.iload_n 2, 1) := by decide +kernel
theorem dR_outside_8 : decode bR_outside 8 = .ok (.invokestatic 32, 3) := by decide +kernel
theorem dR_outside_11 : decode bR_outside 11 = .ok (.ifCond .ne 13, 3) := by decide +kernel
theorem dR_outside_14 : decode bR_outside 14 = .ok (.new 36, 3) := by decide +kernel
theorem dR_outside_17 : decode bR_outside 17 = .ok (.dup, 1) := by decide +kernel
theorem dR_outside_18 : decode bR_outside 18 = .ok (.ldc 117, 2) := by decide +kernel
theorem dR_outside_20 : decode bR_outside 20 = .ok (.invokespecial 40, 3) := by decide +kernel
theorem dR_outside_23 : decode bR_outside 23 = .ok (.athrow, 1) := by decide +kernel
theorem dR_outside_24 : decode bR_outside 24 = .ok (.aload_n 0, 1) := by decide +kernel
theorem dR_outside_25 : decode bR_outside 25 = .ok (.getfield 12, 3) := by decide +kernel
theorem dR_outside_28 : decode bR_outside 28 = .ok (.getfield 119, 3) := by decide +kernel
theorem dR_outside_31 : decode bR_outside 31 = .ok (.iload_n 1, 1) := by decide +kernel
theorem dR_outside_32 : decode bR_outside 32 = .ok (.iaload, 1) := by decide +kernel
theorem dR_outside_33 : decode bR_outside 33 = .ok (.istore_n 3, 1) := by decide +kernel
theorem dR_outside_34 : decode bR_outside 34 = .ok (.aload_n 0, 1) := by decide +kernel
theorem dR_outside_35 : decode bR_outside 35 = .ok (.getfield 12, 3) := by decide +kernel
theorem dR_outside_38 : decode bR_outside 38 = .ok (.getfield 119, 3) := by decide +kernel
theorem dR_outside_41 : decode bR_outside 41 = .ok (.iload_n 1, 1) := by decide +kernel
theorem dR_outside_42 : decode bR_outside 42 = .ok (.iload_n 2, 1) := by decide +kernel
theorem dR_outside_43 : decode bR_outside 43 = .ok (.iastore, 1) := by decide +kernel
theorem dR_outside_44 : decode bR_outside 44 = .ok (.iload_n 3, 1) := by decide +kernel
theorem dR_outside_45 : decode bR_outside 45 = .ok (.ireturn, 1) := by decide +kernel
theorem dR_sun_0 : decode bR_sun 0 = .ok (.iload_n 1, 1) := by decide +kernel
theorem dR_sun_1 : decode bR_sun 1 = .ok (.invokestatic 98, 3) := by decide +kernel
theorem dR_sun_4 : decode bR_sun 4 = .ok (.ifCond .eq 21, 3) := by decide +kernel
theorem dR_sun_7 : decode bR_sun 7 = .ok (.iload_n 2, 1) := by decide +kernel
theorem dR_sun_8 : decode bR_sun 8 = .ok (.invokestatic 114, 3) := by decide +kernel
theorem dR_sun_11 : decode bR_sun 11 = .ok (.ifCond .eq 14, 3) := by decide +kernel
theorem dR_sun_14 : decode bR_sun 14 = .ok (.iload_n 3, 1) := by decide +kernel
theorem dR_sun_15 : decode bR_sun 15 = .ok (.iconst 0, 1) := by decide +kernel
theorem dR_sun_16 : decode bR_sun 16 = .ok (.sipush 1000, 3) := by decide +kernel
theorem dR_sun_19 : decode bR_sun 19 = .ok (.invokestatic 28, 3) := by decide +kernel
theorem dR_sun_22 : decode bR_sun 22 = .ok (.ifCond .ne 13, 3) := by decide +kernel
theorem dR_sun_25 : decode bR_sun 25 = .ok (.new 36, 3) := by decide +kernel
theorem dR_sun_28 : decode bR_sun 28 = .ok (.dup, 1) := by decide +kernel
theorem dR_sun_29 : decode bR_sun 29 = .ok (.ldc 122, 2) := by decide +kernel
theorem dR_sun_31 : decode bR_sun 31 = .ok (.invokespecial 40, 3) := by decide +kernel
theorem dR_sun_34 : decode bR_sun 34 = .ok (.athrow, 1) := by decide +kernel
theorem dR_sun_35 : decode bR_sun 35 = .ok (.aload_n 0, 1) := by decide +kernel
theorem dR_sun_36 : decode bR_sun 36 = .ok (.getfield 12, 3) := by decide +kernel
theorem dR_sun_39 : decode bR_sun 39 = .ok (.getfield 124, 3) := by decide +kernel
theorem dR_sun_42 : decode bR_sun 42 = .ok (.iload_n 1, 1) := by decide +kernel
theorem dR_sun_43 : decode bR_sun 43 = .ok (.aaload, 1) := by decide +kernel
theorem dR_sun_44 : decode bR_sun 44 = .ok (.iload_n 2, 1) := by decide +kernel
theorem dR_sun_45 : decode bR_sun 45 = .ok (.iaload, 1) := by decide +kernel
theorem dR_sun_46 : decode bR_sun 46 = .ok (.istore 4, 2) := by decide +kernel
theorem dR_sun_48 : decode bR_sun 48 = .ok (.aload_n 0, 1) := by decide +kernel
theorem dR_sun_49 : decode bR_sun 49 = .ok (.getfield 12, 3) := by decide +kernel
theorem dR_sun_52 : decode bR_sun 52 = .ok (.getfield 124, 3) := by decide +kernel
theorem dR_sun_55 : decode bR_sun 55 = .ok (.iload_n 1, 1) := by decide +kernel
theorem dR_sun_56 : decode bR_sun 56 = .ok (.aaload, 1) := by decide +kernel
theorem dR_sun_57 : decode bR_sun 57 = .ok (.iload_n 2, 1) := by decide +kernel
theorem dR_sun_58 : decode bR_sun 58 = .ok (.iload_n 3, 1) := by decide +kernel
theorem dR_sun_59 : decode bR_sun 59 = .ok (.iastore, 1) := by decide +kernel
theorem dR_sun_60 : decode bR_sun 60 = .ok (.iload 4, 2) := by decide +kernel
theorem dR_sun_62 : decode bR_sun 62 = .ok (.ireturn, 1) := by decide +kernel
theorem dR_plan_0 : decode bR_plan 0 = .ok (.aload_n 0, 1) := by decide +kernel
theorem dR_plan_1 : decode bR_plan 1 = .ok (.getfield 12, 3) := by decide +kernel
theorem dR_plan_4 : decode bR_plan 4 = .ok (.iload_n 1, 1) := by decide +kernel
theorem dR_plan_5 : decode bR_plan 5 = .ok (.invokevirtual 60, 3) := by decide +kernel
theorem dR_plan_8 : decode bR_plan 8 = .ok (.ifCond .eq 10, 3) := by decide +kernel
theorem dR_plan_11 : decode bR_plan 11 = .ok (.iload_n 2, 1) := by decide +kernel
theorem dR_plan_12 : decode bR_plan 12 = .ok (.invokestatic 114, 3) := by decide +kernel
theorem dR_plan_15 : decode bR_plan 15 = .ok (.ifCond .ne 13, 3) := by decide +kernel
theorem dR_plan_18 : decode bR_plan 18 = .ok (.new 36, 3) := by decide +kernel
theorem dR_plan_21 : decode bR_plan 21 = .ok (.dup, 1) := by decide +kernel
theorem dR_plan_22 : decode bR_plan 22 = .ok (.ldc 128, 2) := by decide +kernel
theorem dR_plan_24 : decode bR_plan 24 = .ok (.invokespecial 40, 3) := by decide +kernel
theorem dR_plan_27 : decode bR_plan 27 = .ok (.athrow, 1) := by decide +kernel
theorem dR_plan_28 : decode bR_plan 28 = .ok (.iload_n 3, 1) := by decide +kernel
theorem dR_plan_29 : decode bR_plan 29 = .ok (.iconst 0, 1) := by decide +kernel
theorem dR_plan_30 : decode bR_plan 30 = .ok (.iconst 2, 1) := by decide +kernel
theorem dR_plan_31 : decode bR_plan 31 = .ok (.invokestatic 28, 3) := by decide +kernel
theorem dR_plan_34 : decode bR_plan 34 = .ok (.ifCond .eq 12, 3) := by decide +kernel
theorem dR_plan_37 : decode bR_plan 37 = .ok (.iload_n 3, 1) := by decide +kernel
theorem dR_plan_38 : decode bR_plan 38 = .ok (.iload 4, 2) := by decide +kernel
theorem dR_plan_40 : decode bR_plan 40 = .ok (.invokestatic 130, 3) := by decide +kernel
theorem dR_plan_43 : decode bR_plan 43 = .ok (.ifCond .ne 13, 3) := by decide +kernel
theorem dR_plan_46 : decode bR_plan 46 = .ok (.new 36, 3) := by decide +kernel
theorem dR_plan_49 : decode bR_plan 49 = .ok (.dup, 1) := by decide +kernel
theorem dR_plan_50 : decode bR_plan 50 = .ok (.ldc 133, 2) := by decide +kernel
theorem dR_plan_52 : decode bR_plan 52 = .ok (.invokespecial 40, 3) := by decide +kernel
theorem dR_plan_55 : decode bR_plan 55 = .ok (.athrow, 1) := by decide +kernel
theorem dR_plan_56 : decode bR_plan 56 = .ok (.iload_n 1, 1) := by decide +kernel
theorem dR_plan_57 : decode bR_plan 57 = .ok (.bipush 24, 2) := by decide +kernel
theorem dR_plan_59 : decode bR_plan 59 = .ok (.imul, 1) := by decide +kernel
theorem dR_plan_60 : decode bR_plan 60 = .ok (.iload_n 2, 1) := by decide +kernel
theorem dR_plan_61 : decode bR_plan 61 = .ok (.iadd, 1) := by decide +kernel
theorem dR_plan_62 : decode bR_plan 62 = .ok (.istore 5, 2) := by decide +kernel
theorem dR_plan_64 : decode bR_plan 64 = .ok (.aload_n 0, 1) := by decide +kernel
theorem dR_plan_65 : decode bR_plan 65 = .ok (.getfield 12, 3) := by decide +kernel
theorem dR_plan_68 : decode bR_plan 68 = .ok (.getfield 135, 3) := by decide +kernel
theorem dR_plan_71 : decode bR_plan 71 = .ok (.iload_n 3, 1) := by decide +kernel
theorem dR_plan_72 : decode bR_plan 72 = .ok (.aaload, 1) := by decide +kernel
theorem dR_plan_73 : decode bR_plan 73 = .ok (.iload 5, 2) := by decide +kernel
theorem dR_plan_75 : decode bR_plan 75 = .ok (.iaload, 1) := by decide +kernel
theorem dR_plan_76 : decode bR_plan 76 = .ok (.istore 6, 2) := by decide +kernel
theorem dR_plan_78 : decode bR_plan 78 = .ok (.aload_n 0, 1) := by decide +kernel
theorem dR_plan_79 : decode bR_plan 79 = .ok (.getfield 12, 3) := by decide +kernel
theorem dR_plan_82 : decode bR_plan 82 = .ok (.getfield 135, 3) := by decide +kernel
theorem dR_plan_85 : decode bR_plan 85 = .ok (.iload_n 3, 1) := by decide +kernel
theorem dR_plan_86 : decode bR_plan 86 = .ok (.aaload, 1) := by decide +kernel
theorem dR_plan_87 : decode bR_plan 87 = .ok (.iload 5, 2) := by decide +kernel
theorem dR_plan_89 : decode bR_plan 89 = .ok (.iload 4, 2) := by decide +kernel
theorem dR_plan_91 : decode bR_plan 91 = .ok (.iastore, 1) := by decide +kernel
theorem dR_plan_92 : decode bR_plan 92 = .ok (.iload 6, 2) := by decide +kernel
theorem dR_plan_94 : decode bR_plan 94 = .ok (.ireturn, 1) := by decide +kernel
theorem dR_most_0 : decode bR_most 0 = .ok (.aload_n 0, 1) := by decide +kernel
theorem dR_most_1 : decode bR_most 1 = .ok (.getfield 12, 3) := by decide +kernel
theorem dR_most_4 : decode bR_most 4 = .ok (.iload_n 1, 1) := by decide +kernel
theorem dR_most_5 : decode bR_most 5 = .ok (.invokevirtual 60, 3) := by decide +kernel
theorem dR_most_8 : decode bR_most 8 = .ok (.ifCond .eq 22, 3) := by decide +kernel
theorem dR_most_11 : decode bR_most 11 = .ok (.iload_n 2, 1) := by decide +kernel
theorem dR_most_12 : decode bR_most 12 = .ok (.iconst 0, 1) := by decide +kernel
theorem dR_most_13 : decode bR_most 13 = .ok (.iconst 1, 1) := by decide +kernel
theorem dR_most_14 : decode bR_most 14 = .ok (.invokestatic 28, 3) := by decide +kernel
theorem dR_most_17 : decode bR_most 17 = .ok (.ifCond .eq 13, 3) := by decide +kernel
theorem dR_most_20 : decode bR_most 20 = .ok (.iload_n 3, 1) := by decide +kernel
theorem dR_most_21 : decode bR_most 21 = .ok (.iconst 0, 1) := by decide +kernel
theorem dR_most_22 : decode bR_most 22 = .ok (.ldc 138, 2) := by decide +kernel
theorem dR_most_24 : decode bR_most 24 = .ok (.invokestatic 28, 3) := by decide +kernel
theorem dR_most_27 : decode bR_most 27 = .ok (.ifCond .ne 13, 3) := by decide +kernel
theorem dR_most_30 : decode bR_most 30 = .ok (.new 36, 3) := by decide +kernel
theorem dR_most_33 : decode bR_most 33 = .ok (.dup, 1) := by decide +kernel
theorem dR_most_34 : decode bR_most 34 = .ok (.ldc 139, 2) := by decide +kernel
theorem dR_most_36 : decode bR_most 36 = .ok (.invokespecial 40, 3) := by decide +kernel
theorem dR_most_39 : decode bR_most 39 = .ok (.athrow, 1) := by decide +kernel
theorem dR_most_40 : decode bR_most 40 = .ok (.aload_n 0, 1) := by decide +kernel
theorem dR_most_41 : decode bR_most 41 = .ok (.getfield 12, 3) := by decide +kernel
theorem dR_most_44 : decode bR_most 44 = .ok (.getfield 141, 3) := by decide +kernel
theorem dR_most_47 : decode bR_most 47 = .ok (.iload_n 2, 1) := by decide +kernel
theorem dR_most_48 : decode bR_most 48 = .ok (.aaload, 1) := by decide +kernel
theorem dR_most_49 : decode bR_most 49 = .ok (.iload_n 1, 1) := by decide +kernel
theorem dR_most_50 : decode bR_most 50 = .ok (.iaload, 1) := by decide +kernel
theorem dR_most_51 : decode bR_most 51 = .ok (.istore 4, 2) := by decide +kernel
theorem dR_most_53 : decode bR_most 53 = .ok (.aload_n 0, 1) := by decide +kernel
theorem dR_most_54 : decode bR_most 54 = .ok (.getfield 12, 3) := by decide +kernel
theorem dR_most_57 : decode bR_most 57 = .ok (.getfield 141, 3) := by decide +kernel
theorem dR_most_60 : decode bR_most 60 = .ok (.iload_n 2, 1) := by decide +kernel
theorem dR_most_61 : decode bR_most 61 = .ok (.aaload, 1) := by decide +kernel
theorem dR_most_62 : decode bR_most 62 = .ok (.iload_n 1, 1) := by decide +kernel
theorem dR_most_63 : decode bR_most 63 = .ok (.iload_n 3, 1) := by decide +kernel
theorem dR_most_64 : decode bR_most 64 = .ok (.iastore, 1) := by decide +kernel
theorem dR_most_65 : decode bR_most 65 = .ok (.iload 4, 2) := by decide +kernel
theorem dR_most_67 : decode bR_most 67 = .ok (.ireturn, 1) := by decide +kernel
theorem dR_ease_0 : decode bR_ease 0 = .ok (.iload_n 1, 1) := by decide +kernel
theorem dR_ease_1 : decode bR_ease 1 = .ok (.invokestatic 32, 3) := by decide +kernel
theorem dR_ease_4 : decode bR_ease 4 = .ok (.ifCond .eq 15, 3) := by decide +kernel
theorem dR_ease_7 : decode bR_ease 7 = .ok (.iload_n 2, 1) := by decide +kernel
theorem dR_ease_8 : decode bR_ease 8 = .ok (.invokestatic 32, 3) := by decide +kernel
theorem dR_ease_11 : decode bR_ease 11 = .ok (.ifCond .eq 8, 3) := by decide +kernel
theorem dR_ease_14 : decode bR_ease 14 = .ok (.iload_n 1, 1) := by decide +kernel
theorem dR_ease_15 : decode bR_ease 15 = .ok (.iload_n 2, 1) := by decide +kernel
theorem dR_ease_16 : decode bR_ease 16 = .ok (.if_icmp .le 13, 3) := by decide +kernel
theorem dR_ease_19 : decode bR_ease 19 = .ok (.new 36, 3) := by decide +kernel
theorem dR_ease_22 : decode bR_ease 22 = .ok (.dup, 1) := by decide +kernel
theorem dR_ease_23 : decode bR_ease 23 = .ok (.ldc 144, 2) := by decide +kernel
theorem dR_ease_25 : decode bR_ease 25 = .ok (.invokespecial 40, 3) := by decide +kernel
theorem dR_ease_28 : decode bR_ease 28 = .ok (.athrow, 1) := by decide +kernel
theorem dR_ease_29 : decode bR_ease 29 = .ok (.aload_n 0, 1) := by decide +kernel
theorem dR_ease_30 : decode bR_ease 30 = .ok (.getfield 12, 3) := by decide +kernel
theorem dR_ease_33 : decode bR_ease 33 = .ok (.iload_n 1, 1) := by decide +kernel
theorem dR_ease_34 : decode bR_ease 34 = .ok (.putfield 146, 3) := by decide +kernel
theorem dR_ease_37 : decode bR_ease 37 = .ok (.aload_n 0, 1) := by decide +kernel
theorem dR_ease_38 : decode bR_ease 38 = .ok (.getfield 12, 3) := by decide +kernel
theorem dR_ease_41 : decode bR_ease 41 = .ok (.iload_n 2, 1) := by decide +kernel
theorem dR_ease_42 : decode bR_ease 42 = .ok (.putfield 149, 3) := by decide +kernel
theorem dR_ease_45 : decode bR_ease 45 = .ok (.return_, 1) := by decide +kernel
theorem dR_run_0 : decode bR_run 0 = .ok (.iload_n 1, 1) := by decide +kernel
theorem dR_run_1 : decode bR_run 1 = .ok (.iconst 1, 1) := by decide +kernel
theorem dR_run_2 : decode bR_run 2 = .ok (.sipush 400, 3) := by decide +kernel
theorem dR_run_5 : decode bR_run 5 = .ok (.invokestatic 28, 3) := by decide +kernel
theorem dR_run_8 : decode bR_run 8 = .ok (.ifCond .ne 13, 3) := by decide +kernel
theorem dR_run_11 : decode bR_run 11 = .ok (.new 36, 3) := by decide +kernel
theorem dR_run_14 : decode bR_run 14 = .ok (.dup, 1) := by decide +kernel
theorem dR_run_15 : decode bR_run 15 = .ok (.ldc 152, 2) := by decide +kernel
theorem dR_run_17 : decode bR_run 17 = .ok (.invokespecial 40, 3) := by decide +kernel
theorem dR_run_20 : decode bR_run 20 = .ok (.athrow, 1) := by decide +kernel
theorem dR_run_21 : decode bR_run 21 = .ok (.aload_n 0, 1) := by decide +kernel
theorem dR_run_22 : decode bR_run 22 = .ok (.getfield 21, 3) := by decide +kernel
theorem dR_run_25 : decode bR_run 25 = .ok (.getfield 154, 3) := by decide +kernel
theorem dR_run_28 : decode bR_run 28 = .ok (.iload_n 1, 1) := by decide +kernel
theorem dR_run_29 : decode bR_run 29 = .ok (.iadd, 1) := by decide +kernel
theorem dR_run_30 : decode bR_run 30 = .ok (.ldc 157, 2) := by decide +kernel
theorem dR_run_32 : decode bR_run 32 = .ok (.if_icmp .le 13, 3) := by decide +kernel
theorem dR_run_35 : decode bR_run 35 = .ok (.new 47, 3) := by decide +kernel
theorem dR_run_38 : decode bR_run 38 = .ok (.dup, 1) := by decide +kernel
theorem dR_run_39 : decode bR_run 39 = .ok (.ldc 158, 2) := by decide +kernel
theorem dR_run_41 : decode bR_run 41 = .ok (.invokespecial 51, 3) := by decide +kernel
theorem dR_run_44 : decode bR_run 44 = .ok (.athrow, 1) := by decide +kernel
theorem dR_run_45 : decode bR_run 45 = .ok (.iconst 0, 1) := by decide +kernel
theorem dR_run_46 : decode bR_run 46 = .ok (.istore_n 2, 1) := by decide +kernel
theorem dR_run_47 : decode bR_run 47 = .ok (.iload_n 2, 1) := by decide +kernel
theorem dR_run_48 : decode bR_run 48 = .ok (.iload_n 1, 1) := by decide +kernel
theorem dR_run_49 : decode bR_run 49 = .ok (.if_icmp .ge 16, 3) := by decide +kernel
theorem dR_run_52 : decode bR_run 52 = .ok (.aload_n 0, 1) := by decide +kernel
theorem dR_run_53 : decode bR_run 53 = .ok (.getfield 21, 3) := by decide +kernel
theorem dR_run_56 : decode bR_run 56 = .ok (.invokevirtual 160, 3) := by decide +kernel
theorem dR_run_59 : decode bR_run 59 = .ok (.iinc 2 1, 3) := by decide +kernel
theorem dR_run_62 : decode bR_run 62 = .ok (.goto (-15), 3) := by decide +kernel
theorem dR_run_65 : decode bR_run 65 = .ok (.aload_n 0, 1) := by decide +kernel
theorem dR_run_66 : decode bR_run 66 = .ok (.getfield 21, 3) := by decide +kernel
theorem dR_run_69 : decode bR_run 69 = .ok (.getfield 154, 3) := by decide +kernel
theorem dR_run_72 : decode bR_run 72 = .ok (.ireturn, 1) := by decide +kernel
theorem dR_told_0 : decode bR_told 0 = .ok (.aload_n 0, 1) := by decide +kernel
theorem dR_told_1 : decode bR_told 1 = .ok (.getfield 12, 3) := by decide +kernel
theorem dR_told_4 : decode bR_told 4 = .ok (.iload_n 1, 1) := by decide +kernel
theorem dR_told_5 : decode bR_told 5 = .ok (.invokevirtual 60, 3) := by decide +kernel
theorem dR_told_8 : decode bR_told 8 = .ok (.ifCond .eq 12, 3) := by decide +kernel
theorem dR_told_11 : decode bR_told 11 = .ok (.iload_n 2, 1) := by decide +kernel
theorem dR_told_12 : decode bR_told 12 = .ok (.iconst 0, 1) := by decide +kernel
theorem dR_told_13 : decode bR_told 13 = .ok (.iconst 5, 1) := by decide +kernel
theorem dR_told_14 : decode bR_told 14 = .ok (.invokestatic 28, 3) := by decide +kernel
theorem dR_told_17 : decode bR_told 17 = .ok (.ifCond .ne 13, 3) := by decide +kernel
theorem dR_told_20 : decode bR_told 20 = .ok (.new 36, 3) := by decide +kernel
theorem dR_told_23 : decode bR_told 23 = .ok (.dup, 1) := by decide +kernel
theorem dR_told_24 : decode bR_told 24 = .ok (.ldc 163, 2) := by decide +kernel
theorem dR_told_26 : decode bR_told 26 = .ok (.invokespecial 40, 3) := by decide +kernel
theorem dR_told_29 : decode bR_told 29 = .ok (.athrow, 1) := by decide +kernel
theorem dR_told_30 : decode bR_told 30 = .ok (.iload_n 2, 1) := by decide +kernel
theorem dR_told_31 : decode bR_told 31 = .ok (.tableswitch 83 0 4 #[33, 42, 52, 63, 73], 33) := by decide +kernel
theorem dR_told_64 : decode bR_told 64 = .ok (.aload_n 0, 1) := by decide +kernel
theorem dR_told_65 : decode bR_told 65 = .ok (.getfield 21, 3) := by decide +kernel
theorem dR_told_68 : decode bR_told 68 = .ok (.iload_n 1, 1) := by decide +kernel
theorem dR_told_69 : decode bR_told 69 = .ok (.invokevirtual 165, 3) := by decide +kernel
theorem dR_told_72 : decode bR_told 72 = .ok (.lreturn, 1) := by decide +kernel
theorem dR_told_73 : decode bR_told 73 = .ok (.aload_n 0, 1) := by decide +kernel
theorem dR_told_74 : decode bR_told 74 = .ok (.getfield 21, 3) := by decide +kernel
theorem dR_told_77 : decode bR_told 77 = .ok (.getfield 169, 3) := by decide +kernel
theorem dR_told_80 : decode bR_told 80 = .ok (.iload_n 1, 1) := by decide +kernel
theorem dR_told_81 : decode bR_told 81 = .ok (.laload, 1) := by decide +kernel
theorem dR_told_82 : decode bR_told 82 = .ok (.lreturn, 1) := by decide +kernel
theorem dR_told_83 : decode bR_told 83 = .ok (.aload_n 0, 1) := by decide +kernel
theorem dR_told_84 : decode bR_told 84 = .ok (.getfield 21, 3) := by decide +kernel
theorem dR_told_87 : decode bR_told 87 = .ok (.getfield 173, 3) := by decide +kernel
theorem dR_told_90 : decode bR_told 90 = .ok (.iload_n 1, 1) := by decide +kernel
theorem dR_told_91 : decode bR_told 91 = .ok (.iaload, 1) := by decide +kernel
theorem dR_told_92 : decode bR_told 92 = .ok (.i2l, 1) := by decide +kernel
theorem dR_told_93 : decode bR_told 93 = .ok (.lreturn, 1) := by decide +kernel
theorem dR_told_94 : decode bR_told 94 = .ok (.aload_n 0, 1) := by decide +kernel
theorem dR_told_95 : decode bR_told 95 = .ok (.getfield 21, 3) := by decide +kernel
theorem dR_told_98 : decode bR_told 98 = .ok (.getfield 176, 3) := by decide +kernel
theorem dR_told_101 : decode bR_told 101 = .ok (.iload_n 1, 1) := by decide +kernel
theorem dR_told_102 : decode bR_told 102 = .ok (.laload, 1) := by decide +kernel
theorem dR_told_103 : decode bR_told 103 = .ok (.lreturn, 1) := by decide +kernel
theorem dR_told_104 : decode bR_told 104 = .ok (.aload_n 0, 1) := by decide +kernel
theorem dR_told_105 : decode bR_told 105 = .ok (.getfield 21, 3) := by decide +kernel
theorem dR_told_108 : decode bR_told 108 = .ok (.getfield 179, 3) := by decide +kernel
theorem dR_told_111 : decode bR_told 111 = .ok (.iload_n 1, 1) := by decide +kernel
theorem dR_told_112 : decode bR_told 112 = .ok (.laload, 1) := by decide +kernel
theorem dR_told_113 : decode bR_told 113 = .ok (.lreturn, 1) := by decide +kernel
theorem dR_told_114 : decode bR_told 114 = .ok (.aload_n 0, 1) := by decide +kernel
theorem dR_told_115 : decode bR_told 115 = .ok (.getfield 21, 3) := by decide +kernel
theorem dR_told_118 : decode bR_told 118 = .ok (.getfield 182, 3) := by decide +kernel
theorem dR_told_121 : decode bR_told 121 = .ok (.iload_n 1, 1) := by decide +kernel
theorem dR_told_122 : decode bR_told 122 = .ok (.laload, 1) := by decide +kernel
theorem dR_told_123 : decode bR_told 123 = .ok (.lreturn, 1) := by decide +kernel
theorem dR_balance_0 : decode bR_balance 0 = .ok (.iload_n 1, 1) := by decide +kernel
theorem dR_balance_1 : decode bR_balance 1 = .ok (.iconst 0, 1) := by decide +kernel
theorem dR_balance_2 : decode bR_balance 2 = .ok (.bipush 6, 2) := by decide +kernel
theorem dR_balance_4 : decode bR_balance 4 = .ok (.invokestatic 28, 3) := by decide +kernel
theorem dR_balance_7 : decode bR_balance 7 = .ok (.ifCond .ne 13, 3) := by decide +kernel
theorem dR_balance_10 : decode bR_balance 10 = .ok (.new 36, 3) := by decide +kernel
theorem dR_balance_13 : decode bR_balance 13 = .ok (.dup, 1) := by decide +kernel
theorem dR_balance_14 : decode bR_balance 14 = .ok (.ldc 185, 2) := by decide +kernel
theorem dR_balance_16 : decode bR_balance 16 = .ok (.invokespecial 40, 3) := by decide +kernel
theorem dR_balance_19 : decode bR_balance 19 = .ok (.athrow, 1) := by decide +kernel
theorem dR_balance_20 : decode bR_balance 20 = .ok (.iload_n 1, 1) := by decide +kernel
theorem dR_balance_21 : decode bR_balance 21 = .ok (.tableswitch 108 0 5 #[39, 54, 62, 77, 92, 100], 39) := by decide +kernel
theorem dR_balance_60 : decode bR_balance 60 = .ok (.aload_n 0, 1) := by decide +kernel
theorem dR_balance_61 : decode bR_balance 61 = .ok (.getfield 21, 3) := by decide +kernel
theorem dR_balance_64 : decode bR_balance 64 = .ok (.aload_n 0, 1) := by decide +kernel
theorem dR_balance_65 : decode bR_balance 65 = .ok (.getfield 21, 3) := by decide +kernel
theorem dR_balance_68 : decode bR_balance 68 = .ok (.getfield 169, 3) := by decide +kernel
theorem dR_balance_71 : decode bR_balance 71 = .ok (.invokevirtual 187, 3) := by decide +kernel
theorem dR_balance_74 : decode bR_balance 74 = .ok (.lreturn, 1) := by decide +kernel
theorem dR_balance_75 : decode bR_balance 75 = .ok (.aload_n 0, 1) := by decide +kernel
theorem dR_balance_76 : decode bR_balance 76 = .ok (.getfield 21, 3) := by decide +kernel
theorem dR_balance_79 : decode bR_balance 79 = .ok (.getfield 191, 3) := by decide +kernel
theorem dR_balance_82 : decode bR_balance 82 = .ok (.lreturn, 1) := by decide +kernel
theorem dR_balance_83 : decode bR_balance 83 = .ok (.aload_n 0, 1) := by decide +kernel
theorem dR_balance_84 : decode bR_balance 84 = .ok (.getfield 21, 3) := by decide +kernel
theorem dR_balance_87 : decode bR_balance 87 = .ok (.aload_n 0, 1) := by decide +kernel
theorem dR_balance_88 : decode bR_balance 88 = .ok (.getfield 21, 3) := by decide +kernel
theorem dR_balance_91 : decode bR_balance 91 = .ok (.getfield 176, 3) := by decide +kernel
theorem dR_balance_94 : decode bR_balance 94 = .ok (.invokevirtual 187, 3) := by decide +kernel
theorem dR_balance_97 : decode bR_balance 97 = .ok (.lreturn, 1) := by decide +kernel
theorem dR_balance_98 : decode bR_balance 98 = .ok (.aload_n 0, 1) := by decide +kernel
theorem dR_balance_99 : decode bR_balance 99 = .ok (.getfield 21, 3) := by decide +kernel
theorem dR_balance_102 : decode bR_balance 102 = .ok (.aload_n 0, 1) := by decide +kernel
theorem dR_balance_103 : decode bR_balance 103 = .ok (.getfield 21, 3) := by decide +kernel
theorem dR_balance_106 : decode bR_balance 106 = .ok (.getfield 179, 3) := by decide +kernel
theorem dR_balance_109 : decode bR_balance 109 = .ok (.invokevirtual 187, 3) := by decide +kernel
theorem dR_balance_112 : decode bR_balance 112 = .ok (.lreturn, 1) := by decide +kernel
theorem dR_balance_113 : decode bR_balance 113 = .ok (.aload_n 0, 1) := by decide +kernel
theorem dR_balance_114 : decode bR_balance 114 = .ok (.getfield 21, 3) := by decide +kernel
theorem dR_balance_117 : decode bR_balance 117 = .ok (.getfield 195, 3) := by decide +kernel
theorem dR_balance_120 : decode bR_balance 120 = .ok (.lreturn, 1) := by decide +kernel
theorem dR_balance_121 : decode bR_balance 121 = .ok (.aload_n 0, 1) := by decide +kernel
theorem dR_balance_122 : decode bR_balance 122 = .ok (.getfield 21, 3) := by decide +kernel
theorem dR_balance_125 : decode bR_balance 125 = .ok (.getfield 198, 3) := by decide +kernel
theorem dR_balance_128 : decode bR_balance 128 = .ok (.lreturn, 1) := by decide +kernel
theorem dR_balance_129 : decode bR_balance 129 = .ok (.aload_n 0, 1) := by decide +kernel
theorem dR_balance_130 : decode bR_balance 130 = .ok (.getfield 21, 3) := by decide +kernel
theorem dR_balance_133 : decode bR_balance 133 = .ok (.getfield 201, 3) := by decide +kernel
theorem dR_balance_136 : decode bR_balance 136 = .ok (.lreturn, 1) := by decide +kernel
theorem dR_early_0 : decode bR_early 0 = .ok (.aload_n 0, 1) := by decide +kernel
theorem dR_early_1 : decode bR_early 1 = .ok (.getfield 12, 3) := by decide +kernel
theorem dR_early_4 : decode bR_early 4 = .ok (.iload_n 1, 1) := by decide +kernel
theorem dR_early_5 : decode bR_early 5 = .ok (.invokevirtual 60, 3) := by decide +kernel
theorem dR_early_8 : decode bR_early 8 = .ok (.ifCond .eq 17, 3) := by decide +kernel
theorem dR_early_11 : decode bR_early 11 = .ok (.iload_n 2, 1) := by decide +kernel
theorem dR_early_12 : decode bR_early 12 = .ok (.invokestatic 114, 3) := by decide +kernel
theorem dR_early_15 : decode bR_early 15 = .ok (.ifCond .eq 10, 3) := by decide +kernel
theorem dR_early_18 : decode bR_early 18 = .ok (.iload_n 3, 1) := by decide +kernel
theorem dR_early_19 : decode bR_early 19 = .ok (.invokestatic 32, 3) := by decide +kernel
theorem dR_early_22 : decode bR_early 22 = .ok (.ifCond .ne 13, 3) := by decide +kernel
theorem dR_early_25 : decode bR_early 25 = .ok (.new 36, 3) := by decide +kernel
theorem dR_early_28 : decode bR_early 28 = .ok (.dup, 1) := by decide +kernel
theorem dR_early_29 : decode bR_early 29 = .ok (.ldc 204, 2) := by decide +kernel
theorem dR_early_31 : decode bR_early 31 = .ok (.invokespecial 40, 3) := by decide +kernel
theorem dR_early_34 : decode bR_early 34 = .ok (.athrow, 1) := by decide +kernel
theorem dR_early_35 : decode bR_early 35 = .ok (.aload_n 0, 1) := by decide +kernel
theorem dR_early_36 : decode bR_early 36 = .ok (.getfield 21, 3) := by decide +kernel
theorem dR_early_39 : decode bR_early 39 = .ok (.iload_n 2, 1) := by decide +kernel
theorem dR_early_40 : decode bR_early 40 = .ok (.invokevirtual 206, 3) := by decide +kernel
theorem dR_early_43 : decode bR_early 43 = .ok (.istore 4, 2) := by decide +kernel
theorem dR_early_45 : decode bR_early 45 = .ok (.iconst 0, 1) := by decide +kernel
theorem dR_early_46 : decode bR_early 46 = .ok (.istore 5, 2) := by decide +kernel
theorem dR_early_48 : decode bR_early 48 = .ok (.iload 5, 2) := by decide +kernel
theorem dR_early_50 : decode bR_early 50 = .ok (.bipush 24, 2) := by decide +kernel
theorem dR_early_52 : decode bR_early 52 = .ok (.if_icmp .gt 101, 3) := by decide +kernel
theorem dR_early_55 : decode bR_early 55 = .ok (.iload 4, 2) := by decide +kernel
theorem dR_early_57 : decode bR_early 57 = .ok (.iload 5, 2) := by decide +kernel
theorem dR_early_59 : decode bR_early 59 = .ok (.iconst 4, 1) := by decide +kernel
theorem dR_early_60 : decode bR_early 60 = .ok (.imul, 1) := by decide +kernel
theorem dR_early_61 : decode bR_early 61 = .ok (.isub, 1) := by decide +kernel
theorem dR_early_62 : decode bR_early 62 = .ok (.istore 6, 2) := by decide +kernel
theorem dR_early_64 : decode bR_early 64 = .ok (.aload_n 0, 1) := by decide +kernel
theorem dR_early_65 : decode bR_early 65 = .ok (.getfield 25, 3) := by decide +kernel
theorem dR_early_68 : decode bR_early 68 = .ok (.aload_n 0, 1) := by decide +kernel
theorem dR_early_69 : decode bR_early 69 = .ok (.getfield 21, 3) := by decide +kernel
theorem dR_early_72 : decode bR_early 72 = .ok (.invokevirtual 209, 3) := by decide +kernel
theorem dR_early_75 : decode bR_early 75 = .ok (.aload_n 0, 1) := by decide +kernel
theorem dR_early_76 : decode bR_early 76 = .ok (.getfield 25, 3) := by decide +kernel
theorem dR_early_79 : decode bR_early 79 = .ok (.iload_n 1, 1) := by decide +kernel
theorem dR_early_80 : decode bR_early 80 = .ok (.iload_n 3, 1) := by decide +kernel
theorem dR_early_81 : decode bR_early 81 = .ok (.iload 6, 2) := by decide +kernel
theorem dR_early_83 : decode bR_early 83 = .ok (.invokevirtual 213, 3) := by decide +kernel
theorem dR_early_86 : decode bR_early 86 = .ok (.aload_n 0, 1) := by decide +kernel
theorem dR_early_87 : decode bR_early 87 = .ok (.getfield 21, 3) := by decide +kernel
theorem dR_early_90 : decode bR_early 90 = .ok (.getfield 154, 3) := by decide +kernel
theorem dR_early_93 : decode bR_early 93 = .ok (.istore 7, 2) := by decide +kernel
theorem dR_early_95 : decode bR_early 95 = .ok (.iload 7, 2) := by decide +kernel
theorem dR_early_97 : decode bR_early 97 = .ok (.iload 4, 2) := by decide +kernel
theorem dR_early_99 : decode bR_early 99 = .ok (.if_icmp .ge 16, 3) := by decide +kernel
theorem dR_early_102 : decode bR_early 102 = .ok (.aload_n 0, 1) := by decide +kernel
theorem dR_early_103 : decode bR_early 103 = .ok (.getfield 25, 3) := by decide +kernel
theorem dR_early_106 : decode bR_early 106 = .ok (.invokevirtual 160, 3) := by decide +kernel
theorem dR_early_109 : decode bR_early 109 = .ok (.iinc 7 1, 3) := by decide +kernel
theorem dR_early_112 : decode bR_early 112 = .ok (.goto (-17), 3) := by decide +kernel
theorem dR_early_115 : decode bR_early 115 = .ok (.aload_n 0, 1) := by decide +kernel
theorem dR_early_116 : decode bR_early 116 = .ok (.getfield 25, 3) := by decide +kernel
theorem dR_early_119 : decode bR_early 119 = .ok (.iload_n 1, 1) := by decide +kernel
theorem dR_early_120 : decode bR_early 120 = .ok (.invokevirtual 165, 3) := by decide +kernel
theorem dR_early_123 : decode bR_early 123 = .ok (.iload_n 3, 1) := by decide +kernel
theorem dR_early_124 : decode bR_early 124 = .ok (.i2l, 1) := by decide +kernel
theorem dR_early_125 : decode bR_early 125 = .ok (.lcmp, 1) := by decide +kernel
theorem dR_early_126 : decode bR_early 126 = .ok (.ifCond .lt 6, 3) := by decide +kernel
theorem dR_early_129 : decode bR_early 129 = .ok (.iload 5, 2) := by decide +kernel
theorem dR_early_131 : decode bR_early 131 = .ok (.ireturn, 1) := by decide +kernel
