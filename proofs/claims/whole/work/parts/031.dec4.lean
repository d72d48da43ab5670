theorem dM_strong_92 : decode bM_strong 92 = .ok (.iconst 0, 1) := by decide +kernel
theorem dM_strong_93 : decode bM_strong 93 = .ok (.istore 6, 2) := by decide +kernel
theorem dM_strong_95 : decode bM_strong 95 = .ok (.iload 6, 2) := by decide +kernel
theorem dM_strong_97 : decode bM_strong 97 = .ok (.iload_n 2, 1) := by decide +kernel
theorem dM_strong_98 : decode bM_strong 98 = .ok (.if_icmp .ge 13, 3) := by decide +kernel
theorem dM_strong_101 : decode bM_strong 101 = .ok (.aload_n 0, 1) := by decide +kernel
theorem dM_strong_102 : decode bM_strong 102 = .ok (.invokevirtual 157, 3) := by decide +kernel
theorem dM_strong_105 : decode bM_strong 105 = .ok (.iinc 6 1, 3) := by decide +kernel
theorem dM_strong_108 : decode bM_strong 108 = .ok (.goto (-13), 3) := by decide +kernel
theorem dM_strong_111 : decode bM_strong 111 = .ok (.aload_n 0, 1) := by decide +kernel
theorem dM_strong_112 : decode bM_strong 112 = .ok (.getfield 152, 3) := by decide +kernel
theorem dM_strong_115 : decode bM_strong 115 = .ok (.ifCond .eq 8, 3) := by decide +kernel
theorem dM_strong_118 : decode bM_strong 118 = .ok (.ldc 81, 2) := by decide +kernel
theorem dM_strong_120 : decode bM_strong 120 = .ok (.goto 5, 3) := by decide +kernel
theorem dM_strong_123 : decode bM_strong 123 = .ok (.iload 5, 2) := by decide +kernel
theorem dM_strong_125 : decode bM_strong 125 = .ok (.istore 4, 2) := by decide +kernel
theorem dM_strong_127 : decode bM_strong 127 = .ok (.aload_n 0, 1) := by decide +kernel
theorem dM_strong_128 : decode bM_strong 128 = .ok (.invokevirtual 163, 3) := by decide +kernel
theorem dM_strong_131 : decode bM_strong 131 = .ok (.iinc 5 1000, 6) := by decide +kernel
theorem dM_strong_137 : decode bM_strong 137 = .ok (.goto (-86), 3) := by decide +kernel
theorem dM_strong_140 : decode bM_strong 140 = .ok (.aload_n 0, 1) := by decide +kernel
theorem dM_strong_141 : decode bM_strong 141 = .ok (.getfield 29, 3) := by decide +kernel
theorem dM_strong_144 : decode bM_strong 144 = .ok (.iload_n 1, 1) := by decide +kernel
theorem dM_strong_145 : decode bM_strong 145 = .ok (.iload_n 3, 1) := by decide +kernel
theorem dM_strong_146 : decode bM_strong 146 = .ok (.iastore, 1) := by decide +kernel
theorem dM_strong_147 : decode bM_strong 147 = .ok (.iload 4, 2) := by decide +kernel
theorem dM_strong_149 : decode bM_strong 149 = .ok (.ireturn, 1) := by decide +kernel
theorem dC_init_0 : decode bC_init 0 = .ok (.aload_n 0, 1) := by decide +kernel
theorem dC_init_1 : decode bC_init 1 = .ok (.invokespecial 3, 3) := by decide +kernel
theorem dC_init_4 : decode bC_init 4 = .ok (.aload_n 0, 1) := by decide +kernel
theorem dC_init_5 : decode bC_init 5 = .ok (.bipush 8, 2) := by decide +kernel
theorem dC_init_7 : decode bC_init 7 = .ok (.newarray .long, 2) := by decide +kernel
theorem dC_init_9 : decode bC_init 9 = .ok (.putfield 9, 3) := by decide +kernel
theorem dC_init_12 : decode bC_init 12 = .ok (.aload_n 0, 1) := by decide +kernel
theorem dC_init_13 : decode bC_init 13 = .ok (.bipush 8, 2) := by decide +kernel
theorem dC_init_15 : decode bC_init 15 = .ok (.newarray .long, 2) := by decide +kernel
theorem dC_init_17 : decode bC_init 17 = .ok (.putfield 15, 3) := by decide +kernel
theorem dC_init_20 : decode bC_init 20 = .ok (.aload_n 0, 1) := by decide +kernel
theorem dC_init_21 : decode bC_init 21 = .ok (.bipush 8, 2) := by decide +kernel
theorem dC_init_23 : decode bC_init 23 = .ok (.newarray .long, 2) := by decide +kernel
theorem dC_init_25 : decode bC_init 25 = .ok (.putfield 18, 3) := by decide +kernel
theorem dC_init_28 : decode bC_init 28 = .ok (.aload_n 0, 1) := by decide +kernel
theorem dC_init_29 : decode bC_init 29 = .ok (.bipush 8, 2) := by decide +kernel
theorem dC_init_31 : decode bC_init 31 = .ok (.newarray .long, 2) := by decide +kernel
theorem dC_init_33 : decode bC_init 33 = .ok (.putfield 21, 3) := by decide +kernel
theorem dC_init_36 : decode bC_init 36 = .ok (.aload_n 0, 1) := by decide +kernel
theorem dC_init_37 : decode bC_init 37 = .ok (.bipush 8, 2) := by decide +kernel
theorem dC_init_39 : decode bC_init 39 = .ok (.newarray .long, 2) := by decide +kernel
theorem dC_init_41 : decode bC_init 41 = .ok (.putfield 24, 3) := by decide +kernel
theorem dC_init_44 : decode bC_init 44 = .ok (.aload_n 0, 1) := by decide +kernel
theorem dC_init_45 : decode bC_init 45 = .ok (.bipush 8, 2) := by decide +kernel
theorem dC_init_47 : decode bC_init 47 = .ok (.newarray .int, 2) := by decide +kernel
theorem dC_init_49 : decode bC_init 49 = .ok (.putfield 27, 3) := by decide +kernel
theorem dC_init_52 : decode bC_init 52 = .ok (.aload_n 0, 1) := by decide +kernel
theorem dC_init_53 : decode bC_init 53 = .ok (.iconst (-1), 1) := by decide +kernel
theorem dC_init_54 : decode bC_init 54 = .ok (.putfield 31, 3) := by decide +kernel
theorem dC_init_57 : decode bC_init 57 = .ok (.aload_n 0, 1) := by decide +kernel
theorem dC_init_58 : decode bC_init 58 = .ok (.iconst (-1), 1) := by decide +kernel
theorem dC_init_59 : decode bC_init 59 = .ok (.putfield 35, 3) := by decide +kernel
theorem dC_init_62 : decode bC_init 62 = .ok (.aload_n 0, 1) := by decide +kernel
theorem dC_init_63 : decode bC_init 63 = .ok (.aload_n 1, 1) := by decide +kernel
theorem dC_init_64 : decode bC_init 64 = .ok (.putfield 38, 3) := by decide +kernel
theorem dC_init_67 : decode bC_init 67 = .ok (.return_, 1) := by decide +kernel
theorem dC_beginRoom_0 : decode bC_beginRoom 0 = .ok (.aload_n 0, 1) := by decide +kernel
theorem dC_beginRoom_1 : decode bC_beginRoom 1 = .ok (.getfield 9, 3) := by decide +kernel
theorem dC_beginRoom_4 : decode bC_beginRoom 4 = .ok (.iload_n 1, 1) := by decide +kernel
theorem dC_beginRoom_5 : decode bC_beginRoom 5 = .ok (.lload_n 2, 1) := by decide +kernel
theorem dC_beginRoom_6 : decode bC_beginRoom 6 = .ok (.lastore, 1) := by decide +kernel
theorem dC_beginRoom_7 : decode bC_beginRoom 7 = .ok (.aload_n 0, 1) := by decide +kernel
theorem dC_beginRoom_8 : decode bC_beginRoom 8 = .ok (.dup, 1) := by decide +kernel
theorem dC_beginRoom_9 : decode bC_beginRoom 9 = .ok (.getfield 42, 3) := by decide +kernel
theorem dC_beginRoom_12 : decode bC_beginRoom 12 = .ok (.lload_n 2, 1) := by decide +kernel
theorem dC_beginRoom_13 : decode bC_beginRoom 13 = .ok (.ladd, 1) := by decide +kernel
theorem dC_beginRoom_14 : decode bC_beginRoom 14 = .ok (.putfield 42, 3) := by decide +kernel
theorem dC_beginRoom_17 : decode bC_beginRoom 17 = .ok (.return_, 1) := by decide +kernel
theorem dC_copyOf_0 : decode bC_copyOf 0 = .ok (.aload_n 0, 1) := by decide +kernel
theorem dC_copyOf_1 : decode bC_copyOf 1 = .ok (.aload_n 1, 1) := by decide +kernel
theorem dC_copyOf_2 : decode bC_copyOf 2 = .ok (.getfield 46, 3) := by decide +kernel
theorem dC_copyOf_5 : decode bC_copyOf 5 = .ok (.putfield 46, 3) := by decide +kernel
theorem dC_copyOf_8 : decode bC_copyOf 8 = .ok (.aload_n 1, 1) := by decide +kernel
theorem dC_copyOf_9 : decode bC_copyOf 9 = .ok (.getfield 9, 3) := by decide +kernel
theorem dC_copyOf_12 : decode bC_copyOf 12 = .ok (.iconst 0, 1) := by decide +kernel
theorem dC_copyOf_13 : decode bC_copyOf 13 = .ok (.aload_n 0, 1) := by decide +kernel
theorem dC_copyOf_14 : decode bC_copyOf 14 = .ok (.getfield 9, 3) := by decide +kernel
theorem dC_copyOf_17 : decode bC_copyOf 17 = .ok (.iconst 0, 1) := by decide +kernel
theorem dC_copyOf_18 : decode bC_copyOf 18 = .ok (.bipush 8, 2) := by decide +kernel
theorem dC_copyOf_20 : decode bC_copyOf 20 = .ok (.invokestatic 49, 3) := by decide +kernel
theorem dC_copyOf_23 : decode bC_copyOf 23 = .ok (.aload_n 0, 1) := by decide +kernel
theorem dC_copyOf_24 : decode bC_copyOf 24 = .ok (.iconst (-1), 1) := by decide +kernel
theorem dC_copyOf_25 : decode bC_copyOf 25 = .ok (.putfield 31, 3) := by decide +kernel
theorem dC_copyOf_28 : decode bC_copyOf 28 = .ok (.aload_n 0, 1) := by decide +kernel
theorem dC_copyOf_29 : decode bC_copyOf 29 = .ok (.iconst (-1), 1) := by decide +kernel
theorem dC_copyOf_30 : decode bC_copyOf 30 = .ok (.putfield 35, 3) := by decide +kernel
theorem dC_copyOf_33 : decode bC_copyOf 33 = .ok (.aload_n 0, 1) := by decide +kernel
theorem dC_copyOf_34 : decode bC_copyOf 34 = .ok (.iconst 0, 1) := by decide +kernel
theorem dC_copyOf_35 : decode bC_copyOf 35 = .ok (.putfield 55, 3) := by decide +kernel
theorem dC_copyOf_38 : decode bC_copyOf 38 = .ok (.return_, 1) := by decide +kernel
theorem dC_trySet_0 : decode bC_trySet 0 = .ok (.aload_n 0, 1) := by decide +kernel
theorem dC_trySet_1 : decode bC_trySet 1 = .ok (.iload_n 1, 1) := by decide +kernel
theorem dC_trySet_2 : decode bC_trySet 2 = .ok (.putfield 31, 3) := by decide +kernel
theorem dC_trySet_5 : decode bC_trySet 5 = .ok (.aload_n 0, 1) := by decide +kernel
theorem dC_trySet_6 : decode bC_trySet 6 = .ok (.iload_n 2, 1) := by decide +kernel
theorem dC_trySet_7 : decode bC_trySet 7 = .ok (.putfield 59, 3) := by decide +kernel
theorem dC_trySet_10 : decode bC_trySet 10 = .ok (.aload_n 0, 1) := by decide +kernel
theorem dC_trySet_11 : decode bC_trySet 11 = .ok (.iload_n 3, 1) := by decide +kernel
theorem dC_trySet_12 : decode bC_trySet 12 = .ok (.putfield 62, 3) := by decide +kernel
theorem dC_trySet_15 : decode bC_trySet 15 = .ok (.return_, 1) := by decide +kernel
theorem dC_tryMost_0 : decode bC_tryMost 0 = .ok (.aload_n 0, 1) := by decide +kernel
theorem dC_tryMost_1 : decode bC_tryMost 1 = .ok (.iload_n 1, 1) := by decide +kernel
theorem dC_tryMost_2 : decode bC_tryMost 2 = .ok (.putfield 35, 3) := by decide +kernel
theorem dC_tryMost_5 : decode bC_tryMost 5 = .ok (.aload_n 0, 1) := by decide +kernel
theorem dC_tryMost_6 : decode bC_tryMost 6 = .ok (.iload_n 2, 1) := by decide +kernel
theorem dC_tryMost_7 : decode bC_tryMost 7 = .ok (.putfield 65, 3) := by decide +kernel
theorem dC_tryMost_10 : decode bC_tryMost 10 = .ok (.return_, 1) := by decide +kernel
theorem dC_warmthOf_0 : decode bC_warmthOf 0 = .ok (.aload_n 0, 1) := by decide +kernel
theorem dC_warmthOf_1 : decode bC_warmthOf 1 = .ok (.getfield 38, 3) := by decide +kernel
theorem dC_warmthOf_4 : decode bC_warmthOf 4 = .ok (.getfield 68, 3) := by decide +kernel
theorem dC_warmthOf_7 : decode bC_warmthOf 7 = .ok (.iload_n 1, 1) := by decide +kernel
theorem dC_warmthOf_8 : decode bC_warmthOf 8 = .ok (.iaload, 1) := by decide +kernel
theorem dC_warmthOf_9 : decode bC_warmthOf 9 = .ok (.i2l, 1) := by decide +kernel
theorem dC_warmthOf_10 : decode bC_warmthOf 10 = .ok (.lstore_n 2, 1) := by decide +kernel
theorem dC_warmthOf_11 : decode bC_warmthOf 11 = .ok (.lload_n 2, 1) := by decide +kernel
theorem dC_warmthOf_12 : decode bC_warmthOf 12 = .ok (.lconst 1, 1) := by decide +kernel
theorem dC_warmthOf_13 : decode bC_warmthOf 13 = .ok (.lcmp, 1) := by decide +kernel
theorem dC_warmthOf_14 : decode bC_warmthOf 14 = .ok (.ifCond .ge 7, 3) := by decide +kernel
theorem dC_warmthOf_17 : decode bC_warmthOf 17 = .ok (.lconst 0, 1) := by decide +kernel
theorem dC_warmthOf_18 : decode bC_warmthOf 18 = .ok (.goto 13, 3) := by decide +kernel
theorem dC_warmthOf_21 : decode bC_warmthOf 21 = .ok (.aload_n 0, 1) := by decide +kernel
theorem dC_warmthOf_22 : decode bC_warmthOf 22 = .ok (.getfield 9, 3) := by decide +kernel
theorem dC_warmthOf_25 : decode bC_warmthOf 25 = .ok (.iload_n 1, 1) := by decide +kernel
theorem dC_warmthOf_26 : decode bC_warmthOf 26 = .ok (.laload, 1) := by decide +kernel
theorem dC_warmthOf_27 : decode bC_warmthOf 27 = .ok (.lload_n 2, 1) := by decide +kernel
theorem dC_warmthOf_28 : decode bC_warmthOf 28 = .ok (.invokestatic 73, 3) := by decide +kernel
theorem dC_warmthOf_31 : decode bC_warmthOf 31 = .ok (.lreturn, 1) := by decide +kernel
theorem dC_sumOf_0 : decode bC_sumOf 0 = .ok (.lconst 0, 1) := by decide +kernel
theorem dC_sumOf_1 : decode bC_sumOf 1 = .ok (.lstore_n 2, 1) := by decide +kernel
theorem dC_sumOf_2 : decode bC_sumOf 2 = .ok (.iconst 0, 1) := by decide +kernel
theorem dC_sumOf_3 : decode bC_sumOf 3 = .ok (.istore 4, 2) := by decide +kernel
theorem dC_sumOf_5 : decode bC_sumOf 5 = .ok (.iload 4, 2) := by decide +kernel
theorem dC_sumOf_7 : decode bC_sumOf 7 = .ok (.aload_n 0, 1) := by decide +kernel
theorem dC_sumOf_8 : decode bC_sumOf 8 = .ok (.getfield 38, 3) := by decide +kernel
theorem dC_sumOf_11 : decode bC_sumOf 11 = .ok (.getfield 79, 3) := by decide +kernel
theorem dC_sumOf_14 : decode bC_sumOf 14 = .ok (.if_icmp .ge 16, 3) := by decide +kernel
theorem dC_sumOf_17 : decode bC_sumOf 17 = .ok (.lload_n 2, 1) := by decide +kernel
theorem dC_sumOf_18 : decode bC_sumOf 18 = .ok (.aload_n 1, 1) := by decide +kernel
theorem dC_sumOf_19 : decode bC_sumOf 19 = .ok (.iload 4, 2) := by decide +kernel
theorem dC_sumOf_21 : decode bC_sumOf 21 = .ok (.laload, 1) := by decide +kernel
theorem dC_sumOf_22 : decode bC_sumOf 22 = .ok (.ladd, 1) := by decide +kernel
theorem dC_sumOf_23 : decode bC_sumOf 23 = .ok (.lstore_n 2, 1) := by decide +kernel
theorem dC_sumOf_24 : decode bC_sumOf 24 = .ok (.iinc 4 1, 3) := by decide +kernel
theorem dC_sumOf_27 : decode bC_sumOf 27 = .ok (.goto (-22), 3) := by decide +kernel
theorem dC_sumOf_30 : decode bC_sumOf 30 = .ok (.lload_n 2, 1) := by decide +kernel
theorem dC_sumOf_31 : decode bC_sumOf 31 = .ok (.lreturn, 1) := by decide +kernel
theorem dC_nextBeginning_0 : decode bC_nextBeginning 0 = .ok (.iload_n 1, 1) := by decide +kernel
theorem dC_nextBeginning_1 : decode bC_nextBeginning 1 = .ok (.iconst 4, 1) := by decide +kernel
theorem dC_nextBeginning_2 : decode bC_nextBeginning 2 = .ok (.imul, 1) := by decide +kernel
theorem dC_nextBeginning_3 : decode bC_nextBeginning 3 = .ok (.aload_n 0, 1) := by decide +kernel
theorem dC_nextBeginning_4 : decode bC_nextBeginning 4 = .ok (.getfield 46, 3) := by decide +kernel
theorem dC_nextBeginning_7 : decode bC_nextBeginning 7 = .ok (.isub, 1) := by decide +kernel
theorem dC_nextBeginning_8 : decode bC_nextBeginning 8 = .ok (.bipush 96, 2) := by decide +kernel
theorem dC_nextBeginning_10 : decode bC_nextBeginning 10 = .ok (.invokestatic 82, 3) := by decide +kernel
theorem dC_nextBeginning_13 : decode bC_nextBeginning 13 = .ok (.istore_n 2, 1) := by decide +kernel
theorem dC_nextBeginning_14 : decode bC_nextBeginning 14 = .ok (.aload_n 0, 1) := by decide +kernel
theorem dC_nextBeginning_15 : decode bC_nextBeginning 15 = .ok (.getfield 46, 3) := by decide +kernel
theorem dC_nextBeginning_18 : decode bC_nextBeginning 18 = .ok (.iload_n 2, 1) := by decide +kernel
theorem dC_nextBeginning_19 : decode bC_nextBeginning 19 = .ok (.ifCond .ne 8, 3) := by decide +kernel
theorem dC_nextBeginning_22 : decode bC_nextBeginning 22 = .ok (.bipush 96, 2) := by decide +kernel
theorem dC_nextBeginning_24 : decode bC_nextBeginning 24 = .ok (.goto 4, 3) := by decide +kernel
theorem dC_nextBeginning_27 : decode bC_nextBeginning 27 = .ok (.iload_n 2, 1) := by decide +kernel
theorem dC_nextBeginning_28 : decode bC_nextBeginning 28 = .ok (.iadd, 1) := by decide +kernel
theorem dC_nextBeginning_29 : decode bC_nextBeginning 29 = .ok (.ireturn, 1) := by decide +kernel
theorem dC_staysUp_0 : decode bC_staysUp 0 = .ok (.iconst 0, 1) := by decide +kernel
theorem dC_staysUp_1 : decode bC_staysUp 1 = .ok (.istore_n 3, 1) := by decide +kernel
theorem dC_staysUp_2 : decode bC_staysUp 2 = .ok (.iload_n 3, 1) := by decide +kernel
theorem dC_staysUp_3 : decode bC_staysUp 3 = .ok (.iload_n 2, 1) := by decide +kernel
theorem dC_staysUp_4 : decode bC_staysUp 4 = .ok (.if_icmp .ge 55, 3) := by decide +kernel
theorem dC_staysUp_7 : decode bC_staysUp 7 = .ok (.aload_n 0, 1) := by decide +kernel
theorem dC_staysUp_8 : decode bC_staysUp 8 = .ok (.invokevirtual 86, 3) := by decide +kernel
theorem dC_staysUp_11 : decode bC_staysUp 11 = .ok (.istore 4, 2) := by decide +kernel
theorem dC_staysUp_13 : decode bC_staysUp 13 = .ok (.aload_n 0, 1) := by decide +kernel
theorem dC_staysUp_14 : decode bC_staysUp 14 = .ok (.invokevirtual 90, 3) := by decide +kernel
theorem dC_staysUp_17 : decode bC_staysUp 17 = .ok (.aload_n 0, 1) := by decide +kernel
theorem dC_staysUp_18 : decode bC_staysUp 18 = .ok (.invokevirtual 93, 3) := by decide +kernel
theorem dC_staysUp_21 : decode bC_staysUp 21 = .ok (.ifCond .eq 32, 3) := by decide +kernel
theorem dC_staysUp_24 : decode bC_staysUp 24 = .ok (.aload_n 0, 1) := by decide +kernel
theorem dC_staysUp_25 : decode bC_staysUp 25 = .ok (.iload_n 1, 1) := by decide +kernel
theorem dC_staysUp_26 : decode bC_staysUp 26 = .ok (.iload 4, 2) := by decide +kernel
theorem dC_staysUp_28 : decode bC_staysUp 28 = .ok (.invokevirtual 97, 3) := by decide +kernel
theorem dC_staysUp_31 : decode bC_staysUp 31 = .ok (.ifCond .eq 22, 3) := by decide +kernel
theorem dC_staysUp_34 : decode bC_staysUp 34 = .ok (.aload_n 0, 1) := by decide +kernel
theorem dC_staysUp_35 : decode bC_staysUp 35 = .ok (.iload_n 1, 1) := by decide +kernel
theorem dC_staysUp_36 : decode bC_staysUp 36 = .ok (.invokevirtual 101, 3) := by decide +kernel
theorem dC_staysUp_39 : decode bC_staysUp 39 = .ok (.aload_n 0, 1) := by decide +kernel
theorem dC_staysUp_40 : decode bC_staysUp 40 = .ok (.getfield 38, 3) := by decide +kernel
theorem dC_staysUp_43 : decode bC_staysUp 43 = .ok (.getfield 105, 3) := by decide +kernel
theorem dC_staysUp_46 : decode bC_staysUp 46 = .ok (.i2l, 1) := by decide +kernel
theorem dC_staysUp_47 : decode bC_staysUp 47 = .ok (.lcmp, 1) := by decide +kernel
theorem dC_staysUp_48 : decode bC_staysUp 48 = .ok (.ifCond .ge 5, 3) := by decide +kernel
theorem dC_staysUp_51 : decode bC_staysUp 51 = .ok (.iconst 0, 1) := by decide +kernel
theorem dC_staysUp_52 : decode bC_staysUp 52 = .ok (.ireturn, 1) := by decide +kernel
theorem dC_staysUp_53 : decode bC_staysUp 53 = .ok (.iinc 3 1, 3) := by decide +kernel
theorem dC_staysUp_56 : decode bC_staysUp 56 = .ok (.goto (-54), 3) := by decide +kernel
theorem dC_staysUp_59 : decode bC_staysUp 59 = .ok (.iconst 1, 1) := by decide +kernel
theorem dC_staysUp_60 : decode bC_staysUp 60 = .ok (.ireturn, 1) := by decide +kernel
theorem dC_step_0 : decode bC_step 0 = .ok (.aload_n 0, 1) := by decide +kernel
theorem dC_step_1 : decode bC_step 1 = .ok (.invokevirtual 86, 3) := by decide +kernel
theorem dC_step_4 : decode bC_step 4 = .ok (.istore_n 1, 1) := by decide +kernel
theorem dC_step_5 : decode bC_step 5 = .ok (.iconst 0, 1) := by decide +kernel
theorem dC_step_6 : decode bC_step 6 = .ok (.istore_n 2, 1) := by decide +kernel
theorem dC_step_7 : decode bC_step 7 = .ok (.iload_n 2, 1) := by decide +kernel
theorem dC_step_8 : decode bC_step 8 = .ok (.aload_n 0, 1) := by decide +kernel
theorem dC_step_9 : decode bC_step 9 = .ok (.getfield 38, 3) := by decide +kernel
theorem dC_step_12 : decode bC_step 12 = .ok (.getfield 79, 3) := by decide +kernel
theorem dC_step_15 : decode bC_step 15 = .ok (.if_icmp .ge 20, 3) := by decide +kernel
theorem dC_step_18 : decode bC_step 18 = .ok (.aload_n 0, 1) := by decide +kernel
theorem dC_step_19 : decode bC_step 19 = .ok (.getfield 15, 3) := by decide +kernel
theorem dC_step_22 : decode bC_step 22 = .ok (.iload_n 2, 1) := by decide +kernel
theorem dC_step_23 : decode bC_step 23 = .ok (.aload_n 0, 1) := by decide +kernel
theorem dC_step_24 : decode bC_step 24 = .ok (.iload_n 2, 1) := by decide +kernel
theorem dC_step_25 : decode bC_step 25 = .ok (.invokevirtual 101, 3) := by decide +kernel
theorem dC_step_28 : decode bC_step 28 = .ok (.lastore, 1) := by decide +kernel
theorem dC_step_29 : decode bC_step 29 = .ok (.iinc 2 1, 3) := by decide +kernel
theorem dC_step_32 : decode bC_step 32 = .ok (.goto (-25), 3) := by decide +kernel
theorem dC_step_35 : decode bC_step 35 = .ok (.aload_n 0, 1) := by decide +kernel
theorem dC_step_36 : decode bC_step 36 = .ok (.iload_n 1, 1) := by decide +kernel
theorem dC_step_37 : decode bC_step 37 = .ok (.invokevirtual 108, 3) := by decide +kernel
theorem dC_step_40 : decode bC_step 40 = .ok (.aload_n 0, 1) := by decide +kernel
theorem dC_step_41 : decode bC_step 41 = .ok (.iload_n 1, 1) := by decide +kernel
theorem dC_step_42 : decode bC_step 42 = .ok (.invokevirtual 112, 3) := by decide +kernel
theorem dC_step_45 : decode bC_step 45 = .ok (.iconst 0, 1) := by decide +kernel
theorem dC_step_46 : decode bC_step 46 = .ok (.istore_n 2, 1) := by decide +kernel
theorem dC_step_47 : decode bC_step 47 = .ok (.iload_n 2, 1) := by decide +kernel
theorem dC_step_48 : decode bC_step 48 = .ok (.aload_n 0, 1) := by decide +kernel
theorem dC_step_49 : decode bC_step 49 = .ok (.getfield 38, 3) := by decide +kernel
theorem dC_step_52 : decode bC_step 52 = .ok (.getfield 79, 3) := by decide +kernel
theorem dC_step_55 : decode bC_step 55 = .ok (.if_icmp .ge 27, 3) := by decide +kernel
theorem dC_step_58 : decode bC_step 58 = .ok (.aload_n 0, 1) := by decide +kernel
theorem dC_step_59 : decode bC_step 59 = .ok (.iload_n 2, 1) := by decide +kernel
theorem dC_step_60 : decode bC_step 60 = .ok (.iload_n 1, 1) := by decide +kernel
theorem dC_step_61 : decode bC_step 61 = .ok (.invokevirtual 115, 3) := by decide +kernel
theorem dC_step_64 : decode bC_step 64 = .ok (.aload_n 0, 1) := by decide +kernel
theorem dC_step_65 : decode bC_step 65 = .ok (.iload_n 2, 1) := by decide +kernel
theorem dC_step_66 : decode bC_step 66 = .ok (.iload_n 1, 1) := by decide +kernel
theorem dC_step_67 : decode bC_step 67 = .ok (.invokevirtual 119, 3) := by decide +kernel
theorem dC_step_70 : decode bC_step 70 = .ok (.aload_n 0, 1) := by decide +kernel
theorem dC_step_71 : decode bC_step 71 = .ok (.iload_n 2, 1) := by decide +kernel
theorem dC_step_72 : decode bC_step 72 = .ok (.iload_n 1, 1) := by decide +kernel
theorem dC_step_73 : decode bC_step 73 = .ok (.invokevirtual 122, 3) := by decide +kernel
theorem dC_step_76 : decode bC_step 76 = .ok (.iinc 2 1, 3) := by decide +kernel
theorem dC_step_79 : decode bC_step 79 = .ok (.goto (-32), 3) := by decide +kernel
theorem dC_step_82 : decode bC_step 82 = .ok (.aload_n 0, 1) := by decide +kernel
theorem dC_step_83 : decode bC_step 83 = .ok (.dup, 1) := by decide +kernel
theorem dC_step_84 : decode bC_step 84 = .ok (.getfield 46, 3) := by decide +kernel
theorem dC_step_87 : decode bC_step 87 = .ok (.iconst 1, 1) := by decide +kernel
theorem dC_step_88 : decode bC_step 88 = .ok (.iadd, 1) := by decide +kernel
theorem dC_step_89 : decode bC_step 89 = .ok (.putfield 46, 3) := by decide +kernel
theorem dC_step_92 : decode bC_step 92 = .ok (.aload_n 0, 1) := by decide +kernel
theorem dC_step_93 : decode bC_step 93 = .ok (.invokevirtual 93, 3) := by decide +kernel
theorem dC_step_96 : decode bC_step 96 = .ok (.ifCond .eq 8, 3) := by decide +kernel
theorem dC_step_99 : decode bC_step 99 = .ok (.aload_n 0, 1) := by decide +kernel
theorem dC_step_100 : decode bC_step 100 = .ok (.iload_n 1, 1) := by decide +kernel
theorem dC_step_101 : decode bC_step 101 = .ok (.invokevirtual 125, 3) := by decide +kernel
theorem dC_step_104 : decode bC_step 104 = .ok (.return_, 1) := by decide +kernel
theorem dC_hourOfDay_0 : decode bC_hourOfDay 0 = .ok (.aload_n 0, 1) := by decide +kernel
theorem dC_hourOfDay_1 : decode bC_hourOfDay 1 = .ok (.getfield 46, 3) := by decide +kernel
theorem dC_hourOfDay_4 : decode bC_hourOfDay 4 = .ok (.iconst 4, 1) := by decide +kernel
theorem dC_hourOfDay_5 : decode bC_hourOfDay 5 = .ok (.idiv, 1) := by decide +kernel
theorem dC_hourOfDay_6 : decode bC_hourOfDay 6 = .ok (.bipush 24, 2) := by decide +kernel
theorem dC_hourOfDay_8 : decode bC_hourOfDay 8 = .ok (.irem, 1) := by decide +kernel
theorem dC_hourOfDay_9 : decode bC_hourOfDay 9 = .ok (.ireturn, 1) := by decide +kernel
theorem dC_hourEnds_0 : decode bC_hourEnds 0 = .ok (.aload_n 0, 1) := by decide +kernel
theorem dC_hourEnds_1 : decode bC_hourEnds 1 = .ok (.getfield 46, 3) := by decide +kernel
theorem dC_hourEnds_4 : decode bC_hourEnds 4 = .ok (.iconst 4, 1) := by decide +kernel
theorem dC_hourEnds_5 : decode bC_hourEnds 5 = .ok (.irem, 1) := by decide +kernel
theorem dC_hourEnds_6 : decode bC_hourEnds 6 = .ok (.ifCond .ne 7, 3) := by decide +kernel
theorem dC_hourEnds_9 : decode bC_hourEnds 9 = .ok (.iconst 1, 1) := by decide +kernel
theorem dC_hourEnds_10 : decode bC_hourEnds 10 = .ok (.goto 4, 3) := by decide +kernel
theorem dC_hourEnds_13 : decode bC_hourEnds 13 = .ok (.iconst 0, 1) := by decide +kernel
theorem dC_hourEnds_14 : decode bC_hourEnds 14 = .ok (.ireturn, 1) := by decide +kernel
theorem dC_planned_0 : decode bC_planned 0 = .ok (.aload_n 0, 1) := by decide +kernel
theorem dC_planned_1 : decode bC_planned 1 = .ok (.getfield 38, 3) := by decide +kernel
theorem dC_planned_4 : decode bC_planned 4 = .ok (.getfield 128, 3) := by decide +kernel
theorem dC_planned_7 : decode bC_planned 7 = .ok (.iload_n 1, 1) := by decide +kernel
theorem dC_planned_8 : decode bC_planned 8 = .ok (.aaload, 1) := by decide +kernel
theorem dC_planned_9 : decode bC_planned 9 = .ok (.iload_n 2, 1) := by decide +kernel
theorem dC_planned_10 : decode bC_planned 10 = .ok (.bipush 24, 2) := by decide +kernel
theorem dC_planned_12 : decode bC_planned 12 = .ok (.imul, 1) := by decide +kernel
theorem dC_planned_13 : decode bC_planned 13 = .ok (.iload_n 3, 1) := by decide +kernel
theorem dC_planned_14 : decode bC_planned 14 = .ok (.iadd, 1) := by decide +kernel
theorem dC_planned_15 : decode bC_planned 15 = .ok (.iaload, 1) := by decide +kernel
theorem dC_planned_16 : decode bC_planned 16 = .ok (.ireturn, 1) := by decide +kernel
theorem dC_hasPersons_0 : decode bC_hasPersons 0 = .ok (.aload_n 0, 1) := by decide +kernel
theorem dC_hasPersons_1 : decode bC_hasPersons 1 = .ok (.iconst 0, 1) := by decide +kernel
theorem dC_hasPersons_2 : decode bC_hasPersons 2 = .ok (.iload_n 1, 1) := by decide +kernel
theorem dC_hasPersons_3 : decode bC_hasPersons 3 = .ok (.iload_n 2, 1) := by decide +kernel
theorem dC_hasPersons_4 : decode bC_hasPersons 4 = .ok (.invokevirtual 132, 3) := by decide +kernel
theorem dC_hasPersons_7 : decode bC_hasPersons 7 = .ok (.ifCond .le 7, 3) := by decide +kernel
theorem dC_hasPersons_10 : decode bC_hasPersons 10 = .ok (.iconst 1, 1) := by decide +kernel
theorem dC_hasPersons_11 : decode bC_hasPersons 11 = .ok (.goto 4, 3) := by decide +kernel
theorem dC_hasPersons_14 : decode bC_hasPersons 14 = .ok (.iconst 0, 1) := by decide +kernel
theorem dC_hasPersons_15 : decode bC_hasPersons 15 = .ok (.ireturn, 1) := by decide +kernel
theorem dC_passWalls_0 : decode bC_passWalls 0 = .ok (.iconst 0, 1) := by decide +kernel
theorem dC_passWalls_1 : decode bC_passWalls 1 = .ok (.istore_n 2, 1) := by decide +kernel
theorem dC_passWalls_2 : decode bC_passWalls 2 = .ok (.iload_n 2, 1) := by decide +kernel
theorem dC_passWalls_3 : decode bC_passWalls 3 = .ok (.aload_n 0, 1) := by decide +kernel
theorem dC_passWalls_4 : decode bC_passWalls 4 = .ok (.getfield 38, 3) := by decide +kernel
theorem dC_passWalls_7 : decode bC_passWalls 7 = .ok (.getfield 136, 3) := by decide +kernel
theorem dC_passWalls_10 : decode bC_passWalls 10 = .ok (.if_icmp .ge 127, 3) := by decide +kernel
theorem dC_passWalls_13 : decode bC_passWalls 13 = .ok (.aload_n 0, 1) := by decide +kernel
theorem dC_passWalls_14 : decode bC_passWalls 14 = .ok (.getfield 38, 3) := by decide +kernel
theorem dC_passWalls_17 : decode bC_passWalls 17 = .ok (.getfield 139, 3) := by decide +kernel
theorem dC_passWalls_20 : decode bC_passWalls 20 = .ok (.iload_n 2, 1) := by decide +kernel
theorem dC_passWalls_21 : decode bC_passWalls 21 = .ok (.iaload, 1) := by decide +kernel
theorem dC_passWalls_22 : decode bC_passWalls 22 = .ok (.istore_n 3, 1) := by decide +kernel
theorem dC_passWalls_23 : decode bC_passWalls 23 = .ok (.aload_n 0, 1) := by decide +kernel
theorem dC_passWalls_24 : decode bC_passWalls 24 = .ok (.getfield 38, 3) := by decide +kernel
theorem dC_passWalls_27 : decode bC_passWalls 27 = .ok (.getfield 142, 3) := by decide +kernel
theorem dC_passWalls_30 : decode bC_passWalls 30 = .ok (.iload_n 2, 1) := by decide +kernel
theorem dC_passWalls_31 : decode bC_passWalls 31 = .ok (.iaload, 1) := by decide +kernel
theorem dC_passWalls_32 : decode bC_passWalls 32 = .ok (.istore 4, 2) := by decide +kernel
theorem dC_passWalls_34 : decode bC_passWalls 34 = .ok (.iload 4, 2) := by decide +kernel
theorem dC_passWalls_36 : decode bC_passWalls 36 = .ok (.iconst (-1), 1) := by decide +kernel
theorem dC_passWalls_37 : decode bC_passWalls 37 = .ok (.if_icmp .ne 16, 3) := by decide +kernel
theorem dC_passWalls_40 : decode bC_passWalls 40 = .ok (.aload_n 0, 1) := by decide +kernel
theorem dC_passWalls_41 : decode bC_passWalls 41 = .ok (.getfield 38, 3) := by decide +kernel
theorem dC_passWalls_44 : decode bC_passWalls 44 = .ok (.getfield 145, 3) := by decide +kernel
theorem dC_passWalls_47 : decode bC_passWalls 47 = .ok (.iload_n 1, 1) := by decide +kernel
theorem dC_passWalls_48 : decode bC_passWalls 48 = .ok (.iaload, 1) := by decide +kernel
theorem dC_passWalls_49 : decode bC_passWalls 49 = .ok (.i2l, 1) := by decide +kernel
theorem dC_passWalls_50 : decode bC_passWalls 50 = .ok (.goto 10, 3) := by decide +kernel
theorem dC_passWalls_53 : decode bC_passWalls 53 = .ok (.aload_n 0, 1) := by decide +kernel
theorem dC_passWalls_54 : decode bC_passWalls 54 = .ok (.getfield 15, 3) := by decide +kernel
theorem dC_passWalls_57 : decode bC_passWalls 57 = .ok (.iload 4, 2) := by decide +kernel
theorem dC_passWalls_59 : decode bC_passWalls 59 = .ok (.laload, 1) := by decide +kernel
theorem dC_passWalls_60 : decode bC_passWalls 60 = .ok (.lstore 5, 2) := by decide +kernel
theorem dC_passWalls_62 : decode bC_passWalls 62 = .ok (.aload_n 0, 1) := by decide +kernel
theorem dC_passWalls_63 : decode bC_passWalls 63 = .ok (.getfield 15, 3) := by decide +kernel
theorem dC_passWalls_66 : decode bC_passWalls 66 = .ok (.iload_n 3, 1) := by decide +kernel
theorem dC_passWalls_67 : decode bC_passWalls 67 = .ok (.laload, 1) := by decide +kernel
theorem dC_passWalls_68 : decode bC_passWalls 68 = .ok (.lload 5, 2) := by decide +kernel
theorem dC_passWalls_70 : decode bC_passWalls 70 = .ok (.lsub, 1) := by decide +kernel
theorem dC_passWalls_71 : decode bC_passWalls 71 = .ok (.aload_n 0, 1) := by decide +kernel
theorem dC_passWalls_72 : decode bC_passWalls 72 = .ok (.getfield 38, 3) := by decide +kernel
theorem dC_passWalls_75 : decode bC_passWalls 75 = .ok (.getfield 148, 3) := by decide +kernel
theorem dC_passWalls_78 : decode bC_passWalls 78 = .ok (.iload_n 2, 1) := by decide +kernel
theorem dC_passWalls_79 : decode bC_passWalls 79 = .ok (.iaload, 1) := by decide +kernel
theorem dC_passWalls_80 : decode bC_passWalls 80 = .ok (.i2l, 1) := by decide +kernel
theorem dC_passWalls_81 : decode bC_passWalls 81 = .ok (.lmul, 1) := by decide +kernel
theorem dC_passWalls_82 : decode bC_passWalls 82 = .ok (.ldc2_w 151, 3) := by decide +kernel
theorem dC_passWalls_85 : decode bC_passWalls 85 = .ok (.ldiv, 1) := by decide +kernel
theorem dC_passWalls_86 : decode bC_passWalls 86 = .ok (.lstore 7, 2) := by decide +kernel
theorem dC_passWalls_88 : decode bC_passWalls 88 = .ok (.aload_n 0, 1) := by decide +kernel
theorem dC_passWalls_89 : decode bC_passWalls 89 = .ok (.getfield 9, 3) := by decide +kernel
theorem dC_passWalls_92 : decode bC_passWalls 92 = .ok (.iload_n 3, 1) := by decide +kernel
theorem dC_passWalls_93 : decode bC_passWalls 93 = .ok (.dup2, 1) := by decide +kernel
theorem dC_passWalls_94 : decode bC_passWalls 94 = .ok (.laload, 1) := by decide +kernel
theorem dC_passWalls_95 : decode bC_passWalls 95 = .ok (.lload 7, 2) := by decide +kernel
theorem dC_passWalls_97 : decode bC_passWalls 97 = .ok (.lsub, 1) := by decide +kernel
theorem dC_passWalls_98 : decode bC_passWalls 98 = .ok (.lastore, 1) := by decide +kernel
theorem dC_passWalls_99 : decode bC_passWalls 99 = .ok (.iload 4, 2) := by decide +kernel
theorem dC_passWalls_101 : decode bC_passWalls 101 = .ok (.iconst (-1), 1) := by decide +kernel
theorem dC_passWalls_102 : decode bC_passWalls 102 = .ok (.if_icmp .ne 17, 3) := by decide +kernel
theorem dC_passWalls_105 : decode bC_passWalls 105 = .ok (.aload_n 0, 1) := by decide +kernel
theorem dC_passWalls_106 : decode bC_passWalls 106 = .ok (.dup, 1) := by decide +kernel
theorem dC_passWalls_107 : decode bC_passWalls 107 = .ok (.getfield 153, 3) := by decide +kernel
theorem dC_passWalls_110 : decode bC_passWalls 110 = .ok (.lload 7, 2) := by decide +kernel
theorem dC_passWalls_112 : decode bC_passWalls 112 = .ok (.ladd, 1) := by decide +kernel
theorem dC_passWalls_113 : decode bC_passWalls 113 = .ok (.putfield 153, 3) := by decide +kernel
theorem dC_passWalls_116 : decode bC_passWalls 116 = .ok (.goto 15, 3) := by decide +kernel
theorem dC_passWalls_119 : decode bC_passWalls 119 = .ok (.aload_n 0, 1) := by decide +kernel
theorem dC_passWalls_120 : decode bC_passWalls 120 = .ok (.getfield 9, 3) := by decide +kernel
theorem dC_passWalls_123 : decode bC_passWalls 123 = .ok (.iload 4, 2) := by decide +kernel
theorem dC_passWalls_125 : decode bC_passWalls 125 = .ok (.dup2, 1) := by decide +kernel
theorem dC_passWalls_126 : decode bC_passWalls 126 = .ok (.laload, 1) := by decide +kernel
theorem dC_passWalls_127 : decode bC_passWalls 127 = .ok (.lload 7, 2) := by decide +kernel
theorem dC_passWalls_129 : decode bC_passWalls 129 = .ok (.ladd, 1) := by decide +kernel
theorem dC_passWalls_130 : decode bC_passWalls 130 = .ok (.lastore, 1) := by decide +kernel
theorem dC_passWalls_131 : decode bC_passWalls 131 = .ok (.iinc 2 1, 3) := by decide +kernel
theorem dC_passWalls_134 : decode bC_passWalls 134 = .ok (.goto (-132), 3) := by decide +kernel
theorem dC_passWalls_137 : decode bC_passWalls 137 = .ok (.return_, 1) := by decide +kernel
theorem dC_passWindows_0 : decode bC_passWindows 0 = .ok (.iconst 0, 1) := by decide +kernel
theorem dC_passWindows_1 : decode bC_passWindows 1 = .ok (.istore_n 2, 1) := by decide +kernel
theorem dC_passWindows_2 : decode bC_passWindows 2 = .ok (.iload_n 2, 1) := by decide +kernel
theorem dC_passWindows_3 : decode bC_passWindows 3 = .ok (.aload_n 0, 1) := by decide +kernel
theorem dC_passWindows_4 : decode bC_passWindows 4 = .ok (.getfield 38, 3) := by decide +kernel
theorem dC_passWindows_7 : decode bC_passWindows 7 = .ok (.getfield 156, 3) := by decide +kernel
theorem dC_passWindows_10 : decode bC_passWindows 10 = .ok (.if_icmp .ge 103, 3) := by decide +kernel
theorem dC_passWindows_13 : decode bC_passWindows 13 = .ok (.aload_n 0, 1) := by decide +kernel
theorem dC_passWindows_14 : decode bC_passWindows 14 = .ok (.getfield 38, 3) := by decide +kernel
theorem dC_passWindows_17 : decode bC_passWindows 17 = .ok (.getfield 159, 3) := by decide +kernel
theorem dC_passWindows_20 : decode bC_passWindows 20 = .ok (.iload_n 2, 1) := by decide +kernel
theorem dC_passWindows_21 : decode bC_passWindows 21 = .ok (.iaload, 1) := by decide +kernel
theorem dC_passWindows_22 : decode bC_passWindows 22 = .ok (.istore_n 3, 1) := by decide +kernel
theorem dC_passWindows_23 : decode bC_passWindows 23 = .ok (.aload_n 0, 1) := by decide +kernel
theorem dC_passWindows_24 : decode bC_passWindows 24 = .ok (.getfield 38, 3) := by decide +kernel
theorem dC_passWindows_27 : decode bC_passWindows 27 = .ok (.getfield 162, 3) := by decide +kernel
theorem dC_passWindows_30 : decode bC_passWindows 30 = .ok (.iload_n 2, 1) := by decide +kernel
theorem dC_passWindows_31 : decode bC_passWindows 31 = .ok (.iaload, 1) := by decide +kernel
theorem dC_passWindows_32 : decode bC_passWindows 32 = .ok (.aload_n 0, 1) := by decide +kernel
theorem dC_passWindows_33 : decode bC_passWindows 33 = .ok (.getfield 38, 3) := by decide +kernel
theorem dC_passWindows_36 : decode bC_passWindows 36 = .ok (.getfield 165, 3) := by decide +kernel
theorem dC_passWindows_39 : decode bC_passWindows 39 = .ok (.aload_n 0, 1) := by decide +kernel
theorem dC_passWindows_40 : decode bC_passWindows 40 = .ok (.getfield 38, 3) := by decide +kernel
theorem dC_passWindows_43 : decode bC_passWindows 43 = .ok (.getfield 168, 3) := by decide +kernel
theorem dC_passWindows_46 : decode bC_passWindows 46 = .ok (.iload_n 2, 1) := by decide +kernel
theorem dC_passWindows_47 : decode bC_passWindows 47 = .ok (.iaload, 1) := by decide +kernel
theorem dC_passWindows_48 : decode bC_passWindows 48 = .ok (.aaload, 1) := by decide +kernel
theorem dC_passWindows_49 : decode bC_passWindows 49 = .ok (.iload_n 1, 1) := by decide +kernel
theorem dC_passWindows_50 : decode bC_passWindows 50 = .ok (.iaload, 1) := by decide +kernel
theorem dC_passWindows_51 : decode bC_passWindows 51 = .ok (.imul, 1) := by decide +kernel
theorem dC_passWindows_52 : decode bC_passWindows 52 = .ok (.bipush 10, 2) := by decide +kernel
theorem dC_passWindows_54 : decode bC_passWindows 54 = .ok (.idiv, 1) := by decide +kernel
theorem dC_passWindows_55 : decode bC_passWindows 55 = .ok (.istore 4, 2) := by decide +kernel
theorem dC_passWindows_57 : decode bC_passWindows 57 = .ok (.aload_n 0, 1) := by decide +kernel
theorem dC_passWindows_58 : decode bC_passWindows 58 = .ok (.getfield 15, 3) := by decide +kernel
theorem dC_passWindows_61 : decode bC_passWindows 61 = .ok (.iload_n 3, 1) := by decide +kernel
theorem dC_passWindows_62 : decode bC_passWindows 62 = .ok (.laload, 1) := by decide +kernel
theorem dC_passWindows_63 : decode bC_passWindows 63 = .ok (.aload_n 0, 1) := by decide +kernel
theorem dC_passWindows_64 : decode bC_passWindows 64 = .ok (.getfield 38, 3) := by decide +kernel
theorem dC_passWindows_67 : decode bC_passWindows 67 = .ok (.getfield 171, 3) := by decide +kernel
theorem dC_passWindows_70 : decode bC_passWindows 70 = .ok (.iload_n 2, 1) := by decide +kernel
theorem dC_passWindows_71 : decode bC_passWindows 71 = .ok (.iaload, 1) := by decide +kernel
theorem dC_passWindows_72 : decode bC_passWindows 72 = .ok (.i2l, 1) := by decide +kernel
theorem dC_passWindows_73 : decode bC_passWindows 73 = .ok (.lcmp, 1) := by decide +kernel
theorem dC_passWindows_74 : decode bC_passWindows 74 = .ok (.ifCond .le 9, 3) := by decide +kernel
theorem dC_passWindows_77 : decode bC_passWindows 77 = .ok (.iload 4, 2) := by decide +kernel
theorem dC_passWindows_79 : decode bC_passWindows 79 = .ok (.iconst 4, 1) := by decide +kernel
theorem dC_passWindows_80 : decode bC_passWindows 80 = .ok (.idiv, 1) := by decide +kernel
theorem dC_passWindows_81 : decode bC_passWindows 81 = .ok (.istore 4, 2) := by decide +kernel
theorem dC_passWindows_83 : decode bC_passWindows 83 = .ok (.aload_n 0, 1) := by decide +kernel
theorem dC_passWindows_84 : decode bC_passWindows 84 = .ok (.getfield 9, 3) := by decide +kernel
theorem dC_passWindows_87 : decode bC_passWindows 87 = .ok (.iload_n 3, 1) := by decide +kernel
theorem dC_passWindows_88 : decode bC_passWindows 88 = .ok (.dup2, 1) := by decide +kernel
theorem dC_passWindows_89 : decode bC_passWindows 89 = .ok (.laload, 1) := by decide +kernel
theorem dC_passWindows_90 : decode bC_passWindows 90 = .ok (.iload 4, 2) := by decide +kernel
theorem dC_passWindows_92 : decode bC_passWindows 92 = .ok (.i2l, 1) := by decide +kernel
theorem dC_passWindows_93 : decode bC_passWindows 93 = .ok (.ladd, 1) := by decide +kernel
theorem dC_passWindows_94 : decode bC_passWindows 94 = .ok (.lastore, 1) := by decide +kernel
theorem dC_passWindows_95 : decode bC_passWindows 95 = .ok (.aload_n 0, 1) := by decide +kernel
theorem dC_passWindows_96 : decode bC_passWindows 96 = .ok (.dup, 1) := by decide +kernel
theorem dC_passWindows_97 : decode bC_passWindows 97 = .ok (.getfield 174, 3) := by decide +kernel
theorem dC_passWindows_100 : decode bC_passWindows 100 = .ok (.iload 4, 2) := by decide +kernel
theorem dC_passWindows_102 : decode bC_passWindows 102 = .ok (.i2l, 1) := by decide +kernel
theorem dC_passWindows_103 : decode bC_passWindows 103 = .ok (.ladd, 1) := by decide +kernel
theorem dC_passWindows_104 : decode bC_passWindows 104 = .ok (.putfield 174, 3) := by decide +kernel
theorem dC_passWindows_107 : decode bC_passWindows 107 = .ok (.iinc 2 1, 3) := by decide +kernel
theorem dC_passWindows_110 : decode bC_passWindows 110 = .ok (.goto (-108), 3) := by decide +kernel
theorem dC_passWindows_113 : decode bC_passWindows 113 = .ok (.return_, 1) := by decide +kernel
theorem dC_bringPersons_0 : decode bC_bringPersons 0 = .ok (.aload_n 0, 1) := by decide +kernel
theorem dC_bringPersons_1 : decode bC_bringPersons 1 = .ok (.iconst 0, 1) := by decide +kernel
theorem dC_bringPersons_2 : decode bC_bringPersons 2 = .ok (.iload_n 1, 1) := by decide +kernel
theorem dC_bringPersons_3 : decode bC_bringPersons 3 = .ok (.iload_n 2, 1) := by decide +kernel
theorem dC_bringPersons_4 : decode bC_bringPersons 4 = .ok (.invokevirtual 132, 3) := by decide +kernel
theorem dC_bringPersons_7 : decode bC_bringPersons 7 = .ok (.bipush 100, 2) := by decide +kernel
theorem dC_bringPersons_9 : decode bC_bringPersons 9 = .ok (.imul, 1) := by decide +kernel
theorem dC_bringPersons_10 : decode bC_bringPersons 10 = .ok (.istore_n 3, 1) := by decide +kernel
theorem dC_bringPersons_11 : decode bC_bringPersons 11 = .ok (.aload_n 0, 1) := by decide +kernel
theorem dC_bringPersons_12 : decode bC_bringPersons 12 = .ok (.getfield 9, 3) := by decide +kernel
theorem dC_bringPersons_15 : decode bC_bringPersons 15 = .ok (.iload_n 1, 1) := by decide +kernel
theorem dC_bringPersons_16 : decode bC_bringPersons 16 = .ok (.dup2, 1) := by decide +kernel
theorem dC_bringPersons_17 : decode bC_bringPersons 17 = .ok (.laload, 1) := by decide +kernel
theorem dC_bringPersons_18 : decode bC_bringPersons 18 = .ok (.iload_n 3, 1) := by decide +kernel
theorem dC_bringPersons_19 : decode bC_bringPersons 19 = .ok (.i2l, 1) := by decide +kernel
theorem dC_bringPersons_20 : decode bC_bringPersons 20 = .ok (.ladd, 1) := by decide +kernel
theorem dC_bringPersons_21 : decode bC_bringPersons 21 = .ok (.lastore, 1) := by decide +kernel
theorem dC_bringPersons_22 : decode bC_bringPersons 22 = .ok (.aload_n 0, 1) := by decide +kernel
theorem dC_bringPersons_23 : decode bC_bringPersons 23 = .ok (.dup, 1) := by decide +kernel
theorem dC_bringPersons_24 : decode bC_bringPersons 24 = .ok (.getfield 177, 3) := by decide +kernel
theorem dC_bringPersons_27 : decode bC_bringPersons 27 = .ok (.iload_n 3, 1) := by decide +kernel
theorem dC_bringPersons_28 : decode bC_bringPersons 28 = .ok (.i2l, 1) := by decide +kernel
theorem dC_bringPersons_29 : decode bC_bringPersons 29 = .ok (.ladd, 1) := by decide +kernel
theorem dC_bringPersons_30 : decode bC_bringPersons 30 = .ok (.putfield 177, 3) := by decide +kernel
theorem dC_bringPersons_33 : decode bC_bringPersons 33 = .ok (.return_, 1) := by decide +kernel
theorem dC_heatUp_0 : decode bC_heatUp 0 = .ok (.aload_n 0, 1) := by decide +kernel
theorem dC_heatUp_1 : decode bC_heatUp 1 = .ok (.iload_n 1, 1) := by decide +kernel
theorem dC_heatUp_2 : decode bC_heatUp 2 = .ok (.iload_n 2, 1) := by decide +kernel
theorem dC_heatUp_3 : decode bC_heatUp 3 = .ok (.invokevirtual 180, 3) := by decide +kernel
theorem dC_heatUp_6 : decode bC_heatUp 6 = .ok (.istore_n 3, 1) := by decide +kernel
theorem dC_heatUp_7 : decode bC_heatUp 7 = .ok (.iload_n 3, 1) := by decide +kernel
theorem dC_heatUp_8 : decode bC_heatUp 8 = .ok (.ldc 183, 2) := by decide +kernel
theorem dC_heatUp_10 : decode bC_heatUp 10 = .ok (.if_icmp .ne 4, 3) := by decide +kernel
theorem dC_heatUp_13 : decode bC_heatUp 13 = .ok (.return_, 1) := by decide +kernel
theorem dC_heatUp_14 : decode bC_heatUp 14 = .ok (.aload_n 0, 1) := by decide +kernel
theorem dC_heatUp_15 : decode bC_heatUp 15 = .ok (.getfield 38, 3) := by decide +kernel
theorem dC_heatUp_18 : decode bC_heatUp 18 = .ok (.getfield 68, 3) := by decide +kernel
theorem dC_heatUp_21 : decode bC_heatUp 21 = .ok (.iload_n 1, 1) := by decide +kernel
theorem dC_heatUp_22 : decode bC_heatUp 22 = .ok (.iaload, 1) := by decide +kernel
theorem dC_heatUp_23 : decode bC_heatUp 23 = .ok (.i2l, 1) := by decide +kernel
theorem dC_heatUp_24 : decode bC_heatUp 24 = .ok (.iload_n 3, 1) := by decide +kernel
theorem dC_heatUp_25 : decode bC_heatUp 25 = .ok (.i2l, 1) := by decide +kernel
theorem dC_heatUp_26 : decode bC_heatUp 26 = .ok (.lmul, 1) := by decide +kernel
theorem dC_heatUp_27 : decode bC_heatUp 27 = .ok (.aload_n 0, 1) := by decide +kernel
theorem dC_heatUp_28 : decode bC_heatUp 28 = .ok (.getfield 9, 3) := by decide +kernel
theorem dC_heatUp_31 : decode bC_heatUp 31 = .ok (.iload_n 1, 1) := by decide +kernel
theorem dC_heatUp_32 : decode bC_heatUp 32 = .ok (.laload, 1) := by decide +kernel
theorem dC_heatUp_33 : decode bC_heatUp 33 = .ok (.lsub, 1) := by decide +kernel
theorem dC_heatUp_34 : decode bC_heatUp 34 = .ok (.lstore 4, 2) := by decide +kernel
theorem dC_heatUp_36 : decode bC_heatUp 36 = .ok (.lload 4, 2) := by decide +kernel
theorem dC_heatUp_38 : decode bC_heatUp 38 = .ok (.lconst 0, 1) := by decide +kernel
theorem dC_heatUp_39 : decode bC_heatUp 39 = .ok (.lcmp, 1) := by decide +kernel
theorem dC_heatUp_40 : decode bC_heatUp 40 = .ok (.ifCond .gt 4, 3) := by decide +kernel
theorem dC_heatUp_43 : decode bC_heatUp 43 = .ok (.return_, 1) := by decide +kernel
theorem dC_heatUp_44 : decode bC_heatUp 44 = .ok (.aload_n 0, 1) := by decide +kernel
theorem dC_heatUp_45 : decode bC_heatUp 45 = .ok (.iload_n 1, 1) := by decide +kernel
theorem dC_heatUp_46 : decode bC_heatUp 46 = .ok (.invokevirtual 184, 3) := by decide +kernel
theorem dC_heatUp_49 : decode bC_heatUp 49 = .ok (.i2l, 1) := by decide +kernel
theorem dC_heatUp_50 : decode bC_heatUp 50 = .ok (.lstore 6, 2) := by decide +kernel
theorem dC_heatUp_52 : decode bC_heatUp 52 = .ok (.iload_n 1, 1) := by decide +kernel
theorem dC_heatUp_53 : decode bC_heatUp 53 = .ok (.aload_n 0, 1) := by decide +kernel
theorem dC_heatUp_54 : decode bC_heatUp 54 = .ok (.getfield 35, 3) := by decide +kernel
theorem dC_heatUp_57 : decode bC_heatUp 57 = .ok (.if_icmp .ne 16, 3) := by decide +kernel
theorem dC_heatUp_60 : decode bC_heatUp 60 = .ok (.lload 4, 2) := by decide +kernel
theorem dC_heatUp_62 : decode bC_heatUp 62 = .ok (.lload 6, 2) := by decide +kernel
theorem dC_heatUp_64 : decode bC_heatUp 64 = .ok (.lcmp, 1) := by decide +kernel
theorem dC_heatUp_65 : decode bC_heatUp 65 = .ok (.ifCond .le 8, 3) := by decide +kernel
theorem dC_heatUp_68 : decode bC_heatUp 68 = .ok (.aload_n 0, 1) := by decide +kernel
theorem dC_heatUp_69 : decode bC_heatUp 69 = .ok (.iconst 1, 1) := by decide +kernel
theorem dC_heatUp_70 : decode bC_heatUp 70 = .ok (.putfield 55, 3) := by decide +kernel
theorem dC_heatUp_73 : decode bC_heatUp 73 = .ok (.lload 4, 2) := by decide +kernel
theorem dC_heatUp_75 : decode bC_heatUp 75 = .ok (.lload 6, 2) := by decide +kernel
theorem dC_heatUp_77 : decode bC_heatUp 77 = .ok (.invokestatic 188, 3) := by decide +kernel
theorem dC_heatUp_80 : decode bC_heatUp 80 = .ok (.lstore 8, 2) := by decide +kernel
theorem dC_heatUp_82 : decode bC_heatUp 82 = .ok (.aload_n 0, 1) := by decide +kernel
theorem dC_heatUp_83 : decode bC_heatUp 83 = .ok (.getfield 9, 3) := by decide +kernel
theorem dC_heatUp_86 : decode bC_heatUp 86 = .ok (.iload_n 1, 1) := by decide +kernel
theorem dC_heatUp_87 : decode bC_heatUp 87 = .ok (.dup2, 1) := by decide +kernel
theorem dC_heatUp_88 : decode bC_heatUp 88 = .ok (.laload, 1) := by decide +kernel
theorem dC_heatUp_89 : decode bC_heatUp 89 = .ok (.lload 8, 2) := by decide +kernel
theorem dC_heatUp_91 : decode bC_heatUp 91 = .ok (.ladd, 1) := by decide +kernel
theorem dC_heatUp_92 : decode bC_heatUp 92 = .ok (.lastore, 1) := by decide +kernel
theorem dC_heatUp_93 : decode bC_heatUp 93 = .ok (.aload_n 0, 1) := by decide +kernel
theorem dC_heatUp_94 : decode bC_heatUp 94 = .ok (.getfield 18, 3) := by decide +kernel
theorem dC_heatUp_97 : decode bC_heatUp 97 = .ok (.iload_n 1, 1) := by decide +kernel
theorem dC_heatUp_98 : decode bC_heatUp 98 = .ok (.dup2, 1) := by decide +kernel
theorem dC_heatUp_99 : decode bC_heatUp 99 = .ok (.laload, 1) := by decide +kernel
theorem dC_heatUp_100 : decode bC_heatUp 100 = .ok (.lload 8, 2) := by decide +kernel
theorem dC_heatUp_102 : decode bC_heatUp 102 = .ok (.ladd, 1) := by decide +kernel
theorem dC_heatUp_103 : decode bC_heatUp 103 = .ok (.lastore, 1) := by decide +kernel
theorem dC_heatUp_104 : decode bC_heatUp 104 = .ok (.aload_n 0, 1) := by decide +kernel
theorem dC_heatUp_105 : decode bC_heatUp 105 = .ok (.getfield 24, 3) := by decide +kernel
theorem dC_heatUp_108 : decode bC_heatUp 108 = .ok (.iload_n 1, 1) := by decide +kernel
theorem dC_heatUp_109 : decode bC_heatUp 109 = .ok (.aload_n 0, 1) := by decide +kernel
theorem dC_heatUp_110 : decode bC_heatUp 110 = .ok (.getfield 24, 3) := by decide +kernel
theorem dC_heatUp_113 : decode bC_heatUp 113 = .ok (.iload_n 1, 1) := by decide +kernel
theorem dC_heatUp_114 : decode bC_heatUp 114 = .ok (.laload, 1) := by decide +kernel
theorem dC_heatUp_115 : decode bC_heatUp 115 = .ok (.lload 8, 2) := by decide +kernel
theorem dC_heatUp_117 : decode bC_heatUp 117 = .ok (.invokestatic 191, 3) := by decide +kernel
theorem dC_heatUp_120 : decode bC_heatUp 120 = .ok (.lastore, 1) := by decide +kernel
theorem dC_heatUp_121 : decode bC_heatUp 121 = .ok (.return_, 1) := by decide +kernel
theorem dC_setOf_0 : decode bC_setOf 0 = .ok (.iload_n 1, 1) := by decide +kernel
theorem dC_setOf_1 : decode bC_setOf 1 = .ok (.aload_n 0, 1) := by decide +kernel
theorem dC_setOf_2 : decode bC_setOf 2 = .ok (.getfield 31, 3) := by decide +kernel
theorem dC_setOf_5 : decode bC_setOf 5 = .ok (.if_icmp .ne 21, 3) := by decide +kernel
theorem dC_setOf_8 : decode bC_setOf 8 = .ok (.aload_n 0, 1) := by decide +kernel
theorem dC_setOf_9 : decode bC_setOf 9 = .ok (.getfield 46, 3) := by decide +kernel
theorem dC_setOf_12 : decode bC_setOf 12 = .ok (.aload_n 0, 1) := by decide +kernel
theorem dC_setOf_13 : decode bC_setOf 13 = .ok (.getfield 62, 3) := by decide +kernel
theorem dC_setOf_16 : decode bC_setOf 16 = .ok (.if_icmp .lt 10, 3) := by decide +kernel
theorem dC_setOf_19 : decode bC_setOf 19 = .ok (.aload_n 0, 1) := by decide +kernel
theorem dC_setOf_20 : decode bC_setOf 20 = .ok (.getfield 59, 3) := by decide +kernel
theorem dC_setOf_23 : decode bC_setOf 23 = .ok (.goto 10, 3) := by decide +kernel
theorem dC_setOf_26 : decode bC_setOf 26 = .ok (.aload_n 0, 1) := by decide +kernel
theorem dC_setOf_27 : decode bC_setOf 27 = .ok (.iconst 1, 1) := by decide +kernel
theorem dC_setOf_28 : decode bC_setOf 28 = .ok (.iload_n 1, 1) := by decide +kernel
theorem dC_setOf_29 : decode bC_setOf 29 = .ok (.iload_n 2, 1) := by decide +kernel
theorem dC_setOf_30 : decode bC_setOf 30 = .ok (.invokevirtual 132, 3) := by decide +kernel
theorem dC_setOf_33 : decode bC_setOf 33 = .ok (.ireturn, 1) := by decide +kernel
theorem dC_heatingOf_0 : decode bC_heatingOf 0 = .ok (.iload_n 1, 1) := by decide +kernel
theorem dC_heatingOf_1 : decode bC_heatingOf 1 = .ok (.aload_n 0, 1) := by decide +kernel
theorem dC_heatingOf_2 : decode bC_heatingOf 2 = .ok (.getfield 35, 3) := by decide +kernel
theorem dC_heatingOf_5 : decode bC_heatingOf 5 = .ok (.if_icmp .ne 10, 3) := by decide +kernel
theorem dC_heatingOf_8 : decode bC_heatingOf 8 = .ok (.aload_n 0, 1) := by decide +kernel
theorem dC_heatingOf_9 : decode bC_heatingOf 9 = .ok (.getfield 65, 3) := by decide +kernel
theorem dC_heatingOf_12 : decode bC_heatingOf 12 = .ok (.goto 14, 3) := by decide +kernel
theorem dC_heatingOf_15 : decode bC_heatingOf 15 = .ok (.aload_n 0, 1) := by decide +kernel
theorem dC_heatingOf_16 : decode bC_heatingOf 16 = .ok (.getfield 38, 3) := by decide +kernel
theorem dC_heatingOf_19 : decode bC_heatingOf 19 = .ok (.getfield 194, 3) := by decide +kernel
theorem dC_heatingOf_22 : decode bC_heatingOf 22 = .ok (.iconst 0, 1) := by decide +kernel
theorem dC_heatingOf_23 : decode bC_heatingOf 23 = .ok (.aaload, 1) := by decide +kernel
theorem dC_heatingOf_24 : decode bC_heatingOf 24 = .ok (.iload_n 1, 1) := by decide +kernel
theorem dC_heatingOf_25 : decode bC_heatingOf 25 = .ok (.iaload, 1) := by decide +kernel
theorem dC_heatingOf_26 : decode bC_heatingOf 26 = .ok (.ireturn, 1) := by decide +kernel
theorem dC_coolDown_0 : decode bC_coolDown 0 = .ok (.aload_n 0, 1) := by decide +kernel
theorem dC_coolDown_1 : decode bC_coolDown 1 = .ok (.iconst 2, 1) := by decide +kernel
theorem dC_coolDown_2 : decode bC_coolDown 2 = .ok (.iload_n 1, 1) := by decide +kernel
theorem dC_coolDown_3 : decode bC_coolDown 3 = .ok (.iload_n 2, 1) := by decide +kernel
theorem dC_coolDown_4 : decode bC_coolDown 4 = .ok (.invokevirtual 132, 3) := by decide +kernel
theorem dC_coolDown_7 : decode bC_coolDown 7 = .ok (.istore_n 3, 1) := by decide +kernel
theorem dC_coolDown_8 : decode bC_coolDown 8 = .ok (.iload_n 3, 1) := by decide +kernel
theorem dC_coolDown_9 : decode bC_coolDown 9 = .ok (.ldc 183, 2) := by decide +kernel
theorem dC_coolDown_11 : decode bC_coolDown 11 = .ok (.if_icmp .ne 4, 3) := by decide +kernel
theorem dC_coolDown_14 : decode bC_coolDown 14 = .ok (.return_, 1) := by decide +kernel
theorem dC_coolDown_15 : decode bC_coolDown 15 = .ok (.aload_n 0, 1) := by decide +kernel
theorem dC_coolDown_16 : decode bC_coolDown 16 = .ok (.getfield 9, 3) := by decide +kernel
theorem dC_coolDown_19 : decode bC_coolDown 19 = .ok (.iload_n 1, 1) := by decide +kernel
theorem dC_coolDown_20 : decode bC_coolDown 20 = .ok (.laload, 1) := by decide +kernel
theorem dC_coolDown_21 : decode bC_coolDown 21 = .ok (.aload_n 0, 1) := by decide +kernel
theorem dC_coolDown_22 : decode bC_coolDown 22 = .ok (.getfield 38, 3) := by decide +kernel
theorem dC_coolDown_25 : decode bC_coolDown 25 = .ok (.getfield 68, 3) := by decide +kernel
theorem dC_coolDown_28 : decode bC_coolDown 28 = .ok (.iload_n 1, 1) := by decide +kernel
