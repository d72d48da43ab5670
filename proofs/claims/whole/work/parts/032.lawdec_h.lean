theorem dL_room_0 : decode bL_room 0 = .ok (.aload_n 3, 1) := by decide +kernel
theorem dL_room_1 : decode bL_room 1 = .ok (.iconst 0, 1) := by decide +kernel
theorem dL_room_2 : decode bL_room 2 = .ok (.aload_n 0, 1) := by decide +kernel
theorem dL_room_3 : decode bL_room 3 = .ok (.iload_n 1, 1) := by decide +kernel
theorem dL_room_4 : decode bL_room 4 = .ok (.iload_n 2, 1) := by decide +kernel
theorem dL_room_5 : decode bL_room 5 = .ok (.invokevirtual 7, 3) := by decide +kernel
theorem dL_room_8 : decode bL_room 8 = .ok (.i2l, 1) := by decide +kernel
theorem dL_room_9 : decode bL_room 9 = .ok (.lastore, 1) := by decide +kernel
theorem dL_room_10 : decode bL_room 10 = .ok (.goto 11, 3) := by decide +kernel
theorem dL_room_13 : decode bL_room 13 = .ok (.astore 4, 2) := by decide +kernel
theorem dL_room_15 : decode bL_room 15 = .ok (.iconst 1, 1) := by decide +kernel
theorem dL_room_16 : decode bL_room 16 = .ok (.ireturn, 1) := by decide +kernel
theorem dL_room_17 : decode bL_room 17 = .ok (.astore 4, 2) := by decide +kernel
theorem dL_room_19 : decode bL_room 19 = .ok (.iconst 2, 1) := by decide +kernel
theorem dL_room_20 : decode bL_room 20 = .ok (.ireturn, 1) := by decide +kernel
theorem dL_room_21 : decode bL_room 21 = .ok (.iconst 0, 1) := by decide +kernel
theorem dL_room_22 : decode bL_room 22 = .ok (.ireturn, 1) := by decide +kernel
theorem dL_wall_0 : decode bL_wall 0 = .ok (.aload 4, 2) := by decide +kernel
theorem dL_wall_2 : decode bL_wall 2 = .ok (.iconst 0, 1) := by decide +kernel
theorem dL_wall_3 : decode bL_wall 3 = .ok (.aload_n 0, 1) := by decide +kernel
theorem dL_wall_4 : decode bL_wall 4 = .ok (.iload_n 1, 1) := by decide +kernel
theorem dL_wall_5 : decode bL_wall 5 = .ok (.iload_n 2, 1) := by decide +kernel
theorem dL_wall_6 : decode bL_wall 6 = .ok (.iload_n 3, 1) := by decide +kernel
theorem dL_wall_7 : decode bL_wall 7 = .ok (.invokevirtual 17, 3) := by decide +kernel
theorem dL_wall_10 : decode bL_wall 10 = .ok (.i2l, 1) := by decide +kernel
theorem dL_wall_11 : decode bL_wall 11 = .ok (.lastore, 1) := by decide +kernel
theorem dL_wall_12 : decode bL_wall 12 = .ok (.goto 11, 3) := by decide +kernel
theorem dL_wall_15 : decode bL_wall 15 = .ok (.astore 5, 2) := by decide +kernel
theorem dL_wall_17 : decode bL_wall 17 = .ok (.iconst 1, 1) := by decide +kernel
theorem dL_wall_18 : decode bL_wall 18 = .ok (.ireturn, 1) := by decide +kernel
theorem dL_wall_19 : decode bL_wall 19 = .ok (.astore 5, 2) := by decide +kernel
theorem dL_wall_21 : decode bL_wall 21 = .ok (.iconst 2, 1) := by decide +kernel
theorem dL_wall_22 : decode bL_wall 22 = .ok (.ireturn, 1) := by decide +kernel
theorem dL_wall_23 : decode bL_wall 23 = .ok (.iconst 0, 1) := by decide +kernel
theorem dL_wall_24 : decode bL_wall 24 = .ok (.ireturn, 1) := by decide +kernel
theorem dL_leads_0 : decode bL_leads 0 = .ok (.aload_n 3, 1) := by decide +kernel
theorem dL_leads_1 : decode bL_leads 1 = .ok (.iconst 0, 1) := by decide +kernel
theorem dL_leads_2 : decode bL_leads 2 = .ok (.aload_n 0, 1) := by decide +kernel
theorem dL_leads_3 : decode bL_leads 3 = .ok (.iload_n 1, 1) := by decide +kernel
theorem dL_leads_4 : decode bL_leads 4 = .ok (.iload_n 2, 1) := by decide +kernel
theorem dL_leads_5 : decode bL_leads 5 = .ok (.invokevirtual 21, 3) := by decide +kernel
theorem dL_leads_8 : decode bL_leads 8 = .ok (.i2l, 1) := by decide +kernel
theorem dL_leads_9 : decode bL_leads 9 = .ok (.lastore, 1) := by decide +kernel
theorem dL_leads_10 : decode bL_leads 10 = .ok (.goto 11, 3) := by decide +kernel
theorem dL_leads_13 : decode bL_leads 13 = .ok (.astore 4, 2) := by decide +kernel
theorem dL_leads_15 : decode bL_leads 15 = .ok (.iconst 1, 1) := by decide +kernel
theorem dL_leads_16 : decode bL_leads 16 = .ok (.ireturn, 1) := by decide +kernel
theorem dL_leads_17 : decode bL_leads 17 = .ok (.astore 4, 2) := by decide +kernel
theorem dL_leads_19 : decode bL_leads 19 = .ok (.iconst 2, 1) := by decide +kernel
theorem dL_leads_20 : decode bL_leads 20 = .ok (.ireturn, 1) := by decide +kernel
theorem dL_leads_21 : decode bL_leads 21 = .ok (.iconst 0, 1) := by decide +kernel
theorem dL_leads_22 : decode bL_leads 22 = .ok (.ireturn, 1) := by decide +kernel
theorem dL_window_0 : decode bL_window 0 = .ok (.aload 5, 2) := by decide +kernel
theorem dL_window_2 : decode bL_window 2 = .ok (.iconst 0, 1) := by decide +kernel
theorem dL_window_3 : decode bL_window 3 = .ok (.aload_n 0, 1) := by decide +kernel
theorem dL_window_4 : decode bL_window 4 = .ok (.iload_n 1, 1) := by decide +kernel
theorem dL_window_5 : decode bL_window 5 = .ok (.iload_n 2, 1) := by decide +kernel
theorem dL_window_6 : decode bL_window 6 = .ok (.iload_n 3, 1) := by decide +kernel
theorem dL_window_7 : decode bL_window 7 = .ok (.iload 4, 2) := by decide +kernel
theorem dL_window_9 : decode bL_window 9 = .ok (.invokevirtual 24, 3) := by decide +kernel
theorem dL_window_12 : decode bL_window 12 = .ok (.i2l, 1) := by decide +kernel
theorem dL_window_13 : decode bL_window 13 = .ok (.lastore, 1) := by decide +kernel
theorem dL_window_14 : decode bL_window 14 = .ok (.goto 11, 3) := by decide +kernel
theorem dL_window_17 : decode bL_window 17 = .ok (.astore 6, 2) := by decide +kernel
theorem dL_window_19 : decode bL_window 19 = .ok (.iconst 1, 1) := by decide +kernel
theorem dL_window_20 : decode bL_window 20 = .ok (.ireturn, 1) := by decide +kernel
theorem dL_window_21 : decode bL_window 21 = .ok (.astore 6, 2) := by decide +kernel
theorem dL_window_23 : decode bL_window 23 = .ok (.iconst 2, 1) := by decide +kernel
theorem dL_window_24 : decode bL_window 24 = .ok (.ireturn, 1) := by decide +kernel
theorem dL_window_25 : decode bL_window 25 = .ok (.iconst 0, 1) := by decide +kernel
theorem dL_window_26 : decode bL_window 26 = .ok (.ireturn, 1) := by decide +kernel
theorem dL_outside_0 : decode bL_outside 0 = .ok (.aload_n 3, 1) := by decide +kernel
theorem dL_outside_1 : decode bL_outside 1 = .ok (.iconst 0, 1) := by decide +kernel
theorem dL_outside_2 : decode bL_outside 2 = .ok (.aload_n 0, 1) := by decide +kernel
theorem dL_outside_3 : decode bL_outside 3 = .ok (.iload_n 1, 1) := by decide +kernel
theorem dL_outside_4 : decode bL_outside 4 = .ok (.iload_n 2, 1) := by decide +kernel
theorem dL_outside_5 : decode bL_outside 5 = .ok (.invokevirtual 28, 3) := by decide +kernel
theorem dL_outside_8 : decode bL_outside 8 = .ok (.i2l, 1) := by decide +kernel
theorem dL_outside_9 : decode bL_outside 9 = .ok (.lastore, 1) := by decide +kernel
theorem dL_outside_10 : decode bL_outside 10 = .ok (.goto 7, 3) := by decide +kernel
theorem dL_outside_13 : decode bL_outside 13 = .ok (.astore 4, 2) := by decide +kernel
theorem dL_outside_15 : decode bL_outside 15 = .ok (.iconst 1, 1) := by decide +kernel
theorem dL_outside_16 : decode bL_outside 16 = .ok (.ireturn, 1) := by decide +kernel
theorem dL_outside_17 : decode bL_outside 17 = .ok (.iconst 0, 1) := by decide +kernel
theorem dL_outside_18 : decode bL_outside 18 = .ok (.ireturn, 1) := by decide +kernel
theorem dL_sun_0 : decode bL_sun 0 = .ok (.aload 4, 2) := by decide +kernel
theorem dL_sun_2 : decode bL_sun 2 = .ok (.iconst 0, 1) := by decide +kernel
theorem dL_sun_3 : decode bL_sun 3 = .ok (.aload_n 0, 1) := by decide +kernel
theorem dL_sun_4 : decode bL_sun 4 = .ok (.iload_n 1, 1) := by decide +kernel
theorem dL_sun_5 : decode bL_sun 5 = .ok (.iload_n 2, 1) := by decide +kernel
theorem dL_sun_6 : decode bL_sun 6 = .ok (.iload_n 3, 1) := by decide +kernel
theorem dL_sun_7 : decode bL_sun 7 = .ok (.invokevirtual 31, 3) := by decide +kernel
theorem dL_sun_10 : decode bL_sun 10 = .ok (.i2l, 1) := by decide +kernel
theorem dL_sun_11 : decode bL_sun 11 = .ok (.lastore, 1) := by decide +kernel
theorem dL_sun_12 : decode bL_sun 12 = .ok (.goto 7, 3) := by decide +kernel
theorem dL_sun_15 : decode bL_sun 15 = .ok (.astore 5, 2) := by decide +kernel
theorem dL_sun_17 : decode bL_sun 17 = .ok (.iconst 1, 1) := by decide +kernel
theorem dL_sun_18 : decode bL_sun 18 = .ok (.ireturn, 1) := by decide +kernel
theorem dL_sun_19 : decode bL_sun 19 = .ok (.iconst 0, 1) := by decide +kernel
theorem dL_sun_20 : decode bL_sun 20 = .ok (.ireturn, 1) := by decide +kernel
theorem dL_plan_0 : decode bL_plan 0 = .ok (.aload 5, 2) := by decide +kernel
theorem dL_plan_2 : decode bL_plan 2 = .ok (.iconst 0, 1) := by decide +kernel
theorem dL_plan_3 : decode bL_plan 3 = .ok (.aload_n 0, 1) := by decide +kernel
theorem dL_plan_4 : decode bL_plan 4 = .ok (.iload_n 1, 1) := by decide +kernel
theorem dL_plan_5 : decode bL_plan 5 = .ok (.iload_n 2, 1) := by decide +kernel
theorem dL_plan_6 : decode bL_plan 6 = .ok (.iload_n 3, 1) := by decide +kernel
theorem dL_plan_7 : decode bL_plan 7 = .ok (.iload 4, 2) := by decide +kernel
theorem dL_plan_9 : decode bL_plan 9 = .ok (.invokevirtual 34, 3) := by decide +kernel
theorem dL_plan_12 : decode bL_plan 12 = .ok (.i2l, 1) := by decide +kernel
theorem dL_plan_13 : decode bL_plan 13 = .ok (.lastore, 1) := by decide +kernel
theorem dL_plan_14 : decode bL_plan 14 = .ok (.goto 7, 3) := by decide +kernel
theorem dL_plan_17 : decode bL_plan 17 = .ok (.astore 6, 2) := by decide +kernel
theorem dL_plan_19 : decode bL_plan 19 = .ok (.iconst 1, 1) := by decide +kernel
theorem dL_plan_20 : decode bL_plan 20 = .ok (.ireturn, 1) := by decide +kernel
theorem dL_plan_21 : decode bL_plan 21 = .ok (.iconst 0, 1) := by decide +kernel
theorem dL_plan_22 : decode bL_plan 22 = .ok (.ireturn, 1) := by decide +kernel
theorem dL_most_0 : decode bL_most 0 = .ok (.aload 4, 2) := by decide +kernel
theorem dL_most_2 : decode bL_most 2 = .ok (.iconst 0, 1) := by decide +kernel
theorem dL_most_3 : decode bL_most 3 = .ok (.aload_n 0, 1) := by decide +kernel
theorem dL_most_4 : decode bL_most 4 = .ok (.iload_n 1, 1) := by decide +kernel
theorem dL_most_5 : decode bL_most 5 = .ok (.iload_n 2, 1) := by decide +kernel
theorem dL_most_6 : decode bL_most 6 = .ok (.iload_n 3, 1) := by decide +kernel
theorem dL_most_7 : decode bL_most 7 = .ok (.invokevirtual 37, 3) := by decide +kernel
theorem dL_most_10 : decode bL_most 10 = .ok (.i2l, 1) := by decide +kernel
theorem dL_most_11 : decode bL_most 11 = .ok (.lastore, 1) := by decide +kernel
theorem dL_most_12 : decode bL_most 12 = .ok (.goto 7, 3) := by decide +kernel
theorem dL_most_15 : decode bL_most 15 = .ok (.astore 5, 2) := by decide +kernel
theorem dL_most_17 : decode bL_most 17 = .ok (.iconst 1, 1) := by decide +kernel
theorem dL_most_18 : decode bL_most 18 = .ok (.ireturn, 1) := by decide +kernel
theorem dL_most_19 : decode bL_most 19 = .ok (.iconst 0, 1) := by decide +kernel
theorem dL_most_20 : decode bL_most 20 = .ok (.ireturn, 1) := by decide +kernel
theorem dL_ease_0 : decode bL_ease 0 = .ok (.aload_n 0, 1) := by decide +kernel
theorem dL_ease_1 : decode bL_ease 1 = .ok (.iload_n 1, 1) := by decide +kernel
theorem dL_ease_2 : decode bL_ease 2 = .ok (.iload_n 2, 1) := by decide +kernel
theorem dL_ease_3 : decode bL_ease 3 = .ok (.invokevirtual 40, 3) := by decide +kernel
theorem dL_ease_6 : decode bL_ease 6 = .ok (.goto 6, 3) := by decide +kernel
theorem dL_ease_9 : decode bL_ease 9 = .ok (.astore_n 3, 1) := by decide +kernel
theorem dL_ease_10 : decode bL_ease 10 = .ok (.iconst 1, 1) := by decide +kernel
theorem dL_ease_11 : decode bL_ease 11 = .ok (.ireturn, 1) := by decide +kernel
theorem dL_ease_12 : decode bL_ease 12 = .ok (.iconst 0, 1) := by decide +kernel
theorem dL_ease_13 : decode bL_ease 13 = .ok (.ireturn, 1) := by decide +kernel
theorem dL_run_0 : decode bL_run 0 = .ok (.aload_n 2, 1) := by decide +kernel
theorem dL_run_1 : decode bL_run 1 = .ok (.iconst 0, 1) := by decide +kernel
theorem dL_run_2 : decode bL_run 2 = .ok (.aload_n 0, 1) := by decide +kernel
theorem dL_run_3 : decode bL_run 3 = .ok (.iload_n 1, 1) := by decide +kernel
theorem dL_run_4 : decode bL_run 4 = .ok (.invokevirtual 44, 3) := by decide +kernel
theorem dL_run_7 : decode bL_run 7 = .ok (.i2l, 1) := by decide +kernel
theorem dL_run_8 : decode bL_run 8 = .ok (.lastore, 1) := by decide +kernel
theorem dL_run_9 : decode bL_run 9 = .ok (.goto 9, 3) := by decide +kernel
theorem dL_run_12 : decode bL_run 12 = .ok (.astore_n 3, 1) := by decide +kernel
theorem dL_run_13 : decode bL_run 13 = .ok (.iconst 1, 1) := by decide +kernel
theorem dL_run_14 : decode bL_run 14 = .ok (.ireturn, 1) := by decide +kernel
theorem dL_run_15 : decode bL_run 15 = .ok (.astore_n 3, 1) := by decide +kernel
theorem dL_run_16 : decode bL_run 16 = .ok (.iconst 2, 1) := by decide +kernel
theorem dL_run_17 : decode bL_run 17 = .ok (.ireturn, 1) := by decide +kernel
theorem dL_run_18 : decode bL_run 18 = .ok (.iconst 0, 1) := by decide +kernel
theorem dL_run_19 : decode bL_run 19 = .ok (.ireturn, 1) := by decide +kernel
theorem dL_told_0 : decode bL_told 0 = .ok (.aload_n 3, 1) := by decide +kernel
theorem dL_told_1 : decode bL_told 1 = .ok (.iconst 0, 1) := by decide +kernel
theorem dL_told_2 : decode bL_told 2 = .ok (.aload_n 0, 1) := by decide +kernel
theorem dL_told_3 : decode bL_told 3 = .ok (.iload_n 1, 1) := by decide +kernel
theorem dL_told_4 : decode bL_told 4 = .ok (.iload_n 2, 1) := by decide +kernel
theorem dL_told_5 : decode bL_told 5 = .ok (.invokevirtual 48, 3) := by decide +kernel
theorem dL_told_8 : decode bL_told 8 = .ok (.lastore, 1) := by decide +kernel
theorem dL_told_9 : decode bL_told 9 = .ok (.goto 7, 3) := by decide +kernel
theorem dL_told_12 : decode bL_told 12 = .ok (.astore 4, 2) := by decide +kernel
theorem dL_told_14 : decode bL_told 14 = .ok (.iconst 1, 1) := by decide +kernel
theorem dL_told_15 : decode bL_told 15 = .ok (.ireturn, 1) := by decide +kernel
theorem dL_told_16 : decode bL_told 16 = .ok (.iconst 0, 1) := by decide +kernel
theorem dL_told_17 : decode bL_told 17 = .ok (.ireturn, 1) := by decide +kernel
theorem dL_balance_0 : decode bL_balance 0 = .ok (.aload_n 2, 1) := by decide +kernel
theorem dL_balance_1 : decode bL_balance 1 = .ok (.iconst 0, 1) := by decide +kernel
theorem dL_balance_2 : decode bL_balance 2 = .ok (.aload_n 0, 1) := by decide +kernel
theorem dL_balance_3 : decode bL_balance 3 = .ok (.iload_n 1, 1) := by decide +kernel
theorem dL_balance_4 : decode bL_balance 4 = .ok (.invokevirtual 52, 3) := by decide +kernel
theorem dL_balance_7 : decode bL_balance 7 = .ok (.lastore, 1) := by decide +kernel
theorem dL_balance_8 : decode bL_balance 8 = .ok (.goto 6, 3) := by decide +kernel
theorem dL_balance_11 : decode bL_balance 11 = .ok (.astore_n 3, 1) := by decide +kernel
theorem dL_balance_12 : decode bL_balance 12 = .ok (.iconst 1, 1) := by decide +kernel
theorem dL_balance_13 : decode bL_balance 13 = .ok (.ireturn, 1) := by decide +kernel
theorem dL_balance_14 : decode bL_balance 14 = .ok (.iconst 0, 1) := by decide +kernel
theorem dL_balance_15 : decode bL_balance 15 = .ok (.ireturn, 1) := by decide +kernel
theorem dL_early_0 : decode bL_early 0 = .ok (.aload 4, 2) := by decide +kernel
theorem dL_early_2 : decode bL_early 2 = .ok (.iconst 0, 1) := by decide +kernel
theorem dL_early_3 : decode bL_early 3 = .ok (.aload_n 0, 1) := by decide +kernel
theorem dL_early_4 : decode bL_early 4 = .ok (.iload_n 1, 1) := by decide +kernel
theorem dL_early_5 : decode bL_early 5 = .ok (.iload_n 2, 1) := by decide +kernel
theorem dL_early_6 : decode bL_early 6 = .ok (.iload_n 3, 1) := by decide +kernel
theorem dL_early_7 : decode bL_early 7 = .ok (.invokevirtual 56, 3) := by decide +kernel
theorem dL_early_10 : decode bL_early 10 = .ok (.i2l, 1) := by decide +kernel
theorem dL_early_11 : decode bL_early 11 = .ok (.lastore, 1) := by decide +kernel
theorem dL_early_12 : decode bL_early 12 = .ok (.goto 7, 3) := by decide +kernel
theorem dL_early_15 : decode bL_early 15 = .ok (.astore 5, 2) := by decide +kernel
theorem dL_early_17 : decode bL_early 17 = .ok (.iconst 1, 1) := by decide +kernel
theorem dL_early_18 : decode bL_early 18 = .ok (.ireturn, 1) := by decide +kernel
theorem dL_early_19 : decode bL_early 19 = .ok (.iconst 0, 1) := by decide +kernel
theorem dL_early_20 : decode bL_early 20 = .ok (.ireturn, 1) := by decide +kernel
theorem dL_strong_0 : decode bL_strong 0 = .ok (.aload_n 3, 1) := by decide +kernel
theorem dL_strong_1 : decode bL_strong 1 = .ok (.iconst 0, 1) := by decide +kernel
theorem dL_strong_2 : decode bL_strong 2 = .ok (.aload_n 0, 1) := by decide +kernel
theorem dL_strong_3 : decode bL_strong 3 = .ok (.iload_n 1, 1) := by decide +kernel
theorem dL_strong_4 : decode bL_strong 4 = .ok (.iload_n 2, 1) := by decide +kernel
theorem dL_strong_5 : decode bL_strong 5 = .ok (.invokevirtual 59, 3) := by decide +kernel
theorem dL_strong_8 : decode bL_strong 8 = .ok (.i2l, 1) := by decide +kernel
theorem dL_strong_9 : decode bL_strong 9 = .ok (.lastore, 1) := by decide +kernel
theorem dL_strong_10 : decode bL_strong 10 = .ok (.goto 7, 3) := by decide +kernel
theorem dL_strong_13 : decode bL_strong 13 = .ok (.astore 4, 2) := by decide +kernel
theorem dL_strong_15 : decode bL_strong 15 = .ok (.iconst 1, 1) := by decide +kernel
theorem dL_strong_16 : decode bL_strong 16 = .ok (.ireturn, 1) := by decide +kernel
theorem dL_strong_17 : decode bL_strong 17 = .ok (.iconst 0, 1) := by decide +kernel
theorem dL_strong_18 : decode bL_strong 18 = .ok (.ireturn, 1) := by decide +kernel
