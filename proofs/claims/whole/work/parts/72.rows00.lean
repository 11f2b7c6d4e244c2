theorem dL_tip_0 : decode cL_tip 0 = .ok (.aload_n 0, 1) := by decide +kernel
theorem dL_tip_1 : decode cL_tip 1 = .ok (.iload_n 1, 1) := by decide +kernel
theorem dL_tip_2 : decode cL_tip 2 = .ok (.iload_n 2, 1) := by decide +kernel
theorem dL_tip_3 : decode cL_tip 3 = .ok (.iload_n 3, 1) := by decide +kernel
theorem dL_tip_4 : decode cL_tip 4 = .ok (.invokevirtual 21, 3) := by decide +kernel
theorem dL_tip_7 : decode cL_tip 7 = .ok (.goto 7, 3) := by decide +kernel
theorem dL_tip_10 : decode cL_tip 10 = .ok (.astore 4, 2) := by decide +kernel
theorem dL_tip_12 : decode cL_tip 12 = .ok (.iconst 1, 1) := by decide +kernel
theorem dL_tip_13 : decode cL_tip 13 = .ok (.ireturn, 1) := by decide +kernel
theorem dL_tip_14 : decode cL_tip 14 = .ok (.iconst 0, 1) := by decide +kernel
theorem dL_tip_15 : decode cL_tip 15 = .ok (.ireturn, 1) := by decide +kernel
theorem dL_reaches_0 : decode cL_reaches 0 = .ok (.aload_n 3, 1) := by decide +kernel
theorem dL_reaches_1 : decode cL_reaches 1 = .ok (.iconst 0, 1) := by decide +kernel
theorem dL_reaches_2 : decode cL_reaches 2 = .ok (.aload_n 0, 1) := by decide +kernel
theorem dL_reaches_3 : decode cL_reaches 3 = .ok (.iload_n 1, 1) := by decide +kernel
theorem dL_reaches_4 : decode cL_reaches 4 = .ok (.iload_n 2, 1) := by decide +kernel
theorem dL_reaches_5 : decode cL_reaches 5 = .ok (.invokevirtual 25, 3) := by decide +kernel
theorem dL_reaches_8 : decode cL_reaches 8 = .ok (.ifCond .eq 7, 3) := by decide +kernel
theorem dL_reaches_11 : decode cL_reaches 11 = .ok (.lconst 1, 1) := by decide +kernel
theorem dL_reaches_12 : decode cL_reaches 12 = .ok (.goto 4, 3) := by decide +kernel
theorem dL_reaches_15 : decode cL_reaches 15 = .ok (.lconst 0, 1) := by decide +kernel
theorem dL_reaches_16 : decode cL_reaches 16 = .ok (.lastore, 1) := by decide +kernel
theorem dL_reaches_17 : decode cL_reaches 17 = .ok (.goto 7, 3) := by decide +kernel
theorem dL_reaches_20 : decode cL_reaches 20 = .ok (.astore 4, 2) := by decide +kernel
theorem dL_reaches_22 : decode cL_reaches 22 = .ok (.iconst 1, 1) := by decide +kernel
theorem dL_reaches_23 : decode cL_reaches 23 = .ok (.ireturn, 1) := by decide +kernel
theorem dL_reaches_24 : decode cL_reaches 24 = .ok (.iconst 0, 1) := by decide +kernel
theorem dL_reaches_25 : decode cL_reaches 25 = .ok (.ireturn, 1) := by decide +kernel
theorem dL_base_0 : decode cL_base 0 = .ok (.aload 4, 2) := by decide +kernel
theorem dL_base_2 : decode cL_base 2 = .ok (.iconst 0, 1) := by decide +kernel
theorem dL_base_3 : decode cL_base 3 = .ok (.aload_n 0, 1) := by decide +kernel
theorem dL_base_4 : decode cL_base 4 = .ok (.iload_n 1, 1) := by decide +kernel
theorem dL_base_5 : decode cL_base 5 = .ok (.iload_n 2, 1) := by decide +kernel
theorem dL_base_6 : decode cL_base 6 = .ok (.iload_n 3, 1) := by decide +kernel
theorem dL_base_7 : decode cL_base 7 = .ok (.invokevirtual 29, 3) := by decide +kernel
theorem dL_base_10 : decode cL_base 10 = .ok (.i2l, 1) := by decide +kernel
theorem dL_base_11 : decode cL_base 11 = .ok (.lastore, 1) := by decide +kernel
theorem dL_base_12 : decode cL_base 12 = .ok (.goto 11, 3) := by decide +kernel
theorem dL_base_15 : decode cL_base 15 = .ok (.astore 5, 2) := by decide +kernel
theorem dL_base_17 : decode cL_base 17 = .ok (.iconst 1, 1) := by decide +kernel
theorem dL_base_18 : decode cL_base 18 = .ok (.ireturn, 1) := by decide +kernel
theorem dL_base_19 : decode cL_base 19 = .ok (.astore 5, 2) := by decide +kernel
theorem dL_base_21 : decode cL_base 21 = .ok (.iconst 2, 1) := by decide +kernel
theorem dL_base_22 : decode cL_base 22 = .ok (.ireturn, 1) := by decide +kernel
theorem dL_base_23 : decode cL_base 23 = .ok (.iconst 0, 1) := by decide +kernel
theorem dL_base_24 : decode cL_base 24 = .ok (.ireturn, 1) := by decide +kernel
theorem dL_log_0 : decode cL_log 0 = .ok (.aload_n 3, 1) := by decide +kernel
theorem dL_log_1 : decode cL_log 1 = .ok (.iconst 0, 1) := by decide +kernel
theorem dL_log_2 : decode cL_log 2 = .ok (.aload_n 0, 1) := by decide +kernel
theorem dL_log_3 : decode cL_log 3 = .ok (.iload_n 1, 1) := by decide +kernel
theorem dL_log_4 : decode cL_log 4 = .ok (.iload_n 2, 1) := by decide +kernel
theorem dL_log_5 : decode cL_log 5 = .ok (.invokevirtual 35, 3) := by decide +kernel
theorem dL_log_8 : decode cL_log 8 = .ok (.i2l, 1) := by decide +kernel
theorem dL_log_9 : decode cL_log 9 = .ok (.lastore, 1) := by decide +kernel
theorem dL_log_10 : decode cL_log 10 = .ok (.goto 11, 3) := by decide +kernel
theorem dL_log_13 : decode cL_log 13 = .ok (.astore 4, 2) := by decide +kernel
theorem dL_log_15 : decode cL_log 15 = .ok (.iconst 1, 1) := by decide +kernel
theorem dL_log_16 : decode cL_log 16 = .ok (.ireturn, 1) := by decide +kernel
theorem dL_log_17 : decode cL_log 17 = .ok (.astore 4, 2) := by decide +kernel
theorem dL_log_19 : decode cL_log 19 = .ok (.iconst 2, 1) := by decide +kernel
theorem dL_log_20 : decode cL_log 20 = .ok (.ireturn, 1) := by decide +kernel
theorem dL_log_21 : decode cL_log 21 = .ok (.iconst 0, 1) := by decide +kernel
theorem dL_log_22 : decode cL_log 22 = .ok (.ireturn, 1) := by decide +kernel
theorem dL_back_0 : decode cL_back 0 = .ok (.aload_n 3, 1) := by decide +kernel
theorem dL_back_1 : decode cL_back 1 = .ok (.iconst 0, 1) := by decide +kernel
theorem dL_back_2 : decode cL_back 2 = .ok (.aload_n 0, 1) := by decide +kernel
theorem dL_back_3 : decode cL_back 3 = .ok (.iload_n 1, 1) := by decide +kernel
theorem dL_back_4 : decode cL_back 4 = .ok (.iload_n 2, 1) := by decide +kernel
theorem dL_back_5 : decode cL_back 5 = .ok (.invokevirtual 38, 3) := by decide +kernel
theorem dL_back_8 : decode cL_back 8 = .ok (.i2l, 1) := by decide +kernel
theorem dL_back_9 : decode cL_back 9 = .ok (.lastore, 1) := by decide +kernel
theorem dL_back_10 : decode cL_back 10 = .ok (.goto 11, 3) := by decide +kernel
theorem dL_back_13 : decode cL_back 13 = .ok (.astore 4, 2) := by decide +kernel
theorem dL_back_15 : decode cL_back 15 = .ok (.iconst 1, 1) := by decide +kernel
theorem dL_back_16 : decode cL_back 16 = .ok (.ireturn, 1) := by decide +kernel
theorem dL_back_17 : decode cL_back 17 = .ok (.astore 4, 2) := by decide +kernel
theorem dL_back_19 : decode cL_back 19 = .ok (.iconst 2, 1) := by decide +kernel
theorem dL_back_20 : decode cL_back 20 = .ok (.ireturn, 1) := by decide +kernel
theorem dL_back_21 : decode cL_back 21 = .ok (.iconst 0, 1) := by decide +kernel
theorem dL_back_22 : decode cL_back 22 = .ok (.ireturn, 1) := by decide +kernel
theorem dL_sent_0 : decode cL_sent 0 = .ok (.aload_n 3, 1) := by decide +kernel
theorem dL_sent_1 : decode cL_sent 1 = .ok (.iconst 0, 1) := by decide +kernel
theorem dL_sent_2 : decode cL_sent 2 = .ok (.aload_n 0, 1) := by decide +kernel
theorem dL_sent_3 : decode cL_sent 3 = .ok (.iload_n 1, 1) := by decide +kernel
theorem dL_sent_4 : decode cL_sent 4 = .ok (.iload_n 2, 1) := by decide +kernel
theorem dL_sent_5 : decode cL_sent 5 = .ok (.invokevirtual 41, 3) := by decide +kernel
theorem dL_sent_8 : decode cL_sent 8 = .ok (.i2l, 1) := by decide +kernel
theorem dL_sent_9 : decode cL_sent 9 = .ok (.lastore, 1) := by decide +kernel
theorem dL_sent_10 : decode cL_sent 10 = .ok (.goto 11, 3) := by decide +kernel
theorem dL_sent_13 : decode cL_sent 13 = .ok (.astore 4, 2) := by decide +kernel
theorem dL_sent_15 : decode cL_sent 15 = .ok (.iconst 1, 1) := by decide +kernel
theorem dL_sent_16 : decode cL_sent 16 = .ok (.ireturn, 1) := by decide +kernel
theorem dL_sent_17 : decode cL_sent 17 = .ok (.astore 4, 2) := by decide +kernel
theorem dL_sent_19 : decode cL_sent 19 = .ok (.iconst 2, 1) := by decide +kernel
theorem dL_sent_20 : decode cL_sent 20 = .ok (.ireturn, 1) := by decide +kernel
theorem dL_sent_21 : decode cL_sent 21 = .ok (.iconst 0, 1) := by decide +kernel
theorem dL_sent_22 : decode cL_sent 22 = .ok (.ireturn, 1) := by decide +kernel
theorem dL_told_0 : decode cL_told 0 = .ok (.aload_n 3, 1) := by decide +kernel
theorem dL_told_1 : decode cL_told 1 = .ok (.iconst 0, 1) := by decide +kernel
theorem dL_told_2 : decode cL_told 2 = .ok (.aload_n 0, 1) := by decide +kernel
theorem dL_told_3 : decode cL_told 3 = .ok (.iload_n 1, 1) := by decide +kernel
theorem dL_told_4 : decode cL_told 4 = .ok (.iload_n 2, 1) := by decide +kernel
theorem dL_told_5 : decode cL_told 5 = .ok (.invokevirtual 44, 3) := by decide +kernel
theorem dL_told_8 : decode cL_told 8 = .ok (.i2l, 1) := by decide +kernel
theorem dL_told_9 : decode cL_told 9 = .ok (.lastore, 1) := by decide +kernel
theorem dL_told_10 : decode cL_told 10 = .ok (.goto 7, 3) := by decide +kernel
theorem dL_told_13 : decode cL_told 13 = .ok (.astore 4, 2) := by decide +kernel
theorem dL_told_15 : decode cL_told 15 = .ok (.iconst 1, 1) := by decide +kernel
theorem dL_told_16 : decode cL_told 16 = .ok (.ireturn, 1) := by decide +kernel
theorem dL_told_17 : decode cL_told 17 = .ok (.iconst 0, 1) := by decide +kernel
theorem dL_told_18 : decode cL_told 18 = .ok (.ireturn, 1) := by decide +kernel
