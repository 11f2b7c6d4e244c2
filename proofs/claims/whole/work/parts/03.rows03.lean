theorem dX1_queuedAt_28 : decode cX1_queuedAt 28 = .ok (.if_icmp .ge 17, 3) := by decide +kernel
theorem dX1_queuedAt_31 : decode cX1_queuedAt 31 = .ok (.aload_n 0, 1) := by decide +kernel
theorem dX1_queuedAt_32 : decode cX1_queuedAt 32 = .ok (.getfield 41, 3) := by decide +kernel
theorem dX1_queuedAt_35 : decode cX1_queuedAt 35 = .ok (.invokevirtual 170, 3) := by decide +kernel
theorem dX1_queuedAt_38 : decode cX1_queuedAt 38 = .ok (.pop, 1) := by decide +kernel
theorem dX1_queuedAt_39 : decode cX1_queuedAt 39 = .ok (.iinc 2 1, 3) := by decide +kernel
theorem dX1_queuedAt_42 : decode cX1_queuedAt 42 = .ok (.goto (-16), 3) := by decide +kernel
theorem dX1_queuedAt_45 : decode cX1_queuedAt 45 = .ok (.aload_n 0, 1) := by decide +kernel
theorem dX1_queuedAt_46 : decode cX1_queuedAt 46 = .ok (.getfield 41, 3) := by decide +kernel
theorem dX1_queuedAt_49 : decode cX1_queuedAt 49 = .ok (.invokevirtual 170, 3) := by decide +kernel
theorem dX1_queuedAt_52 : decode cX1_queuedAt 52 = .ok (.ireturn, 1) := by decide +kernel
theorem dX1_checkPlace_0 : decode cX1_checkPlace 0 = .ok (.iload_n 0, 1) := by decide +kernel
theorem dX1_checkPlace_1 : decode cX1_checkPlace 1 = .ok (.ifCond .lt 8, 3) := by decide +kernel
theorem dX1_checkPlace_4 : decode cX1_checkPlace 4 = .ok (.iload_n 0, 1) := by decide +kernel
theorem dX1_checkPlace_5 : decode cX1_checkPlace 5 = .ok (.iload_n 1, 1) := by decide +kernel
theorem dX1_checkPlace_6 : decode cX1_checkPlace 6 = .ok (.if_icmp .lt 13, 3) := by decide +kernel
theorem dX1_checkPlace_9 : decode cX1_checkPlace 9 = .ok (.new 115, 3) := by decide +kernel
theorem dX1_checkPlace_12 : decode cX1_checkPlace 12 = .ok (.dup, 1) := by decide +kernel
theorem dX1_checkPlace_13 : decode cX1_checkPlace 13 = .ok (.ldc 156, 2) := by decide +kernel
theorem dX1_checkPlace_15 : decode cX1_checkPlace 15 = .ok (.invokespecial 119, 3) := by decide +kernel
theorem dX1_checkPlace_18 : decode cX1_checkPlace 18 = .ok (.athrow, 1) := by decide +kernel
theorem dX1_checkPlace_19 : decode cX1_checkPlace 19 = .ok (.return_, 1) := by decide +kernel
theorem dX1_log_0 : decode cX1_log 0 = .ok (.aload_n 0, 1) := by decide +kernel
theorem dX1_log_1 : decode cX1_log 1 = .ok (.iload_n 1, 1) := by decide +kernel
theorem dX1_log_2 : decode cX1_log 2 = .ok (.invokevirtual 64, 3) := by decide +kernel
theorem dX1_log_5 : decode cX1_log 5 = .ok (.aload_n 0, 1) := by decide +kernel
theorem dX1_log_6 : decode cX1_log 6 = .ok (.iload_n 1, 1) := by decide +kernel
theorem dX1_log_7 : decode cX1_log 7 = .ok (.invokevirtual 84, 3) := by decide +kernel
theorem dX1_log_10 : decode cX1_log 10 = .ok (.aload_n 0, 1) := by decide +kernel
theorem dX1_log_11 : decode cX1_log 11 = .ok (.invokevirtual 102, 3) := by decide +kernel
theorem dX1_log_14 : decode cX1_log 14 = .ok (.istore_n 3, 1) := by decide +kernel
theorem dX1_log_15 : decode cX1_log 15 = .ok (.iload_n 2, 1) := by decide +kernel
theorem dX1_log_16 : decode cX1_log 16 = .ok (.iconst (-1), 1) := by decide +kernel
theorem dX1_log_17 : decode cX1_log 17 = .ok (.if_icmp .ne 5, 3) := by decide +kernel
theorem dX1_log_20 : decode cX1_log 20 = .ok (.iload_n 3, 1) := by decide +kernel
theorem dX1_log_21 : decode cX1_log 21 = .ok (.ireturn, 1) := by decide +kernel
theorem dX1_log_22 : decode cX1_log 22 = .ok (.iload_n 2, 1) := by decide +kernel
theorem dX1_log_23 : decode cX1_log 23 = .ok (.iload_n 3, 1) := by decide +kernel
theorem dX1_log_24 : decode cX1_log 24 = .ok (.invokestatic 106, 3) := by decide +kernel
theorem dX1_log_27 : decode cX1_log 27 = .ok (.aload_n 0, 1) := by decide +kernel
theorem dX1_log_28 : decode cX1_log 28 = .ok (.iload_n 1, 1) := by decide +kernel
theorem dX1_log_29 : decode cX1_log 29 = .ok (.iload_n 2, 1) := by decide +kernel
theorem dX1_log_30 : decode cX1_log 30 = .ok (.invokevirtual 109, 3) := by decide +kernel
theorem dX1_log_33 : decode cX1_log 33 = .ok (.ireturn, 1) := by decide +kernel
theorem dX1_markedCommits_0 : decode cX1_markedCommits 0 = .ok (.iconst 0, 1) := by decide +kernel
theorem dX1_markedCommits_1 : decode cX1_markedCommits 1 = .ok (.istore_n 1, 1) := by decide +kernel
theorem dX1_markedCommits_2 : decode cX1_markedCommits 2 = .ok (.iconst 0, 1) := by decide +kernel
theorem dX1_markedCommits_3 : decode cX1_markedCommits 3 = .ok (.istore_n 2, 1) := by decide +kernel
theorem dX1_markedCommits_4 : decode cX1_markedCommits 4 = .ok (.iload_n 2, 1) := by decide +kernel
theorem dX1_markedCommits_5 : decode cX1_markedCommits 5 = .ok (.aload_n 0, 1) := by decide +kernel
theorem dX1_markedCommits_6 : decode cX1_markedCommits 6 = .ok (.getfield 49, 3) := by decide +kernel
theorem dX1_markedCommits_9 : decode cX1_markedCommits 9 = .ok (.if_icmp .ge 21, 3) := by decide +kernel
theorem dX1_markedCommits_12 : decode cX1_markedCommits 12 = .ok (.aload_n 0, 1) := by decide +kernel
theorem dX1_markedCommits_13 : decode cX1_markedCommits 13 = .ok (.getfield 32, 3) := by decide +kernel
theorem dX1_markedCommits_16 : decode cX1_markedCommits 16 = .ok (.iload_n 2, 1) := by decide +kernel
theorem dX1_markedCommits_17 : decode cX1_markedCommits 17 = .ok (.iaload, 1) := by decide +kernel
theorem dX1_markedCommits_18 : decode cX1_markedCommits 18 = .ok (.ifCond .eq 6, 3) := by decide +kernel
theorem dX1_markedCommits_21 : decode cX1_markedCommits 21 = .ok (.iinc 1 1, 3) := by decide +kernel
theorem dX1_markedCommits_24 : decode cX1_markedCommits 24 = .ok (.iinc 2 1, 3) := by decide +kernel
theorem dX1_markedCommits_27 : decode cX1_markedCommits 27 = .ok (.goto (-23), 3) := by decide +kernel
theorem dX1_markedCommits_30 : decode cX1_markedCommits 30 = .ok (.iload_n 1, 1) := by decide +kernel
theorem dX1_markedCommits_31 : decode cX1_markedCommits 31 = .ok (.ireturn, 1) := by decide +kernel
theorem dX1_toldAt_0 : decode cX1_toldAt 0 = .ok (.aload_n 0, 1) := by decide +kernel
theorem dX1_toldAt_1 : decode cX1_toldAt 1 = .ok (.invokevirtual 173, 3) := by decide +kernel
theorem dX1_toldAt_4 : decode cX1_toldAt 4 = .ok (.aload_n 0, 1) := by decide +kernel
theorem dX1_toldAt_5 : decode cX1_toldAt 5 = .ok (.getfield 41, 3) := by decide +kernel
theorem dX1_toldAt_8 : decode cX1_toldAt 8 = .ok (.invokevirtual 93, 3) := by decide +kernel
theorem dX1_toldAt_11 : decode cX1_toldAt 11 = .ok (.aload_n 0, 1) := by decide +kernel
theorem dX1_toldAt_12 : decode cX1_toldAt 12 = .ok (.iload_n 1, 1) := by decide +kernel
theorem dX1_toldAt_13 : decode cX1_toldAt 13 = .ok (.invokevirtual 96, 3) := by decide +kernel
theorem dX1_toldAt_16 : decode cX1_toldAt 16 = .ok (.iconst 0, 1) := by decide +kernel
theorem dX1_toldAt_17 : decode cX1_toldAt 17 = .ok (.istore_n 3, 1) := by decide +kernel
theorem dX1_toldAt_18 : decode cX1_toldAt 18 = .ok (.iload_n 3, 1) := by decide +kernel
theorem dX1_toldAt_19 : decode cX1_toldAt 19 = .ok (.iload_n 2, 1) := by decide +kernel
theorem dX1_toldAt_20 : decode cX1_toldAt 20 = .ok (.if_icmp .ge 23, 3) := by decide +kernel
theorem dX1_toldAt_23 : decode cX1_toldAt 23 = .ok (.aload_n 0, 1) := by decide +kernel
theorem dX1_toldAt_24 : decode cX1_toldAt 24 = .ok (.getfield 41, 3) := by decide +kernel
theorem dX1_toldAt_27 : decode cX1_toldAt 27 = .ok (.invokevirtual 167, 3) := by decide +kernel
theorem dX1_toldAt_30 : decode cX1_toldAt 30 = .ok (.ifCond .le 13, 3) := by decide +kernel
theorem dX1_toldAt_33 : decode cX1_toldAt 33 = .ok (.aload_n 0, 1) := by decide +kernel
theorem dX1_toldAt_34 : decode cX1_toldAt 34 = .ok (.invokevirtual 176, 3) := by decide +kernel
theorem dX1_toldAt_37 : decode cX1_toldAt 37 = .ok (.iinc 3 1, 3) := by decide +kernel
theorem dX1_toldAt_40 : decode cX1_toldAt 40 = .ok (.goto (-22), 3) := by decide +kernel
theorem dX1_toldAt_43 : decode cX1_toldAt 43 = .ok (.aload_n 0, 1) := by decide +kernel
theorem dX1_toldAt_44 : decode cX1_toldAt 44 = .ok (.getfield 41, 3) := by decide +kernel
theorem dX1_toldAt_47 : decode cX1_toldAt 47 = .ok (.invokevirtual 170, 3) := by decide +kernel
theorem dX1_toldAt_50 : decode cX1_toldAt 50 = .ok (.ireturn, 1) := by decide +kernel
theorem dX1_countUntoldLinks_0 : decode cX1_countUntoldLinks 0 = .ok (.iconst 0, 1) := by decide +kernel
theorem dX1_countUntoldLinks_1 : decode cX1_countUntoldLinks 1 = .ok (.istore_n 1, 1) := by decide +kernel
theorem dX1_countUntoldLinks_2 : decode cX1_countUntoldLinks 2 = .ok (.iload_n 1, 1) := by decide +kernel
theorem dX1_countUntoldLinks_3 : decode cX1_countUntoldLinks 3 = .ok (.aload_n 0, 1) := by decide +kernel
theorem dX1_countUntoldLinks_4 : decode cX1_countUntoldLinks 4 = .ok (.getfield 49, 3) := by decide +kernel
theorem dX1_countUntoldLinks_7 : decode cX1_countUntoldLinks 7 = .ok (.if_icmp .ge 16, 3) := by decide +kernel
theorem dX1_countUntoldLinks_10 : decode cX1_countUntoldLinks 10 = .ok (.aload_n 0, 1) := by decide +kernel
theorem dX1_countUntoldLinks_11 : decode cX1_countUntoldLinks 11 = .ok (.getfield 35, 3) := by decide +kernel
theorem dX1_countUntoldLinks_14 : decode cX1_countUntoldLinks 14 = .ok (.iload_n 1, 1) := by decide +kernel
theorem dX1_countUntoldLinks_15 : decode cX1_countUntoldLinks 15 = .ok (.iconst 0, 1) := by decide +kernel
theorem dX1_countUntoldLinks_16 : decode cX1_countUntoldLinks 16 = .ok (.iastore, 1) := by decide +kernel
theorem dX1_countUntoldLinks_17 : decode cX1_countUntoldLinks 17 = .ok (.iinc 1 1, 3) := by decide +kernel
theorem dX1_countUntoldLinks_20 : decode cX1_countUntoldLinks 20 = .ok (.goto (-18), 3) := by decide +kernel
theorem dX1_countUntoldLinks_23 : decode cX1_countUntoldLinks 23 = .ok (.iconst 0, 1) := by decide +kernel
theorem dX1_countUntoldLinks_24 : decode cX1_countUntoldLinks 24 = .ok (.istore_n 1, 1) := by decide +kernel
theorem dX1_countUntoldLinks_25 : decode cX1_countUntoldLinks 25 = .ok (.iload_n 1, 1) := by decide +kernel
theorem dX1_countUntoldLinks_26 : decode cX1_countUntoldLinks 26 = .ok (.aload_n 0, 1) := by decide +kernel
theorem dX1_countUntoldLinks_27 : decode cX1_countUntoldLinks 27 = .ok (.getfield 49, 3) := by decide +kernel
theorem dX1_countUntoldLinks_30 : decode cX1_countUntoldLinks 30 = .ok (.if_icmp .ge 57, 3) := by decide +kernel
theorem dX1_countUntoldLinks_33 : decode cX1_countUntoldLinks 33 = .ok (.aload_n 0, 1) := by decide +kernel
theorem dX1_countUntoldLinks_34 : decode cX1_countUntoldLinks 34 = .ok (.getfield 32, 3) := by decide +kernel
theorem dX1_countUntoldLinks_37 : decode cX1_countUntoldLinks 37 = .ok (.iload_n 1, 1) := by decide +kernel
theorem dX1_countUntoldLinks_38 : decode cX1_countUntoldLinks 38 = .ok (.iaload, 1) := by decide +kernel
theorem dX1_countUntoldLinks_39 : decode cX1_countUntoldLinks 39 = .ok (.ifCond .ne 7, 3) := by decide +kernel
theorem dX1_countUntoldLinks_42 : decode cX1_countUntoldLinks 42 = .ok (.iconst 0, 1) := by decide +kernel
theorem dX1_countUntoldLinks_43 : decode cX1_countUntoldLinks 43 = .ok (.goto 9, 3) := by decide +kernel
theorem dX1_countUntoldLinks_46 : decode cX1_countUntoldLinks 46 = .ok (.aload_n 0, 1) := by decide +kernel
theorem dX1_countUntoldLinks_47 : decode cX1_countUntoldLinks 47 = .ok (.getfield 19, 3) := by decide +kernel
theorem dX1_countUntoldLinks_50 : decode cX1_countUntoldLinks 50 = .ok (.iload_n 1, 1) := by decide +kernel
theorem dX1_countUntoldLinks_51 : decode cX1_countUntoldLinks 51 = .ok (.iaload, 1) := by decide +kernel
theorem dX1_countUntoldLinks_52 : decode cX1_countUntoldLinks 52 = .ok (.istore_n 2, 1) := by decide +kernel
theorem dX1_countUntoldLinks_53 : decode cX1_countUntoldLinks 53 = .ok (.iconst 0, 1) := by decide +kernel
theorem dX1_countUntoldLinks_54 : decode cX1_countUntoldLinks 54 = .ok (.istore_n 3, 1) := by decide +kernel
theorem dX1_countUntoldLinks_55 : decode cX1_countUntoldLinks 55 = .ok (.iload_n 3, 1) := by decide +kernel
theorem dX1_countUntoldLinks_56 : decode cX1_countUntoldLinks 56 = .ok (.iload_n 2, 1) := by decide +kernel
theorem dX1_countUntoldLinks_57 : decode cX1_countUntoldLinks 57 = .ok (.if_icmp .ge 24, 3) := by decide +kernel
theorem dX1_countUntoldLinks_60 : decode cX1_countUntoldLinks 60 = .ok (.aload_n 0, 1) := by decide +kernel
theorem dX1_countUntoldLinks_61 : decode cX1_countUntoldLinks 61 = .ok (.getfield 35, 3) := by decide +kernel
theorem dX1_countUntoldLinks_64 : decode cX1_countUntoldLinks 64 = .ok (.aload_n 0, 1) := by decide +kernel
theorem dX1_countUntoldLinks_65 : decode cX1_countUntoldLinks 65 = .ok (.iload_n 1, 1) := by decide +kernel
theorem dX1_countUntoldLinks_66 : decode cX1_countUntoldLinks 66 = .ok (.iload_n 3, 1) := by decide +kernel
theorem dX1_countUntoldLinks_67 : decode cX1_countUntoldLinks 67 = .ok (.invokevirtual 120, 3) := by decide +kernel
theorem dX1_countUntoldLinks_70 : decode cX1_countUntoldLinks 70 = .ok (.dup2, 1) := by decide +kernel
theorem dX1_countUntoldLinks_71 : decode cX1_countUntoldLinks 71 = .ok (.iaload, 1) := by decide +kernel
theorem dX1_countUntoldLinks_72 : decode cX1_countUntoldLinks 72 = .ok (.iconst 1, 1) := by decide +kernel
theorem dX1_countUntoldLinks_73 : decode cX1_countUntoldLinks 73 = .ok (.iadd, 1) := by decide +kernel
theorem dX1_countUntoldLinks_74 : decode cX1_countUntoldLinks 74 = .ok (.iastore, 1) := by decide +kernel
theorem dX1_countUntoldLinks_75 : decode cX1_countUntoldLinks 75 = .ok (.iinc 3 1, 3) := by decide +kernel
theorem dX1_countUntoldLinks_78 : decode cX1_countUntoldLinks 78 = .ok (.goto (-23), 3) := by decide +kernel
theorem dX1_countUntoldLinks_81 : decode cX1_countUntoldLinks 81 = .ok (.iinc 1 1, 3) := by decide +kernel
theorem dX1_countUntoldLinks_84 : decode cX1_countUntoldLinks 84 = .ok (.goto (-59), 3) := by decide +kernel
theorem dX1_countUntoldLinks_87 : decode cX1_countUntoldLinks 87 = .ok (.return_, 1) := by decide +kernel
theorem dX1_tellNext_0 : decode cX1_tellNext 0 = .ok (.aload_n 0, 1) := by decide +kernel
theorem dX1_tellNext_1 : decode cX1_tellNext 1 = .ok (.getfield 41, 3) := by decide +kernel
theorem dX1_tellNext_4 : decode cX1_tellNext 4 = .ok (.invokevirtual 170, 3) := by decide +kernel
theorem dX1_tellNext_7 : decode cX1_tellNext 7 = .ok (.istore_n 1, 1) := by decide +kernel
theorem dX1_tellNext_8 : decode cX1_tellNext 8 = .ok (.iconst 0, 1) := by decide +kernel
theorem dX1_tellNext_9 : decode cX1_tellNext 9 = .ok (.istore_n 2, 1) := by decide +kernel
theorem dX1_tellNext_10 : decode cX1_tellNext 10 = .ok (.iload_n 2, 1) := by decide +kernel
theorem dX1_tellNext_11 : decode cX1_tellNext 11 = .ok (.aload_n 0, 1) := by decide +kernel
theorem dX1_tellNext_12 : decode cX1_tellNext 12 = .ok (.getfield 19, 3) := by decide +kernel
theorem dX1_tellNext_15 : decode cX1_tellNext 15 = .ok (.iload_n 1, 1) := by decide +kernel
theorem dX1_tellNext_16 : decode cX1_tellNext 16 = .ok (.iaload, 1) := by decide +kernel
