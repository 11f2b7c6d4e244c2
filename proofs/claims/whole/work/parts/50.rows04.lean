theorem dX2_pick_35 : decode cX2_pick 35 = .ok (.iaload, 1) := by decide +kernel
theorem dX2_pick_36 : decode cX2_pick 36 = .ok (.ireturn, 1) := by decide +kernel
theorem dX2_log_0 : decode cX2_log 0 = .ok (.aload_n 0, 1) := by decide +kernel
theorem dX2_log_1 : decode cX2_log 1 = .ok (.iconst 0, 1) := by decide +kernel
theorem dX2_log_2 : decode cX2_log 2 = .ok (.putfield 38, 3) := by decide +kernel
theorem dX2_log_5 : decode cX2_log 5 = .ok (.aload_n 0, 1) := by decide +kernel
theorem dX2_log_6 : decode cX2_log 6 = .ok (.iload_n 1, 1) := by decide +kernel
theorem dX2_log_7 : decode cX2_log 7 = .ok (.invokevirtual 57, 3) := by decide +kernel
theorem dX2_log_10 : decode cX2_log 10 = .ok (.ifCond .ne 9, 3) := by decide +kernel
theorem dX2_log_13 : decode cX2_log 13 = .ok (.aload_n 0, 1) := by decide +kernel
theorem dX2_log_14 : decode cX2_log 14 = .ok (.iconst 1, 1) := by decide +kernel
theorem dX2_log_15 : decode cX2_log 15 = .ok (.invokevirtual 45, 3) := by decide +kernel
theorem dX2_log_18 : decode cX2_log 18 = .ok (.ireturn, 1) := by decide +kernel
theorem dX2_log_19 : decode cX2_log 19 = .ok (.aload_n 0, 1) := by decide +kernel
theorem dX2_log_20 : decode cX2_log 20 = .ok (.iload_n 1, 1) := by decide +kernel
theorem dX2_log_21 : decode cX2_log 21 = .ok (.aload_n 0, 1) := by decide +kernel
theorem dX2_log_22 : decode cX2_log 22 = .ok (.getfield 35, 3) := by decide +kernel
theorem dX2_log_25 : decode cX2_log 25 = .ok (.invokevirtual 68, 3) := by decide +kernel
theorem dX2_log_28 : decode cX2_log 28 = .ok (.aload_n 0, 1) := by decide +kernel
theorem dX2_log_29 : decode cX2_log 29 = .ok (.iconst 0, 1) := by decide +kernel
theorem dX2_log_30 : decode cX2_log 30 = .ok (.putfield 72, 3) := by decide +kernel
theorem dX2_log_33 : decode cX2_log 33 = .ok (.iconst (-1), 1) := by decide +kernel
theorem dX2_log_34 : decode cX2_log 34 = .ok (.istore_n 3, 1) := by decide +kernel
theorem dX2_log_35 : decode cX2_log 35 = .ok (.iconst 0, 1) := by decide +kernel
theorem dX2_log_36 : decode cX2_log 36 = .ok (.istore 4, 2) := by decide +kernel
theorem dX2_log_38 : decode cX2_log 38 = .ok (.iload 4, 2) := by decide +kernel
theorem dX2_log_40 : decode cX2_log 40 = .ok (.aload_n 0, 1) := by decide +kernel
theorem dX2_log_41 : decode cX2_log 41 = .ok (.getfield 42, 3) := by decide +kernel
theorem dX2_log_44 : decode cX2_log 44 = .ok (.if_icmp .ge 45, 3) := by decide +kernel
theorem dX2_log_47 : decode cX2_log 47 = .ok (.aload_n 0, 1) := by decide +kernel
theorem dX2_log_48 : decode cX2_log 48 = .ok (.getfield 35, 3) := by decide +kernel
theorem dX2_log_51 : decode cX2_log 51 = .ok (.iload 4, 2) := by decide +kernel
theorem dX2_log_53 : decode cX2_log 53 = .ok (.baload, 1) := by decide +kernel
theorem dX2_log_54 : decode cX2_log 54 = .ok (.ifCond .eq 29, 3) := by decide +kernel
theorem dX2_log_57 : decode cX2_log 57 = .ok (.iload_n 3, 1) := by decide +kernel
theorem dX2_log_58 : decode cX2_log 58 = .ok (.ifCond .lt 13, 3) := by decide +kernel
theorem dX2_log_61 : decode cX2_log 61 = .ok (.aload_n 0, 1) := by decide +kernel
theorem dX2_log_62 : decode cX2_log 62 = .ok (.iload 4, 2) := by decide +kernel
theorem dX2_log_64 : decode cX2_log 64 = .ok (.iload_n 3, 1) := by decide +kernel
theorem dX2_log_65 : decode cX2_log 65 = .ok (.invokevirtual 75, 3) := by decide +kernel
theorem dX2_log_68 : decode cX2_log 68 = .ok (.ifCond .eq 15, 3) := by decide +kernel
theorem dX2_log_71 : decode cX2_log 71 = .ok (.aload_n 0, 1) := by decide +kernel
theorem dX2_log_72 : decode cX2_log 72 = .ok (.iload 4, 2) := by decide +kernel
theorem dX2_log_74 : decode cX2_log 74 = .ok (.invokevirtual 84, 3) := by decide +kernel
theorem dX2_log_77 : decode cX2_log 77 = .ok (.ifCond .eq 6, 3) := by decide +kernel
theorem dX2_log_80 : decode cX2_log 80 = .ok (.iload 4, 2) := by decide +kernel
theorem dX2_log_82 : decode cX2_log 82 = .ok (.istore_n 3, 1) := by decide +kernel
theorem dX2_log_83 : decode cX2_log 83 = .ok (.iinc 4 1, 3) := by decide +kernel
theorem dX2_log_86 : decode cX2_log 86 = .ok (.goto (-48), 3) := by decide +kernel
theorem dX2_log_89 : decode cX2_log 89 = .ok (.iload_n 3, 1) := by decide +kernel
theorem dX2_log_90 : decode cX2_log 90 = .ok (.ifCond .ge 9, 3) := by decide +kernel
theorem dX2_log_93 : decode cX2_log 93 = .ok (.aload_n 0, 1) := by decide +kernel
theorem dX2_log_94 : decode cX2_log 94 = .ok (.iload_n 2, 1) := by decide +kernel
theorem dX2_log_95 : decode cX2_log 95 = .ok (.invokevirtual 81, 3) := by decide +kernel
theorem dX2_log_98 : decode cX2_log 98 = .ok (.ireturn, 1) := by decide +kernel
theorem dX2_log_99 : decode cX2_log 99 = .ok (.aload_n 0, 1) := by decide +kernel
theorem dX2_log_100 : decode cX2_log 100 = .ok (.getfield 35, 3) := by decide +kernel
theorem dX2_log_103 : decode cX2_log 103 = .ok (.iload_n 3, 1) := by decide +kernel
theorem dX2_log_104 : decode cX2_log 104 = .ok (.iconst 0, 1) := by decide +kernel
theorem dX2_log_105 : decode cX2_log 105 = .ok (.bastore, 1) := by decide +kernel
theorem dX2_log_106 : decode cX2_log 106 = .ok (.aload_n 0, 1) := by decide +kernel
theorem dX2_log_107 : decode cX2_log 107 = .ok (.getfield 22, 3) := by decide +kernel
theorem dX2_log_110 : decode cX2_log 110 = .ok (.aload_n 0, 1) := by decide +kernel
theorem dX2_log_111 : decode cX2_log 111 = .ok (.getfield 72, 3) := by decide +kernel
theorem dX2_log_114 : decode cX2_log 114 = .ok (.iload_n 3, 1) := by decide +kernel
theorem dX2_log_115 : decode cX2_log 115 = .ok (.iastore, 1) := by decide +kernel
theorem dX2_log_116 : decode cX2_log 116 = .ok (.aload_n 0, 1) := by decide +kernel
theorem dX2_log_117 : decode cX2_log 117 = .ok (.dup, 1) := by decide +kernel
theorem dX2_log_118 : decode cX2_log 118 = .ok (.getfield 72, 3) := by decide +kernel
theorem dX2_log_121 : decode cX2_log 121 = .ok (.iconst 1, 1) := by decide +kernel
theorem dX2_log_122 : decode cX2_log 122 = .ok (.iadd, 1) := by decide +kernel
theorem dX2_log_123 : decode cX2_log 123 = .ok (.putfield 72, 3) := by decide +kernel
theorem dX2_log_126 : decode cX2_log 126 = .ok (.goto (-93), 3) := by decide +kernel
theorem dX2_free_0 : decode cX2_free 0 = .ok (.iconst 0, 1) := by decide +kernel
theorem dX2_free_1 : decode cX2_free 1 = .ok (.istore_n 2, 1) := by decide +kernel
theorem dX2_free_2 : decode cX2_free 2 = .ok (.iload_n 2, 1) := by decide +kernel
theorem dX2_free_3 : decode cX2_free 3 = .ok (.aload_n 0, 1) := by decide +kernel
theorem dX2_free_4 : decode cX2_free 4 = .ok (.getfield 42, 3) := by decide +kernel
theorem dX2_free_7 : decode cX2_free 7 = .ok (.if_icmp .ge 34, 3) := by decide +kernel
theorem dX2_free_10 : decode cX2_free 10 = .ok (.aload_n 0, 1) := by decide +kernel
theorem dX2_free_11 : decode cX2_free 11 = .ok (.getfield 35, 3) := by decide +kernel
theorem dX2_free_14 : decode cX2_free 14 = .ok (.iload_n 2, 1) := by decide +kernel
theorem dX2_free_15 : decode cX2_free 15 = .ok (.baload, 1) := by decide +kernel
theorem dX2_free_16 : decode cX2_free 16 = .ok (.ifCond .eq 19, 3) := by decide +kernel
theorem dX2_free_19 : decode cX2_free 19 = .ok (.iload_n 2, 1) := by decide +kernel
theorem dX2_free_20 : decode cX2_free 20 = .ok (.iload_n 1, 1) := by decide +kernel
theorem dX2_free_21 : decode cX2_free 21 = .ok (.if_icmp .eq 14, 3) := by decide +kernel
theorem dX2_free_24 : decode cX2_free 24 = .ok (.aload_n 0, 1) := by decide +kernel
theorem dX2_free_25 : decode cX2_free 25 = .ok (.iload_n 1, 1) := by decide +kernel
theorem dX2_free_26 : decode cX2_free 26 = .ok (.iload_n 2, 1) := by decide +kernel
theorem dX2_free_27 : decode cX2_free 27 = .ok (.invokevirtual 53, 3) := by decide +kernel
theorem dX2_free_30 : decode cX2_free 30 = .ok (.ifCond .eq 5, 3) := by decide +kernel
theorem dX2_free_33 : decode cX2_free 33 = .ok (.iconst 0, 1) := by decide +kernel
theorem dX2_free_34 : decode cX2_free 34 = .ok (.ireturn, 1) := by decide +kernel
theorem dX2_free_35 : decode cX2_free 35 = .ok (.iinc 2 1, 3) := by decide +kernel
theorem dX2_free_38 : decode cX2_free 38 = .ok (.goto (-36), 3) := by decide +kernel
theorem dX2_free_41 : decode cX2_free 41 = .ok (.iconst 1, 1) := by decide +kernel
theorem dX2_free_42 : decode cX2_free 42 = .ok (.ireturn, 1) := by decide +kernel
theorem dX2_back_0 : decode cX2_back 0 = .ok (.aload_n 0, 1) := by decide +kernel
theorem dX2_back_1 : decode cX2_back 1 = .ok (.iconst 0, 1) := by decide +kernel
theorem dX2_back_2 : decode cX2_back 2 = .ok (.putfield 38, 3) := by decide +kernel
theorem dX2_back_5 : decode cX2_back 5 = .ok (.aload_n 0, 1) := by decide +kernel
theorem dX2_back_6 : decode cX2_back 6 = .ok (.iload_n 1, 1) := by decide +kernel
theorem dX2_back_7 : decode cX2_back 7 = .ok (.invokevirtual 57, 3) := by decide +kernel
theorem dX2_back_10 : decode cX2_back 10 = .ok (.ifCond .eq 7, 3) := by decide +kernel
theorem dX2_back_13 : decode cX2_back 13 = .ok (.iload_n 2, 1) := by decide +kernel
theorem dX2_back_14 : decode cX2_back 14 = .ok (.ifCond .ge 9, 3) := by decide +kernel
theorem dX2_back_17 : decode cX2_back 17 = .ok (.aload_n 0, 1) := by decide +kernel
theorem dX2_back_18 : decode cX2_back 18 = .ok (.iconst 1, 1) := by decide +kernel
theorem dX2_back_19 : decode cX2_back 19 = .ok (.invokevirtual 45, 3) := by decide +kernel
theorem dX2_back_22 : decode cX2_back 22 = .ok (.ireturn, 1) := by decide +kernel
theorem dX2_back_23 : decode cX2_back 23 = .ok (.iload_n 1, 1) := by decide +kernel
theorem dX2_back_24 : decode cX2_back 24 = .ok (.istore_n 3, 1) := by decide +kernel
theorem dX2_back_25 : decode cX2_back 25 = .ok (.iconst 0, 1) := by decide +kernel
theorem dX2_back_26 : decode cX2_back 26 = .ok (.istore 4, 2) := by decide +kernel
theorem dX2_back_28 : decode cX2_back 28 = .ok (.iload 4, 2) := by decide +kernel
theorem dX2_back_30 : decode cX2_back 30 = .ok (.iload_n 2, 1) := by decide +kernel
theorem dX2_back_31 : decode cX2_back 31 = .ok (.if_icmp .ge 33, 3) := by decide +kernel
theorem dX2_back_34 : decode cX2_back 34 = .ok (.aload_n 0, 1) := by decide +kernel
theorem dX2_back_35 : decode cX2_back 35 = .ok (.getfield 16, 3) := by decide +kernel
theorem dX2_back_38 : decode cX2_back 38 = .ok (.iload_n 3, 1) := by decide +kernel
theorem dX2_back_39 : decode cX2_back 39 = .ok (.iaload, 1) := by decide +kernel
theorem dX2_back_40 : decode cX2_back 40 = .ok (.ifCond .ne 9, 3) := by decide +kernel
theorem dX2_back_43 : decode cX2_back 43 = .ok (.aload_n 0, 1) := by decide +kernel
theorem dX2_back_44 : decode cX2_back 44 = .ok (.iconst 2, 1) := by decide +kernel
theorem dX2_back_45 : decode cX2_back 45 = .ok (.invokevirtual 45, 3) := by decide +kernel
theorem dX2_back_48 : decode cX2_back 48 = .ok (.ireturn, 1) := by decide +kernel
theorem dX2_back_49 : decode cX2_back 49 = .ok (.aload_n 0, 1) := by decide +kernel
theorem dX2_back_50 : decode cX2_back 50 = .ok (.getfield 19, 3) := by decide +kernel
theorem dX2_back_53 : decode cX2_back 53 = .ok (.iload_n 3, 1) := by decide +kernel
theorem dX2_back_54 : decode cX2_back 54 = .ok (.iconst 4, 1) := by decide +kernel
theorem dX2_back_55 : decode cX2_back 55 = .ok (.imul, 1) := by decide +kernel
theorem dX2_back_56 : decode cX2_back 56 = .ok (.iaload, 1) := by decide +kernel
theorem dX2_back_57 : decode cX2_back 57 = .ok (.istore_n 3, 1) := by decide +kernel
theorem dX2_back_58 : decode cX2_back 58 = .ok (.iinc 4 1, 3) := by decide +kernel
theorem dX2_back_61 : decode cX2_back 61 = .ok (.goto (-33), 3) := by decide +kernel
theorem dX2_back_64 : decode cX2_back 64 = .ok (.iload_n 3, 1) := by decide +kernel
theorem dX2_back_65 : decode cX2_back 65 = .ok (.ireturn, 1) := by decide +kernel
theorem dX2_sent_0 : decode cX2_sent 0 = .ok (.aload_n 0, 1) := by decide +kernel
theorem dX2_sent_1 : decode cX2_sent 1 = .ok (.iconst 0, 1) := by decide +kernel
theorem dX2_sent_2 : decode cX2_sent 2 = .ok (.putfield 38, 3) := by decide +kernel
theorem dX2_sent_5 : decode cX2_sent 5 = .ok (.iload_n 1, 1) := by decide +kernel
theorem dX2_sent_6 : decode cX2_sent 6 = .ok (.ifCond .lt 8, 3) := by decide +kernel
theorem dX2_sent_9 : decode cX2_sent 9 = .ok (.iload_n 1, 1) := by decide +kernel
theorem dX2_sent_10 : decode cX2_sent 10 = .ok (.iconst 1, 1) := by decide +kernel
theorem dX2_sent_11 : decode cX2_sent 11 = .ok (.if_icmp .le 9, 3) := by decide +kernel
theorem dX2_sent_14 : decode cX2_sent 14 = .ok (.aload_n 0, 1) := by decide +kernel
theorem dX2_sent_15 : decode cX2_sent 15 = .ok (.iconst 1, 1) := by decide +kernel
theorem dX2_sent_16 : decode cX2_sent 16 = .ok (.invokevirtual 45, 3) := by decide +kernel
theorem dX2_sent_19 : decode cX2_sent 19 = .ok (.ireturn, 1) := by decide +kernel
