theorem dX1_tellNext_17 : decode cX1_tellNext 17 = .ok (.if_icmp .ge 40, 3) := by decide +kernel
theorem dX1_tellNext_20 : decode cX1_tellNext 20 = .ok (.aload_n 0, 1) := by decide +kernel
theorem dX1_tellNext_21 : decode cX1_tellNext 21 = .ok (.iload_n 1, 1) := by decide +kernel
theorem dX1_tellNext_22 : decode cX1_tellNext 22 = .ok (.iload_n 2, 1) := by decide +kernel
theorem dX1_tellNext_23 : decode cX1_tellNext 23 = .ok (.invokevirtual 120, 3) := by decide +kernel
theorem dX1_tellNext_26 : decode cX1_tellNext 26 = .ok (.istore_n 3, 1) := by decide +kernel
theorem dX1_tellNext_27 : decode cX1_tellNext 27 = .ok (.aload_n 0, 1) := by decide +kernel
theorem dX1_tellNext_28 : decode cX1_tellNext 28 = .ok (.getfield 35, 3) := by decide +kernel
theorem dX1_tellNext_31 : decode cX1_tellNext 31 = .ok (.iload_n 3, 1) := by decide +kernel
theorem dX1_tellNext_32 : decode cX1_tellNext 32 = .ok (.dup2, 1) := by decide +kernel
theorem dX1_tellNext_33 : decode cX1_tellNext 33 = .ok (.iaload, 1) := by decide +kernel
theorem dX1_tellNext_34 : decode cX1_tellNext 34 = .ok (.iconst 1, 1) := by decide +kernel
theorem dX1_tellNext_35 : decode cX1_tellNext 35 = .ok (.isub, 1) := by decide +kernel
theorem dX1_tellNext_36 : decode cX1_tellNext 36 = .ok (.iastore, 1) := by decide +kernel
theorem dX1_tellNext_37 : decode cX1_tellNext 37 = .ok (.aload_n 0, 1) := by decide +kernel
theorem dX1_tellNext_38 : decode cX1_tellNext 38 = .ok (.getfield 35, 3) := by decide +kernel
theorem dX1_tellNext_41 : decode cX1_tellNext 41 = .ok (.iload_n 3, 1) := by decide +kernel
theorem dX1_tellNext_42 : decode cX1_tellNext 42 = .ok (.iaload, 1) := by decide +kernel
theorem dX1_tellNext_43 : decode cX1_tellNext 43 = .ok (.ifCond .ne 8, 3) := by decide +kernel
theorem dX1_tellNext_46 : decode cX1_tellNext 46 = .ok (.aload_n 0, 1) := by decide +kernel
theorem dX1_tellNext_47 : decode cX1_tellNext 47 = .ok (.iload_n 3, 1) := by decide +kernel
theorem dX1_tellNext_48 : decode cX1_tellNext 48 = .ok (.invokevirtual 96, 3) := by decide +kernel
theorem dX1_tellNext_51 : decode cX1_tellNext 51 = .ok (.iinc 2 1, 3) := by decide +kernel
theorem dX1_tellNext_54 : decode cX1_tellNext 54 = .ok (.goto (-44), 3) := by decide +kernel
theorem dX1_tellNext_57 : decode cX1_tellNext 57 = .ok (.return_, 1) := by decide +kernel
theorem dX1_back_0 : decode cX1_back 0 = .ok (.aload_n 0, 1) := by decide +kernel
theorem dX1_back_1 : decode cX1_back 1 = .ok (.iload_n 1, 1) := by decide +kernel
theorem dX1_back_2 : decode cX1_back 2 = .ok (.invokevirtual 64, 3) := by decide +kernel
theorem dX1_back_5 : decode cX1_back 5 = .ok (.iload_n 2, 1) := by decide +kernel
theorem dX1_back_6 : decode cX1_back 6 = .ok (.ifCond .ge 13, 3) := by decide +kernel
theorem dX1_back_9 : decode cX1_back 9 = .ok (.new 67, 3) := by decide +kernel
theorem dX1_back_12 : decode cX1_back 12 = .ok (.dup, 1) := by decide +kernel
theorem dX1_back_13 : decode cX1_back 13 = .ok (.ldc 113, 2) := by decide +kernel
theorem dX1_back_15 : decode cX1_back 15 = .ok (.invokespecial 71, 3) := by decide +kernel
theorem dX1_back_18 : decode cX1_back 18 = .ok (.athrow, 1) := by decide +kernel
theorem dX1_back_19 : decode cX1_back 19 = .ok (.iload_n 1, 1) := by decide +kernel
theorem dX1_back_20 : decode cX1_back 20 = .ok (.istore_n 3, 1) := by decide +kernel
theorem dX1_back_21 : decode cX1_back 21 = .ok (.iconst 0, 1) := by decide +kernel
theorem dX1_back_22 : decode cX1_back 22 = .ok (.istore 4, 2) := by decide +kernel
theorem dX1_back_24 : decode cX1_back 24 = .ok (.iload 4, 2) := by decide +kernel
theorem dX1_back_26 : decode cX1_back 26 = .ok (.iload_n 2, 1) := by decide +kernel
theorem dX1_back_27 : decode cX1_back 27 = .ok (.if_icmp .ge 35, 3) := by decide +kernel
theorem dX1_back_30 : decode cX1_back 30 = .ok (.aload_n 0, 1) := by decide +kernel
theorem dX1_back_31 : decode cX1_back 31 = .ok (.getfield 19, 3) := by decide +kernel
theorem dX1_back_34 : decode cX1_back 34 = .ok (.iload_n 3, 1) := by decide +kernel
theorem dX1_back_35 : decode cX1_back 35 = .ok (.iaload, 1) := by decide +kernel
theorem dX1_back_36 : decode cX1_back 36 = .ok (.ifCond .ne 13, 3) := by decide +kernel
theorem dX1_back_39 : decode cX1_back 39 = .ok (.new 115, 3) := by decide +kernel
theorem dX1_back_42 : decode cX1_back 42 = .ok (.dup, 1) := by decide +kernel
theorem dX1_back_43 : decode cX1_back 43 = .ok (.ldc 117, 2) := by decide +kernel
theorem dX1_back_45 : decode cX1_back 45 = .ok (.invokespecial 119, 3) := by decide +kernel
theorem dX1_back_48 : decode cX1_back 48 = .ok (.athrow, 1) := by decide +kernel
theorem dX1_back_49 : decode cX1_back 49 = .ok (.aload_n 0, 1) := by decide +kernel
theorem dX1_back_50 : decode cX1_back 50 = .ok (.iload_n 3, 1) := by decide +kernel
theorem dX1_back_51 : decode cX1_back 51 = .ok (.iconst 0, 1) := by decide +kernel
theorem dX1_back_52 : decode cX1_back 52 = .ok (.invokevirtual 120, 3) := by decide +kernel
theorem dX1_back_55 : decode cX1_back 55 = .ok (.istore_n 3, 1) := by decide +kernel
theorem dX1_back_56 : decode cX1_back 56 = .ok (.iinc 4 1, 3) := by decide +kernel
theorem dX1_back_59 : decode cX1_back 59 = .ok (.goto (-35), 3) := by decide +kernel
theorem dX1_back_62 : decode cX1_back 62 = .ok (.iload_n 3, 1) := by decide +kernel
theorem dX1_back_63 : decode cX1_back 63 = .ok (.ireturn, 1) := by decide +kernel
theorem dX1_sent_0 : decode cX1_sent 0 = .ok (.iload_n 1, 1) := by decide +kernel
theorem dX1_sent_1 : decode cX1_sent 1 = .ok (.invokestatic 77, 3) := by decide +kernel
theorem dX1_sent_4 : decode cX1_sent 4 = .ok (.aload_n 0, 1) := by decide +kernel
theorem dX1_sent_5 : decode cX1_sent 5 = .ok (.invokevirtual 123, 3) := by decide +kernel
theorem dX1_sent_8 : decode cX1_sent 8 = .ok (.aload_n 0, 1) := by decide +kernel
theorem dX1_sent_9 : decode cX1_sent 9 = .ok (.getfield 41, 3) := by decide +kernel
theorem dX1_sent_12 : decode cX1_sent 12 = .ok (.invokevirtual 93, 3) := by decide +kernel
theorem dX1_sent_15 : decode cX1_sent 15 = .ok (.iconst 0, 1) := by decide +kernel
theorem dX1_sent_16 : decode cX1_sent 16 = .ok (.istore_n 3, 1) := by decide +kernel
theorem dX1_sent_17 : decode cX1_sent 17 = .ok (.iload_n 3, 1) := by decide +kernel
theorem dX1_sent_18 : decode cX1_sent 18 = .ok (.aload_n 0, 1) := by decide +kernel
theorem dX1_sent_19 : decode cX1_sent 19 = .ok (.getfield 49, 3) := by decide +kernel
theorem dX1_sent_22 : decode cX1_sent 22 = .ok (.if_icmp .ge 42, 3) := by decide +kernel
theorem dX1_sent_25 : decode cX1_sent 25 = .ok (.aload_n 0, 1) := by decide +kernel
theorem dX1_sent_26 : decode cX1_sent 26 = .ok (.getfield 32, 3) := by decide +kernel
theorem dX1_sent_29 : decode cX1_sent 29 = .ok (.iload_n 3, 1) := by decide +kernel
theorem dX1_sent_30 : decode cX1_sent 30 = .ok (.iaload, 1) := by decide +kernel
theorem dX1_sent_31 : decode cX1_sent 31 = .ok (.iload_n 1, 1) := by decide +kernel
theorem dX1_sent_32 : decode cX1_sent 32 = .ok (.invokestatic 80, 3) := by decide +kernel
theorem dX1_sent_35 : decode cX1_sent 35 = .ok (.if_icmp .ne 23, 3) := by decide +kernel
theorem dX1_sent_38 : decode cX1_sent 38 = .ok (.aload_n 0, 1) := by decide +kernel
theorem dX1_sent_39 : decode cX1_sent 39 = .ok (.getfield 41, 3) := by decide +kernel
theorem dX1_sent_42 : decode cX1_sent 42 = .ok (.aload_n 0, 1) := by decide +kernel
theorem dX1_sent_43 : decode cX1_sent 43 = .ok (.getfield 16, 3) := by decide +kernel
theorem dX1_sent_46 : decode cX1_sent 46 = .ok (.iload_n 3, 1) := by decide +kernel
theorem dX1_sent_47 : decode cX1_sent 47 = .ok (.iaload, 1) := by decide +kernel
theorem dX1_sent_48 : decode cX1_sent 48 = .ok (.aload_n 0, 1) := by decide +kernel
theorem dX1_sent_49 : decode cX1_sent 49 = .ok (.getfield 13, 3) := by decide +kernel
theorem dX1_sent_52 : decode cX1_sent 52 = .ok (.iload_n 3, 1) := by decide +kernel
theorem dX1_sent_53 : decode cX1_sent 53 = .ok (.iaload, 1) := by decide +kernel
theorem dX1_sent_54 : decode cX1_sent 54 = .ok (.iload_n 3, 1) := by decide +kernel
theorem dX1_sent_55 : decode cX1_sent 55 = .ok (.invokevirtual 126, 3) := by decide +kernel
theorem dX1_sent_58 : decode cX1_sent 58 = .ok (.iinc 3 1, 3) := by decide +kernel
theorem dX1_sent_61 : decode cX1_sent 61 = .ok (.goto (-44), 3) := by decide +kernel
theorem dX1_sent_64 : decode cX1_sent 64 = .ok (.aload_n 0, 1) := by decide +kernel
theorem dX1_sent_65 : decode cX1_sent 65 = .ok (.iload_n 2, 1) := by decide +kernel
theorem dX1_sent_66 : decode cX1_sent 66 = .ok (.invokevirtual 99, 3) := by decide +kernel
theorem dX1_sent_69 : decode cX1_sent 69 = .ok (.ireturn, 1) := by decide +kernel
theorem dX1_told_0 : decode cX1_told 0 = .ok (.aload_n 0, 1) := by decide +kernel
theorem dX1_told_1 : decode cX1_told 1 = .ok (.iload_n 1, 1) := by decide +kernel
theorem dX1_told_2 : decode cX1_told 2 = .ok (.invokevirtual 64, 3) := by decide +kernel
theorem dX1_told_5 : decode cX1_told 5 = .ok (.iload_n 2, 1) := by decide +kernel
theorem dX1_told_6 : decode cX1_told 6 = .ok (.tableswitch 72 0 4 #[34, 41, 48, 55, 62], 34) := by decide +kernel
theorem dX1_told_40 : decode cX1_told 40 = .ok (.aload_n 0, 1) := by decide +kernel
theorem dX1_told_41 : decode cX1_told 41 = .ok (.getfield 9, 3) := by decide +kernel
theorem dX1_told_44 : decode cX1_told 44 = .ok (.iload_n 1, 1) := by decide +kernel
theorem dX1_told_45 : decode cX1_told 45 = .ok (.iaload, 1) := by decide +kernel
theorem dX1_told_46 : decode cX1_told 46 = .ok (.ireturn, 1) := by decide +kernel
theorem dX1_told_47 : decode cX1_told 47 = .ok (.aload_n 0, 1) := by decide +kernel
theorem dX1_told_48 : decode cX1_told 48 = .ok (.getfield 13, 3) := by decide +kernel
theorem dX1_told_51 : decode cX1_told 51 = .ok (.iload_n 1, 1) := by decide +kernel
theorem dX1_told_52 : decode cX1_told 52 = .ok (.iaload, 1) := by decide +kernel
theorem dX1_told_53 : decode cX1_told 53 = .ok (.ireturn, 1) := by decide +kernel
theorem dX1_told_54 : decode cX1_told 54 = .ok (.aload_n 0, 1) := by decide +kernel
theorem dX1_told_55 : decode cX1_told 55 = .ok (.getfield 19, 3) := by decide +kernel
theorem dX1_told_58 : decode cX1_told 58 = .ok (.iload_n 1, 1) := by decide +kernel
theorem dX1_told_59 : decode cX1_told 59 = .ok (.iaload, 1) := by decide +kernel
theorem dX1_told_60 : decode cX1_told 60 = .ok (.ireturn, 1) := by decide +kernel
theorem dX1_told_61 : decode cX1_told 61 = .ok (.aload_n 0, 1) := by decide +kernel
theorem dX1_told_62 : decode cX1_told 62 = .ok (.getfield 16, 3) := by decide +kernel
theorem dX1_told_65 : decode cX1_told 65 = .ok (.iload_n 1, 1) := by decide +kernel
theorem dX1_told_66 : decode cX1_told 66 = .ok (.iaload, 1) := by decide +kernel
theorem dX1_told_67 : decode cX1_told 67 = .ok (.ireturn, 1) := by decide +kernel
theorem dX1_told_68 : decode cX1_told 68 = .ok (.aload_n 0, 1) := by decide +kernel
theorem dX1_told_69 : decode cX1_told 69 = .ok (.getfield 29, 3) := by decide +kernel
theorem dX1_told_72 : decode cX1_told 72 = .ok (.iload_n 1, 1) := by decide +kernel
theorem dX1_told_73 : decode cX1_told 73 = .ok (.iaload, 1) := by decide +kernel
theorem dX1_told_74 : decode cX1_told 74 = .ok (.invokestatic 130, 3) := by decide +kernel
theorem dX1_told_77 : decode cX1_told 77 = .ok (.ireturn, 1) := by decide +kernel
theorem dX1_told_78 : decode cX1_told 78 = .ok (.new 67, 3) := by decide +kernel
theorem dX1_told_81 : decode cX1_told 81 = .ok (.dup, 1) := by decide +kernel
theorem dX1_told_82 : decode cX1_told 82 = .ok (.ldc 135, 2) := by decide +kernel
theorem dX1_told_84 : decode cX1_told 84 = .ok (.invokespecial 71, 3) := by decide +kernel
theorem dX1_told_87 : decode cX1_told 87 = .ok (.athrow, 1) := by decide +kernel
