theorem dX0_init_0 : decode cX0_init 0 = .ok (.aload_n 0, 1) := by decide +kernel
theorem dX0_init_1 : decode cX0_init 1 = .ok (.invokespecial 3, 3) := by decide +kernel
theorem dX0_init_4 : decode cX0_init 4 = .ok (.aload_n 0, 1) := by decide +kernel
theorem dX0_init_5 : decode cX0_init 5 = .ok (.sipush 2000, 3) := by decide +kernel
theorem dX0_init_8 : decode cX0_init 8 = .ok (.newarray .int, 2) := by decide +kernel
theorem dX0_init_10 : decode cX0_init 10 = .ok (.putfield 9, 3) := by decide +kernel
theorem dX0_init_13 : decode cX0_init 13 = .ok (.aload_n 0, 1) := by decide +kernel
theorem dX0_init_14 : decode cX0_init 14 = .ok (.sipush 2000, 3) := by decide +kernel
theorem dX0_init_17 : decode cX0_init 17 = .ok (.newarray .int, 2) := by decide +kernel
theorem dX0_init_19 : decode cX0_init 19 = .ok (.putfield 15, 3) := by decide +kernel
theorem dX0_init_22 : decode cX0_init 22 = .ok (.aload_n 0, 1) := by decide +kernel
theorem dX0_init_23 : decode cX0_init 23 = .ok (.sipush 2000, 3) := by decide +kernel
theorem dX0_init_26 : decode cX0_init 26 = .ok (.newarray .int, 2) := by decide +kernel
theorem dX0_init_28 : decode cX0_init 28 = .ok (.putfield 18, 3) := by decide +kernel
theorem dX0_init_31 : decode cX0_init 31 = .ok (.return_, 1) := by decide +kernel
theorem dX1_init_0 : decode cX1_init 0 = .ok (.aload_n 0, 1) := by decide +kernel
theorem dX1_init_1 : decode cX1_init 1 = .ok (.invokespecial 1, 3) := by decide +kernel
theorem dX1_init_4 : decode cX1_init 4 = .ok (.aload_n 0, 1) := by decide +kernel
theorem dX1_init_5 : decode cX1_init 5 = .ok (.sipush 2000, 3) := by decide +kernel
theorem dX1_init_8 : decode cX1_init 8 = .ok (.newarray .int, 2) := by decide +kernel
theorem dX1_init_10 : decode cX1_init 10 = .ok (.putfield 9, 3) := by decide +kernel
theorem dX1_init_13 : decode cX1_init 13 = .ok (.aload_n 0, 1) := by decide +kernel
theorem dX1_init_14 : decode cX1_init 14 = .ok (.sipush 2000, 3) := by decide +kernel
theorem dX1_init_17 : decode cX1_init 17 = .ok (.newarray .int, 2) := by decide +kernel
theorem dX1_init_19 : decode cX1_init 19 = .ok (.putfield 13, 3) := by decide +kernel
theorem dX1_init_22 : decode cX1_init 22 = .ok (.aload_n 0, 1) := by decide +kernel
theorem dX1_init_23 : decode cX1_init 23 = .ok (.sipush 2000, 3) := by decide +kernel
theorem dX1_init_26 : decode cX1_init 26 = .ok (.newarray .int, 2) := by decide +kernel
theorem dX1_init_28 : decode cX1_init 28 = .ok (.putfield 16, 3) := by decide +kernel
theorem dX1_init_31 : decode cX1_init 31 = .ok (.aload_n 0, 1) := by decide +kernel
theorem dX1_init_32 : decode cX1_init 32 = .ok (.sipush 2000, 3) := by decide +kernel
theorem dX1_init_35 : decode cX1_init 35 = .ok (.newarray .int, 2) := by decide +kernel
theorem dX1_init_37 : decode cX1_init 37 = .ok (.putfield 19, 3) := by decide +kernel
theorem dX1_init_40 : decode cX1_init 40 = .ok (.aload_n 0, 1) := by decide +kernel
theorem dX1_init_41 : decode cX1_init 41 = .ok (.sipush 8000, 3) := by decide +kernel
theorem dX1_init_44 : decode cX1_init 44 = .ok (.newarray .int, 2) := by decide +kernel
theorem dX1_init_46 : decode cX1_init 46 = .ok (.putfield 22, 3) := by decide +kernel
theorem dX1_init_49 : decode cX1_init 49 = .ok (.aload_n 0, 1) := by decide +kernel
theorem dX1_init_50 : decode cX1_init 50 = .ok (.sipush 2000, 3) := by decide +kernel
theorem dX1_init_53 : decode cX1_init 53 = .ok (.newarray .boolean, 2) := by decide +kernel
theorem dX1_init_55 : decode cX1_init 55 = .ok (.putfield 25, 3) := by decide +kernel
theorem dX1_init_58 : decode cX1_init 58 = .ok (.aload_n 0, 1) := by decide +kernel
theorem dX1_init_59 : decode cX1_init 59 = .ok (.sipush 2000, 3) := by decide +kernel
theorem dX1_init_62 : decode cX1_init 62 = .ok (.newarray .int, 2) := by decide +kernel
theorem dX1_init_64 : decode cX1_init 64 = .ok (.putfield 29, 3) := by decide +kernel
theorem dX1_init_67 : decode cX1_init 67 = .ok (.aload_n 0, 1) := by decide +kernel
theorem dX1_init_68 : decode cX1_init 68 = .ok (.sipush 2000, 3) := by decide +kernel
theorem dX1_init_71 : decode cX1_init 71 = .ok (.newarray .int, 2) := by decide +kernel
theorem dX1_init_73 : decode cX1_init 73 = .ok (.putfield 32, 3) := by decide +kernel
theorem dX1_init_76 : decode cX1_init 76 = .ok (.aload_n 0, 1) := by decide +kernel
theorem dX1_init_77 : decode cX1_init 77 = .ok (.sipush 2000, 3) := by decide +kernel
theorem dX1_init_80 : decode cX1_init 80 = .ok (.newarray .int, 2) := by decide +kernel
theorem dX1_init_82 : decode cX1_init 82 = .ok (.putfield 35, 3) := by decide +kernel
theorem dX1_init_85 : decode cX1_init 85 = .ok (.aload_n 0, 1) := by decide +kernel
theorem dX1_init_86 : decode cX1_init 86 = .ok (.new 38, 3) := by decide +kernel
theorem dX1_init_89 : decode cX1_init 89 = .ok (.dup, 1) := by decide +kernel
theorem dX1_init_90 : decode cX1_init 90 = .ok (.invokespecial 40, 3) := by decide +kernel
theorem dX1_init_93 : decode cX1_init 93 = .ok (.putfield 41, 3) := by decide +kernel
theorem dX1_init_96 : decode cX1_init 96 = .ok (.return_, 1) := by decide +kernel
theorem dX1_add_0 : decode cX1_add 0 = .ok (.aload_n 0, 1) := by decide +kernel
theorem dX1_add_1 : decode cX1_add 1 = .ok (.iload_n 3, 1) := by decide +kernel
theorem dX1_add_2 : decode cX1_add 2 = .ok (.invokevirtual 45, 3) := by decide +kernel
theorem dX1_add_5 : decode cX1_add 5 = .ok (.aload_n 0, 1) := by decide +kernel
theorem dX1_add_6 : decode cX1_add 6 = .ok (.iload 4, 2) := by decide +kernel
theorem dX1_add_8 : decode cX1_add 8 = .ok (.invokevirtual 45, 3) := by decide +kernel
theorem dX1_add_11 : decode cX1_add 11 = .ok (.aload_n 0, 1) := by decide +kernel
theorem dX1_add_12 : decode cX1_add 12 = .ok (.iload 5, 2) := by decide +kernel
theorem dX1_add_14 : decode cX1_add 14 = .ok (.invokevirtual 45, 3) := by decide +kernel
theorem dX1_add_17 : decode cX1_add 17 = .ok (.aload_n 0, 1) := by decide +kernel
theorem dX1_add_18 : decode cX1_add 18 = .ok (.getfield 49, 3) := by decide +kernel
theorem dX1_add_21 : decode cX1_add 21 = .ok (.sipush 2000, 3) := by decide +kernel
theorem dX1_add_24 : decode cX1_add 24 = .ok (.if_icmp .lt 13, 3) := by decide +kernel
theorem dX1_add_27 : decode cX1_add 27 = .ok (.new 53, 3) := by decide +kernel
theorem dX1_add_30 : decode cX1_add 30 = .ok (.dup, 1) := by decide +kernel
theorem dX1_add_31 : decode cX1_add 31 = .ok (.ldc 55, 2) := by decide +kernel
theorem dX1_add_33 : decode cX1_add 33 = .ok (.invokespecial 57, 3) := by decide +kernel
theorem dX1_add_36 : decode cX1_add 36 = .ok (.athrow, 1) := by decide +kernel
theorem dX1_add_37 : decode cX1_add 37 = .ok (.aload_n 0, 1) := by decide +kernel
theorem dX1_add_38 : decode cX1_add 38 = .ok (.getfield 49, 3) := by decide +kernel
theorem dX1_add_41 : decode cX1_add 41 = .ok (.istore 6, 2) := by decide +kernel
theorem dX1_add_43 : decode cX1_add 43 = .ok (.aload_n 0, 1) := by decide +kernel
theorem dX1_add_44 : decode cX1_add 44 = .ok (.dup, 1) := by decide +kernel
theorem dX1_add_45 : decode cX1_add 45 = .ok (.getfield 49, 3) := by decide +kernel
theorem dX1_add_48 : decode cX1_add 48 = .ok (.iconst 1, 1) := by decide +kernel
theorem dX1_add_49 : decode cX1_add 49 = .ok (.iadd, 1) := by decide +kernel
theorem dX1_add_50 : decode cX1_add 50 = .ok (.putfield 49, 3) := by decide +kernel
theorem dX1_add_53 : decode cX1_add 53 = .ok (.aload_n 0, 1) := by decide +kernel
theorem dX1_add_54 : decode cX1_add 54 = .ok (.getfield 9, 3) := by decide +kernel
theorem dX1_add_57 : decode cX1_add 57 = .ok (.iload 6, 2) := by decide +kernel
theorem dX1_add_59 : decode cX1_add 59 = .ok (.iload_n 1, 1) := by decide +kernel
theorem dX1_add_60 : decode cX1_add 60 = .ok (.iastore, 1) := by decide +kernel
theorem dX1_add_61 : decode cX1_add 61 = .ok (.aload_n 0, 1) := by decide +kernel
theorem dX1_add_62 : decode cX1_add 62 = .ok (.getfield 13, 3) := by decide +kernel
theorem dX1_add_65 : decode cX1_add 65 = .ok (.iload 6, 2) := by decide +kernel
theorem dX1_add_67 : decode cX1_add 67 = .ok (.iload_n 2, 1) := by decide +kernel
theorem dX1_add_68 : decode cX1_add 68 = .ok (.iastore, 1) := by decide +kernel
theorem dX1_add_69 : decode cX1_add 69 = .ok (.aload_n 0, 1) := by decide +kernel
theorem dX1_add_70 : decode cX1_add 70 = .ok (.getfield 16, 3) := by decide +kernel
theorem dX1_add_73 : decode cX1_add 73 = .ok (.iload 6, 2) := by decide +kernel
theorem dX1_add_75 : decode cX1_add 75 = .ok (.iconst 1, 1) := by decide +kernel
theorem dX1_add_76 : decode cX1_add 76 = .ok (.iastore, 1) := by decide +kernel
theorem dX1_add_77 : decode cX1_add 77 = .ok (.aload_n 0, 1) := by decide +kernel
theorem dX1_add_78 : decode cX1_add 78 = .ok (.iload 6, 2) := by decide +kernel
theorem dX1_add_80 : decode cX1_add 80 = .ok (.iload_n 3, 1) := by decide +kernel
theorem dX1_add_81 : decode cX1_add 81 = .ok (.invokevirtual 60, 3) := by decide +kernel
theorem dX1_add_84 : decode cX1_add 84 = .ok (.aload_n 0, 1) := by decide +kernel
theorem dX1_add_85 : decode cX1_add 85 = .ok (.iload 6, 2) := by decide +kernel
theorem dX1_add_87 : decode cX1_add 87 = .ok (.iload 4, 2) := by decide +kernel
theorem dX1_add_89 : decode cX1_add 89 = .ok (.invokevirtual 60, 3) := by decide +kernel
theorem dX1_add_92 : decode cX1_add 92 = .ok (.aload_n 0, 1) := by decide +kernel
theorem dX1_add_93 : decode cX1_add 93 = .ok (.iload 6, 2) := by decide +kernel
theorem dX1_add_95 : decode cX1_add 95 = .ok (.iload 5, 2) := by decide +kernel
theorem dX1_add_97 : decode cX1_add 97 = .ok (.invokevirtual 60, 3) := by decide +kernel
theorem dX1_add_100 : decode cX1_add 100 = .ok (.iload 6, 2) := by decide +kernel
theorem dX1_add_102 : decode cX1_add 102 = .ok (.ireturn, 1) := by decide +kernel
theorem dX1_count_0 : decode cX1_count 0 = .ok (.iload_n 1, 1) := by decide +kernel
theorem dX1_count_1 : decode cX1_count 1 = .ok (.tableswitch 80 0 6 #[43, 48, 54, 60, 65, 70, 75], 43) := by decide +kernel
theorem dX1_count_44 : decode cX1_count 44 = .ok (.aload_n 0, 1) := by decide +kernel
theorem dX1_count_45 : decode cX1_count 45 = .ok (.getfield 49, 3) := by decide +kernel
theorem dX1_count_48 : decode cX1_count 48 = .ok (.ireturn, 1) := by decide +kernel
theorem dX1_count_49 : decode cX1_count 49 = .ok (.aload_n 0, 1) := by decide +kernel
theorem dX1_count_50 : decode cX1_count 50 = .ok (.iconst 0, 1) := by decide +kernel
theorem dX1_count_51 : decode cX1_count 51 = .ok (.invokevirtual 137, 3) := by decide +kernel
theorem dX1_count_54 : decode cX1_count 54 = .ok (.ireturn, 1) := by decide +kernel
theorem dX1_count_55 : decode cX1_count 55 = .ok (.aload_n 0, 1) := by decide +kernel
theorem dX1_count_56 : decode cX1_count 56 = .ok (.iconst 1, 1) := by decide +kernel
theorem dX1_count_57 : decode cX1_count 57 = .ok (.invokevirtual 137, 3) := by decide +kernel
theorem dX1_count_60 : decode cX1_count 60 = .ok (.ireturn, 1) := by decide +kernel
theorem dX1_count_61 : decode cX1_count 61 = .ok (.aload_n 0, 1) := by decide +kernel
theorem dX1_count_62 : decode cX1_count 62 = .ok (.invokevirtual 140, 3) := by decide +kernel
theorem dX1_count_65 : decode cX1_count 65 = .ok (.ireturn, 1) := by decide +kernel
theorem dX1_count_66 : decode cX1_count 66 = .ok (.aload_n 0, 1) := by decide +kernel
theorem dX1_count_67 : decode cX1_count 67 = .ok (.invokevirtual 143, 3) := by decide +kernel
theorem dX1_count_70 : decode cX1_count 70 = .ok (.ireturn, 1) := by decide +kernel
theorem dX1_count_71 : decode cX1_count 71 = .ok (.aload_n 0, 1) := by decide +kernel
theorem dX1_count_72 : decode cX1_count 72 = .ok (.invokevirtual 146, 3) := by decide +kernel
theorem dX1_count_75 : decode cX1_count 75 = .ok (.ireturn, 1) := by decide +kernel
theorem dX1_count_76 : decode cX1_count 76 = .ok (.aload_n 0, 1) := by decide +kernel
theorem dX1_count_77 : decode cX1_count 77 = .ok (.invokevirtual 149, 3) := by decide +kernel
theorem dX1_count_80 : decode cX1_count 80 = .ok (.ireturn, 1) := by decide +kernel
theorem dX1_count_81 : decode cX1_count 81 = .ok (.iconst (-1), 1) := by decide +kernel
theorem dX1_count_82 : decode cX1_count 82 = .ok (.ireturn, 1) := by decide +kernel
theorem dX1_checkCommit_0 : decode cX1_checkCommit 0 = .ok (.iload_n 1, 1) := by decide +kernel
theorem dX1_checkCommit_1 : decode cX1_checkCommit 1 = .ok (.ifCond .lt 11, 3) := by decide +kernel
theorem dX1_checkCommit_4 : decode cX1_checkCommit 4 = .ok (.iload_n 1, 1) := by decide +kernel
theorem dX1_checkCommit_5 : decode cX1_checkCommit 5 = .ok (.aload_n 0, 1) := by decide +kernel
theorem dX1_checkCommit_6 : decode cX1_checkCommit 6 = .ok (.getfield 49, 3) := by decide +kernel
theorem dX1_checkCommit_9 : decode cX1_checkCommit 9 = .ok (.if_icmp .lt 13, 3) := by decide +kernel
theorem dX1_checkCommit_12 : decode cX1_checkCommit 12 = .ok (.new 67, 3) := by decide +kernel
theorem dX1_checkCommit_15 : decode cX1_checkCommit 15 = .ok (.dup, 1) := by decide +kernel
