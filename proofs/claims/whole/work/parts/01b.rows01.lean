theorem dX1_checkCommit_16 : decode cX1_checkCommit 16 = .ok (.ldc 152, 2) := by decide +kernel
theorem dX1_checkCommit_18 : decode cX1_checkCommit 18 = .ok (.invokespecial 71, 3) := by decide +kernel
theorem dX1_checkCommit_21 : decode cX1_checkCommit 21 = .ok (.athrow, 1) := by decide +kernel
theorem dX1_checkCommit_22 : decode cX1_checkCommit 22 = .ok (.return_, 1) := by decide +kernel
theorem dX1_checkParentOrNone_0 : decode cX1_checkParentOrNone 0 = .ok (.iload_n 1, 1) := by decide +kernel
theorem dX1_checkParentOrNone_1 : decode cX1_checkParentOrNone 1 = .ok (.iconst (-1), 1) := by decide +kernel
theorem dX1_checkParentOrNone_2 : decode cX1_checkParentOrNone 2 = .ok (.if_icmp .eq 8, 3) := by decide +kernel
theorem dX1_checkParentOrNone_5 : decode cX1_checkParentOrNone 5 = .ok (.aload_n 0, 1) := by decide +kernel
theorem dX1_checkParentOrNone_6 : decode cX1_checkParentOrNone 6 = .ok (.iload_n 1, 1) := by decide +kernel
theorem dX1_checkParentOrNone_7 : decode cX1_checkParentOrNone 7 = .ok (.invokevirtual 64, 3) := by decide +kernel
theorem dX1_checkParentOrNone_10 : decode cX1_checkParentOrNone 10 = .ok (.return_, 1) := by decide +kernel
theorem dX1_sideOf_0 : decode cX1_sideOf 0 = .ok (.iload_n 0, 1) := by decide +kernel
theorem dX1_sideOf_1 : decode cX1_sideOf 1 = .ok (.ifCond .ne 7, 3) := by decide +kernel
theorem dX1_sideOf_4 : decode cX1_sideOf 4 = .ok (.iconst 1, 1) := by decide +kernel
theorem dX1_sideOf_5 : decode cX1_sideOf 5 = .ok (.goto 4, 3) := by decide +kernel
theorem dX1_sideOf_8 : decode cX1_sideOf 8 = .ok (.iconst 2, 1) := by decide +kernel
theorem dX1_sideOf_9 : decode cX1_sideOf 9 = .ok (.ireturn, 1) := by decide +kernel
theorem dX1_parentOf_0 : decode cX1_parentOf 0 = .ok (.aload_n 0, 1) := by decide +kernel
theorem dX1_parentOf_1 : decode cX1_parentOf 1 = .ok (.getfield 22, 3) := by decide +kernel
theorem dX1_parentOf_4 : decode cX1_parentOf 4 = .ok (.iload_n 1, 1) := by decide +kernel
theorem dX1_parentOf_5 : decode cX1_parentOf 5 = .ok (.iconst 4, 1) := by decide +kernel
theorem dX1_parentOf_6 : decode cX1_parentOf 6 = .ok (.imul, 1) := by decide +kernel
theorem dX1_parentOf_7 : decode cX1_parentOf 7 = .ok (.iload_n 2, 1) := by decide +kernel
theorem dX1_parentOf_8 : decode cX1_parentOf 8 = .ok (.iadd, 1) := by decide +kernel
theorem dX1_parentOf_9 : decode cX1_parentOf 9 = .ok (.iaload, 1) := by decide +kernel
theorem dX1_parentOf_10 : decode cX1_parentOf 10 = .ok (.ireturn, 1) := by decide +kernel
theorem dX1_linkUnlessNone_0 : decode cX1_linkUnlessNone 0 = .ok (.iload_n 2, 1) := by decide +kernel
theorem dX1_linkUnlessNone_1 : decode cX1_linkUnlessNone 1 = .ok (.iconst (-1), 1) := by decide +kernel
theorem dX1_linkUnlessNone_2 : decode cX1_linkUnlessNone 2 = .ok (.if_icmp .eq 9, 3) := by decide +kernel
theorem dX1_linkUnlessNone_5 : decode cX1_linkUnlessNone 5 = .ok (.aload_n 0, 1) := by decide +kernel
theorem dX1_linkUnlessNone_6 : decode cX1_linkUnlessNone 6 = .ok (.iload_n 1, 1) := by decide +kernel
theorem dX1_linkUnlessNone_7 : decode cX1_linkUnlessNone 7 = .ok (.iload_n 2, 1) := by decide +kernel
theorem dX1_linkUnlessNone_8 : decode cX1_linkUnlessNone 8 = .ok (.invokevirtual 74, 3) := by decide +kernel
theorem dX1_linkUnlessNone_11 : decode cX1_linkUnlessNone 11 = .ok (.return_, 1) := by decide +kernel
theorem dX1_link_0 : decode cX1_link 0 = .ok (.aload_n 0, 1) := by decide +kernel
theorem dX1_link_1 : decode cX1_link 1 = .ok (.getfield 22, 3) := by decide +kernel
theorem dX1_link_4 : decode cX1_link 4 = .ok (.iload_n 1, 1) := by decide +kernel
theorem dX1_link_5 : decode cX1_link 5 = .ok (.iconst 4, 1) := by decide +kernel
theorem dX1_link_6 : decode cX1_link 6 = .ok (.imul, 1) := by decide +kernel
theorem dX1_link_7 : decode cX1_link 7 = .ok (.aload_n 0, 1) := by decide +kernel
theorem dX1_link_8 : decode cX1_link 8 = .ok (.getfield 19, 3) := by decide +kernel
theorem dX1_link_11 : decode cX1_link 11 = .ok (.iload_n 1, 1) := by decide +kernel
theorem dX1_link_12 : decode cX1_link 12 = .ok (.iaload, 1) := by decide +kernel
theorem dX1_link_13 : decode cX1_link 13 = .ok (.iadd, 1) := by decide +kernel
theorem dX1_link_14 : decode cX1_link 14 = .ok (.iload_n 2, 1) := by decide +kernel
theorem dX1_link_15 : decode cX1_link 15 = .ok (.iastore, 1) := by decide +kernel
theorem dX1_link_16 : decode cX1_link 16 = .ok (.aload_n 0, 1) := by decide +kernel
theorem dX1_link_17 : decode cX1_link 17 = .ok (.getfield 19, 3) := by decide +kernel
theorem dX1_link_20 : decode cX1_link 20 = .ok (.iload_n 1, 1) := by decide +kernel
theorem dX1_link_21 : decode cX1_link 21 = .ok (.dup2, 1) := by decide +kernel
theorem dX1_link_22 : decode cX1_link 22 = .ok (.iaload, 1) := by decide +kernel
theorem dX1_link_23 : decode cX1_link 23 = .ok (.iconst 1, 1) := by decide +kernel
theorem dX1_link_24 : decode cX1_link 24 = .ok (.iadd, 1) := by decide +kernel
theorem dX1_link_25 : decode cX1_link 25 = .ok (.iastore, 1) := by decide +kernel
theorem dX1_link_26 : decode cX1_link 26 = .ok (.aload_n 0, 1) := by decide +kernel
theorem dX1_link_27 : decode cX1_link 27 = .ok (.getfield 25, 3) := by decide +kernel
theorem dX1_link_30 : decode cX1_link 30 = .ok (.iload_n 2, 1) := by decide +kernel
theorem dX1_link_31 : decode cX1_link 31 = .ok (.iconst 1, 1) := by decide +kernel
theorem dX1_link_32 : decode cX1_link 32 = .ok (.bastore, 1) := by decide +kernel
theorem dX1_link_33 : decode cX1_link 33 = .ok (.aload_n 0, 1) := by decide +kernel
theorem dX1_link_34 : decode cX1_link 34 = .ok (.getfield 16, 3) := by decide +kernel
theorem dX1_link_37 : decode cX1_link 37 = .ok (.iload_n 1, 1) := by decide +kernel
theorem dX1_link_38 : decode cX1_link 38 = .ok (.aload_n 0, 1) := by decide +kernel
theorem dX1_link_39 : decode cX1_link 39 = .ok (.getfield 16, 3) := by decide +kernel
theorem dX1_link_42 : decode cX1_link 42 = .ok (.iload_n 1, 1) := by decide +kernel
theorem dX1_link_43 : decode cX1_link 43 = .ok (.iaload, 1) := by decide +kernel
theorem dX1_link_44 : decode cX1_link 44 = .ok (.aload_n 0, 1) := by decide +kernel
theorem dX1_link_45 : decode cX1_link 45 = .ok (.getfield 16, 3) := by decide +kernel
theorem dX1_link_48 : decode cX1_link 48 = .ok (.iload_n 2, 1) := by decide +kernel
theorem dX1_link_49 : decode cX1_link 49 = .ok (.iaload, 1) := by decide +kernel
theorem dX1_link_50 : decode cX1_link 50 = .ok (.iconst 1, 1) := by decide +kernel
theorem dX1_link_51 : decode cX1_link 51 = .ok (.iadd, 1) := by decide +kernel
theorem dX1_link_52 : decode cX1_link 52 = .ok (.invokestatic 158, 3) := by decide +kernel
theorem dX1_link_55 : decode cX1_link 55 = .ok (.iastore, 1) := by decide +kernel
theorem dX1_link_56 : decode cX1_link 56 = .ok (.return_, 1) := by decide +kernel
theorem dX1_markHeld_0 : decode cX1_markHeld 0 = .ok (.iconst 0, 1) := by decide +kernel
theorem dX1_markHeld_1 : decode cX1_markHeld 1 = .ok (.istore_n 1, 1) := by decide +kernel
theorem dX1_markHeld_2 : decode cX1_markHeld 2 = .ok (.iload_n 1, 1) := by decide +kernel
theorem dX1_markHeld_3 : decode cX1_markHeld 3 = .ok (.aload_n 0, 1) := by decide +kernel
theorem dX1_markHeld_4 : decode cX1_markHeld 4 = .ok (.getfield 49, 3) := by decide +kernel
theorem dX1_markHeld_7 : decode cX1_markHeld 7 = .ok (.if_icmp .ge 21, 3) := by decide +kernel
theorem dX1_markHeld_10 : decode cX1_markHeld 10 = .ok (.aload_n 0, 1) := by decide +kernel
theorem dX1_markHeld_11 : decode cX1_markHeld 11 = .ok (.getfield 32, 3) := by decide +kernel
theorem dX1_markHeld_14 : decode cX1_markHeld 14 = .ok (.iload_n 1, 1) := by decide +kernel
theorem dX1_markHeld_15 : decode cX1_markHeld 15 = .ok (.aload_n 0, 1) := by decide +kernel
theorem dX1_markHeld_16 : decode cX1_markHeld 16 = .ok (.getfield 29, 3) := by decide +kernel
theorem dX1_markHeld_19 : decode cX1_markHeld 19 = .ok (.iload_n 1, 1) := by decide +kernel
theorem dX1_markHeld_20 : decode cX1_markHeld 20 = .ok (.iaload, 1) := by decide +kernel
theorem dX1_markHeld_21 : decode cX1_markHeld 21 = .ok (.iastore, 1) := by decide +kernel
theorem dX1_markHeld_22 : decode cX1_markHeld 22 = .ok (.iinc 1 1, 3) := by decide +kernel
theorem dX1_markHeld_25 : decode cX1_markHeld 25 = .ok (.goto (-23), 3) := by decide +kernel
theorem dX1_markHeld_28 : decode cX1_markHeld 28 = .ok (.aload_n 0, 1) := by decide +kernel
theorem dX1_markHeld_29 : decode cX1_markHeld 29 = .ok (.invokevirtual 90, 3) := by decide +kernel
theorem dX1_markHeld_32 : decode cX1_markHeld 32 = .ok (.return_, 1) := by decide +kernel
theorem dX1_spreadMarks_0 : decode cX1_spreadMarks 0 = .ok (.aload_n 0, 1) := by decide +kernel
theorem dX1_spreadMarks_1 : decode cX1_spreadMarks 1 = .ok (.getfield 49, 3) := by decide +kernel
theorem dX1_spreadMarks_4 : decode cX1_spreadMarks 4 = .ok (.iconst 1, 1) := by decide +kernel
theorem dX1_spreadMarks_5 : decode cX1_spreadMarks 5 = .ok (.isub, 1) := by decide +kernel
theorem dX1_spreadMarks_6 : decode cX1_spreadMarks 6 = .ok (.istore_n 1, 1) := by decide +kernel
theorem dX1_spreadMarks_7 : decode cX1_spreadMarks 7 = .ok (.iload_n 1, 1) := by decide +kernel
theorem dX1_spreadMarks_8 : decode cX1_spreadMarks 8 = .ok (.ifCond .lt 68, 3) := by decide +kernel
theorem dX1_spreadMarks_11 : decode cX1_spreadMarks 11 = .ok (.aload_n 0, 1) := by decide +kernel
theorem dX1_spreadMarks_12 : decode cX1_spreadMarks 12 = .ok (.iload_n 1, 1) := by decide +kernel
theorem dX1_spreadMarks_13 : decode cX1_spreadMarks 13 = .ok (.invokevirtual 163, 3) := by decide +kernel
theorem dX1_spreadMarks_16 : decode cX1_spreadMarks 16 = .ok (.ifCond .eq 14, 3) := by decide +kernel
theorem dX1_spreadMarks_19 : decode cX1_spreadMarks 19 = .ok (.aload_n 0, 1) := by decide +kernel
theorem dX1_spreadMarks_20 : decode cX1_spreadMarks 20 = .ok (.getfield 32, 3) := by decide +kernel
theorem dX1_spreadMarks_23 : decode cX1_spreadMarks 23 = .ok (.iload_n 1, 1) := by decide +kernel
theorem dX1_spreadMarks_24 : decode cX1_spreadMarks 24 = .ok (.iaload, 1) := by decide +kernel
theorem dX1_spreadMarks_25 : decode cX1_spreadMarks 25 = .ok (.iconst 4, 1) := by decide +kernel
theorem dX1_spreadMarks_26 : decode cX1_spreadMarks 26 = .ok (.ior, 1) := by decide +kernel
theorem dX1_spreadMarks_27 : decode cX1_spreadMarks 27 = .ok (.goto 9, 3) := by decide +kernel
theorem dX1_spreadMarks_30 : decode cX1_spreadMarks 30 = .ok (.aload_n 0, 1) := by decide +kernel
theorem dX1_spreadMarks_31 : decode cX1_spreadMarks 31 = .ok (.getfield 32, 3) := by decide +kernel
theorem dX1_spreadMarks_34 : decode cX1_spreadMarks 34 = .ok (.iload_n 1, 1) := by decide +kernel
theorem dX1_spreadMarks_35 : decode cX1_spreadMarks 35 = .ok (.iaload, 1) := by decide +kernel
theorem dX1_spreadMarks_36 : decode cX1_spreadMarks 36 = .ok (.istore_n 2, 1) := by decide +kernel
theorem dX1_spreadMarks_37 : decode cX1_spreadMarks 37 = .ok (.iconst 0, 1) := by decide +kernel
theorem dX1_spreadMarks_38 : decode cX1_spreadMarks 38 = .ok (.istore_n 3, 1) := by decide +kernel
theorem dX1_spreadMarks_39 : decode cX1_spreadMarks 39 = .ok (.iload_n 3, 1) := by decide +kernel
theorem dX1_spreadMarks_40 : decode cX1_spreadMarks 40 = .ok (.aload_n 0, 1) := by decide +kernel
theorem dX1_spreadMarks_41 : decode cX1_spreadMarks 41 = .ok (.getfield 19, 3) := by decide +kernel
theorem dX1_spreadMarks_44 : decode cX1_spreadMarks 44 = .ok (.iload_n 1, 1) := by decide +kernel
theorem dX1_spreadMarks_45 : decode cX1_spreadMarks 45 = .ok (.iaload, 1) := by decide +kernel
theorem dX1_spreadMarks_46 : decode cX1_spreadMarks 46 = .ok (.if_icmp .ge 24, 3) := by decide +kernel
theorem dX1_spreadMarks_49 : decode cX1_spreadMarks 49 = .ok (.aload_n 0, 1) := by decide +kernel
theorem dX1_spreadMarks_50 : decode cX1_spreadMarks 50 = .ok (.getfield 32, 3) := by decide +kernel
theorem dX1_spreadMarks_53 : decode cX1_spreadMarks 53 = .ok (.aload_n 0, 1) := by decide +kernel
theorem dX1_spreadMarks_54 : decode cX1_spreadMarks 54 = .ok (.iload_n 1, 1) := by decide +kernel
theorem dX1_spreadMarks_55 : decode cX1_spreadMarks 55 = .ok (.iload_n 3, 1) := by decide +kernel
theorem dX1_spreadMarks_56 : decode cX1_spreadMarks 56 = .ok (.invokevirtual 120, 3) := by decide +kernel
theorem dX1_spreadMarks_59 : decode cX1_spreadMarks 59 = .ok (.dup2, 1) := by decide +kernel
theorem dX1_spreadMarks_60 : decode cX1_spreadMarks 60 = .ok (.iaload, 1) := by decide +kernel
theorem dX1_spreadMarks_61 : decode cX1_spreadMarks 61 = .ok (.iload_n 2, 1) := by decide +kernel
theorem dX1_spreadMarks_62 : decode cX1_spreadMarks 62 = .ok (.ior, 1) := by decide +kernel
theorem dX1_spreadMarks_63 : decode cX1_spreadMarks 63 = .ok (.iastore, 1) := by decide +kernel
theorem dX1_spreadMarks_64 : decode cX1_spreadMarks 64 = .ok (.iinc 3 1, 3) := by decide +kernel
theorem dX1_spreadMarks_67 : decode cX1_spreadMarks 67 = .ok (.goto (-28), 3) := by decide +kernel
theorem dX1_spreadMarks_70 : decode cX1_spreadMarks 70 = .ok (.iinc 1 (-1), 3) := by decide +kernel
theorem dX1_spreadMarks_73 : decode cX1_spreadMarks 73 = .ok (.goto (-66), 3) := by decide +kernel
theorem dX1_spreadMarks_76 : decode cX1_spreadMarks 76 = .ok (.return_, 1) := by decide +kernel
theorem dX1_isCommon_0 : decode cX1_isCommon 0 = .ok (.aload_n 0, 1) := by decide +kernel
theorem dX1_isCommon_1 : decode cX1_isCommon 1 = .ok (.getfield 32, 3) := by decide +kernel
theorem dX1_isCommon_4 : decode cX1_isCommon 4 = .ok (.iload_n 1, 1) := by decide +kernel
theorem dX1_isCommon_5 : decode cX1_isCommon 5 = .ok (.iaload, 1) := by decide +kernel
theorem dX1_isCommon_6 : decode cX1_isCommon 6 = .ok (.iconst 3, 1) := by decide +kernel
theorem dX1_isCommon_7 : decode cX1_isCommon 7 = .ok (.iand, 1) := by decide +kernel
theorem dX1_isCommon_8 : decode cX1_isCommon 8 = .ok (.iconst 3, 1) := by decide +kernel
theorem dX1_isCommon_9 : decode cX1_isCommon 9 = .ok (.if_icmp .ne 7, 3) := by decide +kernel
theorem dX1_isCommon_12 : decode cX1_isCommon 12 = .ok (.iconst 1, 1) := by decide +kernel
