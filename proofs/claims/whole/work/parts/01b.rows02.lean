theorem dX1_isCommon_13 : decode cX1_isCommon 13 = .ok (.goto 4, 3) := by decide +kernel
theorem dX1_isCommon_16 : decode cX1_isCommon 16 = .ok (.iconst 0, 1) := by decide +kernel
theorem dX1_isCommon_17 : decode cX1_isCommon 17 = .ok (.ireturn, 1) := by decide +kernel
theorem dX1_tipsOf_0 : decode cX1_tipsOf 0 = .ok (.iconst 0, 1) := by decide +kernel
theorem dX1_tipsOf_1 : decode cX1_tipsOf 1 = .ok (.istore_n 2, 1) := by decide +kernel
theorem dX1_tipsOf_2 : decode cX1_tipsOf 2 = .ok (.iconst 0, 1) := by decide +kernel
theorem dX1_tipsOf_3 : decode cX1_tipsOf 3 = .ok (.istore_n 3, 1) := by decide +kernel
theorem dX1_tipsOf_4 : decode cX1_tipsOf 4 = .ok (.iload_n 3, 1) := by decide +kernel
theorem dX1_tipsOf_5 : decode cX1_tipsOf 5 = .ok (.aload_n 0, 1) := by decide +kernel
theorem dX1_tipsOf_6 : decode cX1_tipsOf 6 = .ok (.getfield 49, 3) := by decide +kernel
theorem dX1_tipsOf_9 : decode cX1_tipsOf 9 = .ok (.if_icmp .ge 26, 3) := by decide +kernel
theorem dX1_tipsOf_12 : decode cX1_tipsOf 12 = .ok (.aload_n 0, 1) := by decide +kernel
theorem dX1_tipsOf_13 : decode cX1_tipsOf 13 = .ok (.getfield 29, 3) := by decide +kernel
theorem dX1_tipsOf_16 : decode cX1_tipsOf 16 = .ok (.iload_n 3, 1) := by decide +kernel
theorem dX1_tipsOf_17 : decode cX1_tipsOf 17 = .ok (.iaload, 1) := by decide +kernel
theorem dX1_tipsOf_18 : decode cX1_tipsOf 18 = .ok (.iload_n 1, 1) := by decide +kernel
theorem dX1_tipsOf_19 : decode cX1_tipsOf 19 = .ok (.invokestatic 80, 3) := by decide +kernel
theorem dX1_tipsOf_22 : decode cX1_tipsOf 22 = .ok (.iand, 1) := by decide +kernel
theorem dX1_tipsOf_23 : decode cX1_tipsOf 23 = .ok (.ifCond .eq 6, 3) := by decide +kernel
theorem dX1_tipsOf_26 : decode cX1_tipsOf 26 = .ok (.iinc 2 1, 3) := by decide +kernel
theorem dX1_tipsOf_29 : decode cX1_tipsOf 29 = .ok (.iinc 3 1, 3) := by decide +kernel
theorem dX1_tipsOf_32 : decode cX1_tipsOf 32 = .ok (.goto (-28), 3) := by decide +kernel
theorem dX1_tipsOf_35 : decode cX1_tipsOf 35 = .ok (.iload_n 2, 1) := by decide +kernel
theorem dX1_tipsOf_36 : decode cX1_tipsOf 36 = .ok (.ireturn, 1) := by decide +kernel
theorem dX1_greatestGeneration_0 : decode cX1_greatestGeneration 0 = .ok (.iconst 0, 1) := by decide +kernel
theorem dX1_greatestGeneration_1 : decode cX1_greatestGeneration 1 = .ok (.istore_n 1, 1) := by decide +kernel
theorem dX1_greatestGeneration_2 : decode cX1_greatestGeneration 2 = .ok (.iconst 0, 1) := by decide +kernel
theorem dX1_greatestGeneration_3 : decode cX1_greatestGeneration 3 = .ok (.istore_n 2, 1) := by decide +kernel
theorem dX1_greatestGeneration_4 : decode cX1_greatestGeneration 4 = .ok (.iload_n 2, 1) := by decide +kernel
theorem dX1_greatestGeneration_5 : decode cX1_greatestGeneration 5 = .ok (.aload_n 0, 1) := by decide +kernel
theorem dX1_greatestGeneration_6 : decode cX1_greatestGeneration 6 = .ok (.getfield 49, 3) := by decide +kernel
theorem dX1_greatestGeneration_9 : decode cX1_greatestGeneration 9 = .ok (.if_icmp .ge 20, 3) := by decide +kernel
theorem dX1_greatestGeneration_12 : decode cX1_greatestGeneration 12 = .ok (.iload_n 1, 1) := by decide +kernel
theorem dX1_greatestGeneration_13 : decode cX1_greatestGeneration 13 = .ok (.aload_n 0, 1) := by decide +kernel
theorem dX1_greatestGeneration_14 : decode cX1_greatestGeneration 14 = .ok (.getfield 16, 3) := by decide +kernel
theorem dX1_greatestGeneration_17 : decode cX1_greatestGeneration 17 = .ok (.iload_n 2, 1) := by decide +kernel
theorem dX1_greatestGeneration_18 : decode cX1_greatestGeneration 18 = .ok (.iaload, 1) := by decide +kernel
theorem dX1_greatestGeneration_19 : decode cX1_greatestGeneration 19 = .ok (.invokestatic 158, 3) := by decide +kernel
theorem dX1_greatestGeneration_22 : decode cX1_greatestGeneration 22 = .ok (.istore_n 1, 1) := by decide +kernel
theorem dX1_greatestGeneration_23 : decode cX1_greatestGeneration 23 = .ok (.iinc 2 1, 3) := by decide +kernel
theorem dX1_greatestGeneration_26 : decode cX1_greatestGeneration 26 = .ok (.goto (-22), 3) := by decide +kernel
theorem dX1_greatestGeneration_29 : decode cX1_greatestGeneration 29 = .ok (.iload_n 1, 1) := by decide +kernel
theorem dX1_greatestGeneration_30 : decode cX1_greatestGeneration 30 = .ok (.ireturn, 1) := by decide +kernel
theorem dX1_childlessCommits_0 : decode cX1_childlessCommits 0 = .ok (.iconst 0, 1) := by decide +kernel
theorem dX1_childlessCommits_1 : decode cX1_childlessCommits 1 = .ok (.istore_n 1, 1) := by decide +kernel
theorem dX1_childlessCommits_2 : decode cX1_childlessCommits 2 = .ok (.iconst 0, 1) := by decide +kernel
theorem dX1_childlessCommits_3 : decode cX1_childlessCommits 3 = .ok (.istore_n 2, 1) := by decide +kernel
theorem dX1_childlessCommits_4 : decode cX1_childlessCommits 4 = .ok (.iload_n 2, 1) := by decide +kernel
theorem dX1_childlessCommits_5 : decode cX1_childlessCommits 5 = .ok (.aload_n 0, 1) := by decide +kernel
theorem dX1_childlessCommits_6 : decode cX1_childlessCommits 6 = .ok (.getfield 49, 3) := by decide +kernel
theorem dX1_childlessCommits_9 : decode cX1_childlessCommits 9 = .ok (.if_icmp .ge 21, 3) := by decide +kernel
theorem dX1_childlessCommits_12 : decode cX1_childlessCommits 12 = .ok (.aload_n 0, 1) := by decide +kernel
theorem dX1_childlessCommits_13 : decode cX1_childlessCommits 13 = .ok (.getfield 25, 3) := by decide +kernel
theorem dX1_childlessCommits_16 : decode cX1_childlessCommits 16 = .ok (.iload_n 2, 1) := by decide +kernel
theorem dX1_childlessCommits_17 : decode cX1_childlessCommits 17 = .ok (.baload, 1) := by decide +kernel
theorem dX1_childlessCommits_18 : decode cX1_childlessCommits 18 = .ok (.ifCond .ne 6, 3) := by decide +kernel
theorem dX1_childlessCommits_21 : decode cX1_childlessCommits 21 = .ok (.iinc 1 1, 3) := by decide +kernel
theorem dX1_childlessCommits_24 : decode cX1_childlessCommits 24 = .ok (.iinc 2 1, 3) := by decide +kernel
theorem dX1_childlessCommits_27 : decode cX1_childlessCommits 27 = .ok (.goto (-23), 3) := by decide +kernel
theorem dX1_childlessCommits_30 : decode cX1_childlessCommits 30 = .ok (.iload_n 1, 1) := by decide +kernel
theorem dX1_childlessCommits_31 : decode cX1_childlessCommits 31 = .ok (.ireturn, 1) := by decide +kernel
theorem dX1_commonCommits_0 : decode cX1_commonCommits 0 = .ok (.aload_n 0, 1) := by decide +kernel
theorem dX1_commonCommits_1 : decode cX1_commonCommits 1 = .ok (.invokevirtual 123, 3) := by decide +kernel
theorem dX1_commonCommits_4 : decode cX1_commonCommits 4 = .ok (.iconst 0, 1) := by decide +kernel
theorem dX1_commonCommits_5 : decode cX1_commonCommits 5 = .ok (.istore_n 1, 1) := by decide +kernel
theorem dX1_commonCommits_6 : decode cX1_commonCommits 6 = .ok (.iconst 0, 1) := by decide +kernel
theorem dX1_commonCommits_7 : decode cX1_commonCommits 7 = .ok (.istore_n 2, 1) := by decide +kernel
theorem dX1_commonCommits_8 : decode cX1_commonCommits 8 = .ok (.iload_n 2, 1) := by decide +kernel
theorem dX1_commonCommits_9 : decode cX1_commonCommits 9 = .ok (.aload_n 0, 1) := by decide +kernel
theorem dX1_commonCommits_10 : decode cX1_commonCommits 10 = .ok (.getfield 49, 3) := by decide +kernel
theorem dX1_commonCommits_13 : decode cX1_commonCommits 13 = .ok (.if_icmp .ge 20, 3) := by decide +kernel
theorem dX1_commonCommits_16 : decode cX1_commonCommits 16 = .ok (.aload_n 0, 1) := by decide +kernel
theorem dX1_commonCommits_17 : decode cX1_commonCommits 17 = .ok (.iload_n 2, 1) := by decide +kernel
theorem dX1_commonCommits_18 : decode cX1_commonCommits 18 = .ok (.invokevirtual 163, 3) := by decide +kernel
theorem dX1_commonCommits_21 : decode cX1_commonCommits 21 = .ok (.ifCond .eq 6, 3) := by decide +kernel
theorem dX1_commonCommits_24 : decode cX1_commonCommits 24 = .ok (.iinc 1 1, 3) := by decide +kernel
theorem dX1_commonCommits_27 : decode cX1_commonCommits 27 = .ok (.iinc 2 1, 3) := by decide +kernel
theorem dX1_commonCommits_30 : decode cX1_commonCommits 30 = .ok (.goto (-22), 3) := by decide +kernel
theorem dX1_commonCommits_33 : decode cX1_commonCommits 33 = .ok (.iload_n 1, 1) := by decide +kernel
theorem dX1_commonCommits_34 : decode cX1_commonCommits 34 = .ok (.ireturn, 1) := by decide +kernel
theorem dX1_misplacedCommits_0 : decode cX1_misplacedCommits 0 = .ok (.iconst 0, 1) := by decide +kernel
theorem dX1_misplacedCommits_1 : decode cX1_misplacedCommits 1 = .ok (.istore_n 1, 1) := by decide +kernel
theorem dX1_misplacedCommits_2 : decode cX1_misplacedCommits 2 = .ok (.iconst 0, 1) := by decide +kernel
theorem dX1_misplacedCommits_3 : decode cX1_misplacedCommits 3 = .ok (.istore_n 2, 1) := by decide +kernel
theorem dX1_misplacedCommits_4 : decode cX1_misplacedCommits 4 = .ok (.iload_n 2, 1) := by decide +kernel
theorem dX1_misplacedCommits_5 : decode cX1_misplacedCommits 5 = .ok (.aload_n 0, 1) := by decide +kernel
theorem dX1_misplacedCommits_6 : decode cX1_misplacedCommits 6 = .ok (.getfield 49, 3) := by decide +kernel
theorem dX1_misplacedCommits_9 : decode cX1_misplacedCommits 9 = .ok (.if_icmp .ge 20, 3) := by decide +kernel
theorem dX1_misplacedCommits_12 : decode cX1_misplacedCommits 12 = .ok (.aload_n 0, 1) := by decide +kernel
theorem dX1_misplacedCommits_13 : decode cX1_misplacedCommits 13 = .ok (.iload_n 2, 1) := by decide +kernel
theorem dX1_misplacedCommits_14 : decode cX1_misplacedCommits 14 = .ok (.invokevirtual 179, 3) := by decide +kernel
theorem dX1_misplacedCommits_17 : decode cX1_misplacedCommits 17 = .ok (.ifCond .eq 6, 3) := by decide +kernel
theorem dX1_misplacedCommits_20 : decode cX1_misplacedCommits 20 = .ok (.iinc 1 1, 3) := by decide +kernel
theorem dX1_misplacedCommits_23 : decode cX1_misplacedCommits 23 = .ok (.iinc 2 1, 3) := by decide +kernel
theorem dX1_misplacedCommits_26 : decode cX1_misplacedCommits 26 = .ok (.goto (-22), 3) := by decide +kernel
theorem dX1_misplacedCommits_29 : decode cX1_misplacedCommits 29 = .ok (.iload_n 1, 1) := by decide +kernel
theorem dX1_misplacedCommits_30 : decode cX1_misplacedCommits 30 = .ok (.ireturn, 1) := by decide +kernel
theorem dX1_hasParentNotBelow_0 : decode cX1_hasParentNotBelow 0 = .ok (.iconst 0, 1) := by decide +kernel
theorem dX1_hasParentNotBelow_1 : decode cX1_hasParentNotBelow 1 = .ok (.istore_n 2, 1) := by decide +kernel
theorem dX1_hasParentNotBelow_2 : decode cX1_hasParentNotBelow 2 = .ok (.iload_n 2, 1) := by decide +kernel
theorem dX1_hasParentNotBelow_3 : decode cX1_hasParentNotBelow 3 = .ok (.aload_n 0, 1) := by decide +kernel
theorem dX1_hasParentNotBelow_4 : decode cX1_hasParentNotBelow 4 = .ok (.getfield 19, 3) := by decide +kernel
theorem dX1_hasParentNotBelow_7 : decode cX1_hasParentNotBelow 7 = .ok (.iload_n 1, 1) := by decide +kernel
theorem dX1_hasParentNotBelow_8 : decode cX1_hasParentNotBelow 8 = .ok (.iaload, 1) := by decide +kernel
theorem dX1_hasParentNotBelow_9 : decode cX1_hasParentNotBelow 9 = .ok (.if_icmp .ge 21, 3) := by decide +kernel
theorem dX1_hasParentNotBelow_12 : decode cX1_hasParentNotBelow 12 = .ok (.aload_n 0, 1) := by decide +kernel
theorem dX1_hasParentNotBelow_13 : decode cX1_hasParentNotBelow 13 = .ok (.iload_n 1, 1) := by decide +kernel
theorem dX1_hasParentNotBelow_14 : decode cX1_hasParentNotBelow 14 = .ok (.iload_n 2, 1) := by decide +kernel
theorem dX1_hasParentNotBelow_15 : decode cX1_hasParentNotBelow 15 = .ok (.invokevirtual 120, 3) := by decide +kernel
theorem dX1_hasParentNotBelow_18 : decode cX1_hasParentNotBelow 18 = .ok (.iload_n 1, 1) := by decide +kernel
theorem dX1_hasParentNotBelow_19 : decode cX1_hasParentNotBelow 19 = .ok (.if_icmp .lt 5, 3) := by decide +kernel
theorem dX1_hasParentNotBelow_22 : decode cX1_hasParentNotBelow 22 = .ok (.iconst 1, 1) := by decide +kernel
theorem dX1_hasParentNotBelow_23 : decode cX1_hasParentNotBelow 23 = .ok (.ireturn, 1) := by decide +kernel
theorem dX1_hasParentNotBelow_24 : decode cX1_hasParentNotBelow 24 = .ok (.iinc 2 1, 3) := by decide +kernel
theorem dX1_hasParentNotBelow_27 : decode cX1_hasParentNotBelow 27 = .ok (.goto (-25), 3) := by decide +kernel
theorem dX1_hasParentNotBelow_30 : decode cX1_hasParentNotBelow 30 = .ok (.iconst 0, 1) := by decide +kernel
theorem dX1_hasParentNotBelow_31 : decode cX1_hasParentNotBelow 31 = .ok (.ireturn, 1) := by decide +kernel
theorem dL_add_0 : decode cL_add 0 = .ok (.aload 6, 2) := by decide +kernel
theorem dL_add_2 : decode cL_add 2 = .ok (.iconst 0, 1) := by decide +kernel
theorem dL_add_3 : decode cL_add 3 = .ok (.aload_n 0, 1) := by decide +kernel
theorem dL_add_4 : decode cL_add 4 = .ok (.iload_n 1, 1) := by decide +kernel
theorem dL_add_5 : decode cL_add 5 = .ok (.iload_n 2, 1) := by decide +kernel
theorem dL_add_6 : decode cL_add 6 = .ok (.iload_n 3, 1) := by decide +kernel
theorem dL_add_7 : decode cL_add 7 = .ok (.iload 4, 2) := by decide +kernel
theorem dL_add_9 : decode cL_add 9 = .ok (.iload 5, 2) := by decide +kernel
theorem dL_add_11 : decode cL_add 11 = .ok (.invokevirtual 7, 3) := by decide +kernel
theorem dL_add_14 : decode cL_add 14 = .ok (.i2l, 1) := by decide +kernel
theorem dL_add_15 : decode cL_add 15 = .ok (.lastore, 1) := by decide +kernel
theorem dL_add_16 : decode cL_add 16 = .ok (.goto 11, 3) := by decide +kernel
theorem dL_add_19 : decode cL_add 19 = .ok (.astore 7, 2) := by decide +kernel
theorem dL_add_21 : decode cL_add 21 = .ok (.iconst 1, 1) := by decide +kernel
theorem dL_add_22 : decode cL_add 22 = .ok (.ireturn, 1) := by decide +kernel
theorem dL_add_23 : decode cL_add 23 = .ok (.astore 7, 2) := by decide +kernel
theorem dL_add_25 : decode cL_add 25 = .ok (.iconst 2, 1) := by decide +kernel
theorem dL_add_26 : decode cL_add 26 = .ok (.ireturn, 1) := by decide +kernel
theorem dL_add_27 : decode cL_add 27 = .ok (.iconst 0, 1) := by decide +kernel
theorem dL_add_28 : decode cL_add 28 = .ok (.ireturn, 1) := by decide +kernel
theorem dL_under_0 : decode cL_under 0 = .ok (.aload_n 3, 1) := by decide +kernel
theorem dL_under_1 : decode cL_under 1 = .ok (.iconst 0, 1) := by decide +kernel
theorem dL_under_2 : decode cL_under 2 = .ok (.aload_n 0, 1) := by decide +kernel
theorem dL_under_3 : decode cL_under 3 = .ok (.iload_n 1, 1) := by decide +kernel
theorem dL_under_4 : decode cL_under 4 = .ok (.iload_n 2, 1) := by decide +kernel
theorem dL_under_5 : decode cL_under 5 = .ok (.invokevirtual 17, 3) := by decide +kernel
theorem dL_under_8 : decode cL_under 8 = .ok (.i2l, 1) := by decide +kernel
theorem dL_under_9 : decode cL_under 9 = .ok (.lastore, 1) := by decide +kernel
theorem dL_under_10 : decode cL_under 10 = .ok (.goto 11, 3) := by decide +kernel
theorem dL_under_13 : decode cL_under 13 = .ok (.astore 4, 2) := by decide +kernel
theorem dL_under_15 : decode cL_under 15 = .ok (.iconst 1, 1) := by decide +kernel
theorem dL_under_16 : decode cL_under 16 = .ok (.ireturn, 1) := by decide +kernel
theorem dL_under_17 : decode cL_under 17 = .ok (.astore 4, 2) := by decide +kernel
