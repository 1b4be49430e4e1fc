theorem dX4_readConsequence_56 : decode cX4_readConsequence 56 = .ok (.getfield 17, 3) := by decide +kernel
theorem dX4_readConsequence_59 : decode cX4_readConsequence 59 = .ok (.iload_n 1, 1) := by decide +kernel
theorem dX4_readConsequence_60 : decode cX4_readConsequence 60 = .ok (.aload_n 0, 1) := by decide +kernel
theorem dX4_readConsequence_61 : decode cX4_readConsequence 61 = .ok (.getfield 21, 3) := by decide +kernel
theorem dX4_readConsequence_64 : decode cX4_readConsequence 64 = .ok (.iastore, 1) := by decide +kernel
theorem dX4_readConsequence_65 : decode cX4_readConsequence 65 = .ok (.iconst 1, 1) := by decide +kernel
theorem dX4_readConsequence_66 : decode cX4_readConsequence 66 = .ok (.ireturn, 1) := by decide +kernel
theorem dX4_readCondition_0 : decode cX4_readCondition 0 = .ok (.aload_n 0, 1) := by decide +kernel
theorem dX4_readCondition_1 : decode cX4_readCondition 1 = .ok (.iload_n 1, 1) := by decide +kernel
theorem dX4_readCondition_2 : decode cX4_readCondition 2 = .ok (.iload_n 2, 1) := by decide +kernel
theorem dX4_readCondition_3 : decode cX4_readCondition 3 = .ok (.invokevirtual 65, 3) := by decide +kernel
theorem dX4_readCondition_6 : decode cX4_readCondition 6 = .ok (.ifCond .ne 5, 3) := by decide +kernel
theorem dX4_readCondition_9 : decode cX4_readCondition 9 = .ok (.iconst 0, 1) := by decide +kernel
theorem dX4_readCondition_10 : decode cX4_readCondition 10 = .ok (.ireturn, 1) := by decide +kernel
theorem dX4_readCondition_11 : decode cX4_readCondition 11 = .ok (.iconst 0, 1) := by decide +kernel
theorem dX4_readCondition_12 : decode cX4_readCondition 12 = .ok (.istore_n 3, 1) := by decide +kernel
theorem dX4_readCondition_13 : decode cX4_readCondition 13 = .ok (.iload_n 3, 1) := by decide +kernel
theorem dX4_readCondition_14 : decode cX4_readCondition 14 = .ok (.sipush 160, 3) := by decide +kernel
theorem dX4_readCondition_17 : decode cX4_readCondition 17 = .ok (.if_icmp .ge 38, 3) := by decide +kernel
theorem dX4_readCondition_20 : decode cX4_readCondition 20 = .ok (.aload_n 0, 1) := by decide +kernel
theorem dX4_readCondition_21 : decode cX4_readCondition 21 = .ok (.getfield 9, 3) := by decide +kernel
theorem dX4_readCondition_24 : decode cX4_readCondition 24 = .ok (.bipush 124, 2) := by decide +kernel
theorem dX4_readCondition_26 : decode cX4_readCondition 26 = .ok (.invokevirtual 32, 3) := by decide +kernel
theorem dX4_readCondition_29 : decode cX4_readCondition 29 = .ok (.ifCond .eq 26, 3) := by decide +kernel
theorem dX4_readCondition_32 : decode cX4_readCondition 32 = .ok (.aload_n 0, 1) := by decide +kernel
theorem dX4_readCondition_33 : decode cX4_readCondition 33 = .ok (.iload_n 1, 1) := by decide +kernel
theorem dX4_readCondition_34 : decode cX4_readCondition 34 = .ok (.iconst 0, 1) := by decide +kernel
theorem dX4_readCondition_35 : decode cX4_readCondition 35 = .ok (.invokevirtual 65, 3) := by decide +kernel
theorem dX4_readCondition_38 : decode cX4_readCondition 38 = .ok (.ifCond .ne 5, 3) := by decide +kernel
theorem dX4_readCondition_41 : decode cX4_readCondition 41 = .ok (.iconst 0, 1) := by decide +kernel
theorem dX4_readCondition_42 : decode cX4_readCondition 42 = .ok (.ireturn, 1) := by decide +kernel
theorem dX4_readCondition_43 : decode cX4_readCondition 43 = .ok (.aload_n 0, 1) := by decide +kernel
theorem dX4_readCondition_44 : decode cX4_readCondition 44 = .ok (.bipush (-124), 2) := by decide +kernel
theorem dX4_readCondition_46 : decode cX4_readCondition 46 = .ok (.invokevirtual 54, 3) := by decide +kernel
theorem dX4_readCondition_49 : decode cX4_readCondition 49 = .ok (.iinc 3 1, 3) := by decide +kernel
theorem dX4_readCondition_52 : decode cX4_readCondition 52 = .ok (.goto (-39), 3) := by decide +kernel
theorem dX4_readCondition_55 : decode cX4_readCondition 55 = .ok (.iconst 1, 1) := by decide +kernel
theorem dX4_readCondition_56 : decode cX4_readCondition 56 = .ok (.ireturn, 1) := by decide +kernel
theorem dX4_readTruth_0 : decode cX4_readTruth 0 = .ok (.aload_n 0, 1) := by decide +kernel
theorem dX4_readTruth_1 : decode cX4_readTruth 1 = .ok (.iload_n 1, 1) := by decide +kernel
theorem dX4_readTruth_2 : decode cX4_readTruth 2 = .ok (.iload_n 2, 1) := by decide +kernel
theorem dX4_readTruth_3 : decode cX4_readTruth 3 = .ok (.invokevirtual 68, 3) := by decide +kernel
theorem dX4_readTruth_6 : decode cX4_readTruth 6 = .ok (.ifCond .ne 5, 3) := by decide +kernel
theorem dX4_readTruth_9 : decode cX4_readTruth 9 = .ok (.iconst 0, 1) := by decide +kernel
theorem dX4_readTruth_10 : decode cX4_readTruth 10 = .ok (.ireturn, 1) := by decide +kernel
theorem dX4_readTruth_11 : decode cX4_readTruth 11 = .ok (.iconst 0, 1) := by decide +kernel
theorem dX4_readTruth_12 : decode cX4_readTruth 12 = .ok (.istore_n 3, 1) := by decide +kernel
theorem dX4_readTruth_13 : decode cX4_readTruth 13 = .ok (.iload_n 3, 1) := by decide +kernel
theorem dX4_readTruth_14 : decode cX4_readTruth 14 = .ok (.sipush 160, 3) := by decide +kernel
theorem dX4_readTruth_17 : decode cX4_readTruth 17 = .ok (.if_icmp .ge 38, 3) := by decide +kernel
theorem dX4_readTruth_20 : decode cX4_readTruth 20 = .ok (.aload_n 0, 1) := by decide +kernel
theorem dX4_readTruth_21 : decode cX4_readTruth 21 = .ok (.getfield 9, 3) := by decide +kernel
theorem dX4_readTruth_24 : decode cX4_readTruth 24 = .ok (.bipush 38, 2) := by decide +kernel
theorem dX4_readTruth_26 : decode cX4_readTruth 26 = .ok (.invokevirtual 32, 3) := by decide +kernel
theorem dX4_readTruth_29 : decode cX4_readTruth 29 = .ok (.ifCond .eq 26, 3) := by decide +kernel
theorem dX4_readTruth_32 : decode cX4_readTruth 32 = .ok (.aload_n 0, 1) := by decide +kernel
theorem dX4_readTruth_33 : decode cX4_readTruth 33 = .ok (.iload_n 1, 1) := by decide +kernel
theorem dX4_readTruth_34 : decode cX4_readTruth 34 = .ok (.iconst 0, 1) := by decide +kernel
theorem dX4_readTruth_35 : decode cX4_readTruth 35 = .ok (.invokevirtual 68, 3) := by decide +kernel
theorem dX4_readTruth_38 : decode cX4_readTruth 38 = .ok (.ifCond .ne 5, 3) := by decide +kernel
theorem dX4_readTruth_41 : decode cX4_readTruth 41 = .ok (.iconst 0, 1) := by decide +kernel
theorem dX4_readTruth_42 : decode cX4_readTruth 42 = .ok (.ireturn, 1) := by decide +kernel
theorem dX4_readTruth_43 : decode cX4_readTruth 43 = .ok (.aload_n 0, 1) := by decide +kernel
theorem dX4_readTruth_44 : decode cX4_readTruth 44 = .ok (.bipush (-38), 2) := by decide +kernel
theorem dX4_readTruth_46 : decode cX4_readTruth 46 = .ok (.invokevirtual 54, 3) := by decide +kernel
theorem dX4_readTruth_49 : decode cX4_readTruth 49 = .ok (.iinc 3 1, 3) := by decide +kernel
theorem dX4_readTruth_52 : decode cX4_readTruth 52 = .ok (.goto (-39), 3) := by decide +kernel
theorem dX4_readTruth_55 : decode cX4_readTruth 55 = .ok (.iconst 1, 1) := by decide +kernel
theorem dX4_readTruth_56 : decode cX4_readTruth 56 = .ok (.ireturn, 1) := by decide +kernel
theorem dX4_readUnit_0 : decode cX4_readUnit 0 = .ok (.iload_n 2, 1) := by decide +kernel
theorem dX4_readUnit_1 : decode cX4_readUnit 1 = .ok (.ifCond .eq 9, 3) := by decide +kernel
theorem dX4_readUnit_4 : decode cX4_readUnit 4 = .ok (.aload_n 0, 1) := by decide +kernel
theorem dX4_readUnit_5 : decode cX4_readUnit 5 = .ok (.iload_n 1, 1) := by decide +kernel
theorem dX4_readUnit_6 : decode cX4_readUnit 6 = .ok (.invokevirtual 71, 3) := by decide +kernel
theorem dX4_readUnit_9 : decode cX4_readUnit 9 = .ok (.ireturn, 1) := by decide +kernel
theorem dX4_readUnit_10 : decode cX4_readUnit 10 = .ok (.aload_n 0, 1) := by decide +kernel
theorem dX4_readUnit_11 : decode cX4_readUnit 11 = .ok (.getfield 9, 3) := by decide +kernel
theorem dX4_readUnit_14 : decode cX4_readUnit 14 = .ok (.invokevirtual 36, 3) := by decide +kernel
theorem dX4_readUnit_17 : decode cX4_readUnit 17 = .ok (.istore_n 3, 1) := by decide +kernel
theorem dX4_readUnit_18 : decode cX4_readUnit 18 = .ok (.iload_n 3, 1) := by decide +kernel
theorem dX4_readUnit_19 : decode cX4_readUnit 19 = .ok (.bipush 33, 2) := by decide +kernel
theorem dX4_readUnit_21 : decode cX4_readUnit 21 = .ok (.if_icmp .eq 31, 3) := by decide +kernel
theorem dX4_readUnit_24 : decode cX4_readUnit 24 = .ok (.iload_n 3, 1) := by decide +kernel
theorem dX4_readUnit_25 : decode cX4_readUnit 25 = .ok (.bipush 40, 2) := by decide +kernel
theorem dX4_readUnit_27 : decode cX4_readUnit 27 = .ok (.if_icmp .eq 25, 3) := by decide +kernel
theorem dX4_readUnit_30 : decode cX4_readUnit 30 = .ok (.aload_n 0, 1) := by decide +kernel
theorem dX4_readUnit_31 : decode cX4_readUnit 31 = .ok (.iload_n 1, 1) := by decide +kernel
theorem dX4_readUnit_32 : decode cX4_readUnit 32 = .ok (.invokevirtual 48, 3) := by decide +kernel
theorem dX4_readUnit_35 : decode cX4_readUnit 35 = .ok (.ifCond .eq 15, 3) := by decide +kernel
theorem dX4_readUnit_38 : decode cX4_readUnit 38 = .ok (.aload_n 0, 1) := by decide +kernel
theorem dX4_readUnit_39 : decode cX4_readUnit 39 = .ok (.iload_n 1, 1) := by decide +kernel
theorem dX4_readUnit_40 : decode cX4_readUnit 40 = .ok (.invokevirtual 71, 3) := by decide +kernel
theorem dX4_readUnit_43 : decode cX4_readUnit 43 = .ok (.ifCond .eq 7, 3) := by decide +kernel
theorem dX4_readUnit_46 : decode cX4_readUnit 46 = .ok (.iconst 1, 1) := by decide +kernel
theorem dX4_readUnit_47 : decode cX4_readUnit 47 = .ok (.goto 4, 3) := by decide +kernel
theorem dX4_readUnit_50 : decode cX4_readUnit 50 = .ok (.iconst 0, 1) := by decide +kernel
theorem dX4_readUnit_51 : decode cX4_readUnit 51 = .ok (.ireturn, 1) := by decide +kernel
theorem dX4_readUnit_52 : decode cX4_readUnit 52 = .ok (.iload_n 1, 1) := by decide +kernel
theorem dX4_readUnit_53 : decode cX4_readUnit 53 = .ok (.bipush 6, 2) := by decide +kernel
theorem dX4_readUnit_55 : decode cX4_readUnit 55 = .ok (.if_icmp .lt 5, 3) := by decide +kernel
theorem dX4_readUnit_58 : decode cX4_readUnit 58 = .ok (.iconst 0, 1) := by decide +kernel
theorem dX4_readUnit_59 : decode cX4_readUnit 59 = .ok (.ireturn, 1) := by decide +kernel
theorem dX4_readUnit_60 : decode cX4_readUnit 60 = .ok (.aload_n 0, 1) := by decide +kernel
theorem dX4_readUnit_61 : decode cX4_readUnit 61 = .ok (.getfield 9, 3) := by decide +kernel
theorem dX4_readUnit_64 : decode cX4_readUnit 64 = .ok (.invokevirtual 74, 3) := by decide +kernel
theorem dX4_readUnit_67 : decode cX4_readUnit 67 = .ok (.iload_n 3, 1) := by decide +kernel
theorem dX4_readUnit_68 : decode cX4_readUnit 68 = .ok (.bipush 40, 2) := by decide +kernel
theorem dX4_readUnit_70 : decode cX4_readUnit 70 = .ok (.if_icmp .ne 32, 3) := by decide +kernel
theorem dX4_readUnit_73 : decode cX4_readUnit 73 = .ok (.aload_n 0, 1) := by decide +kernel
theorem dX4_readUnit_74 : decode cX4_readUnit 74 = .ok (.iload_n 1, 1) := by decide +kernel
theorem dX4_readUnit_75 : decode cX4_readUnit 75 = .ok (.iconst 1, 1) := by decide +kernel
theorem dX4_readUnit_76 : decode cX4_readUnit 76 = .ok (.iadd, 1) := by decide +kernel
theorem dX4_readUnit_77 : decode cX4_readUnit 77 = .ok (.iconst 0, 1) := by decide +kernel
theorem dX4_readUnit_78 : decode cX4_readUnit 78 = .ok (.invokevirtual 58, 3) := by decide +kernel
theorem dX4_readUnit_81 : decode cX4_readUnit 81 = .ok (.ifCond .eq 19, 3) := by decide +kernel
theorem dX4_readUnit_84 : decode cX4_readUnit 84 = .ok (.aload_n 0, 1) := by decide +kernel
theorem dX4_readUnit_85 : decode cX4_readUnit 85 = .ok (.getfield 9, 3) := by decide +kernel
theorem dX4_readUnit_88 : decode cX4_readUnit 88 = .ok (.bipush 41, 2) := by decide +kernel
theorem dX4_readUnit_90 : decode cX4_readUnit 90 = .ok (.invokevirtual 32, 3) := by decide +kernel
theorem dX4_readUnit_93 : decode cX4_readUnit 93 = .ok (.ifCond .eq 7, 3) := by decide +kernel
theorem dX4_readUnit_96 : decode cX4_readUnit 96 = .ok (.iconst 1, 1) := by decide +kernel
theorem dX4_readUnit_97 : decode cX4_readUnit 97 = .ok (.goto 4, 3) := by decide +kernel
theorem dX4_readUnit_100 : decode cX4_readUnit 100 = .ok (.iconst 0, 1) := by decide +kernel
theorem dX4_readUnit_101 : decode cX4_readUnit 101 = .ok (.ireturn, 1) := by decide +kernel
theorem dX4_readUnit_102 : decode cX4_readUnit 102 = .ok (.aload_n 0, 1) := by decide +kernel
theorem dX4_readUnit_103 : decode cX4_readUnit 103 = .ok (.iload_n 1, 1) := by decide +kernel
theorem dX4_readUnit_104 : decode cX4_readUnit 104 = .ok (.iconst 1, 1) := by decide +kernel
theorem dX4_readUnit_105 : decode cX4_readUnit 105 = .ok (.iadd, 1) := by decide +kernel
theorem dX4_readUnit_106 : decode cX4_readUnit 106 = .ok (.iconst 0, 1) := by decide +kernel
theorem dX4_readUnit_107 : decode cX4_readUnit 107 = .ok (.invokevirtual 68, 3) := by decide +kernel
theorem dX4_readUnit_110 : decode cX4_readUnit 110 = .ok (.ifCond .ne 5, 3) := by decide +kernel
theorem dX4_readUnit_113 : decode cX4_readUnit 113 = .ok (.iconst 0, 1) := by decide +kernel
theorem dX4_readUnit_114 : decode cX4_readUnit 114 = .ok (.ireturn, 1) := by decide +kernel
theorem dX4_readUnit_115 : decode cX4_readUnit 115 = .ok (.aload_n 0, 1) := by decide +kernel
theorem dX4_readUnit_116 : decode cX4_readUnit 116 = .ok (.bipush (-33), 2) := by decide +kernel
theorem dX4_readUnit_118 : decode cX4_readUnit 118 = .ok (.invokevirtual 54, 3) := by decide +kernel
theorem dX4_readUnit_121 : decode cX4_readUnit 121 = .ok (.iconst 1, 1) := by decide +kernel
theorem dX4_readUnit_122 : decode cX4_readUnit 122 = .ok (.ireturn, 1) := by decide +kernel
theorem dX4_isRelation_0 : decode cX4_isRelation 0 = .ok (.iload_n 0, 1) := by decide +kernel
theorem dX4_isRelation_1 : decode cX4_isRelation 1 = .ok (.bipush 61, 2) := by decide +kernel
theorem dX4_isRelation_3 : decode cX4_isRelation 3 = .ok (.if_icmp .eq 15, 3) := by decide +kernel
theorem dX4_isRelation_6 : decode cX4_isRelation 6 = .ok (.iload_n 0, 1) := by decide +kernel
theorem dX4_isRelation_7 : decode cX4_isRelation 7 = .ok (.bipush 60, 2) := by decide +kernel
theorem dX4_isRelation_9 : decode cX4_isRelation 9 = .ok (.if_icmp .eq 9, 3) := by decide +kernel
theorem dX4_isRelation_12 : decode cX4_isRelation 12 = .ok (.iload_n 0, 1) := by decide +kernel
theorem dX4_isRelation_13 : decode cX4_isRelation 13 = .ok (.bipush 62, 2) := by decide +kernel
theorem dX4_isRelation_15 : decode cX4_isRelation 15 = .ok (.if_icmp .ne 7, 3) := by decide +kernel
theorem dX4_isRelation_18 : decode cX4_isRelation 18 = .ok (.iconst 1, 1) := by decide +kernel
theorem dX4_isRelation_19 : decode cX4_isRelation 19 = .ok (.goto 4, 3) := by decide +kernel
theorem dX4_isRelation_22 : decode cX4_isRelation 22 = .ok (.iconst 0, 1) := by decide +kernel
theorem dX4_isRelation_23 : decode cX4_isRelation 23 = .ok (.ireturn, 1) := by decide +kernel
theorem dX4_readRelation_0 : decode cX4_readRelation 0 = .ok (.aload_n 0, 1) := by decide +kernel
theorem dX4_readRelation_1 : decode cX4_readRelation 1 = .ok (.getfield 9, 3) := by decide +kernel
theorem dX4_readRelation_4 : decode cX4_readRelation 4 = .ok (.invokevirtual 36, 3) := by decide +kernel
theorem dX4_readRelation_7 : decode cX4_readRelation 7 = .ok (.istore_n 2, 1) := by decide +kernel
theorem dX4_readRelation_8 : decode cX4_readRelation 8 = .ok (.iload_n 2, 1) := by decide +kernel
theorem dX4_readRelation_9 : decode cX4_readRelation 9 = .ok (.invokestatic 51, 3) := by decide +kernel
theorem dX4_readRelation_12 : decode cX4_readRelation 12 = .ok (.ifCond .ne 5, 3) := by decide +kernel
theorem dX4_readRelation_15 : decode cX4_readRelation 15 = .ok (.iconst 0, 1) := by decide +kernel
theorem dX4_readRelation_16 : decode cX4_readRelation 16 = .ok (.ireturn, 1) := by decide +kernel
theorem dX4_readRelation_17 : decode cX4_readRelation 17 = .ok (.aload_n 0, 1) := by decide +kernel
theorem dX4_readRelation_18 : decode cX4_readRelation 18 = .ok (.getfield 9, 3) := by decide +kernel
theorem dX4_readRelation_21 : decode cX4_readRelation 21 = .ok (.invokevirtual 74, 3) := by decide +kernel
theorem dX4_readRelation_24 : decode cX4_readRelation 24 = .ok (.aload_n 0, 1) := by decide +kernel
theorem dX4_readRelation_25 : decode cX4_readRelation 25 = .ok (.iload_n 1, 1) := by decide +kernel
theorem dX4_readRelation_26 : decode cX4_readRelation 26 = .ok (.invokevirtual 48, 3) := by decide +kernel
theorem dX4_readRelation_29 : decode cX4_readRelation 29 = .ok (.ifCond .ne 5, 3) := by decide +kernel
theorem dX4_readRelation_32 : decode cX4_readRelation 32 = .ok (.iconst 0, 1) := by decide +kernel
theorem dX4_readRelation_33 : decode cX4_readRelation 33 = .ok (.ireturn, 1) := by decide +kernel
theorem dX4_readRelation_34 : decode cX4_readRelation 34 = .ok (.aload_n 0, 1) := by decide +kernel
theorem dX4_readRelation_35 : decode cX4_readRelation 35 = .ok (.iload_n 2, 1) := by decide +kernel
theorem dX4_readRelation_36 : decode cX4_readRelation 36 = .ok (.ineg, 1) := by decide +kernel
theorem dX4_readRelation_37 : decode cX4_readRelation 37 = .ok (.invokevirtual 54, 3) := by decide +kernel
theorem dX4_readRelation_40 : decode cX4_readRelation 40 = .ok (.iconst 1, 1) := by decide +kernel
theorem dX4_readRelation_41 : decode cX4_readRelation 41 = .ok (.ireturn, 1) := by decide +kernel
theorem dX4_readSum_0 : decode cX4_readSum 0 = .ok (.aload_n 0, 1) := by decide +kernel
theorem dX4_readSum_1 : decode cX4_readSum 1 = .ok (.iload_n 1, 1) := by decide +kernel
theorem dX4_readSum_2 : decode cX4_readSum 2 = .ok (.invokevirtual 77, 3) := by decide +kernel
theorem dX4_readSum_5 : decode cX4_readSum 5 = .ok (.ifCond .ne 5, 3) := by decide +kernel
theorem dX4_readSum_8 : decode cX4_readSum 8 = .ok (.iconst 0, 1) := by decide +kernel
theorem dX4_readSum_9 : decode cX4_readSum 9 = .ok (.ireturn, 1) := by decide +kernel
theorem dX4_readSum_10 : decode cX4_readSum 10 = .ok (.iconst 0, 1) := by decide +kernel
theorem dX4_readSum_11 : decode cX4_readSum 11 = .ok (.istore_n 2, 1) := by decide +kernel
theorem dX4_readSum_12 : decode cX4_readSum 12 = .ok (.iload_n 2, 1) := by decide +kernel
theorem dX4_readSum_13 : decode cX4_readSum 13 = .ok (.sipush 160, 3) := by decide +kernel
theorem dX4_readSum_16 : decode cX4_readSum 16 = .ok (.if_icmp .ge 54, 3) := by decide +kernel
theorem dX4_readSum_19 : decode cX4_readSum 19 = .ok (.aload_n 0, 1) := by decide +kernel
theorem dX4_readSum_20 : decode cX4_readSum 20 = .ok (.getfield 9, 3) := by decide +kernel
theorem dX4_readSum_23 : decode cX4_readSum 23 = .ok (.invokevirtual 36, 3) := by decide +kernel
theorem dX4_readSum_26 : decode cX4_readSum 26 = .ok (.istore_n 3, 1) := by decide +kernel
theorem dX4_readSum_27 : decode cX4_readSum 27 = .ok (.iload_n 3, 1) := by decide +kernel
theorem dX4_readSum_28 : decode cX4_readSum 28 = .ok (.bipush 43, 2) := by decide +kernel
theorem dX4_readSum_30 : decode cX4_readSum 30 = .ok (.if_icmp .eq 11, 3) := by decide +kernel
theorem dX4_readSum_33 : decode cX4_readSum 33 = .ok (.iload_n 3, 1) := by decide +kernel
theorem dX4_readSum_34 : decode cX4_readSum 34 = .ok (.bipush 45, 2) := by decide +kernel
theorem dX4_readSum_36 : decode cX4_readSum 36 = .ok (.if_icmp .eq 5, 3) := by decide +kernel
theorem dX4_readSum_39 : decode cX4_readSum 39 = .ok (.iconst 1, 1) := by decide +kernel
theorem dX4_readSum_40 : decode cX4_readSum 40 = .ok (.ireturn, 1) := by decide +kernel
theorem dX4_readSum_41 : decode cX4_readSum 41 = .ok (.aload_n 0, 1) := by decide +kernel
theorem dX4_readSum_42 : decode cX4_readSum 42 = .ok (.getfield 9, 3) := by decide +kernel
theorem dX4_readSum_45 : decode cX4_readSum 45 = .ok (.invokevirtual 74, 3) := by decide +kernel
theorem dX4_readSum_48 : decode cX4_readSum 48 = .ok (.aload_n 0, 1) := by decide +kernel
theorem dX4_readSum_49 : decode cX4_readSum 49 = .ok (.iload_n 1, 1) := by decide +kernel
theorem dX4_readSum_50 : decode cX4_readSum 50 = .ok (.invokevirtual 77, 3) := by decide +kernel
theorem dX4_readSum_53 : decode cX4_readSum 53 = .ok (.ifCond .ne 5, 3) := by decide +kernel
theorem dX4_readSum_56 : decode cX4_readSum 56 = .ok (.iconst 0, 1) := by decide +kernel
theorem dX4_readSum_57 : decode cX4_readSum 57 = .ok (.ireturn, 1) := by decide +kernel
theorem dX4_readSum_58 : decode cX4_readSum 58 = .ok (.aload_n 0, 1) := by decide +kernel
theorem dX4_readSum_59 : decode cX4_readSum 59 = .ok (.iload_n 3, 1) := by decide +kernel
theorem dX4_readSum_60 : decode cX4_readSum 60 = .ok (.ineg, 1) := by decide +kernel
theorem dX4_readSum_61 : decode cX4_readSum 61 = .ok (.invokevirtual 54, 3) := by decide +kernel
theorem dX4_readSum_64 : decode cX4_readSum 64 = .ok (.iinc 2 1, 3) := by decide +kernel
theorem dX4_readSum_67 : decode cX4_readSum 67 = .ok (.goto (-55), 3) := by decide +kernel
theorem dX4_readSum_70 : decode cX4_readSum 70 = .ok (.iconst 1, 1) := by decide +kernel
theorem dX4_readSum_71 : decode cX4_readSum 71 = .ok (.ireturn, 1) := by decide +kernel
theorem dX4_readTerm_0 : decode cX4_readTerm 0 = .ok (.aload_n 0, 1) := by decide +kernel
theorem dX4_readTerm_1 : decode cX4_readTerm 1 = .ok (.iload_n 1, 1) := by decide +kernel
theorem dX4_readTerm_2 : decode cX4_readTerm 2 = .ok (.invokevirtual 80, 3) := by decide +kernel
theorem dX4_readTerm_5 : decode cX4_readTerm 5 = .ok (.ifCond .ne 5, 3) := by decide +kernel
theorem dX4_readTerm_8 : decode cX4_readTerm 8 = .ok (.iconst 0, 1) := by decide +kernel
theorem dX4_readTerm_9 : decode cX4_readTerm 9 = .ok (.ireturn, 1) := by decide +kernel
theorem dX4_readTerm_10 : decode cX4_readTerm 10 = .ok (.iconst 0, 1) := by decide +kernel
theorem dX4_readTerm_11 : decode cX4_readTerm 11 = .ok (.istore_n 2, 1) := by decide +kernel
theorem dX4_readTerm_12 : decode cX4_readTerm 12 = .ok (.iload_n 2, 1) := by decide +kernel
theorem dX4_readTerm_13 : decode cX4_readTerm 13 = .ok (.sipush 160, 3) := by decide +kernel
theorem dX4_readTerm_16 : decode cX4_readTerm 16 = .ok (.if_icmp .ge 54, 3) := by decide +kernel
theorem dX4_readTerm_19 : decode cX4_readTerm 19 = .ok (.aload_n 0, 1) := by decide +kernel
theorem dX4_readTerm_20 : decode cX4_readTerm 20 = .ok (.getfield 9, 3) := by decide +kernel
theorem dX4_readTerm_23 : decode cX4_readTerm 23 = .ok (.invokevirtual 36, 3) := by decide +kernel
theorem dX4_readTerm_26 : decode cX4_readTerm 26 = .ok (.istore_n 3, 1) := by decide +kernel
theorem dX4_readTerm_27 : decode cX4_readTerm 27 = .ok (.iload_n 3, 1) := by decide +kernel
theorem dX4_readTerm_28 : decode cX4_readTerm 28 = .ok (.bipush 42, 2) := by decide +kernel
theorem dX4_readTerm_30 : decode cX4_readTerm 30 = .ok (.if_icmp .eq 11, 3) := by decide +kernel
theorem dX4_readTerm_33 : decode cX4_readTerm 33 = .ok (.iload_n 3, 1) := by decide +kernel
theorem dX4_readTerm_34 : decode cX4_readTerm 34 = .ok (.bipush 47, 2) := by decide +kernel
theorem dX4_readTerm_36 : decode cX4_readTerm 36 = .ok (.if_icmp .eq 5, 3) := by decide +kernel
theorem dX4_readTerm_39 : decode cX4_readTerm 39 = .ok (.iconst 1, 1) := by decide +kernel
theorem dX4_readTerm_40 : decode cX4_readTerm 40 = .ok (.ireturn, 1) := by decide +kernel
theorem dX4_readTerm_41 : decode cX4_readTerm 41 = .ok (.aload_n 0, 1) := by decide +kernel
theorem dX4_readTerm_42 : decode cX4_readTerm 42 = .ok (.getfield 9, 3) := by decide +kernel
theorem dX4_readTerm_45 : decode cX4_readTerm 45 = .ok (.invokevirtual 74, 3) := by decide +kernel
theorem dX4_readTerm_48 : decode cX4_readTerm 48 = .ok (.aload_n 0, 1) := by decide +kernel
theorem dX4_readTerm_49 : decode cX4_readTerm 49 = .ok (.iload_n 1, 1) := by decide +kernel
theorem dX4_readTerm_50 : decode cX4_readTerm 50 = .ok (.invokevirtual 80, 3) := by decide +kernel
theorem dX4_readTerm_53 : decode cX4_readTerm 53 = .ok (.ifCond .ne 5, 3) := by decide +kernel
theorem dX4_readTerm_56 : decode cX4_readTerm 56 = .ok (.iconst 0, 1) := by decide +kernel
theorem dX4_readTerm_57 : decode cX4_readTerm 57 = .ok (.ireturn, 1) := by decide +kernel
theorem dX4_readTerm_58 : decode cX4_readTerm 58 = .ok (.aload_n 0, 1) := by decide +kernel
theorem dX4_readTerm_59 : decode cX4_readTerm 59 = .ok (.iload_n 3, 1) := by decide +kernel
theorem dX4_readTerm_60 : decode cX4_readTerm 60 = .ok (.ineg, 1) := by decide +kernel
theorem dX4_readTerm_61 : decode cX4_readTerm 61 = .ok (.invokevirtual 54, 3) := by decide +kernel
theorem dX4_readTerm_64 : decode cX4_readTerm 64 = .ok (.iinc 2 1, 3) := by decide +kernel
theorem dX4_readTerm_67 : decode cX4_readTerm 67 = .ok (.goto (-55), 3) := by decide +kernel
theorem dX4_readTerm_70 : decode cX4_readTerm 70 = .ok (.iconst 1, 1) := by decide +kernel
theorem dX4_readTerm_71 : decode cX4_readTerm 71 = .ok (.ireturn, 1) := by decide +kernel
theorem dX4_readAtom_0 : decode cX4_readAtom 0 = .ok (.aload_n 0, 1) := by decide +kernel
theorem dX4_readAtom_1 : decode cX4_readAtom 1 = .ok (.getfield 9, 3) := by decide +kernel
theorem dX4_readAtom_4 : decode cX4_readAtom 4 = .ok (.invokevirtual 36, 3) := by decide +kernel
theorem dX4_readAtom_7 : decode cX4_readAtom 7 = .ok (.istore_n 2, 1) := by decide +kernel
theorem dX4_readAtom_8 : decode cX4_readAtom 8 = .ok (.iload_n 2, 1) := by decide +kernel
theorem dX4_readAtom_9 : decode cX4_readAtom 9 = .ok (.bipush 91, 2) := by decide +kernel
theorem dX4_readAtom_11 : decode cX4_readAtom 11 = .ok (.if_icmp .ne 46, 3) := by decide +kernel
theorem dX4_readAtom_14 : decode cX4_readAtom 14 = .ok (.iload_n 1, 1) := by decide +kernel
theorem dX4_readAtom_15 : decode cX4_readAtom 15 = .ok (.bipush 6, 2) := by decide +kernel
theorem dX4_readAtom_17 : decode cX4_readAtom 17 = .ok (.if_icmp .lt 5, 3) := by decide +kernel
theorem dX4_readAtom_20 : decode cX4_readAtom 20 = .ok (.iconst 0, 1) := by decide +kernel
theorem dX4_readAtom_21 : decode cX4_readAtom 21 = .ok (.ireturn, 1) := by decide +kernel
theorem dX4_readAtom_22 : decode cX4_readAtom 22 = .ok (.aload_n 0, 1) := by decide +kernel
theorem dX4_readAtom_23 : decode cX4_readAtom 23 = .ok (.getfield 9, 3) := by decide +kernel
theorem dX4_readAtom_26 : decode cX4_readAtom 26 = .ok (.invokevirtual 74, 3) := by decide +kernel
theorem dX4_readAtom_29 : decode cX4_readAtom 29 = .ok (.aload_n 0, 1) := by decide +kernel
theorem dX4_readAtom_30 : decode cX4_readAtom 30 = .ok (.iload_n 1, 1) := by decide +kernel
theorem dX4_readAtom_31 : decode cX4_readAtom 31 = .ok (.iconst 1, 1) := by decide +kernel
theorem dX4_readAtom_32 : decode cX4_readAtom 32 = .ok (.iadd, 1) := by decide +kernel
theorem dX4_readAtom_33 : decode cX4_readAtom 33 = .ok (.invokevirtual 48, 3) := by decide +kernel
theorem dX4_readAtom_36 : decode cX4_readAtom 36 = .ok (.ifCond .eq 19, 3) := by decide +kernel
theorem dX4_readAtom_39 : decode cX4_readAtom 39 = .ok (.aload_n 0, 1) := by decide +kernel
theorem dX4_readAtom_40 : decode cX4_readAtom 40 = .ok (.getfield 9, 3) := by decide +kernel
theorem dX4_readAtom_43 : decode cX4_readAtom 43 = .ok (.bipush 93, 2) := by decide +kernel
theorem dX4_readAtom_45 : decode cX4_readAtom 45 = .ok (.invokevirtual 32, 3) := by decide +kernel
theorem dX4_readAtom_48 : decode cX4_readAtom 48 = .ok (.ifCond .eq 7, 3) := by decide +kernel
theorem dX4_readAtom_51 : decode cX4_readAtom 51 = .ok (.iconst 1, 1) := by decide +kernel
theorem dX4_readAtom_52 : decode cX4_readAtom 52 = .ok (.goto 4, 3) := by decide +kernel
theorem dX4_readAtom_55 : decode cX4_readAtom 55 = .ok (.iconst 0, 1) := by decide +kernel
theorem dX4_readAtom_56 : decode cX4_readAtom 56 = .ok (.ireturn, 1) := by decide +kernel
theorem dX4_readAtom_57 : decode cX4_readAtom 57 = .ok (.iload_n 2, 1) := by decide +kernel
theorem dX4_readAtom_58 : decode cX4_readAtom 58 = .ok (.invokestatic 83, 3) := by decide +kernel
theorem dX4_readAtom_61 : decode cX4_readAtom 61 = .ok (.iconst (-1), 1) := by decide +kernel
theorem dX4_readAtom_62 : decode cX4_readAtom 62 = .ok (.if_icmp .eq 18, 3) := by decide +kernel
theorem dX4_readAtom_65 : decode cX4_readAtom 65 = .ok (.aload_n 0, 1) := by decide +kernel
theorem dX4_readAtom_66 : decode cX4_readAtom 66 = .ok (.getfield 9, 3) := by decide +kernel
theorem dX4_readAtom_69 : decode cX4_readAtom 69 = .ok (.invokevirtual 74, 3) := by decide +kernel
theorem dX4_readAtom_72 : decode cX4_readAtom 72 = .ok (.aload_n 0, 1) := by decide +kernel
theorem dX4_readAtom_73 : decode cX4_readAtom 73 = .ok (.iload_n 2, 1) := by decide +kernel
theorem dX4_readAtom_74 : decode cX4_readAtom 74 = .ok (.ineg, 1) := by decide +kernel
theorem dX4_readAtom_75 : decode cX4_readAtom 75 = .ok (.invokevirtual 54, 3) := by decide +kernel
theorem dX4_readAtom_78 : decode cX4_readAtom 78 = .ok (.iconst 1, 1) := by decide +kernel
theorem dX4_readAtom_79 : decode cX4_readAtom 79 = .ok (.ireturn, 1) := by decide +kernel
theorem dX4_readAtom_80 : decode cX4_readAtom 80 = .ok (.aload_n 0, 1) := by decide +kernel
theorem dX4_readAtom_81 : decode cX4_readAtom 81 = .ok (.getfield 9, 3) := by decide +kernel
theorem dX4_readAtom_84 : decode cX4_readAtom 84 = .ok (.iconst 4, 1) := by decide +kernel
theorem dX4_readAtom_85 : decode cX4_readAtom 85 = .ok (.invokevirtual 87, 3) := by decide +kernel
theorem dX4_readAtom_88 : decode cX4_readAtom 88 = .ok (.istore_n 3, 1) := by decide +kernel
theorem dX4_readAtom_89 : decode cX4_readAtom 89 = .ok (.iload_n 3, 1) := by decide +kernel
theorem dX4_readAtom_90 : decode cX4_readAtom 90 = .ok (.iconst (-1), 1) := by decide +kernel
theorem dX4_readAtom_91 : decode cX4_readAtom 91 = .ok (.if_icmp .ne 5, 3) := by decide +kernel
theorem dX4_readAtom_94 : decode cX4_readAtom 94 = .ok (.iconst 0, 1) := by decide +kernel
theorem dX4_readAtom_95 : decode cX4_readAtom 95 = .ok (.ireturn, 1) := by decide +kernel
theorem dX4_readAtom_96 : decode cX4_readAtom 96 = .ok (.aload_n 0, 1) := by decide +kernel
theorem dX4_readAtom_97 : decode cX4_readAtom 97 = .ok (.iload_n 3, 1) := by decide +kernel
theorem dX4_readAtom_98 : decode cX4_readAtom 98 = .ok (.invokevirtual 54, 3) := by decide +kernel
theorem dX4_readAtom_101 : decode cX4_readAtom 101 = .ok (.iconst 1, 1) := by decide +kernel
theorem dX4_readAtom_102 : decode cX4_readAtom 102 = .ok (.ireturn, 1) := by decide +kernel
theorem dX4_write_0 : decode cX4_write 0 = .ok (.aload_n 0, 1) := by decide +kernel
theorem dX4_write_1 : decode cX4_write 1 = .ok (.getfield 21, 3) := by decide +kernel
theorem dX4_write_4 : decode cX4_write 4 = .ok (.aload_n 0, 1) := by decide +kernel
theorem dX4_write_5 : decode cX4_write 5 = .ok (.getfield 17, 3) := by decide +kernel
theorem dX4_write_8 : decode cX4_write 8 = .ok (.arraylength, 1) := by decide +kernel
theorem dX4_write_9 : decode cX4_write 9 = .ok (.if_icmp .ge 23, 3) := by decide +kernel
theorem dX4_write_12 : decode cX4_write 12 = .ok (.aload_n 0, 1) := by decide +kernel
theorem dX4_write_13 : decode cX4_write 13 = .ok (.getfield 17, 3) := by decide +kernel
theorem dX4_write_16 : decode cX4_write 16 = .ok (.aload_n 0, 1) := by decide +kernel
theorem dX4_write_17 : decode cX4_write 17 = .ok (.getfield 21, 3) := by decide +kernel
theorem dX4_write_20 : decode cX4_write 20 = .ok (.iload_n 1, 1) := by decide +kernel
theorem dX4_write_21 : decode cX4_write 21 = .ok (.iastore, 1) := by decide +kernel
theorem dX4_write_22 : decode cX4_write 22 = .ok (.aload_n 0, 1) := by decide +kernel
theorem dX4_write_23 : decode cX4_write 23 = .ok (.dup, 1) := by decide +kernel
theorem dX4_write_24 : decode cX4_write 24 = .ok (.getfield 21, 3) := by decide +kernel
theorem dX4_write_27 : decode cX4_write 27 = .ok (.iconst 1, 1) := by decide +kernel
theorem dX4_write_28 : decode cX4_write 28 = .ok (.iadd, 1) := by decide +kernel
theorem dX4_write_29 : decode cX4_write 29 = .ok (.putfield 21, 3) := by decide +kernel
theorem dX4_write_32 : decode cX4_write 32 = .ok (.return_, 1) := by decide +kernel
theorem dX5_init_0 : decode cX5_init 0 = .ok (.aload_n 0, 1) := by decide +kernel
theorem dX5_init_1 : decode cX5_init 1 = .ok (.invokespecial 3, 3) := by decide +kernel
theorem dX5_init_4 : decode cX5_init 4 = .ok (.aload_n 0, 1) := by decide +kernel
theorem dX5_init_5 : decode cX5_init 5 = .ok (.iconst 0, 1) := by decide +kernel
theorem dX5_init_6 : decode cX5_init 6 = .ok (.putfield 9, 3) := by decide +kernel
theorem dX5_init_9 : decode cX5_init 9 = .ok (.aload_n 0, 1) := by decide +kernel
theorem dX5_init_10 : decode cX5_init 10 = .ok (.iconst 0, 1) := by decide +kernel
theorem dX5_init_11 : decode cX5_init 11 = .ok (.putfield 15, 3) := by decide +kernel
theorem dX5_init_14 : decode cX5_init 14 = .ok (.aload_n 0, 1) := by decide +kernel
theorem dX5_init_15 : decode cX5_init 15 = .ok (.bipush 49, 2) := by decide +kernel
theorem dX5_init_17 : decode cX5_init 17 = .ok (.newarray .int, 2) := by decide +kernel
theorem dX5_init_19 : decode cX5_init 19 = .ok (.putfield 19, 3) := by decide +kernel
theorem dX5_init_22 : decode cX5_init 22 = .ok (.return_, 1) := by decide +kernel
theorem dX5_mostOf_0 : decode cX5_mostOf 0 = .ok (.iload_n 0, 1) := by decide +kernel
theorem dX5_mostOf_1 : decode cX5_mostOf 1 = .ok (.ifCond .lt 19, 3) := by decide +kernel
theorem dX5_mostOf_4 : decode cX5_mostOf 4 = .ok (.iload_n 0, 1) := by decide +kernel
theorem dX5_mostOf_5 : decode cX5_mostOf 5 = .ok (.getstatic 23, 3) := by decide +kernel
theorem dX5_mostOf_8 : decode cX5_mostOf 8 = .ok (.arraylength, 1) := by decide +kernel
theorem dX5_mostOf_9 : decode cX5_mostOf 9 = .ok (.if_icmp .ge 11, 3) := by decide +kernel
theorem dX5_mostOf_12 : decode cX5_mostOf 12 = .ok (.getstatic 23, 3) := by decide +kernel
theorem dX5_mostOf_15 : decode cX5_mostOf 15 = .ok (.iload_n 0, 1) := by decide +kernel
theorem dX5_mostOf_16 : decode cX5_mostOf 16 = .ok (.iaload, 1) := by decide +kernel
theorem dX5_mostOf_17 : decode cX5_mostOf 17 = .ok (.goto 4, 3) := by decide +kernel
theorem dX5_mostOf_20 : decode cX5_mostOf 20 = .ok (.iconst (-1), 1) := by decide +kernel
theorem dX5_mostOf_21 : decode cX5_mostOf 21 = .ok (.ireturn, 1) := by decide +kernel
theorem dX5_clear_0 : decode cX5_clear 0 = .ok (.aload_n 0, 1) := by decide +kernel
theorem dX5_clear_1 : decode cX5_clear 1 = .ok (.iconst 0, 1) := by decide +kernel
theorem dX5_clear_2 : decode cX5_clear 2 = .ok (.putfield 9, 3) := by decide +kernel
theorem dX5_clear_5 : decode cX5_clear 5 = .ok (.aload_n 0, 1) := by decide +kernel
theorem dX5_clear_6 : decode cX5_clear 6 = .ok (.iconst 0, 1) := by decide +kernel
theorem dX5_clear_7 : decode cX5_clear 7 = .ok (.putfield 15, 3) := by decide +kernel
theorem dX5_clear_10 : decode cX5_clear 10 = .ok (.return_, 1) := by decide +kernel
theorem dX5_addUsual_0 : decode cX5_addUsual 0 = .ok (.aload_n 0, 1) := by decide +kernel
theorem dX5_addUsual_1 : decode cX5_addUsual 1 = .ok (.getfield 9, 3) := by decide +kernel
theorem dX5_addUsual_4 : decode cX5_addUsual 4 = .ok (.bipush 7, 2) := by decide +kernel
theorem dX5_addUsual_6 : decode cX5_addUsual 6 = .ok (.if_icmp .lt 4, 3) := by decide +kernel
theorem dX5_addUsual_9 : decode cX5_addUsual 9 = .ok (.return_, 1) := by decide +kernel
theorem dX5_addUsual_10 : decode cX5_addUsual 10 = .ok (.aload_n 0, 1) := by decide +kernel
theorem dX5_addUsual_11 : decode cX5_addUsual 11 = .ok (.dup, 1) := by decide +kernel
theorem dX5_addUsual_12 : decode cX5_addUsual 12 = .ok (.getfield 9, 3) := by decide +kernel
theorem dX5_addUsual_15 : decode cX5_addUsual 15 = .ok (.iconst 1, 1) := by decide +kernel
theorem dX5_addUsual_16 : decode cX5_addUsual 16 = .ok (.iadd, 1) := by decide +kernel
theorem dX5_addUsual_17 : decode cX5_addUsual 17 = .ok (.putfield 9, 3) := by decide +kernel
theorem dX5_addUsual_20 : decode cX5_addUsual 20 = .ok (.iconst 0, 1) := by decide +kernel
theorem dX5_addUsual_21 : decode cX5_addUsual 21 = .ok (.istore_n 1, 1) := by decide +kernel
theorem dX5_addUsual_22 : decode cX5_addUsual 22 = .ok (.iload_n 1, 1) := by decide +kernel
theorem dX5_addUsual_23 : decode cX5_addUsual 23 = .ok (.getstatic 26, 3) := by decide +kernel
theorem dX5_addUsual_26 : decode cX5_addUsual 26 = .ok (.arraylength, 1) := by decide +kernel
theorem dX5_addUsual_27 : decode cX5_addUsual 27 = .ok (.if_icmp .ge 25, 3) := by decide +kernel
theorem dX5_addUsual_30 : decode cX5_addUsual 30 = .ok (.aload_n 0, 1) := by decide +kernel
theorem dX5_addUsual_31 : decode cX5_addUsual 31 = .ok (.iload_n 1, 1) := by decide +kernel
theorem dX5_addUsual_32 : decode cX5_addUsual 32 = .ok (.aload_n 0, 1) := by decide +kernel
theorem dX5_addUsual_33 : decode cX5_addUsual 33 = .ok (.getfield 9, 3) := by decide +kernel
theorem dX5_addUsual_36 : decode cX5_addUsual 36 = .ok (.iconst 1, 1) := by decide +kernel
theorem dX5_addUsual_37 : decode cX5_addUsual 37 = .ok (.isub, 1) := by decide +kernel
theorem dX5_addUsual_38 : decode cX5_addUsual 38 = .ok (.getstatic 26, 3) := by decide +kernel
theorem dX5_addUsual_41 : decode cX5_addUsual 41 = .ok (.iload_n 1, 1) := by decide +kernel
theorem dX5_addUsual_42 : decode cX5_addUsual 42 = .ok (.iaload, 1) := by decide +kernel
theorem dX5_addUsual_43 : decode cX5_addUsual 43 = .ok (.invokevirtual 29, 3) := by decide +kernel
theorem dX5_addUsual_46 : decode cX5_addUsual 46 = .ok (.iinc 1 1, 3) := by decide +kernel
theorem dX5_addUsual_49 : decode cX5_addUsual 49 = .ok (.goto (-27), 3) := by decide +kernel
theorem dX5_addUsual_52 : decode cX5_addUsual 52 = .ok (.return_, 1) := by decide +kernel
theorem dX5_copyFrom_0 : decode cX5_copyFrom 0 = .ok (.aload_n 0, 1) := by decide +kernel
theorem dX5_copyFrom_1 : decode cX5_copyFrom 1 = .ok (.aload_n 1, 1) := by decide +kernel
theorem dX5_copyFrom_2 : decode cX5_copyFrom 2 = .ok (.getfield 9, 3) := by decide +kernel
theorem dX5_copyFrom_5 : decode cX5_copyFrom 5 = .ok (.putfield 9, 3) := by decide +kernel
theorem dX5_copyFrom_8 : decode cX5_copyFrom 8 = .ok (.aload_n 0, 1) := by decide +kernel
theorem dX5_copyFrom_9 : decode cX5_copyFrom 9 = .ok (.aload_n 1, 1) := by decide +kernel
theorem dX5_copyFrom_10 : decode cX5_copyFrom 10 = .ok (.getfield 15, 3) := by decide +kernel
theorem dX5_copyFrom_13 : decode cX5_copyFrom 13 = .ok (.putfield 15, 3) := by decide +kernel
theorem dX5_copyFrom_16 : decode cX5_copyFrom 16 = .ok (.aload_n 1, 1) := by decide +kernel
theorem dX5_copyFrom_17 : decode cX5_copyFrom 17 = .ok (.getfield 19, 3) := by decide +kernel
theorem dX5_copyFrom_20 : decode cX5_copyFrom 20 = .ok (.iconst 0, 1) := by decide +kernel
theorem dX5_copyFrom_21 : decode cX5_copyFrom 21 = .ok (.aload_n 0, 1) := by decide +kernel
theorem dX5_copyFrom_22 : decode cX5_copyFrom 22 = .ok (.getfield 19, 3) := by decide +kernel
theorem dX5_copyFrom_25 : decode cX5_copyFrom 25 = .ok (.iconst 0, 1) := by decide +kernel
theorem dX5_copyFrom_26 : decode cX5_copyFrom 26 = .ok (.aload_n 0, 1) := by decide +kernel
theorem dX5_copyFrom_27 : decode cX5_copyFrom 27 = .ok (.getfield 19, 3) := by decide +kernel
theorem dX5_copyFrom_30 : decode cX5_copyFrom 30 = .ok (.arraylength, 1) := by decide +kernel
theorem dX5_copyFrom_31 : decode cX5_copyFrom 31 = .ok (.invokestatic 33, 3) := by decide +kernel
theorem dX5_copyFrom_34 : decode cX5_copyFrom 34 = .ok (.return_, 1) := by decide +kernel
theorem dX5_dropStrangers_0 : decode cX5_dropStrangers 0 = .ok (.iconst 0, 1) := by decide +kernel
theorem dX5_dropStrangers_1 : decode cX5_dropStrangers 1 = .ok (.istore_n 1, 1) := by decide +kernel
theorem dX5_dropStrangers_2 : decode cX5_dropStrangers 2 = .ok (.iload_n 1, 1) := by decide +kernel
theorem dX5_dropStrangers_3 : decode cX5_dropStrangers 3 = .ok (.aload_n 0, 1) := by decide +kernel
theorem dX5_dropStrangers_4 : decode cX5_dropStrangers 4 = .ok (.getfield 9, 3) := by decide +kernel
theorem dX5_dropStrangers_7 : decode cX5_dropStrangers 7 = .ok (.if_icmp .ge 30, 3) := by decide +kernel
theorem dX5_dropStrangers_10 : decode cX5_dropStrangers 10 = .ok (.aload_n 0, 1) := by decide +kernel
theorem dX5_dropStrangers_11 : decode cX5_dropStrangers 11 = .ok (.iconst 4, 1) := by decide +kernel
theorem dX5_dropStrangers_12 : decode cX5_dropStrangers 12 = .ok (.iload_n 1, 1) := by decide +kernel
theorem dX5_dropStrangers_13 : decode cX5_dropStrangers 13 = .ok (.invokevirtual 39, 3) := by decide +kernel
theorem dX5_dropStrangers_16 : decode cX5_dropStrangers 16 = .ok (.aload_n 0, 1) := by decide +kernel
theorem dX5_dropStrangers_17 : decode cX5_dropStrangers 17 = .ok (.getfield 9, 3) := by decide +kernel
theorem dX5_dropStrangers_20 : decode cX5_dropStrangers 20 = .ok (.if_icmp .lt 11, 3) := by decide +kernel
theorem dX5_dropStrangers_23 : decode cX5_dropStrangers 23 = .ok (.aload_n 0, 1) := by decide +kernel
theorem dX5_dropStrangers_24 : decode cX5_dropStrangers 24 = .ok (.iconst 4, 1) := by decide +kernel
theorem dX5_dropStrangers_25 : decode cX5_dropStrangers 25 = .ok (.iload_n 1, 1) := by decide +kernel
theorem dX5_dropStrangers_26 : decode cX5_dropStrangers 26 = .ok (.bipush 7, 2) := by decide +kernel
theorem dX5_dropStrangers_28 : decode cX5_dropStrangers 28 = .ok (.invokevirtual 29, 3) := by decide +kernel
theorem dX5_dropStrangers_31 : decode cX5_dropStrangers 31 = .ok (.iinc 1 1, 3) := by decide +kernel
theorem dX5_dropStrangers_34 : decode cX5_dropStrangers 34 = .ok (.goto (-32), 3) := by decide +kernel
theorem dX5_dropStrangers_37 : decode cX5_dropStrangers 37 = .ok (.return_, 1) := by decide +kernel
theorem dX5_has_0 : decode cX5_has 0 = .ok (.iload_n 1, 1) := by decide +kernel
theorem dX5_has_1 : decode cX5_has 1 = .ok (.ifCond .lt 21, 3) := by decide +kernel
theorem dX5_has_4 : decode cX5_has 4 = .ok (.iload_n 1, 1) := by decide +kernel
theorem dX5_has_5 : decode cX5_has 5 = .ok (.aload_n 0, 1) := by decide +kernel
theorem dX5_has_6 : decode cX5_has 6 = .ok (.getfield 9, 3) := by decide +kernel
theorem dX5_has_9 : decode cX5_has 9 = .ok (.if_icmp .ge 13, 3) := by decide +kernel
theorem dX5_has_12 : decode cX5_has 12 = .ok (.iload_n 1, 1) := by decide +kernel
theorem dX5_has_13 : decode cX5_has 13 = .ok (.bipush 7, 2) := by decide +kernel
theorem dX5_has_15 : decode cX5_has 15 = .ok (.if_icmp .ge 7, 3) := by decide +kernel
theorem dX5_has_18 : decode cX5_has 18 = .ok (.iconst 1, 1) := by decide +kernel
theorem dX5_has_19 : decode cX5_has 19 = .ok (.goto 4, 3) := by decide +kernel
theorem dX5_has_22 : decode cX5_has 22 = .ok (.iconst 0, 1) := by decide +kernel
theorem dX5_has_23 : decode cX5_has 23 = .ok (.ireturn, 1) := by decide +kernel
theorem dX5_fact_0 : decode cX5_fact 0 = .ok (.iload_n 2, 1) := by decide +kernel
theorem dX5_fact_1 : decode cX5_fact 1 = .ok (.ifCond .lt 21, 3) := by decide +kernel
theorem dX5_fact_4 : decode cX5_fact 4 = .ok (.iload_n 2, 1) := by decide +kernel
theorem dX5_fact_5 : decode cX5_fact 5 = .ok (.aload_n 0, 1) := by decide +kernel
theorem dX5_fact_6 : decode cX5_fact 6 = .ok (.getfield 9, 3) := by decide +kernel
theorem dX5_fact_9 : decode cX5_fact 9 = .ok (.if_icmp .ge 13, 3) := by decide +kernel
theorem dX5_fact_12 : decode cX5_fact 12 = .ok (.iload_n 2, 1) := by decide +kernel
theorem dX5_fact_13 : decode cX5_fact 13 = .ok (.bipush 7, 2) := by decide +kernel
theorem dX5_fact_15 : decode cX5_fact 15 = .ok (.if_icmp .ge 7, 3) := by decide +kernel
theorem dX5_fact_18 : decode cX5_fact 18 = .ok (.iconst 1, 1) := by decide +kernel
theorem dX5_fact_19 : decode cX5_fact 19 = .ok (.goto 4, 3) := by decide +kernel
theorem dX5_fact_22 : decode cX5_fact 22 = .ok (.iconst 0, 1) := by decide +kernel
theorem dX5_fact_23 : decode cX5_fact 23 = .ok (.istore_n 3, 1) := by decide +kernel
theorem dX5_fact_24 : decode cX5_fact 24 = .ok (.iload_n 3, 1) := by decide +kernel
theorem dX5_fact_25 : decode cX5_fact 25 = .ok (.ifCond .eq 27, 3) := by decide +kernel
theorem dX5_fact_28 : decode cX5_fact 28 = .ok (.iload_n 1, 1) := by decide +kernel
theorem dX5_fact_29 : decode cX5_fact 29 = .ok (.ifCond .lt 23, 3) := by decide +kernel
theorem dX5_fact_32 : decode cX5_fact 32 = .ok (.iload_n 1, 1) := by decide +kernel
theorem dX5_fact_33 : decode cX5_fact 33 = .ok (.bipush 7, 2) := by decide +kernel
theorem dX5_fact_35 : decode cX5_fact 35 = .ok (.if_icmp .ge 17, 3) := by decide +kernel
theorem dX5_fact_38 : decode cX5_fact 38 = .ok (.aload_n 0, 1) := by decide +kernel
theorem dX5_fact_39 : decode cX5_fact 39 = .ok (.getfield 19, 3) := by decide +kernel
theorem dX5_fact_42 : decode cX5_fact 42 = .ok (.iload_n 1, 1) := by decide +kernel
theorem dX5_fact_43 : decode cX5_fact 43 = .ok (.bipush 7, 2) := by decide +kernel
theorem dX5_fact_45 : decode cX5_fact 45 = .ok (.imul, 1) := by decide +kernel
theorem dX5_fact_46 : decode cX5_fact 46 = .ok (.iload_n 2, 1) := by decide +kernel
theorem dX5_fact_47 : decode cX5_fact 47 = .ok (.iadd, 1) := by decide +kernel
theorem dX5_fact_48 : decode cX5_fact 48 = .ok (.iaload, 1) := by decide +kernel
theorem dX5_fact_49 : decode cX5_fact 49 = .ok (.goto 4, 3) := by decide +kernel
theorem dX5_fact_52 : decode cX5_fact 52 = .ok (.iconst (-1), 1) := by decide +kernel
theorem dX5_fact_53 : decode cX5_fact 53 = .ok (.ireturn, 1) := by decide +kernel
theorem dX5_tell_0 : decode cX5_tell 0 = .ok (.aload_n 0, 1) := by decide +kernel
theorem dX5_tell_1 : decode cX5_tell 1 = .ok (.iload_n 2, 1) := by decide +kernel
theorem dX5_tell_2 : decode cX5_tell 2 = .ok (.invokevirtual 43, 3) := by decide +kernel
theorem dX5_tell_5 : decode cX5_tell 5 = .ok (.ifCond .eq 25, 3) := by decide +kernel
theorem dX5_tell_8 : decode cX5_tell 8 = .ok (.iload_n 1, 1) := by decide +kernel
theorem dX5_tell_9 : decode cX5_tell 9 = .ok (.ifCond .lt 21, 3) := by decide +kernel
theorem dX5_tell_12 : decode cX5_tell 12 = .ok (.iload_n 1, 1) := by decide +kernel
theorem dX5_tell_13 : decode cX5_tell 13 = .ok (.bipush 7, 2) := by decide +kernel
theorem dX5_tell_15 : decode cX5_tell 15 = .ok (.if_icmp .ge 15, 3) := by decide +kernel
theorem dX5_tell_18 : decode cX5_tell 18 = .ok (.aload_n 0, 1) := by decide +kernel
theorem dX5_tell_19 : decode cX5_tell 19 = .ok (.getfield 19, 3) := by decide +kernel
theorem dX5_tell_22 : decode cX5_tell 22 = .ok (.iload_n 1, 1) := by decide +kernel
theorem dX5_tell_23 : decode cX5_tell 23 = .ok (.bipush 7, 2) := by decide +kernel
theorem dX5_tell_25 : decode cX5_tell 25 = .ok (.imul, 1) := by decide +kernel
theorem dX5_tell_26 : decode cX5_tell 26 = .ok (.iload_n 2, 1) := by decide +kernel
theorem dX5_tell_27 : decode cX5_tell 27 = .ok (.iadd, 1) := by decide +kernel
theorem dX5_tell_28 : decode cX5_tell 28 = .ok (.iload_n 3, 1) := by decide +kernel
theorem dX5_tell_29 : decode cX5_tell 29 = .ok (.iastore, 1) := by decide +kernel
theorem dX5_tell_30 : decode cX5_tell 30 = .ok (.return_, 1) := by decide +kernel
theorem dX5_lives_0 : decode cX5_lives 0 = .ok (.iload_n 1, 1) := by decide +kernel
theorem dX5_lives_1 : decode cX5_lives 1 = .ok (.ifCond .lt 21, 3) := by decide +kernel
theorem dX5_lives_4 : decode cX5_lives 4 = .ok (.iload_n 1, 1) := by decide +kernel
theorem dX5_lives_5 : decode cX5_lives 5 = .ok (.aload_n 0, 1) := by decide +kernel
theorem dX5_lives_6 : decode cX5_lives 6 = .ok (.getfield 9, 3) := by decide +kernel
theorem dX5_lives_9 : decode cX5_lives 9 = .ok (.if_icmp .ge 13, 3) := by decide +kernel
theorem dX5_lives_12 : decode cX5_lives 12 = .ok (.iload_n 1, 1) := by decide +kernel
theorem dX5_lives_13 : decode cX5_lives 13 = .ok (.bipush 7, 2) := by decide +kernel
theorem dX5_lives_15 : decode cX5_lives 15 = .ok (.if_icmp .ge 7, 3) := by decide +kernel
theorem dX5_lives_18 : decode cX5_lives 18 = .ok (.iconst 1, 1) := by decide +kernel
theorem dX5_lives_19 : decode cX5_lives 19 = .ok (.goto 4, 3) := by decide +kernel
theorem dX5_lives_22 : decode cX5_lives 22 = .ok (.iconst 0, 1) := by decide +kernel
theorem dX5_lives_23 : decode cX5_lives 23 = .ok (.istore_n 2, 1) := by decide +kernel
theorem dX5_lives_24 : decode cX5_lives 24 = .ok (.iload_n 2, 1) := by decide +kernel
theorem dX5_lives_25 : decode cX5_lives 25 = .ok (.ifCond .eq 20, 3) := by decide +kernel
theorem dX5_lives_28 : decode cX5_lives 28 = .ok (.aload_n 0, 1) := by decide +kernel
theorem dX5_lives_29 : decode cX5_lives 29 = .ok (.getfield 19, 3) := by decide +kernel
theorem dX5_lives_32 : decode cX5_lives 32 = .ok (.bipush 21, 2) := by decide +kernel
theorem dX5_lives_34 : decode cX5_lives 34 = .ok (.iload_n 1, 1) := by decide +kernel
theorem dX5_lives_35 : decode cX5_lives 35 = .ok (.iadd, 1) := by decide +kernel
theorem dX5_lives_36 : decode cX5_lives 36 = .ok (.iaload, 1) := by decide +kernel
theorem dX5_lives_37 : decode cX5_lives 37 = .ok (.iconst 1, 1) := by decide +kernel
theorem dX5_lives_38 : decode cX5_lives 38 = .ok (.if_icmp .eq 7, 3) := by decide +kernel
theorem dX5_lives_41 : decode cX5_lives 41 = .ok (.iconst 1, 1) := by decide +kernel
theorem dX5_lives_42 : decode cX5_lives 42 = .ok (.goto 4, 3) := by decide +kernel
theorem dX5_lives_45 : decode cX5_lives 45 = .ok (.iconst 0, 1) := by decide +kernel
theorem dX5_lives_46 : decode cX5_lives 46 = .ok (.ireturn, 1) := by decide +kernel
theorem dX5_living_0 : decode cX5_living 0 = .ok (.iconst 0, 1) := by decide +kernel
theorem dX5_living_1 : decode cX5_living 1 = .ok (.istore_n 1, 1) := by decide +kernel
theorem dX5_living_2 : decode cX5_living 2 = .ok (.iconst 0, 1) := by decide +kernel
theorem dX5_living_3 : decode cX5_living 3 = .ok (.istore_n 2, 1) := by decide +kernel
theorem dX5_living_4 : decode cX5_living 4 = .ok (.iload_n 2, 1) := by decide +kernel
theorem dX5_living_5 : decode cX5_living 5 = .ok (.aload_n 0, 1) := by decide +kernel
theorem dX5_living_6 : decode cX5_living 6 = .ok (.getfield 9, 3) := by decide +kernel
theorem dX5_living_9 : decode cX5_living 9 = .ok (.if_icmp .ge 27, 3) := by decide +kernel
theorem dX5_living_12 : decode cX5_living 12 = .ok (.iload_n 1, 1) := by decide +kernel
theorem dX5_living_13 : decode cX5_living 13 = .ok (.aload_n 0, 1) := by decide +kernel
theorem dX5_living_14 : decode cX5_living 14 = .ok (.iload_n 2, 1) := by decide +kernel
theorem dX5_living_15 : decode cX5_living 15 = .ok (.invokevirtual 47, 3) := by decide +kernel
theorem dX5_living_18 : decode cX5_living 18 = .ok (.ifCond .eq 9, 3) := by decide +kernel
theorem dX5_living_21 : decode cX5_living 21 = .ok (.iconst 1, 1) := by decide +kernel
theorem dX5_living_22 : decode cX5_living 22 = .ok (.iload_n 2, 1) := by decide +kernel
theorem dX5_living_23 : decode cX5_living 23 = .ok (.ishl, 1) := by decide +kernel
theorem dX5_living_24 : decode cX5_living 24 = .ok (.goto 4, 3) := by decide +kernel
theorem dX5_living_27 : decode cX5_living 27 = .ok (.iconst 0, 1) := by decide +kernel
theorem dX5_living_28 : decode cX5_living 28 = .ok (.ior, 1) := by decide +kernel
theorem dX5_living_29 : decode cX5_living 29 = .ok (.istore_n 1, 1) := by decide +kernel
theorem dX5_living_30 : decode cX5_living 30 = .ok (.iinc 2 1, 3) := by decide +kernel
theorem dX5_living_33 : decode cX5_living 33 = .ok (.goto (-29), 3) := by decide +kernel
theorem dX5_living_36 : decode cX5_living 36 = .ok (.iload_n 1, 1) := by decide +kernel
theorem dX5_living_37 : decode cX5_living 37 = .ok (.ireturn, 1) := by decide +kernel
theorem dX5_swallows_0 : decode cX5_swallows 0 = .ok (.aload_n 0, 1) := by decide +kernel
theorem dX5_swallows_1 : decode cX5_swallows 1 = .ok (.iconst 3, 1) := by decide +kernel
theorem dX5_swallows_2 : decode cX5_swallows 2 = .ok (.iload_n 1, 1) := by decide +kernel
theorem dX5_swallows_3 : decode cX5_swallows 3 = .ok (.invokevirtual 39, 3) := by decide +kernel
theorem dX5_swallows_6 : decode cX5_swallows 6 = .ok (.iconst 3, 1) := by decide +kernel
theorem dX5_swallows_7 : decode cX5_swallows 7 = .ok (.if_icmp .eq 13, 3) := by decide +kernel
theorem dX5_swallows_10 : decode cX5_swallows 10 = .ok (.aload_n 0, 1) := by decide +kernel
theorem dX5_swallows_11 : decode cX5_swallows 11 = .ok (.iconst 4, 1) := by decide +kernel
theorem dX5_swallows_12 : decode cX5_swallows 12 = .ok (.iload_n 1, 1) := by decide +kernel
theorem dX5_swallows_13 : decode cX5_swallows 13 = .ok (.invokevirtual 39, 3) := by decide +kernel
theorem dX5_swallows_16 : decode cX5_swallows 16 = .ok (.iload_n 2, 1) := by decide +kernel
theorem dX5_swallows_17 : decode cX5_swallows 17 = .ok (.if_icmp .ne 7, 3) := by decide +kernel
theorem dX5_swallows_20 : decode cX5_swallows 20 = .ok (.iconst 1, 1) := by decide +kernel
theorem dX5_swallows_21 : decode cX5_swallows 21 = .ok (.goto 4, 3) := by decide +kernel
theorem dX5_swallows_24 : decode cX5_swallows 24 = .ok (.iconst 0, 1) := by decide +kernel
theorem dX5_swallows_25 : decode cX5_swallows 25 = .ok (.ireturn, 1) := by decide +kernel
theorem dX5_areEnemies_0 : decode cX5_areEnemies 0 = .ok (.aload_n 0, 1) := by decide +kernel
theorem dX5_areEnemies_1 : decode cX5_areEnemies 1 = .ok (.iconst 4, 1) := by decide +kernel
theorem dX5_areEnemies_2 : decode cX5_areEnemies 2 = .ok (.iload_n 1, 1) := by decide +kernel
theorem dX5_areEnemies_3 : decode cX5_areEnemies 3 = .ok (.invokevirtual 39, 3) := by decide +kernel
theorem dX5_areEnemies_6 : decode cX5_areEnemies 6 = .ok (.iload_n 2, 1) := by decide +kernel
theorem dX5_areEnemies_7 : decode cX5_areEnemies 7 = .ok (.if_icmp .eq 13, 3) := by decide +kernel
theorem dX5_areEnemies_10 : decode cX5_areEnemies 10 = .ok (.aload_n 0, 1) := by decide +kernel
theorem dX5_areEnemies_11 : decode cX5_areEnemies 11 = .ok (.iconst 4, 1) := by decide +kernel
theorem dX5_areEnemies_12 : decode cX5_areEnemies 12 = .ok (.iload_n 2, 1) := by decide +kernel
theorem dX5_areEnemies_13 : decode cX5_areEnemies 13 = .ok (.invokevirtual 39, 3) := by decide +kernel
theorem dX5_areEnemies_16 : decode cX5_areEnemies 16 = .ok (.iload_n 1, 1) := by decide +kernel
theorem dX5_areEnemies_17 : decode cX5_areEnemies 17 = .ok (.if_icmp .ne 7, 3) := by decide +kernel
theorem dX5_areEnemies_20 : decode cX5_areEnemies 20 = .ok (.iconst 1, 1) := by decide +kernel
theorem dX5_areEnemies_21 : decode cX5_areEnemies 21 = .ok (.goto 4, 3) := by decide +kernel
theorem dX5_areEnemies_24 : decode cX5_areEnemies 24 = .ok (.iconst 0, 1) := by decide +kernel
theorem dX5_areEnemies_25 : decode cX5_areEnemies 25 = .ok (.ireturn, 1) := by decide +kernel
theorem dX6_init_0 : decode cX6_init 0 = .ok (.aload_n 0, 1) := by decide +kernel
theorem dX6_init_1 : decode cX6_init 1 = .ok (.invokespecial 3, 3) := by decide +kernel
theorem dX6_init_4 : decode cX6_init 4 = .ok (.aload_n 0, 1) := by decide +kernel
theorem dX6_init_5 : decode cX6_init 5 = .ok (.iconst 0, 1) := by decide +kernel
theorem dX6_init_6 : decode cX6_init 6 = .ok (.putfield 9, 3) := by decide +kernel
theorem dX6_init_9 : decode cX6_init 9 = .ok (.aload_n 0, 1) := by decide +kernel
theorem dX6_init_10 : decode cX6_init 10 = .ok (.bipush 7, 2) := by decide +kernel
theorem dX6_init_12 : decode cX6_init 12 = .ok (.newarray .int, 2) := by decide +kernel
theorem dX6_init_14 : decode cX6_init 14 = .ok (.putfield 15, 3) := by decide +kernel
theorem dX6_init_17 : decode cX6_init 17 = .ok (.aload_n 0, 1) := by decide +kernel
theorem dX6_init_18 : decode cX6_init 18 = .ok (.bipush 7, 2) := by decide +kernel
theorem dX6_init_20 : decode cX6_init 20 = .ok (.newarray .int, 2) := by decide +kernel
theorem dX6_init_22 : decode cX6_init 22 = .ok (.putfield 19, 3) := by decide +kernel
theorem dX6_init_25 : decode cX6_init 25 = .ok (.return_, 1) := by decide +kernel
theorem dX6_startWith_0 : decode cX6_startWith 0 = .ok (.aload_n 0, 1) := by decide +kernel
theorem dX6_startWith_1 : decode cX6_startWith 1 = .ok (.iconst 0, 1) := by decide +kernel
theorem dX6_startWith_2 : decode cX6_startWith 2 = .ok (.iload_n 1, 1) := by decide +kernel
theorem dX6_startWith_3 : decode cX6_startWith 3 = .ok (.bipush 7, 2) := by decide +kernel
theorem dX6_startWith_5 : decode cX6_startWith 5 = .ok (.invokestatic 22, 3) := by decide +kernel
theorem dX6_startWith_8 : decode cX6_startWith 8 = .ok (.invokestatic 28, 3) := by decide +kernel
theorem dX6_startWith_11 : decode cX6_startWith 11 = .ok (.putfield 9, 3) := by decide +kernel
theorem dX6_startWith_14 : decode cX6_startWith 14 = .ok (.iconst 0, 1) := by decide +kernel
theorem dX6_startWith_15 : decode cX6_startWith 15 = .ok (.istore_n 2, 1) := by decide +kernel
theorem dX6_startWith_16 : decode cX6_startWith 16 = .ok (.iload_n 2, 1) := by decide +kernel
theorem dX6_startWith_17 : decode cX6_startWith 17 = .ok (.aload_n 0, 1) := by decide +kernel
theorem dX6_startWith_18 : decode cX6_startWith 18 = .ok (.getfield 9, 3) := by decide +kernel
theorem dX6_startWith_21 : decode cX6_startWith 21 = .ok (.if_icmp .ge 15, 3) := by decide +kernel
theorem dX6_startWith_24 : decode cX6_startWith 24 = .ok (.aload_n 0, 1) := by decide +kernel
theorem dX6_startWith_25 : decode cX6_startWith 25 = .ok (.iload_n 2, 1) := by decide +kernel
theorem dX6_startWith_26 : decode cX6_startWith 26 = .ok (.iload_n 2, 1) := by decide +kernel
theorem dX6_startWith_27 : decode cX6_startWith 27 = .ok (.invokevirtual 31, 3) := by decide +kernel
theorem dX6_startWith_30 : decode cX6_startWith 30 = .ok (.iinc 2 1, 3) := by decide +kernel
theorem dX6_startWith_33 : decode cX6_startWith 33 = .ok (.goto (-17), 3) := by decide +kernel
theorem dX6_startWith_36 : decode cX6_startWith 36 = .ok (.return_, 1) := by decide +kernel
theorem dX6_copyFrom_0 : decode cX6_copyFrom 0 = .ok (.aload_n 0, 1) := by decide +kernel
theorem dX6_copyFrom_1 : decode cX6_copyFrom 1 = .ok (.aload_n 1, 1) := by decide +kernel
theorem dX6_copyFrom_2 : decode cX6_copyFrom 2 = .ok (.getfield 9, 3) := by decide +kernel
theorem dX6_copyFrom_5 : decode cX6_copyFrom 5 = .ok (.putfield 9, 3) := by decide +kernel
theorem dX6_copyFrom_8 : decode cX6_copyFrom 8 = .ok (.aload_n 1, 1) := by decide +kernel
theorem dX6_copyFrom_9 : decode cX6_copyFrom 9 = .ok (.getfield 15, 3) := by decide +kernel
theorem dX6_copyFrom_12 : decode cX6_copyFrom 12 = .ok (.iconst 0, 1) := by decide +kernel
theorem dX6_copyFrom_13 : decode cX6_copyFrom 13 = .ok (.aload_n 0, 1) := by decide +kernel
theorem dX6_copyFrom_14 : decode cX6_copyFrom 14 = .ok (.getfield 15, 3) := by decide +kernel
theorem dX6_copyFrom_17 : decode cX6_copyFrom 17 = .ok (.iconst 0, 1) := by decide +kernel
theorem dX6_copyFrom_18 : decode cX6_copyFrom 18 = .ok (.aload_n 0, 1) := by decide +kernel
theorem dX6_copyFrom_19 : decode cX6_copyFrom 19 = .ok (.getfield 15, 3) := by decide +kernel
theorem dX6_copyFrom_22 : decode cX6_copyFrom 22 = .ok (.arraylength, 1) := by decide +kernel
theorem dX6_copyFrom_23 : decode cX6_copyFrom 23 = .ok (.invokestatic 35, 3) := by decide +kernel
theorem dX6_copyFrom_26 : decode cX6_copyFrom 26 = .ok (.aload_n 1, 1) := by decide +kernel
theorem dX6_copyFrom_27 : decode cX6_copyFrom 27 = .ok (.getfield 19, 3) := by decide +kernel
theorem dX6_copyFrom_30 : decode cX6_copyFrom 30 = .ok (.iconst 0, 1) := by decide +kernel
theorem dX6_copyFrom_31 : decode cX6_copyFrom 31 = .ok (.aload_n 0, 1) := by decide +kernel
theorem dX6_copyFrom_32 : decode cX6_copyFrom 32 = .ok (.getfield 19, 3) := by decide +kernel
theorem dX6_copyFrom_35 : decode cX6_copyFrom 35 = .ok (.iconst 0, 1) := by decide +kernel
theorem dX6_copyFrom_36 : decode cX6_copyFrom 36 = .ok (.aload_n 0, 1) := by decide +kernel
theorem dX6_copyFrom_37 : decode cX6_copyFrom 37 = .ok (.getfield 19, 3) := by decide +kernel
theorem dX6_copyFrom_40 : decode cX6_copyFrom 40 = .ok (.arraylength, 1) := by decide +kernel
theorem dX6_copyFrom_41 : decode cX6_copyFrom 41 = .ok (.invokestatic 35, 3) := by decide +kernel
theorem dX6_copyFrom_44 : decode cX6_copyFrom 44 = .ok (.return_, 1) := by decide +kernel
theorem dX6_has_0 : decode cX6_has 0 = .ok (.iload_n 1, 1) := by decide +kernel
theorem dX6_has_1 : decode cX6_has 1 = .ok (.ifCond .lt 21, 3) := by decide +kernel
theorem dX6_has_4 : decode cX6_has 4 = .ok (.iload_n 1, 1) := by decide +kernel
theorem dX6_has_5 : decode cX6_has 5 = .ok (.aload_n 0, 1) := by decide +kernel
theorem dX6_has_6 : decode cX6_has 6 = .ok (.getfield 9, 3) := by decide +kernel
theorem dX6_has_9 : decode cX6_has 9 = .ok (.if_icmp .ge 13, 3) := by decide +kernel
theorem dX6_has_12 : decode cX6_has 12 = .ok (.iload_n 1, 1) := by decide +kernel
theorem dX6_has_13 : decode cX6_has 13 = .ok (.bipush 7, 2) := by decide +kernel
theorem dX6_has_15 : decode cX6_has 15 = .ok (.if_icmp .ge 7, 3) := by decide +kernel
theorem dX6_has_18 : decode cX6_has 18 = .ok (.iconst 1, 1) := by decide +kernel
theorem dX6_has_19 : decode cX6_has 19 = .ok (.goto 4, 3) := by decide +kernel
theorem dX6_has_22 : decode cX6_has 22 = .ok (.iconst 0, 1) := by decide +kernel
theorem dX6_has_23 : decode cX6_has 23 = .ok (.ireturn, 1) := by decide +kernel
theorem dX6_memberOn_0 : decode cX6_memberOn 0 = .ok (.iload_n 1, 1) := by decide +kernel
theorem dX6_memberOn_1 : decode cX6_memberOn 1 = .ok (.ifCond .lt 26, 3) := by decide +kernel
theorem dX6_memberOn_4 : decode cX6_memberOn 4 = .ok (.iload_n 1, 1) := by decide +kernel
theorem dX6_memberOn_5 : decode cX6_memberOn 5 = .ok (.aload_n 0, 1) := by decide +kernel
theorem dX6_memberOn_6 : decode cX6_memberOn 6 = .ok (.getfield 9, 3) := by decide +kernel
theorem dX6_memberOn_9 : decode cX6_memberOn 9 = .ok (.if_icmp .ge 18, 3) := by decide +kernel
theorem dX6_memberOn_12 : decode cX6_memberOn 12 = .ok (.iload_n 1, 1) := by decide +kernel
theorem dX6_memberOn_13 : decode cX6_memberOn 13 = .ok (.bipush 7, 2) := by decide +kernel
theorem dX6_memberOn_15 : decode cX6_memberOn 15 = .ok (.if_icmp .ge 12, 3) := by decide +kernel
theorem dX6_memberOn_18 : decode cX6_memberOn 18 = .ok (.aload_n 0, 1) := by decide +kernel
theorem dX6_memberOn_19 : decode cX6_memberOn 19 = .ok (.getfield 15, 3) := by decide +kernel
theorem dX6_memberOn_22 : decode cX6_memberOn 22 = .ok (.iload_n 1, 1) := by decide +kernel
theorem dX6_memberOn_23 : decode cX6_memberOn 23 = .ok (.iaload, 1) := by decide +kernel
theorem dX6_memberOn_24 : decode cX6_memberOn 24 = .ok (.goto 4, 3) := by decide +kernel
theorem dX6_memberOn_27 : decode cX6_memberOn 27 = .ok (.iconst (-1), 1) := by decide +kernel
theorem dX6_memberOn_28 : decode cX6_memberOn 28 = .ok (.ireturn, 1) := by decide +kernel
theorem dX6_seatOf_0 : decode cX6_seatOf 0 = .ok (.iload_n 1, 1) := by decide +kernel
theorem dX6_seatOf_1 : decode cX6_seatOf 1 = .ok (.ifCond .lt 26, 3) := by decide +kernel
theorem dX6_seatOf_4 : decode cX6_seatOf 4 = .ok (.iload_n 1, 1) := by decide +kernel
theorem dX6_seatOf_5 : decode cX6_seatOf 5 = .ok (.aload_n 0, 1) := by decide +kernel
theorem dX6_seatOf_6 : decode cX6_seatOf 6 = .ok (.getfield 9, 3) := by decide +kernel
theorem dX6_seatOf_9 : decode cX6_seatOf 9 = .ok (.if_icmp .ge 18, 3) := by decide +kernel
theorem dX6_seatOf_12 : decode cX6_seatOf 12 = .ok (.iload_n 1, 1) := by decide +kernel
theorem dX6_seatOf_13 : decode cX6_seatOf 13 = .ok (.bipush 7, 2) := by decide +kernel
theorem dX6_seatOf_15 : decode cX6_seatOf 15 = .ok (.if_icmp .ge 12, 3) := by decide +kernel
theorem dX6_seatOf_18 : decode cX6_seatOf 18 = .ok (.aload_n 0, 1) := by decide +kernel
theorem dX6_seatOf_19 : decode cX6_seatOf 19 = .ok (.getfield 19, 3) := by decide +kernel
theorem dX6_seatOf_22 : decode cX6_seatOf 22 = .ok (.iload_n 1, 1) := by decide +kernel
theorem dX6_seatOf_23 : decode cX6_seatOf 23 = .ok (.iaload, 1) := by decide +kernel
theorem dX6_seatOf_24 : decode cX6_seatOf 24 = .ok (.goto 4, 3) := by decide +kernel
theorem dX6_seatOf_27 : decode cX6_seatOf 27 = .ok (.iconst (-1), 1) := by decide +kernel
theorem dX6_seatOf_28 : decode cX6_seatOf 28 = .ok (.ireturn, 1) := by decide +kernel
theorem dX6_put_0 : decode cX6_put 0 = .ok (.aload_n 0, 1) := by decide +kernel
theorem dX6_put_1 : decode cX6_put 1 = .ok (.iload_n 1, 1) := by decide +kernel
theorem dX6_put_2 : decode cX6_put 2 = .ok (.invokevirtual 41, 3) := by decide +kernel
theorem dX6_put_5 : decode cX6_put 5 = .ok (.ifCond .eq 25, 3) := by decide +kernel
theorem dX6_put_8 : decode cX6_put 8 = .ok (.aload_n 0, 1) := by decide +kernel
theorem dX6_put_9 : decode cX6_put 9 = .ok (.iload_n 2, 1) := by decide +kernel
theorem dX6_put_10 : decode cX6_put 10 = .ok (.invokevirtual 41, 3) := by decide +kernel
theorem dX6_put_13 : decode cX6_put 13 = .ok (.ifCond .eq 17, 3) := by decide +kernel
theorem dX6_put_16 : decode cX6_put 16 = .ok (.aload_n 0, 1) := by decide +kernel
theorem dX6_put_17 : decode cX6_put 17 = .ok (.getfield 15, 3) := by decide +kernel
theorem dX6_put_20 : decode cX6_put 20 = .ok (.iload_n 2, 1) := by decide +kernel
theorem dX6_put_21 : decode cX6_put 21 = .ok (.iload_n 1, 1) := by decide +kernel
theorem dX6_put_22 : decode cX6_put 22 = .ok (.iastore, 1) := by decide +kernel
theorem dX6_put_23 : decode cX6_put 23 = .ok (.aload_n 0, 1) := by decide +kernel
theorem dX6_put_24 : decode cX6_put 24 = .ok (.getfield 19, 3) := by decide +kernel
theorem dX6_put_27 : decode cX6_put 27 = .ok (.iload_n 1, 1) := by decide +kernel
theorem dX6_put_28 : decode cX6_put 28 = .ok (.iload_n 2, 1) := by decide +kernel
theorem dX6_put_29 : decode cX6_put 29 = .ok (.iastore, 1) := by decide +kernel
theorem dX6_put_30 : decode cX6_put 30 = .ok (.return_, 1) := by decide +kernel
theorem dX6_exchange_0 : decode cX6_exchange 0 = .ok (.aload_n 0, 1) := by decide +kernel
theorem dX6_exchange_1 : decode cX6_exchange 1 = .ok (.iload_n 1, 1) := by decide +kernel
theorem dX6_exchange_2 : decode cX6_exchange 2 = .ok (.invokevirtual 45, 3) := by decide +kernel
theorem dX6_exchange_5 : decode cX6_exchange 5 = .ok (.istore_n 3, 1) := by decide +kernel
theorem dX6_exchange_6 : decode cX6_exchange 6 = .ok (.aload_n 0, 1) := by decide +kernel
theorem dX6_exchange_7 : decode cX6_exchange 7 = .ok (.iload_n 2, 1) := by decide +kernel
theorem dX6_exchange_8 : decode cX6_exchange 8 = .ok (.invokevirtual 45, 3) := by decide +kernel
theorem dX6_exchange_11 : decode cX6_exchange 11 = .ok (.istore 4, 2) := by decide +kernel
theorem dX6_exchange_13 : decode cX6_exchange 13 = .ok (.aload_n 0, 1) := by decide +kernel
theorem dX6_exchange_14 : decode cX6_exchange 14 = .ok (.iload_n 3, 1) := by decide +kernel
theorem dX6_exchange_15 : decode cX6_exchange 15 = .ok (.iload_n 2, 1) := by decide +kernel
theorem dX6_exchange_16 : decode cX6_exchange 16 = .ok (.invokevirtual 31, 3) := by decide +kernel
theorem dX6_exchange_19 : decode cX6_exchange 19 = .ok (.aload_n 0, 1) := by decide +kernel
theorem dX6_exchange_20 : decode cX6_exchange 20 = .ok (.iload 4, 2) := by decide +kernel
theorem dX6_exchange_22 : decode cX6_exchange 22 = .ok (.iload_n 1, 1) := by decide +kernel
theorem dX6_exchange_23 : decode cX6_exchange 23 = .ok (.invokevirtual 31, 3) := by decide +kernel
theorem dX6_exchange_26 : decode cX6_exchange 26 = .ok (.return_, 1) := by decide +kernel
theorem dX6_leftOf_0 : decode cX6_leftOf 0 = .ok (.iload_n 1, 1) := by decide +kernel
theorem dX6_leftOf_1 : decode cX6_leftOf 1 = .ok (.ifCond .gt 7, 3) := by decide +kernel
theorem dX6_leftOf_4 : decode cX6_leftOf 4 = .ok (.iload_n 2, 1) := by decide +kernel
theorem dX6_leftOf_5 : decode cX6_leftOf 5 = .ok (.ifCond .ne 9, 3) := by decide +kernel
theorem dX6_leftOf_8 : decode cX6_leftOf 8 = .ok (.iload_n 1, 1) := by decide +kernel
theorem dX6_leftOf_9 : decode cX6_leftOf 9 = .ok (.iconst 1, 1) := by decide +kernel
theorem dX6_leftOf_10 : decode cX6_leftOf 10 = .ok (.isub, 1) := by decide +kernel
theorem dX6_leftOf_11 : decode cX6_leftOf 11 = .ok (.goto 9, 3) := by decide +kernel
theorem dX6_leftOf_14 : decode cX6_leftOf 14 = .ok (.aload_n 0, 1) := by decide +kernel
theorem dX6_leftOf_15 : decode cX6_leftOf 15 = .ok (.getfield 9, 3) := by decide +kernel
theorem dX6_leftOf_18 : decode cX6_leftOf 18 = .ok (.iconst 1, 1) := by decide +kernel
theorem dX6_leftOf_19 : decode cX6_leftOf 19 = .ok (.isub, 1) := by decide +kernel
theorem dX6_leftOf_20 : decode cX6_leftOf 20 = .ok (.ireturn, 1) := by decide +kernel
theorem dX6_rightOf_0 : decode cX6_rightOf 0 = .ok (.iload_n 1, 1) := by decide +kernel
theorem dX6_rightOf_1 : decode cX6_rightOf 1 = .ok (.aload_n 0, 1) := by decide +kernel
theorem dX6_rightOf_2 : decode cX6_rightOf 2 = .ok (.getfield 9, 3) := by decide +kernel
theorem dX6_rightOf_5 : decode cX6_rightOf 5 = .ok (.iconst 1, 1) := by decide +kernel
theorem dX6_rightOf_6 : decode cX6_rightOf 6 = .ok (.isub, 1) := by decide +kernel
theorem dX6_rightOf_7 : decode cX6_rightOf 7 = .ok (.if_icmp .ge 7, 3) := by decide +kernel
theorem dX6_rightOf_10 : decode cX6_rightOf 10 = .ok (.iload_n 1, 1) := by decide +kernel
theorem dX6_rightOf_11 : decode cX6_rightOf 11 = .ok (.iconst 1, 1) := by decide +kernel
theorem dX6_rightOf_12 : decode cX6_rightOf 12 = .ok (.iadd, 1) := by decide +kernel
theorem dX6_rightOf_13 : decode cX6_rightOf 13 = .ok (.ireturn, 1) := by decide +kernel
theorem dX6_rightOf_14 : decode cX6_rightOf 14 = .ok (.iload_n 2, 1) := by decide +kernel
theorem dX6_rightOf_15 : decode cX6_rightOf 15 = .ok (.ifCond .eq 7, 3) := by decide +kernel
theorem dX6_rightOf_18 : decode cX6_rightOf 18 = .ok (.iconst 0, 1) := by decide +kernel
theorem dX6_rightOf_19 : decode cX6_rightOf 19 = .ok (.goto 4, 3) := by decide +kernel
theorem dX6_rightOf_22 : decode cX6_rightOf 22 = .ok (.iconst (-1), 1) := by decide +kernel
theorem dX6_rightOf_23 : decode cX6_rightOf 23 = .ok (.ireturn, 1) := by decide +kernel
theorem dX6_digits_0 : decode cX6_digits 0 = .ok (.iconst 0, 1) := by decide +kernel
theorem dX6_digits_1 : decode cX6_digits 1 = .ok (.istore_n 1, 1) := by decide +kernel
theorem dX6_digits_2 : decode cX6_digits 2 = .ok (.iconst 0, 1) := by decide +kernel
theorem dX6_digits_3 : decode cX6_digits 3 = .ok (.istore_n 2, 1) := by decide +kernel
theorem dX6_digits_4 : decode cX6_digits 4 = .ok (.iload_n 2, 1) := by decide +kernel
theorem dX6_digits_5 : decode cX6_digits 5 = .ok (.aload_n 0, 1) := by decide +kernel
theorem dX6_digits_6 : decode cX6_digits 6 = .ok (.getfield 9, 3) := by decide +kernel
theorem dX6_digits_9 : decode cX6_digits 9 = .ok (.if_icmp .ge 27, 3) := by decide +kernel
theorem dX6_digits_12 : decode cX6_digits 12 = .ok (.iload_n 2, 1) := by decide +kernel
theorem dX6_digits_13 : decode cX6_digits 13 = .ok (.bipush 7, 2) := by decide +kernel
theorem dX6_digits_15 : decode cX6_digits 15 = .ok (.if_icmp .ge 21, 3) := by decide +kernel
theorem dX6_digits_18 : decode cX6_digits 18 = .ok (.iload_n 1, 1) := by decide +kernel
theorem dX6_digits_19 : decode cX6_digits 19 = .ok (.bipush 10, 2) := by decide +kernel
theorem dX6_digits_21 : decode cX6_digits 21 = .ok (.imul, 1) := by decide +kernel
theorem dX6_digits_22 : decode cX6_digits 22 = .ok (.aload_n 0, 1) := by decide +kernel
theorem dX6_digits_23 : decode cX6_digits 23 = .ok (.getfield 15, 3) := by decide +kernel
theorem dX6_digits_26 : decode cX6_digits 26 = .ok (.iload_n 2, 1) := by decide +kernel
theorem dX6_digits_27 : decode cX6_digits 27 = .ok (.iaload, 1) := by decide +kernel
theorem dX6_digits_28 : decode cX6_digits 28 = .ok (.iadd, 1) := by decide +kernel
theorem dX6_digits_29 : decode cX6_digits 29 = .ok (.istore_n 1, 1) := by decide +kernel
theorem dX6_digits_30 : decode cX6_digits 30 = .ok (.iinc 2 1, 3) := by decide +kernel
theorem dX6_digits_33 : decode cX6_digits 33 = .ok (.goto (-29), 3) := by decide +kernel
theorem dX6_digits_36 : decode cX6_digits 36 = .ok (.iload_n 1, 1) := by decide +kernel
theorem dX6_digits_37 : decode cX6_digits 37 = .ok (.ireturn, 1) := by decide +kernel
theorem dX6_isSeating_0 : decode cX6_isSeating 0 = .ok (.aload_n 0, 1) := by decide +kernel
theorem dX6_isSeating_1 : decode cX6_isSeating 1 = .ok (.getfield 9, 3) := by decide +kernel
theorem dX6_isSeating_4 : decode cX6_isSeating 4 = .ok (.ifCond .eq 7, 3) := by decide +kernel
theorem dX6_isSeating_7 : decode cX6_isSeating 7 = .ok (.iload_n 1, 1) := by decide +kernel
theorem dX6_isSeating_8 : decode cX6_isSeating 8 = .ok (.ifCond .ge 5, 3) := by decide +kernel
theorem dX6_isSeating_11 : decode cX6_isSeating 11 = .ok (.iconst 0, 1) := by decide +kernel
theorem dX6_isSeating_12 : decode cX6_isSeating 12 = .ok (.ireturn, 1) := by decide +kernel
theorem dX6_isSeating_13 : decode cX6_isSeating 13 = .ok (.iload_n 1, 1) := by decide +kernel
theorem dX6_isSeating_14 : decode cX6_isSeating 14 = .ok (.istore_n 2, 1) := by decide +kernel
theorem dX6_isSeating_15 : decode cX6_isSeating 15 = .ok (.iconst 0, 1) := by decide +kernel
theorem dX6_isSeating_16 : decode cX6_isSeating 16 = .ok (.istore_n 3, 1) := by decide +kernel
theorem dX6_isSeating_17 : decode cX6_isSeating 17 = .ok (.iconst 0, 1) := by decide +kernel
theorem dX6_isSeating_18 : decode cX6_isSeating 18 = .ok (.istore 4, 2) := by decide +kernel
theorem dX6_isSeating_20 : decode cX6_isSeating 20 = .ok (.iload 4, 2) := by decide +kernel
theorem dX6_isSeating_22 : decode cX6_isSeating 22 = .ok (.aload_n 0, 1) := by decide +kernel
theorem dX6_isSeating_23 : decode cX6_isSeating 23 = .ok (.getfield 9, 3) := by decide +kernel
theorem dX6_isSeating_26 : decode cX6_isSeating 26 = .ok (.if_icmp .ge 23, 3) := by decide +kernel
theorem dX6_isSeating_29 : decode cX6_isSeating 29 = .ok (.iload_n 3, 1) := by decide +kernel
theorem dX6_isSeating_30 : decode cX6_isSeating 30 = .ok (.iconst 1, 1) := by decide +kernel
theorem dX6_isSeating_31 : decode cX6_isSeating 31 = .ok (.iload_n 2, 1) := by decide +kernel
theorem dX6_isSeating_32 : decode cX6_isSeating 32 = .ok (.bipush 10, 2) := by decide +kernel
theorem dX6_isSeating_34 : decode cX6_isSeating 34 = .ok (.irem, 1) := by decide +kernel
theorem dX6_isSeating_35 : decode cX6_isSeating 35 = .ok (.ishl, 1) := by decide +kernel
theorem dX6_isSeating_36 : decode cX6_isSeating 36 = .ok (.ior, 1) := by decide +kernel
theorem dX6_isSeating_37 : decode cX6_isSeating 37 = .ok (.istore_n 3, 1) := by decide +kernel
theorem dX6_isSeating_38 : decode cX6_isSeating 38 = .ok (.iload_n 2, 1) := by decide +kernel
theorem dX6_isSeating_39 : decode cX6_isSeating 39 = .ok (.bipush 10, 2) := by decide +kernel
theorem dX6_isSeating_41 : decode cX6_isSeating 41 = .ok (.idiv, 1) := by decide +kernel
theorem dX6_isSeating_42 : decode cX6_isSeating 42 = .ok (.istore_n 2, 1) := by decide +kernel
theorem dX6_isSeating_43 : decode cX6_isSeating 43 = .ok (.iinc 4 1, 3) := by decide +kernel
theorem dX6_isSeating_46 : decode cX6_isSeating 46 = .ok (.goto (-26), 3) := by decide +kernel
theorem dX6_isSeating_49 : decode cX6_isSeating 49 = .ok (.iload_n 2, 1) := by decide +kernel
theorem dX6_isSeating_50 : decode cX6_isSeating 50 = .ok (.ifCond .ne 19, 3) := by decide +kernel
theorem dX6_isSeating_53 : decode cX6_isSeating 53 = .ok (.iload_n 3, 1) := by decide +kernel
theorem dX6_isSeating_54 : decode cX6_isSeating 54 = .ok (.iconst 1, 1) := by decide +kernel
theorem dX6_isSeating_55 : decode cX6_isSeating 55 = .ok (.aload_n 0, 1) := by decide +kernel
theorem dX6_isSeating_56 : decode cX6_isSeating 56 = .ok (.getfield 9, 3) := by decide +kernel
theorem dX6_isSeating_59 : decode cX6_isSeating 59 = .ok (.ishl, 1) := by decide +kernel
theorem dX6_isSeating_60 : decode cX6_isSeating 60 = .ok (.iconst 1, 1) := by decide +kernel
theorem dX6_isSeating_61 : decode cX6_isSeating 61 = .ok (.isub, 1) := by decide +kernel
theorem dX6_isSeating_62 : decode cX6_isSeating 62 = .ok (.if_icmp .ne 7, 3) := by decide +kernel
theorem dX6_isSeating_65 : decode cX6_isSeating 65 = .ok (.iconst 1, 1) := by decide +kernel
theorem dX6_isSeating_66 : decode cX6_isSeating 66 = .ok (.goto 4, 3) := by decide +kernel
theorem dX6_isSeating_69 : decode cX6_isSeating 69 = .ok (.iconst 0, 1) := by decide +kernel
theorem dX6_isSeating_70 : decode cX6_isSeating 70 = .ok (.ireturn, 1) := by decide +kernel
theorem dX6_take_0 : decode cX6_take 0 = .ok (.iload_n 1, 1) := by decide +kernel
theorem dX6_take_1 : decode cX6_take 1 = .ok (.istore_n 2, 1) := by decide +kernel
theorem dX6_take_2 : decode cX6_take 2 = .ok (.aload_n 0, 1) := by decide +kernel
theorem dX6_take_3 : decode cX6_take 3 = .ok (.getfield 9, 3) := by decide +kernel
theorem dX6_take_6 : decode cX6_take 6 = .ok (.iconst 1, 1) := by decide +kernel
theorem dX6_take_7 : decode cX6_take 7 = .ok (.isub, 1) := by decide +kernel
theorem dX6_take_8 : decode cX6_take 8 = .ok (.istore_n 3, 1) := by decide +kernel
theorem dX6_take_9 : decode cX6_take 9 = .ok (.iload_n 3, 1) := by decide +kernel
theorem dX6_take_10 : decode cX6_take 10 = .ok (.ifCond .lt 23, 3) := by decide +kernel
theorem dX6_take_13 : decode cX6_take 13 = .ok (.aload_n 0, 1) := by decide +kernel
theorem dX6_take_14 : decode cX6_take 14 = .ok (.iload_n 2, 1) := by decide +kernel
theorem dX6_take_15 : decode cX6_take 15 = .ok (.bipush 10, 2) := by decide +kernel
theorem dX6_take_17 : decode cX6_take 17 = .ok (.irem, 1) := by decide +kernel
theorem dX6_take_18 : decode cX6_take 18 = .ok (.iload_n 3, 1) := by decide +kernel
theorem dX6_take_19 : decode cX6_take 19 = .ok (.invokevirtual 31, 3) := by decide +kernel
theorem dX6_take_22 : decode cX6_take 22 = .ok (.iload_n 2, 1) := by decide +kernel
theorem dX6_take_23 : decode cX6_take 23 = .ok (.bipush 10, 2) := by decide +kernel
theorem dX6_take_25 : decode cX6_take 25 = .ok (.idiv, 1) := by decide +kernel
theorem dX6_take_26 : decode cX6_take 26 = .ok (.istore_n 2, 1) := by decide +kernel
theorem dX6_take_27 : decode cX6_take 27 = .ok (.iinc 3 (-1), 3) := by decide +kernel
theorem dX6_take_30 : decode cX6_take 30 = .ok (.goto (-21), 3) := by decide +kernel
theorem dX6_take_33 : decode cX6_take 33 = .ok (.return_, 1) := by decide +kernel
theorem dX7_init_0 : decode cX7_init 0 = .ok (.aload_n 0, 1) := by decide +kernel
theorem dX7_init_1 : decode cX7_init 1 = .ok (.invokespecial 3, 3) := by decide +kernel
theorem dX7_init_4 : decode cX7_init 4 = .ok (.aload_n 0, 1) := by decide +kernel
theorem dX7_init_5 : decode cX7_init 5 = .ok (.iconst 0, 1) := by decide +kernel
theorem dX7_init_6 : decode cX7_init 6 = .ok (.putfield 9, 3) := by decide +kernel
theorem dX7_init_9 : decode cX7_init 9 = .ok (.aload_n 0, 1) := by decide +kernel
theorem dX7_init_10 : decode cX7_init 10 = .ok (.lconst 0, 1) := by decide +kernel
theorem dX7_init_11 : decode cX7_init 11 = .ok (.putfield 15, 3) := by decide +kernel
theorem dX7_init_14 : decode cX7_init 14 = .ok (.aload_n 0, 1) := by decide +kernel
theorem dX7_init_15 : decode cX7_init 15 = .ok (.bipush 40, 2) := by decide +kernel
theorem dX7_init_17 : decode cX7_init 17 = .ok (.newarray .int, 2) := by decide +kernel
theorem dX7_init_19 : decode cX7_init 19 = .ok (.putfield 19, 3) := by decide +kernel
theorem dX7_init_22 : decode cX7_init 22 = .ok (.aload_n 0, 1) := by decide +kernel
theorem dX7_init_23 : decode cX7_init 23 = .ok (.bipush 40, 2) := by decide +kernel
theorem dX7_init_25 : decode cX7_init 25 = .ok (.newarray .int, 2) := by decide +kernel
theorem dX7_init_27 : decode cX7_init 27 = .ok (.putfield 23, 3) := by decide +kernel
theorem dX7_init_30 : decode cX7_init 30 = .ok (.aload_n 0, 1) := by decide +kernel
theorem dX7_init_31 : decode cX7_init 31 = .ok (.bipush 40, 2) := by decide +kernel
theorem dX7_init_33 : decode cX7_init 33 = .ok (.newarray .long, 2) := by decide +kernel
theorem dX7_init_35 : decode cX7_init 35 = .ok (.putfield 26, 3) := by decide +kernel
theorem dX7_init_38 : decode cX7_init 38 = .ok (.return_, 1) := by decide +kernel
theorem dX7_isFull_0 : decode cX7_isFull 0 = .ok (.aload_n 0, 1) := by decide +kernel
theorem dX7_isFull_1 : decode cX7_isFull 1 = .ok (.getfield 9, 3) := by decide +kernel
theorem dX7_isFull_4 : decode cX7_isFull 4 = .ok (.bipush 40, 2) := by decide +kernel
theorem dX7_isFull_6 : decode cX7_isFull 6 = .ok (.if_icmp .lt 7, 3) := by decide +kernel
theorem dX7_isFull_9 : decode cX7_isFull 9 = .ok (.iconst 1, 1) := by decide +kernel
theorem dX7_isFull_10 : decode cX7_isFull 10 = .ok (.goto 4, 3) := by decide +kernel
theorem dX7_isFull_13 : decode cX7_isFull 13 = .ok (.iconst 0, 1) := by decide +kernel
theorem dX7_isFull_14 : decode cX7_isFull 14 = .ok (.ireturn, 1) := by decide +kernel
theorem dX7_draw_0 : decode cX7_draw 0 = .ok (.aload_n 0, 1) := by decide +kernel
theorem dX7_draw_1 : decode cX7_draw 1 = .ok (.aload_n 0, 1) := by decide +kernel
theorem dX7_draw_2 : decode cX7_draw 2 = .ok (.getfield 15, 3) := by decide +kernel
theorem dX7_draw_5 : decode cX7_draw 5 = .ok (.ldc2_w 30, 3) := by decide +kernel
theorem dX7_draw_8 : decode cX7_draw 8 = .ok (.lmul, 1) := by decide +kernel
theorem dX7_draw_9 : decode cX7_draw 9 = .ok (.ldc2_w 32, 3) := by decide +kernel
theorem dX7_draw_12 : decode cX7_draw 12 = .ok (.ladd, 1) := by decide +kernel
theorem dX7_draw_13 : decode cX7_draw 13 = .ok (.putfield 15, 3) := by decide +kernel
theorem dX7_draw_16 : decode cX7_draw 16 = .ok (.iload_n 1, 1) := by decide +kernel
theorem dX7_draw_17 : decode cX7_draw 17 = .ok (.ifCond .gt 7, 3) := by decide +kernel
theorem dX7_draw_20 : decode cX7_draw 20 = .ok (.iconst 0, 1) := by decide +kernel
theorem dX7_draw_21 : decode cX7_draw 21 = .ok (.goto 14, 3) := by decide +kernel
theorem dX7_draw_24 : decode cX7_draw 24 = .ok (.aload_n 0, 1) := by decide +kernel
theorem dX7_draw_25 : decode cX7_draw 25 = .ok (.getfield 15, 3) := by decide +kernel
theorem dX7_draw_28 : decode cX7_draw 28 = .ok (.bipush 33, 2) := by decide +kernel
theorem dX7_draw_30 : decode cX7_draw 30 = .ok (.lushr, 1) := by decide +kernel
theorem dX7_draw_31 : decode cX7_draw 31 = .ok (.iload_n 1, 1) := by decide +kernel
theorem dX7_draw_32 : decode cX7_draw 32 = .ok (.i2l, 1) := by decide +kernel
theorem dX7_draw_33 : decode cX7_draw 33 = .ok (.lrem, 1) := by decide +kernel
theorem dX7_draw_34 : decode cX7_draw 34 = .ok (.l2i, 1) := by decide +kernel
theorem dX7_draw_35 : decode cX7_draw 35 = .ok (.ireturn, 1) := by decide +kernel
theorem dX7_putBy_0 : decode cX7_putBy 0 = .ok (.aload_n 0, 1) := by decide +kernel
theorem dX7_putBy_1 : decode cX7_putBy 1 = .ok (.getfield 9, 3) := by decide +kernel
theorem dX7_putBy_4 : decode cX7_putBy 4 = .ok (.ifCond .lt 10, 3) := by decide +kernel
theorem dX7_putBy_7 : decode cX7_putBy 7 = .ok (.aload_n 0, 1) := by decide +kernel
theorem dX7_putBy_8 : decode cX7_putBy 8 = .ok (.invokevirtual 34, 3) := by decide +kernel
theorem dX7_putBy_11 : decode cX7_putBy 11 = .ok (.ifCond .eq 4, 3) := by decide +kernel
theorem dX7_putBy_14 : decode cX7_putBy 14 = .ok (.return_, 1) := by decide +kernel
theorem dX7_putBy_15 : decode cX7_putBy 15 = .ok (.aload_n 0, 1) := by decide +kernel
theorem dX7_putBy_16 : decode cX7_putBy 16 = .ok (.getfield 19, 3) := by decide +kernel
theorem dX7_putBy_19 : decode cX7_putBy 19 = .ok (.aload_n 0, 1) := by decide +kernel
theorem dX7_putBy_20 : decode cX7_putBy 20 = .ok (.getfield 9, 3) := by decide +kernel
theorem dX7_putBy_23 : decode cX7_putBy 23 = .ok (.iload_n 1, 1) := by decide +kernel
theorem dX7_putBy_24 : decode cX7_putBy 24 = .ok (.iastore, 1) := by decide +kernel
theorem dX7_putBy_25 : decode cX7_putBy 25 = .ok (.aload_n 0, 1) := by decide +kernel
theorem dX7_putBy_26 : decode cX7_putBy 26 = .ok (.getfield 23, 3) := by decide +kernel
theorem dX7_putBy_29 : decode cX7_putBy 29 = .ok (.aload_n 0, 1) := by decide +kernel
theorem dX7_putBy_30 : decode cX7_putBy 30 = .ok (.getfield 9, 3) := by decide +kernel
theorem dX7_putBy_33 : decode cX7_putBy 33 = .ok (.iload_n 2, 1) := by decide +kernel
theorem dX7_putBy_34 : decode cX7_putBy 34 = .ok (.ifCond .eq 7, 3) := by decide +kernel
theorem dX7_putBy_37 : decode cX7_putBy 37 = .ok (.iconst 1, 1) := by decide +kernel
theorem dX7_putBy_38 : decode cX7_putBy 38 = .ok (.goto 4, 3) := by decide +kernel
theorem dX7_putBy_41 : decode cX7_putBy 41 = .ok (.iconst 0, 1) := by decide +kernel
theorem dX7_putBy_42 : decode cX7_putBy 42 = .ok (.iastore, 1) := by decide +kernel
theorem dX7_putBy_43 : decode cX7_putBy 43 = .ok (.aload_n 0, 1) := by decide +kernel
theorem dX7_putBy_44 : decode cX7_putBy 44 = .ok (.getfield 26, 3) := by decide +kernel
theorem dX7_putBy_47 : decode cX7_putBy 47 = .ok (.aload_n 0, 1) := by decide +kernel
theorem dX7_putBy_48 : decode cX7_putBy 48 = .ok (.getfield 9, 3) := by decide +kernel
theorem dX7_putBy_51 : decode cX7_putBy 51 = .ok (.lload_n 3, 1) := by decide +kernel
theorem dX7_putBy_52 : decode cX7_putBy 52 = .ok (.lastore, 1) := by decide +kernel
theorem dX7_putBy_53 : decode cX7_putBy 53 = .ok (.aload_n 0, 1) := by decide +kernel
theorem dX7_putBy_54 : decode cX7_putBy 54 = .ok (.dup, 1) := by decide +kernel
theorem dX7_putBy_55 : decode cX7_putBy 55 = .ok (.getfield 9, 3) := by decide +kernel
theorem dX7_putBy_58 : decode cX7_putBy 58 = .ok (.iconst 1, 1) := by decide +kernel
theorem dX7_putBy_59 : decode cX7_putBy 59 = .ok (.iadd, 1) := by decide +kernel
theorem dX7_putBy_60 : decode cX7_putBy 60 = .ok (.putfield 9, 3) := by decide +kernel
theorem dX7_putBy_63 : decode cX7_putBy 63 = .ok (.return_, 1) := by decide +kernel
theorem dX7_takeBack_0 : decode cX7_takeBack 0 = .ok (.aload_n 0, 1) := by decide +kernel
theorem dX7_takeBack_1 : decode cX7_takeBack 1 = .ok (.getfield 9, 3) := by decide +kernel
theorem dX7_takeBack_4 : decode cX7_takeBack 4 = .ok (.ifCond .le 35, 3) := by decide +kernel
theorem dX7_takeBack_7 : decode cX7_takeBack 7 = .ok (.aload_n 0, 1) := by decide +kernel
theorem dX7_takeBack_8 : decode cX7_takeBack 8 = .ok (.getfield 9, 3) := by decide +kernel
theorem dX7_takeBack_11 : decode cX7_takeBack 11 = .ok (.bipush 40, 2) := by decide +kernel
theorem dX7_takeBack_13 : decode cX7_takeBack 13 = .ok (.if_icmp .gt 26, 3) := by decide +kernel
theorem dX7_takeBack_16 : decode cX7_takeBack 16 = .ok (.aload_n 0, 1) := by decide +kernel
theorem dX7_takeBack_17 : decode cX7_takeBack 17 = .ok (.dup, 1) := by decide +kernel
theorem dX7_takeBack_18 : decode cX7_takeBack 18 = .ok (.getfield 9, 3) := by decide +kernel
theorem dX7_takeBack_21 : decode cX7_takeBack 21 = .ok (.iconst 1, 1) := by decide +kernel
theorem dX7_takeBack_22 : decode cX7_takeBack 22 = .ok (.isub, 1) := by decide +kernel
theorem dX7_takeBack_23 : decode cX7_takeBack 23 = .ok (.putfield 9, 3) := by decide +kernel
theorem dX7_takeBack_26 : decode cX7_takeBack 26 = .ok (.aload_n 0, 1) := by decide +kernel
theorem dX7_takeBack_27 : decode cX7_takeBack 27 = .ok (.aload_n 0, 1) := by decide +kernel
theorem dX7_takeBack_28 : decode cX7_takeBack 28 = .ok (.getfield 26, 3) := by decide +kernel
theorem dX7_takeBack_31 : decode cX7_takeBack 31 = .ok (.aload_n 0, 1) := by decide +kernel
theorem dX7_takeBack_32 : decode cX7_takeBack 32 = .ok (.getfield 9, 3) := by decide +kernel
theorem dX7_takeBack_35 : decode cX7_takeBack 35 = .ok (.laload, 1) := by decide +kernel
theorem dX7_takeBack_36 : decode cX7_takeBack 36 = .ok (.putfield 15, 3) := by decide +kernel
theorem dX7_takeBack_39 : decode cX7_takeBack 39 = .ok (.aload_n 0, 1) := by decide +kernel
theorem dX7_takeBack_40 : decode cX7_takeBack 40 = .ok (.getfield 9, 3) := by decide +kernel
theorem dX7_takeBack_43 : decode cX7_takeBack 43 = .ok (.ireturn, 1) := by decide +kernel
theorem dX7_yesOf_0 : decode cX7_yesOf 0 = .ok (.iload_n 1, 1) := by decide +kernel
theorem dX7_yesOf_1 : decode cX7_yesOf 1 = .ok (.ifCond .lt 26, 3) := by decide +kernel
theorem dX7_yesOf_4 : decode cX7_yesOf 4 = .ok (.iload_n 1, 1) := by decide +kernel
theorem dX7_yesOf_5 : decode cX7_yesOf 5 = .ok (.aload_n 0, 1) := by decide +kernel
theorem dX7_yesOf_6 : decode cX7_yesOf 6 = .ok (.getfield 9, 3) := by decide +kernel
theorem dX7_yesOf_9 : decode cX7_yesOf 9 = .ok (.if_icmp .ge 18, 3) := by decide +kernel
theorem dX7_yesOf_12 : decode cX7_yesOf 12 = .ok (.iload_n 1, 1) := by decide +kernel
theorem dX7_yesOf_13 : decode cX7_yesOf 13 = .ok (.bipush 40, 2) := by decide +kernel
theorem dX7_yesOf_15 : decode cX7_yesOf 15 = .ok (.if_icmp .ge 12, 3) := by decide +kernel
theorem dX7_yesOf_18 : decode cX7_yesOf 18 = .ok (.aload_n 0, 1) := by decide +kernel
theorem dX7_yesOf_19 : decode cX7_yesOf 19 = .ok (.getfield 19, 3) := by decide +kernel
theorem dX7_yesOf_22 : decode cX7_yesOf 22 = .ok (.iload_n 1, 1) := by decide +kernel
theorem dX7_yesOf_23 : decode cX7_yesOf 23 = .ok (.iaload, 1) := by decide +kernel
theorem dX7_yesOf_24 : decode cX7_yesOf 24 = .ok (.goto 4, 3) := by decide +kernel
theorem dX7_yesOf_27 : decode cX7_yesOf 27 = .ok (.iconst (-1), 1) := by decide +kernel
theorem dX7_yesOf_28 : decode cX7_yesOf 28 = .ok (.ireturn, 1) := by decide +kernel
theorem dX7_passedOf_0 : decode cX7_passedOf 0 = .ok (.iload_n 1, 1) := by decide +kernel
theorem dX7_passedOf_1 : decode cX7_passedOf 1 = .ok (.ifCond .lt 26, 3) := by decide +kernel
theorem dX7_passedOf_4 : decode cX7_passedOf 4 = .ok (.iload_n 1, 1) := by decide +kernel
theorem dX7_passedOf_5 : decode cX7_passedOf 5 = .ok (.aload_n 0, 1) := by decide +kernel
theorem dX7_passedOf_6 : decode cX7_passedOf 6 = .ok (.getfield 9, 3) := by decide +kernel
theorem dX7_passedOf_9 : decode cX7_passedOf 9 = .ok (.if_icmp .ge 18, 3) := by decide +kernel
theorem dX7_passedOf_12 : decode cX7_passedOf 12 = .ok (.iload_n 1, 1) := by decide +kernel
theorem dX7_passedOf_13 : decode cX7_passedOf 13 = .ok (.bipush 40, 2) := by decide +kernel
theorem dX7_passedOf_15 : decode cX7_passedOf 15 = .ok (.if_icmp .ge 12, 3) := by decide +kernel
theorem dX7_passedOf_18 : decode cX7_passedOf 18 = .ok (.aload_n 0, 1) := by decide +kernel
theorem dX7_passedOf_19 : decode cX7_passedOf 19 = .ok (.getfield 23, 3) := by decide +kernel
theorem dX7_passedOf_22 : decode cX7_passedOf 22 = .ok (.iload_n 1, 1) := by decide +kernel
theorem dX7_passedOf_23 : decode cX7_passedOf 23 = .ok (.iaload, 1) := by decide +kernel
theorem dX7_passedOf_24 : decode cX7_passedOf 24 = .ok (.goto 4, 3) := by decide +kernel
theorem dX7_passedOf_27 : decode cX7_passedOf 27 = .ok (.iconst (-1), 1) := by decide +kernel
theorem dX7_passedOf_28 : decode cX7_passedOf 28 = .ok (.ireturn, 1) := by decide +kernel
theorem dX7_passedOnes_0 : decode cX7_passedOnes 0 = .ok (.iconst 0, 1) := by decide +kernel
theorem dX7_passedOnes_1 : decode cX7_passedOnes 1 = .ok (.istore_n 1, 1) := by decide +kernel
theorem dX7_passedOnes_2 : decode cX7_passedOnes 2 = .ok (.iconst 0, 1) := by decide +kernel
theorem dX7_passedOnes_3 : decode cX7_passedOnes 3 = .ok (.istore_n 2, 1) := by decide +kernel
theorem dX7_passedOnes_4 : decode cX7_passedOnes 4 = .ok (.iload_n 2, 1) := by decide +kernel
theorem dX7_passedOnes_5 : decode cX7_passedOnes 5 = .ok (.aload_n 0, 1) := by decide +kernel
theorem dX7_passedOnes_6 : decode cX7_passedOnes 6 = .ok (.getfield 9, 3) := by decide +kernel
theorem dX7_passedOnes_9 : decode cX7_passedOnes 9 = .ok (.if_icmp .ge 24, 3) := by decide +kernel
theorem dX7_passedOnes_12 : decode cX7_passedOnes 12 = .ok (.iload_n 2, 1) := by decide +kernel
theorem dX7_passedOnes_13 : decode cX7_passedOnes 13 = .ok (.bipush 40, 2) := by decide +kernel
theorem dX7_passedOnes_15 : decode cX7_passedOnes 15 = .ok (.if_icmp .ge 18, 3) := by decide +kernel
theorem dX7_passedOnes_18 : decode cX7_passedOnes 18 = .ok (.iload_n 1, 1) := by decide +kernel
theorem dX7_passedOnes_19 : decode cX7_passedOnes 19 = .ok (.aload_n 0, 1) := by decide +kernel
theorem dX7_passedOnes_20 : decode cX7_passedOnes 20 = .ok (.getfield 23, 3) := by decide +kernel
theorem dX7_passedOnes_23 : decode cX7_passedOnes 23 = .ok (.iload_n 2, 1) := by decide +kernel
theorem dX7_passedOnes_24 : decode cX7_passedOnes 24 = .ok (.iaload, 1) := by decide +kernel
theorem dX7_passedOnes_25 : decode cX7_passedOnes 25 = .ok (.iadd, 1) := by decide +kernel
theorem dX7_passedOnes_26 : decode cX7_passedOnes 26 = .ok (.istore_n 1, 1) := by decide +kernel
theorem dX7_passedOnes_27 : decode cX7_passedOnes 27 = .ok (.iinc 2 1, 3) := by decide +kernel
