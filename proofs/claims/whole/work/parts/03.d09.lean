theorem dX12_wished_8 : decode cX12_wished 8 = .ok (.ineg, 1) := by decide +kernel
theorem dX12_wished_9 : decode cX12_wished 9 = .ok (.ireturn, 1) := by decide +kernel
theorem dX12_wished_10 : decode cX12_wished 10 = .ok (.iload_n 1, 1) := by decide +kernel
theorem dX12_wished_11 : decode cX12_wished 11 = .ok (.iconst 1, 1) := by decide +kernel
theorem dX12_wished_12 : decode cX12_wished 12 = .ok (.if_icmp .ne 8, 3) := by decide +kernel
theorem dX12_wished_15 : decode cX12_wished 15 = .ok (.aload_n 0, 1) := by decide +kernel
theorem dX12_wished_16 : decode cX12_wished 16 = .ok (.invokevirtual 326, 3) := by decide +kernel
theorem dX12_wished_19 : decode cX12_wished 19 = .ok (.ireturn, 1) := by decide +kernel
theorem dX12_wished_20 : decode cX12_wished 20 = .ok (.aload_n 0, 1) := by decide +kernel
theorem dX12_wished_21 : decode cX12_wished 21 = .ok (.iconst 0, 1) := by decide +kernel
theorem dX12_wished_22 : decode cX12_wished 22 = .ok (.bipush 7, 2) := by decide +kernel
theorem dX12_wished_24 : decode cX12_wished 24 = .ok (.invokevirtual 323, 3) := by decide +kernel
theorem dX12_wished_27 : decode cX12_wished 27 = .ok (.sipush 1000, 3) := by decide +kernel
theorem dX12_wished_30 : decode cX12_wished 30 = .ok (.aload_n 0, 1) := by decide +kernel
theorem dX12_wished_31 : decode cX12_wished 31 = .ok (.getfield 303, 3) := by decide +kernel
theorem dX12_wished_34 : decode cX12_wished 34 = .ok (.imul, 1) := by decide +kernel
theorem dX12_wished_35 : decode cX12_wished 35 = .ok (.aload_n 0, 1) := by decide +kernel
theorem dX12_wished_36 : decode cX12_wished 36 = .ok (.getfield 306, 3) := by decide +kernel
theorem dX12_wished_39 : decode cX12_wished 39 = .ok (.isub, 1) := by decide +kernel
theorem dX12_wished_40 : decode cX12_wished 40 = .ok (.ireturn, 1) := by decide +kernel
theorem dX12_build_0 : decode cX12_build 0 = .ok (.iload_n 2, 1) := by decide +kernel
theorem dX12_build_1 : decode cX12_build 1 = .ok (.ifCond .ne 24, 3) := by decide +kernel
theorem dX12_build_4 : decode cX12_build 4 = .ok (.aload_n 0, 1) := by decide +kernel
theorem dX12_build_5 : decode cX12_build 5 = .ok (.getfield 60, 3) := by decide +kernel
theorem dX12_build_8 : decode cX12_build 8 = .ok (.aload_n 0, 1) := by decide +kernel
theorem dX12_build_9 : decode cX12_build 9 = .ok (.getfield 362, 3) := by decide +kernel
theorem dX12_build_12 : decode cX12_build 12 = .ok (.iload_n 1, 1) := by decide +kernel
theorem dX12_build_13 : decode cX12_build 13 = .ok (.iastore, 1) := by decide +kernel
theorem dX12_build_14 : decode cX12_build 14 = .ok (.aload_n 0, 1) := by decide +kernel
theorem dX12_build_15 : decode cX12_build 15 = .ok (.dup, 1) := by decide +kernel
theorem dX12_build_16 : decode cX12_build 16 = .ok (.getfield 362, 3) := by decide +kernel
theorem dX12_build_19 : decode cX12_build 19 = .ok (.iconst 1, 1) := by decide +kernel
theorem dX12_build_20 : decode cX12_build 20 = .ok (.iadd, 1) := by decide +kernel
theorem dX12_build_21 : decode cX12_build 21 = .ok (.putfield 362, 3) := by decide +kernel
theorem dX12_build_24 : decode cX12_build 24 = .ok (.return_, 1) := by decide +kernel
theorem dX12_build_25 : decode cX12_build 25 = .ok (.iconst 0, 1) := by decide +kernel
theorem dX12_build_26 : decode cX12_build 26 = .ok (.istore_n 3, 1) := by decide +kernel
theorem dX12_build_27 : decode cX12_build 27 = .ok (.iload_n 3, 1) := by decide +kernel
theorem dX12_build_28 : decode cX12_build 28 = .ok (.aload_n 0, 1) := by decide +kernel
theorem dX12_build_29 : decode cX12_build 29 = .ok (.getfield 252, 3) := by decide +kernel
theorem dX12_build_32 : decode cX12_build 32 = .ok (.if_icmp .ge 34, 3) := by decide +kernel
theorem dX12_build_35 : decode cX12_build 35 = .ok (.iload_n 2, 1) := by decide +kernel
theorem dX12_build_36 : decode cX12_build 36 = .ok (.iload_n 3, 1) := by decide +kernel
theorem dX12_build_37 : decode cX12_build 37 = .ok (.invokestatic 228, 3) := by decide +kernel
theorem dX12_build_40 : decode cX12_build 40 = .ok (.ifCond .eq 20, 3) := by decide +kernel
theorem dX12_build_43 : decode cX12_build 43 = .ok (.aload_n 0, 1) := by decide +kernel
theorem dX12_build_44 : decode cX12_build 44 = .ok (.bipush 10, 2) := by decide +kernel
theorem dX12_build_46 : decode cX12_build 46 = .ok (.iload_n 1, 1) := by decide +kernel
theorem dX12_build_47 : decode cX12_build 47 = .ok (.imul, 1) := by decide +kernel
theorem dX12_build_48 : decode cX12_build 48 = .ok (.iload_n 3, 1) := by decide +kernel
theorem dX12_build_49 : decode cX12_build 49 = .ok (.iadd, 1) := by decide +kernel
theorem dX12_build_50 : decode cX12_build 50 = .ok (.iload_n 2, 1) := by decide +kernel
theorem dX12_build_51 : decode cX12_build 51 = .ok (.iconst 1, 1) := by decide +kernel
theorem dX12_build_52 : decode cX12_build 52 = .ok (.iload_n 3, 1) := by decide +kernel
theorem dX12_build_53 : decode cX12_build 53 = .ok (.ishl, 1) := by decide +kernel
theorem dX12_build_54 : decode cX12_build 54 = .ok (.iconst (-1), 1) := by decide +kernel
theorem dX12_build_55 : decode cX12_build 55 = .ok (.ixor, 1) := by decide +kernel
theorem dX12_build_56 : decode cX12_build 56 = .ok (.iand, 1) := by decide +kernel
theorem dX12_build_57 : decode cX12_build 57 = .ok (.invokevirtual 365, 3) := by decide +kernel
theorem dX12_build_60 : decode cX12_build 60 = .ok (.iinc 3 1, 3) := by decide +kernel
theorem dX12_build_63 : decode cX12_build 63 = .ok (.goto (-36), 3) := by decide +kernel
theorem dX12_build_66 : decode cX12_build 66 = .ok (.return_, 1) := by decide +kernel
theorem dX12_laySeatings_0 : decode cX12_laySeatings 0 = .ok (.aload_n 0, 1) := by decide +kernel
theorem dX12_laySeatings_1 : decode cX12_laySeatings 1 = .ok (.iconst 0, 1) := by decide +kernel
theorem dX12_laySeatings_2 : decode cX12_laySeatings 2 = .ok (.putfield 362, 3) := by decide +kernel
theorem dX12_laySeatings_5 : decode cX12_laySeatings 5 = .ok (.aload_n 0, 1) := by decide +kernel
theorem dX12_laySeatings_6 : decode cX12_laySeatings 6 = .ok (.iconst 0, 1) := by decide +kernel
theorem dX12_laySeatings_7 : decode cX12_laySeatings 7 = .ok (.iconst 1, 1) := by decide +kernel
theorem dX12_laySeatings_8 : decode cX12_laySeatings 8 = .ok (.aload_n 0, 1) := by decide +kernel
theorem dX12_laySeatings_9 : decode cX12_laySeatings 9 = .ok (.getfield 252, 3) := by decide +kernel
theorem dX12_laySeatings_12 : decode cX12_laySeatings 12 = .ok (.ishl, 1) := by decide +kernel
theorem dX12_laySeatings_13 : decode cX12_laySeatings 13 = .ok (.iconst 1, 1) := by decide +kernel
theorem dX12_laySeatings_14 : decode cX12_laySeatings 14 = .ok (.isub, 1) := by decide +kernel
theorem dX12_laySeatings_15 : decode cX12_laySeatings 15 = .ok (.invokevirtual 365, 3) := by decide +kernel
theorem dX12_laySeatings_18 : decode cX12_laySeatings 18 = .ok (.return_, 1) := by decide +kernel
theorem dX12_best_0 : decode cX12_best 0 = .ok (.aload_n 0, 1) := by decide +kernel
theorem dX12_best_1 : decode cX12_best 1 = .ok (.getfield 252, 3) := by decide +kernel
theorem dX12_best_4 : decode cX12_best 4 = .ok (.ifCond .eq 21, 3) := by decide +kernel
theorem dX12_best_7 : decode cX12_best 7 = .ok (.iload_n 1, 1) := by decide +kernel
theorem dX12_best_8 : decode cX12_best 8 = .ok (.iconst 0, 1) := by decide +kernel
theorem dX12_best_9 : decode cX12_best 9 = .ok (.iconst 2, 1) := by decide +kernel
theorem dX12_best_10 : decode cX12_best 10 = .ok (.invokestatic 215, 3) := by decide +kernel
theorem dX12_best_13 : decode cX12_best 13 = .ok (.ifCond .eq 12, 3) := by decide +kernel
theorem dX12_best_16 : decode cX12_best 16 = .ok (.iload_n 2, 1) := by decide +kernel
theorem dX12_best_17 : decode cX12_best 17 = .ok (.iconst 0, 1) := by decide +kernel
theorem dX12_best_18 : decode cX12_best 18 = .ok (.iconst 1, 1) := by decide +kernel
theorem dX12_best_19 : decode cX12_best 19 = .ok (.invokestatic 215, 3) := by decide +kernel
theorem dX12_best_22 : decode cX12_best 22 = .ok (.ifCond .ne 7, 3) := by decide +kernel
theorem dX12_best_25 : decode cX12_best 25 = .ok (.ldc_w 358, 3) := by decide +kernel
theorem dX12_best_28 : decode cX12_best 28 = .ok (.ireturn, 1) := by decide +kernel
theorem dX12_best_29 : decode cX12_best 29 = .ok (.aload_n 0, 1) := by decide +kernel
theorem dX12_best_30 : decode cX12_best 30 = .ok (.invokevirtual 368, 3) := by decide +kernel
theorem dX12_best_33 : decode cX12_best 33 = .ok (.istore_n 3, 1) := by decide +kernel
theorem dX12_best_34 : decode cX12_best 34 = .ok (.aload_n 0, 1) := by decide +kernel
theorem dX12_best_35 : decode cX12_best 35 = .ok (.invokevirtual 371, 3) := by decide +kernel
theorem dX12_best_38 : decode cX12_best 38 = .ok (.iconst (-1), 1) := by decide +kernel
theorem dX12_best_39 : decode cX12_best 39 = .ok (.istore 4, 2) := by decide +kernel
theorem dX12_best_41 : decode cX12_best 41 = .ok (.iconst 0, 1) := by decide +kernel
theorem dX12_best_42 : decode cX12_best 42 = .ok (.istore 5, 2) := by decide +kernel
theorem dX12_best_44 : decode cX12_best 44 = .ok (.iconst 0, 1) := by decide +kernel
theorem dX12_best_45 : decode cX12_best 45 = .ok (.istore 6, 2) := by decide +kernel
theorem dX12_best_47 : decode cX12_best 47 = .ok (.iload 6, 2) := by decide +kernel
theorem dX12_best_49 : decode cX12_best 49 = .ok (.aload_n 0, 1) := by decide +kernel
theorem dX12_best_50 : decode cX12_best 50 = .ok (.getfield 362, 3) := by decide +kernel
theorem dX12_best_53 : decode cX12_best 53 = .ok (.if_icmp .ge 53, 3) := by decide +kernel
theorem dX12_best_56 : decode cX12_best 56 = .ok (.aload_n 0, 1) := by decide +kernel
theorem dX12_best_57 : decode cX12_best 57 = .ok (.aload_n 0, 1) := by decide +kernel
theorem dX12_best_58 : decode cX12_best 58 = .ok (.getfield 60, 3) := by decide +kernel
theorem dX12_best_61 : decode cX12_best 61 = .ok (.iload 6, 2) := by decide +kernel
theorem dX12_best_63 : decode cX12_best 63 = .ok (.iaload, 1) := by decide +kernel
theorem dX12_best_64 : decode cX12_best 64 = .ok (.invokevirtual 300, 3) := by decide +kernel
theorem dX12_best_67 : decode cX12_best 67 = .ok (.aload_n 0, 1) := by decide +kernel
theorem dX12_best_68 : decode cX12_best 68 = .ok (.iload_n 1, 1) := by decide +kernel
theorem dX12_best_69 : decode cX12_best 69 = .ok (.invokevirtual 374, 3) := by decide +kernel
theorem dX12_best_72 : decode cX12_best 72 = .ok (.istore 7, 2) := by decide +kernel
theorem dX12_best_74 : decode cX12_best 74 = .ok (.iload 4, 2) := by decide +kernel
theorem dX12_best_76 : decode cX12_best 76 = .ok (.iconst (-1), 1) := by decide +kernel
theorem dX12_best_77 : decode cX12_best 77 = .ok (.if_icmp .eq 10, 3) := by decide +kernel
theorem dX12_best_80 : decode cX12_best 80 = .ok (.iload 7, 2) := by decide +kernel
theorem dX12_best_82 : decode cX12_best 82 = .ok (.iload 5, 2) := by decide +kernel
theorem dX12_best_84 : decode cX12_best 84 = .ok (.if_icmp .le 16, 3) := by decide +kernel
theorem dX12_best_87 : decode cX12_best 87 = .ok (.aload_n 0, 1) := by decide +kernel
theorem dX12_best_88 : decode cX12_best 88 = .ok (.getfield 60, 3) := by decide +kernel
theorem dX12_best_91 : decode cX12_best 91 = .ok (.iload 6, 2) := by decide +kernel
theorem dX12_best_93 : decode cX12_best 93 = .ok (.iaload, 1) := by decide +kernel
theorem dX12_best_94 : decode cX12_best 94 = .ok (.istore 4, 2) := by decide +kernel
theorem dX12_best_96 : decode cX12_best 96 = .ok (.iload 7, 2) := by decide +kernel
theorem dX12_best_98 : decode cX12_best 98 = .ok (.istore 5, 2) := by decide +kernel
theorem dX12_best_100 : decode cX12_best 100 = .ok (.iinc 6 1, 3) := by decide +kernel
theorem dX12_best_103 : decode cX12_best 103 = .ok (.goto (-56), 3) := by decide +kernel
theorem dX12_best_106 : decode cX12_best 106 = .ok (.aload_n 0, 1) := by decide +kernel
theorem dX12_best_107 : decode cX12_best 107 = .ok (.iload_n 3, 1) := by decide +kernel
theorem dX12_best_108 : decode cX12_best 108 = .ok (.invokevirtual 300, 3) := by decide +kernel
theorem dX12_best_111 : decode cX12_best 111 = .ok (.iload_n 2, 1) := by decide +kernel
theorem dX12_best_112 : decode cX12_best 112 = .ok (.ifCond .ne 8, 3) := by decide +kernel
theorem dX12_best_115 : decode cX12_best 115 = .ok (.iload 4, 2) := by decide +kernel
theorem dX12_best_117 : decode cX12_best 117 = .ok (.goto 15, 3) := by decide +kernel
theorem dX12_best_120 : decode cX12_best 120 = .ok (.iload_n 1, 1) := by decide +kernel
theorem dX12_best_121 : decode cX12_best 121 = .ok (.ifCond .ne 9, 3) := by decide +kernel
theorem dX12_best_124 : decode cX12_best 124 = .ok (.iload 5, 2) := by decide +kernel
theorem dX12_best_126 : decode cX12_best 126 = .ok (.ineg, 1) := by decide +kernel
theorem dX12_best_127 : decode cX12_best 127 = .ok (.goto 5, 3) := by decide +kernel
theorem dX12_best_130 : decode cX12_best 130 = .ok (.iload 5, 2) := by decide +kernel
theorem dX12_best_132 : decode cX12_best 132 = .ok (.ireturn, 1) := by decide +kernel
theorem dX12_numberOf_0 : decode cX12_numberOf 0 = .ok (.iconst 0, 1) := by decide +kernel
theorem dX12_numberOf_1 : decode cX12_numberOf 1 = .ok (.istore_n 2, 1) := by decide +kernel
theorem dX12_numberOf_2 : decode cX12_numberOf 2 = .ok (.aload_n 0, 1) := by decide +kernel
theorem dX12_numberOf_3 : decode cX12_numberOf 3 = .ok (.getfield 362, 3) := by decide +kernel
theorem dX12_numberOf_6 : decode cX12_numberOf 6 = .ok (.iconst 1, 1) := by decide +kernel
theorem dX12_numberOf_7 : decode cX12_numberOf 7 = .ok (.isub, 1) := by decide +kernel
theorem dX12_numberOf_8 : decode cX12_numberOf 8 = .ok (.istore_n 3, 1) := by decide +kernel
theorem dX12_numberOf_9 : decode cX12_numberOf 9 = .ok (.iload_n 2, 1) := by decide +kernel
theorem dX12_numberOf_10 : decode cX12_numberOf 10 = .ok (.iload_n 3, 1) := by decide +kernel
theorem dX12_numberOf_11 : decode cX12_numberOf 11 = .ok (.if_icmp .ge 35, 3) := by decide +kernel
theorem dX12_numberOf_14 : decode cX12_numberOf 14 = .ok (.iload_n 2, 1) := by decide +kernel
theorem dX12_numberOf_15 : decode cX12_numberOf 15 = .ok (.iload_n 3, 1) := by decide +kernel
theorem dX12_numberOf_16 : decode cX12_numberOf 16 = .ok (.iadd, 1) := by decide +kernel
theorem dX12_numberOf_17 : decode cX12_numberOf 17 = .ok (.iconst 2, 1) := by decide +kernel
theorem dX12_numberOf_18 : decode cX12_numberOf 18 = .ok (.idiv, 1) := by decide +kernel
theorem dX12_numberOf_19 : decode cX12_numberOf 19 = .ok (.istore 4, 2) := by decide +kernel
theorem dX12_numberOf_21 : decode cX12_numberOf 21 = .ok (.aload_n 0, 1) := by decide +kernel
theorem dX12_numberOf_22 : decode cX12_numberOf 22 = .ok (.getfield 60, 3) := by decide +kernel
theorem dX12_numberOf_25 : decode cX12_numberOf 25 = .ok (.iload 4, 2) := by decide +kernel
theorem dX12_numberOf_27 : decode cX12_numberOf 27 = .ok (.iaload, 1) := by decide +kernel
theorem dX12_numberOf_28 : decode cX12_numberOf 28 = .ok (.iload_n 1, 1) := by decide +kernel
theorem dX12_numberOf_29 : decode cX12_numberOf 29 = .ok (.if_icmp .ge 11, 3) := by decide +kernel
theorem dX12_numberOf_32 : decode cX12_numberOf 32 = .ok (.iload 4, 2) := by decide +kernel
theorem dX12_numberOf_34 : decode cX12_numberOf 34 = .ok (.iconst 1, 1) := by decide +kernel
theorem dX12_numberOf_35 : decode cX12_numberOf 35 = .ok (.iadd, 1) := by decide +kernel
theorem dX12_numberOf_36 : decode cX12_numberOf 36 = .ok (.istore_n 2, 1) := by decide +kernel
theorem dX12_numberOf_37 : decode cX12_numberOf 37 = .ok (.goto 6, 3) := by decide +kernel
theorem dX12_numberOf_40 : decode cX12_numberOf 40 = .ok (.iload 4, 2) := by decide +kernel
theorem dX12_numberOf_42 : decode cX12_numberOf 42 = .ok (.istore_n 3, 1) := by decide +kernel
theorem dX12_numberOf_43 : decode cX12_numberOf 43 = .ok (.goto (-34), 3) := by decide +kernel
theorem dX12_numberOf_46 : decode cX12_numberOf 46 = .ok (.iload_n 2, 1) := by decide +kernel
theorem dX12_numberOf_47 : decode cX12_numberOf 47 = .ok (.ireturn, 1) := by decide +kernel
theorem dX12_isAllHeard_0 : decode cX12_isAllHeard 0 = .ok (.iconst 0, 1) := by decide +kernel
theorem dX12_isAllHeard_1 : decode cX12_isAllHeard 1 = .ok (.istore_n 1, 1) := by decide +kernel
theorem dX12_isAllHeard_2 : decode cX12_isAllHeard 2 = .ok (.iconst 0, 1) := by decide +kernel
theorem dX12_isAllHeard_3 : decode cX12_isAllHeard 3 = .ok (.istore_n 2, 1) := by decide +kernel
theorem dX12_isAllHeard_4 : decode cX12_isAllHeard 4 = .ok (.iload_n 2, 1) := by decide +kernel
theorem dX12_isAllHeard_5 : decode cX12_isAllHeard 5 = .ok (.aload_n 0, 1) := by decide +kernel
theorem dX12_isAllHeard_6 : decode cX12_isAllHeard 6 = .ok (.getfield 252, 3) := by decide +kernel
theorem dX12_isAllHeard_9 : decode cX12_isAllHeard 9 = .ok (.if_icmp .ge 41, 3) := by decide +kernel
theorem dX12_isAllHeard_12 : decode cX12_isAllHeard 12 = .ok (.aload_n 0, 1) := by decide +kernel
theorem dX12_isAllHeard_13 : decode cX12_isAllHeard 13 = .ok (.iload_n 2, 1) := by decide +kernel
theorem dX12_isAllHeard_14 : decode cX12_isAllHeard 14 = .ok (.iconst 3, 1) := by decide +kernel
theorem dX12_isAllHeard_15 : decode cX12_isAllHeard 15 = .ok (.invokevirtual 258, 3) := by decide +kernel
theorem dX12_isAllHeard_18 : decode cX12_isAllHeard 18 = .ok (.iconst 1, 1) := by decide +kernel
theorem dX12_isAllHeard_19 : decode cX12_isAllHeard 19 = .ok (.if_icmp .eq 25, 3) := by decide +kernel
theorem dX12_isAllHeard_22 : decode cX12_isAllHeard 22 = .ok (.aload_n 0, 1) := by decide +kernel
theorem dX12_isAllHeard_23 : decode cX12_isAllHeard 23 = .ok (.iload_n 2, 1) := by decide +kernel
theorem dX12_isAllHeard_24 : decode cX12_isAllHeard 24 = .ok (.invokevirtual 291, 3) := by decide +kernel
theorem dX12_isAllHeard_27 : decode cX12_isAllHeard 27 = .ok (.ifCond .ne 17, 3) := by decide +kernel
theorem dX12_isAllHeard_30 : decode cX12_isAllHeard 30 = .ok (.aload_n 0, 1) := by decide +kernel
theorem dX12_isAllHeard_31 : decode cX12_isAllHeard 31 = .ok (.iload_n 2, 1) := by decide +kernel
theorem dX12_isAllHeard_32 : decode cX12_isAllHeard 32 = .ok (.invokevirtual 282, 3) := by decide +kernel
theorem dX12_isAllHeard_35 : decode cX12_isAllHeard 35 = .ok (.iconst (-1), 1) := by decide +kernel
theorem dX12_isAllHeard_36 : decode cX12_isAllHeard 36 = .ok (.if_icmp .eq 5, 3) := by decide +kernel
theorem dX12_isAllHeard_39 : decode cX12_isAllHeard 39 = .ok (.iconst 0, 1) := by decide +kernel
theorem dX12_isAllHeard_40 : decode cX12_isAllHeard 40 = .ok (.ireturn, 1) := by decide +kernel
theorem dX12_isAllHeard_41 : decode cX12_isAllHeard 41 = .ok (.iinc 1 1, 3) := by decide +kernel
theorem dX12_isAllHeard_44 : decode cX12_isAllHeard 44 = .ok (.iinc 2 1, 3) := by decide +kernel
theorem dX12_isAllHeard_47 : decode cX12_isAllHeard 47 = .ok (.goto (-43), 3) := by decide +kernel
theorem dX12_isAllHeard_50 : decode cX12_isAllHeard 50 = .ok (.iload_n 1, 1) := by decide +kernel
theorem dX12_isAllHeard_51 : decode cX12_isAllHeard 51 = .ok (.ifCond .eq 10, 3) := by decide +kernel
theorem dX12_isAllHeard_54 : decode cX12_isAllHeard 54 = .ok (.aload_n 0, 1) := by decide +kernel
theorem dX12_isAllHeard_55 : decode cX12_isAllHeard 55 = .ok (.getfield 255, 3) := by decide +kernel
theorem dX12_isAllHeard_58 : decode cX12_isAllHeard 58 = .ok (.ifCond .ne 7, 3) := by decide +kernel
theorem dX12_isAllHeard_61 : decode cX12_isAllHeard 61 = .ok (.iconst 1, 1) := by decide +kernel
theorem dX12_isAllHeard_62 : decode cX12_isAllHeard 62 = .ok (.goto 4, 3) := by decide +kernel
theorem dX12_isAllHeard_65 : decode cX12_isAllHeard 65 = .ok (.iconst 0, 1) := by decide +kernel
theorem dX12_isAllHeard_66 : decode cX12_isAllHeard 66 = .ok (.ireturn, 1) := by decide +kernel
theorem dX12_changes_0 : decode cX12_changes 0 = .ok (.aload_n 0, 1) := by decide +kernel
theorem dX12_changes_1 : decode cX12_changes 1 = .ok (.getfield 252, 3) := by decide +kernel
theorem dX12_changes_4 : decode cX12_changes 4 = .ok (.ifCond .eq 12, 3) := by decide +kernel
theorem dX12_changes_7 : decode cX12_changes 7 = .ok (.iload_n 1, 1) := by decide +kernel
theorem dX12_changes_8 : decode cX12_changes 8 = .ok (.iconst 0, 1) := by decide +kernel
theorem dX12_changes_9 : decode cX12_changes 9 = .ok (.iconst 1, 1) := by decide +kernel
theorem dX12_changes_10 : decode cX12_changes 10 = .ok (.invokestatic 215, 3) := by decide +kernel
theorem dX12_changes_13 : decode cX12_changes 13 = .ok (.ifCond .ne 5, 3) := by decide +kernel
theorem dX12_changes_16 : decode cX12_changes 16 = .ok (.iconst (-1), 1) := by decide +kernel
theorem dX12_changes_17 : decode cX12_changes 17 = .ok (.ireturn, 1) := by decide +kernel
theorem dX12_changes_18 : decode cX12_changes 18 = .ok (.aload_n 0, 1) := by decide +kernel
theorem dX12_changes_19 : decode cX12_changes 19 = .ok (.invokevirtual 368, 3) := by decide +kernel
theorem dX12_changes_22 : decode cX12_changes 22 = .ok (.istore_n 2, 1) := by decide +kernel
theorem dX12_changes_23 : decode cX12_changes 23 = .ok (.aload_n 0, 1) := by decide +kernel
theorem dX12_changes_24 : decode cX12_changes 24 = .ok (.invokevirtual 371, 3) := by decide +kernel
theorem dX12_changes_27 : decode cX12_changes 27 = .ok (.iconst 0, 1) := by decide +kernel
theorem dX12_changes_28 : decode cX12_changes 28 = .ok (.istore_n 3, 1) := by decide +kernel
theorem dX12_changes_29 : decode cX12_changes 29 = .ok (.iload_n 3, 1) := by decide +kernel
theorem dX12_changes_30 : decode cX12_changes 30 = .ok (.aload_n 0, 1) := by decide +kernel
theorem dX12_changes_31 : decode cX12_changes 31 = .ok (.getfield 362, 3) := by decide +kernel
theorem dX12_changes_34 : decode cX12_changes 34 = .ok (.if_icmp .ge 16, 3) := by decide +kernel
theorem dX12_changes_37 : decode cX12_changes 37 = .ok (.aload_n 0, 1) := by decide +kernel
theorem dX12_changes_38 : decode cX12_changes 38 = .ok (.getfield 63, 3) := by decide +kernel
theorem dX12_changes_41 : decode cX12_changes 41 = .ok (.iload_n 3, 1) := by decide +kernel
theorem dX12_changes_42 : decode cX12_changes 42 = .ok (.iconst (-1), 1) := by decide +kernel
theorem dX12_changes_43 : decode cX12_changes 43 = .ok (.iastore, 1) := by decide +kernel
theorem dX12_changes_44 : decode cX12_changes 44 = .ok (.iinc 3 1, 3) := by decide +kernel
theorem dX12_changes_47 : decode cX12_changes 47 = .ok (.goto (-18), 3) := by decide +kernel
theorem dX12_changes_50 : decode cX12_changes 50 = .ok (.aload_n 0, 1) := by decide +kernel
theorem dX12_changes_51 : decode cX12_changes 51 = .ok (.getfield 63, 3) := by decide +kernel
theorem dX12_changes_54 : decode cX12_changes 54 = .ok (.aload_n 0, 1) := by decide +kernel
theorem dX12_changes_55 : decode cX12_changes 55 = .ok (.iload_n 2, 1) := by decide +kernel
theorem dX12_changes_56 : decode cX12_changes 56 = .ok (.invokevirtual 377, 3) := by decide +kernel
theorem dX12_changes_59 : decode cX12_changes 59 = .ok (.iconst 0, 1) := by decide +kernel
theorem dX12_changes_60 : decode cX12_changes 60 = .ok (.iastore, 1) := by decide +kernel
theorem dX12_changes_61 : decode cX12_changes 61 = .ok (.iconst (-1), 1) := by decide +kernel
theorem dX12_changes_62 : decode cX12_changes 62 = .ok (.istore_n 3, 1) := by decide +kernel
theorem dX12_changes_63 : decode cX12_changes 63 = .ok (.iconst 0, 1) := by decide +kernel
theorem dX12_changes_64 : decode cX12_changes 64 = .ok (.istore 4, 2) := by decide +kernel
theorem dX12_changes_66 : decode cX12_changes 66 = .ok (.iconst 1, 1) := by decide +kernel
theorem dX12_changes_67 : decode cX12_changes 67 = .ok (.istore 5, 2) := by decide +kernel
theorem dX12_changes_69 : decode cX12_changes 69 = .ok (.iload 5, 2) := by decide +kernel
theorem dX12_changes_71 : decode cX12_changes 71 = .ok (.ifCond .eq 117, 3) := by decide +kernel
theorem dX12_changes_74 : decode cX12_changes 74 = .ok (.iload_n 3, 1) := by decide +kernel
theorem dX12_changes_75 : decode cX12_changes 75 = .ok (.iconst (-1), 1) := by decide +kernel
theorem dX12_changes_76 : decode cX12_changes 76 = .ok (.if_icmp .ne 112, 3) := by decide +kernel
theorem dX12_changes_79 : decode cX12_changes 79 = .ok (.iconst 0, 1) := by decide +kernel
theorem dX12_changes_80 : decode cX12_changes 80 = .ok (.istore 5, 2) := by decide +kernel
theorem dX12_changes_82 : decode cX12_changes 82 = .ok (.iconst 0, 1) := by decide +kernel
theorem dX12_changes_83 : decode cX12_changes 83 = .ok (.istore 6, 2) := by decide +kernel
theorem dX12_changes_85 : decode cX12_changes 85 = .ok (.iload 6, 2) := by decide +kernel
theorem dX12_changes_87 : decode cX12_changes 87 = .ok (.aload_n 0, 1) := by decide +kernel
theorem dX12_changes_88 : decode cX12_changes 88 = .ok (.getfield 362, 3) := by decide +kernel
theorem dX12_changes_91 : decode cX12_changes 91 = .ok (.if_icmp .ge 79, 3) := by decide +kernel
theorem dX12_changes_94 : decode cX12_changes 94 = .ok (.aload_n 0, 1) := by decide +kernel
theorem dX12_changes_95 : decode cX12_changes 95 = .ok (.getfield 63, 3) := by decide +kernel
theorem dX12_changes_98 : decode cX12_changes 98 = .ok (.iload 6, 2) := by decide +kernel
theorem dX12_changes_100 : decode cX12_changes 100 = .ok (.iaload, 1) := by decide +kernel
theorem dX12_changes_101 : decode cX12_changes 101 = .ok (.iload 4, 2) := by decide +kernel
theorem dX12_changes_103 : decode cX12_changes 103 = .ok (.if_icmp .ne 61, 3) := by decide +kernel
theorem dX12_changes_106 : decode cX12_changes 106 = .ok (.aload_n 0, 1) := by decide +kernel
theorem dX12_changes_107 : decode cX12_changes 107 = .ok (.aload_n 0, 1) := by decide +kernel
theorem dX12_changes_108 : decode cX12_changes 108 = .ok (.getfield 60, 3) := by decide +kernel
theorem dX12_changes_111 : decode cX12_changes 111 = .ok (.iload 6, 2) := by decide +kernel
theorem dX12_changes_113 : decode cX12_changes 113 = .ok (.iaload, 1) := by decide +kernel
theorem dX12_changes_114 : decode cX12_changes 114 = .ok (.invokevirtual 300, 3) := by decide +kernel
theorem dX12_changes_117 : decode cX12_changes 117 = .ok (.iload_n 3, 1) := by decide +kernel
theorem dX12_changes_118 : decode cX12_changes 118 = .ok (.iconst (-1), 1) := by decide +kernel
theorem dX12_changes_119 : decode cX12_changes 119 = .ok (.if_icmp .ne 20, 3) := by decide +kernel
theorem dX12_changes_122 : decode cX12_changes 122 = .ok (.aload_n 0, 1) := by decide +kernel
theorem dX12_changes_123 : decode cX12_changes 123 = .ok (.invokevirtual 380, 3) := by decide +kernel
theorem dX12_changes_126 : decode cX12_changes 126 = .ok (.ifCond .eq 13, 3) := by decide +kernel
theorem dX12_changes_129 : decode cX12_changes 129 = .ok (.aload_n 0, 1) := by decide +kernel
theorem dX12_changes_130 : decode cX12_changes 130 = .ok (.getfield 60, 3) := by decide +kernel
theorem dX12_changes_133 : decode cX12_changes 133 = .ok (.iload 6, 2) := by decide +kernel
theorem dX12_changes_135 : decode cX12_changes 135 = .ok (.iaload, 1) := by decide +kernel
theorem dX12_changes_136 : decode cX12_changes 136 = .ok (.goto 4, 3) := by decide +kernel
theorem dX12_changes_139 : decode cX12_changes 139 = .ok (.iload_n 3, 1) := by decide +kernel
theorem dX12_changes_140 : decode cX12_changes 140 = .ok (.istore_n 3, 1) := by decide +kernel
theorem dX12_changes_141 : decode cX12_changes 141 = .ok (.aload_n 0, 1) := by decide +kernel
theorem dX12_changes_142 : decode cX12_changes 142 = .ok (.iload 4, 2) := by decide +kernel
theorem dX12_changes_144 : decode cX12_changes 144 = .ok (.iconst 1, 1) := by decide +kernel
theorem dX12_changes_145 : decode cX12_changes 145 = .ok (.iadd, 1) := by decide +kernel
theorem dX12_changes_146 : decode cX12_changes 146 = .ok (.invokevirtual 384, 3) := by decide +kernel
theorem dX12_changes_149 : decode cX12_changes 149 = .ok (.ifCond .ne 8, 3) := by decide +kernel
theorem dX12_changes_152 : decode cX12_changes 152 = .ok (.iload 5, 2) := by decide +kernel
theorem dX12_changes_154 : decode cX12_changes 154 = .ok (.ifCond .eq 7, 3) := by decide +kernel
theorem dX12_changes_157 : decode cX12_changes 157 = .ok (.iconst 1, 1) := by decide +kernel
theorem dX12_changes_158 : decode cX12_changes 158 = .ok (.goto 4, 3) := by decide +kernel
theorem dX12_changes_161 : decode cX12_changes 161 = .ok (.iconst 0, 1) := by decide +kernel
theorem dX12_changes_162 : decode cX12_changes 162 = .ok (.istore 5, 2) := by decide +kernel
theorem dX12_changes_164 : decode cX12_changes 164 = .ok (.iinc 6 1, 3) := by decide +kernel
theorem dX12_changes_167 : decode cX12_changes 167 = .ok (.goto (-82), 3) := by decide +kernel
theorem dX12_changes_170 : decode cX12_changes 170 = .ok (.iload 4, 2) := by decide +kernel
theorem dX12_changes_172 : decode cX12_changes 172 = .ok (.iload_n 3, 1) := by decide +kernel
theorem dX12_changes_173 : decode cX12_changes 173 = .ok (.iconst (-1), 1) := by decide +kernel
theorem dX12_changes_174 : decode cX12_changes 174 = .ok (.if_icmp .ne 7, 3) := by decide +kernel
theorem dX12_changes_177 : decode cX12_changes 177 = .ok (.iconst 1, 1) := by decide +kernel
theorem dX12_changes_178 : decode cX12_changes 178 = .ok (.goto 4, 3) := by decide +kernel
theorem dX12_changes_181 : decode cX12_changes 181 = .ok (.iconst 0, 1) := by decide +kernel
theorem dX12_changes_182 : decode cX12_changes 182 = .ok (.iadd, 1) := by decide +kernel
theorem dX12_changes_183 : decode cX12_changes 183 = .ok (.istore 4, 2) := by decide +kernel
theorem dX12_changes_185 : decode cX12_changes 185 = .ok (.goto (-116), 3) := by decide +kernel
theorem dX12_changes_188 : decode cX12_changes 188 = .ok (.aload_n 0, 1) := by decide +kernel
theorem dX12_changes_189 : decode cX12_changes 189 = .ok (.iload_n 2, 1) := by decide +kernel
theorem dX12_changes_190 : decode cX12_changes 190 = .ok (.invokevirtual 300, 3) := by decide +kernel
theorem dX12_changes_193 : decode cX12_changes 193 = .ok (.iload_n 3, 1) := by decide +kernel
theorem dX12_changes_194 : decode cX12_changes 194 = .ok (.iconst (-1), 1) := by decide +kernel
theorem dX12_changes_195 : decode cX12_changes 195 = .ok (.if_icmp .eq 8, 3) := by decide +kernel
theorem dX12_changes_198 : decode cX12_changes 198 = .ok (.iload_n 1, 1) := by decide +kernel
theorem dX12_changes_199 : decode cX12_changes 199 = .ok (.iconst 1, 1) := by decide +kernel
theorem dX12_changes_200 : decode cX12_changes 200 = .ok (.if_icmp .ne 7, 3) := by decide +kernel
theorem dX12_changes_203 : decode cX12_changes 203 = .ok (.iload_n 3, 1) := by decide +kernel
theorem dX12_changes_204 : decode cX12_changes 204 = .ok (.goto 5, 3) := by decide +kernel
theorem dX12_changes_207 : decode cX12_changes 207 = .ok (.iload 4, 2) := by decide +kernel
theorem dX12_changes_209 : decode cX12_changes 209 = .ok (.ireturn, 1) := by decide +kernel
theorem dX12_reachOn_0 : decode cX12_reachOn 0 = .ok (.iconst 0, 1) := by decide +kernel
theorem dX12_reachOn_1 : decode cX12_reachOn 1 = .ok (.istore_n 2, 1) := by decide +kernel
theorem dX12_reachOn_2 : decode cX12_reachOn 2 = .ok (.iconst 0, 1) := by decide +kernel
theorem dX12_reachOn_3 : decode cX12_reachOn 3 = .ok (.istore_n 3, 1) := by decide +kernel
theorem dX12_reachOn_4 : decode cX12_reachOn 4 = .ok (.iload_n 3, 1) := by decide +kernel
theorem dX12_reachOn_5 : decode cX12_reachOn 5 = .ok (.aload_n 0, 1) := by decide +kernel
theorem dX12_reachOn_6 : decode cX12_reachOn 6 = .ok (.getfield 252, 3) := by decide +kernel
theorem dX12_reachOn_9 : decode cX12_reachOn 9 = .ok (.if_icmp .ge 67, 3) := by decide +kernel
theorem dX12_reachOn_12 : decode cX12_reachOn 12 = .ok (.aload_n 0, 1) := by decide +kernel
theorem dX12_reachOn_13 : decode cX12_reachOn 13 = .ok (.iload_n 3, 1) := by decide +kernel
theorem dX12_reachOn_14 : decode cX12_reachOn 14 = .ok (.invokevirtual 279, 3) := by decide +kernel
theorem dX12_reachOn_17 : decode cX12_reachOn 17 = .ok (.istore 4, 2) := by decide +kernel
theorem dX12_reachOn_19 : decode cX12_reachOn 19 = .ok (.iload 4, 2) := by decide +kernel
theorem dX12_reachOn_21 : decode cX12_reachOn 21 = .ok (.iconst (-1), 1) := by decide +kernel
theorem dX12_reachOn_22 : decode cX12_reachOn 22 = .ok (.if_icmp .eq 48, 3) := by decide +kernel
theorem dX12_reachOn_25 : decode cX12_reachOn 25 = .ok (.aload_n 0, 1) := by decide +kernel
theorem dX12_reachOn_26 : decode cX12_reachOn 26 = .ok (.iload_n 3, 1) := by decide +kernel
theorem dX12_reachOn_27 : decode cX12_reachOn 27 = .ok (.iload 4, 2) := by decide +kernel
theorem dX12_reachOn_29 : decode cX12_reachOn 29 = .ok (.invokevirtual 294, 3) := by decide +kernel
theorem dX12_reachOn_32 : decode cX12_reachOn 32 = .ok (.aload_n 0, 1) := by decide +kernel
theorem dX12_reachOn_33 : decode cX12_reachOn 33 = .ok (.aload_n 0, 1) := by decide +kernel
theorem dX12_reachOn_34 : decode cX12_reachOn 34 = .ok (.invokevirtual 368, 3) := by decide +kernel
theorem dX12_reachOn_37 : decode cX12_reachOn 37 = .ok (.invokevirtual 377, 3) := by decide +kernel
theorem dX12_reachOn_40 : decode cX12_reachOn 40 = .ok (.istore 5, 2) := by decide +kernel
theorem dX12_reachOn_42 : decode cX12_reachOn 42 = .ok (.aload_n 0, 1) := by decide +kernel
theorem dX12_reachOn_43 : decode cX12_reachOn 43 = .ok (.getfield 63, 3) := by decide +kernel
theorem dX12_reachOn_46 : decode cX12_reachOn 46 = .ok (.iload 5, 2) := by decide +kernel
theorem dX12_reachOn_48 : decode cX12_reachOn 48 = .ok (.iaload, 1) := by decide +kernel
theorem dX12_reachOn_49 : decode cX12_reachOn 49 = .ok (.iconst (-1), 1) := by decide +kernel
theorem dX12_reachOn_50 : decode cX12_reachOn 50 = .ok (.if_icmp .ne 13, 3) := by decide +kernel
theorem dX12_reachOn_53 : decode cX12_reachOn 53 = .ok (.aload_n 0, 1) := by decide +kernel
theorem dX12_reachOn_54 : decode cX12_reachOn 54 = .ok (.getfield 63, 3) := by decide +kernel
theorem dX12_reachOn_57 : decode cX12_reachOn 57 = .ok (.iload 5, 2) := by decide +kernel
theorem dX12_reachOn_59 : decode cX12_reachOn 59 = .ok (.iload_n 1, 1) := by decide +kernel
theorem dX12_reachOn_60 : decode cX12_reachOn 60 = .ok (.iastore, 1) := by decide +kernel
theorem dX12_reachOn_61 : decode cX12_reachOn 61 = .ok (.iconst 1, 1) := by decide +kernel
theorem dX12_reachOn_62 : decode cX12_reachOn 62 = .ok (.istore_n 2, 1) := by decide +kernel
theorem dX12_reachOn_63 : decode cX12_reachOn 63 = .ok (.aload_n 0, 1) := by decide +kernel
theorem dX12_reachOn_64 : decode cX12_reachOn 64 = .ok (.iload_n 3, 1) := by decide +kernel
theorem dX12_reachOn_65 : decode cX12_reachOn 65 = .ok (.iload 4, 2) := by decide +kernel
theorem dX12_reachOn_67 : decode cX12_reachOn 67 = .ok (.invokevirtual 294, 3) := by decide +kernel
theorem dX12_reachOn_70 : decode cX12_reachOn 70 = .ok (.iinc 3 1, 3) := by decide +kernel
theorem dX12_reachOn_73 : decode cX12_reachOn 73 = .ok (.goto (-69), 3) := by decide +kernel
theorem dX12_reachOn_76 : decode cX12_reachOn 76 = .ok (.iload_n 2, 1) := by decide +kernel
theorem dX12_reachOn_77 : decode cX12_reachOn 77 = .ok (.ireturn, 1) := by decide +kernel
theorem dX12_know_0 : decode cX12_know 0 = .ok (.iload_n 1, 1) := by decide +kernel
theorem dX12_know_1 : decode cX12_know 1 = .ok (.iconst 0, 1) := by decide +kernel
theorem dX12_know_2 : decode cX12_know 2 = .ok (.aload_n 0, 1) := by decide +kernel
theorem dX12_know_3 : decode cX12_know 3 = .ok (.getfield 252, 3) := by decide +kernel
theorem dX12_know_6 : decode cX12_know 6 = .ok (.iconst 1, 1) := by decide +kernel
theorem dX12_know_7 : decode cX12_know 7 = .ok (.isub, 1) := by decide +kernel
theorem dX12_know_8 : decode cX12_know 8 = .ok (.invokestatic 215, 3) := by decide +kernel
theorem dX12_know_11 : decode cX12_know 11 = .ok (.ifCond .eq 12, 3) := by decide +kernel
theorem dX12_know_14 : decode cX12_know 14 = .ok (.aload_n 0, 1) := by decide +kernel
theorem dX12_know_15 : decode cX12_know 15 = .ok (.getfield 261, 3) := by decide +kernel
theorem dX12_know_18 : decode cX12_know 18 = .ok (.bipush 20, 2) := by decide +kernel
theorem dX12_know_20 : decode cX12_know 20 = .ok (.if_icmp .ne 5, 3) := by decide +kernel
theorem dX12_know_23 : decode cX12_know 23 = .ok (.iconst (-1), 1) := by decide +kernel
theorem dX12_know_24 : decode cX12_know 24 = .ok (.ireturn, 1) := by decide +kernel
theorem dX12_know_25 : decode cX12_know 25 = .ok (.aload_n 0, 1) := by decide +kernel
theorem dX12_know_26 : decode cX12_know 26 = .ok (.getfield 66, 3) := by decide +kernel
theorem dX12_know_29 : decode cX12_know 29 = .ok (.aload_n 0, 1) := by decide +kernel
theorem dX12_know_30 : decode cX12_know 30 = .ok (.getfield 261, 3) := by decide +kernel
theorem dX12_know_33 : decode cX12_know 33 = .ok (.iload_n 1, 1) := by decide +kernel
theorem dX12_know_34 : decode cX12_know 34 = .ok (.iastore, 1) := by decide +kernel
theorem dX12_know_35 : decode cX12_know 35 = .ok (.aload_n 0, 1) := by decide +kernel
theorem dX12_know_36 : decode cX12_know 36 = .ok (.getfield 69, 3) := by decide +kernel
theorem dX12_know_39 : decode cX12_know 39 = .ok (.aload_n 0, 1) := by decide +kernel
theorem dX12_know_40 : decode cX12_know 40 = .ok (.getfield 261, 3) := by decide +kernel
theorem dX12_know_43 : decode cX12_know 43 = .ok (.iload_n 2, 1) := by decide +kernel
theorem dX12_know_44 : decode cX12_know 44 = .ok (.bastore, 1) := by decide +kernel
theorem dX12_know_45 : decode cX12_know 45 = .ok (.aload_n 0, 1) := by decide +kernel
theorem dX12_know_46 : decode cX12_know 46 = .ok (.dup, 1) := by decide +kernel
theorem dX12_know_47 : decode cX12_know 47 = .ok (.getfield 261, 3) := by decide +kernel
theorem dX12_know_50 : decode cX12_know 50 = .ok (.iconst 1, 1) := by decide +kernel
theorem dX12_know_51 : decode cX12_know 51 = .ok (.iadd, 1) := by decide +kernel
theorem dX12_know_52 : decode cX12_know 52 = .ok (.putfield 261, 3) := by decide +kernel
theorem dX12_know_55 : decode cX12_know 55 = .ok (.aload_n 0, 1) := by decide +kernel
theorem dX12_know_56 : decode cX12_know 56 = .ok (.getfield 261, 3) := by decide +kernel
theorem dX12_know_59 : decode cX12_know 59 = .ok (.ireturn, 1) := by decide +kernel
theorem dX12_laySpeaks_0 : decode cX12_laySpeaks 0 = .ok (.iconst 0, 1) := by decide +kernel
theorem dX12_laySpeaks_1 : decode cX12_laySpeaks 1 = .ok (.istore_n 1, 1) := by decide +kernel
theorem dX12_laySpeaks_2 : decode cX12_laySpeaks 2 = .ok (.iload_n 1, 1) := by decide +kernel
theorem dX12_laySpeaks_3 : decode cX12_laySpeaks 3 = .ok (.aload_n 0, 1) := by decide +kernel
theorem dX12_laySpeaks_4 : decode cX12_laySpeaks 4 = .ok (.getfield 252, 3) := by decide +kernel
theorem dX12_laySpeaks_7 : decode cX12_laySpeaks 7 = .ok (.if_icmp .ge 16, 3) := by decide +kernel
theorem dX12_laySpeaks_10 : decode cX12_laySpeaks 10 = .ok (.aload_n 0, 1) := by decide +kernel
theorem dX12_laySpeaks_11 : decode cX12_laySpeaks 11 = .ok (.getfield 73, 3) := by decide +kernel
theorem dX12_laySpeaks_14 : decode cX12_laySpeaks 14 = .ok (.iload_n 1, 1) := by decide +kernel
theorem dX12_laySpeaks_15 : decode cX12_laySpeaks 15 = .ok (.iconst (-1), 1) := by decide +kernel
theorem dX12_laySpeaks_16 : decode cX12_laySpeaks 16 = .ok (.iastore, 1) := by decide +kernel
theorem dX12_laySpeaks_17 : decode cX12_laySpeaks 17 = .ok (.iinc 1 1, 3) := by decide +kernel
theorem dX12_laySpeaks_20 : decode cX12_laySpeaks 20 = .ok (.goto (-18), 3) := by decide +kernel
theorem dX12_laySpeaks_23 : decode cX12_laySpeaks 23 = .ok (.iconst 0, 1) := by decide +kernel
theorem dX12_laySpeaks_24 : decode cX12_laySpeaks 24 = .ok (.istore_n 1, 1) := by decide +kernel
theorem dX12_laySpeaks_25 : decode cX12_laySpeaks 25 = .ok (.iload_n 1, 1) := by decide +kernel
theorem dX12_laySpeaks_26 : decode cX12_laySpeaks 26 = .ok (.aload_n 0, 1) := by decide +kernel
theorem dX12_laySpeaks_27 : decode cX12_laySpeaks 27 = .ok (.getfield 252, 3) := by decide +kernel
theorem dX12_laySpeaks_30 : decode cX12_laySpeaks 30 = .ok (.if_icmp .ge 32, 3) := by decide +kernel
theorem dX12_laySpeaks_33 : decode cX12_laySpeaks 33 = .ok (.aload_n 0, 1) := by decide +kernel
theorem dX12_laySpeaks_34 : decode cX12_laySpeaks 34 = .ok (.iload_n 1, 1) := by decide +kernel
theorem dX12_laySpeaks_35 : decode cX12_laySpeaks 35 = .ok (.invokevirtual 291, 3) := by decide +kernel
theorem dX12_laySpeaks_38 : decode cX12_laySpeaks 38 = .ok (.ifCond .eq 18, 3) := by decide +kernel
theorem dX12_laySpeaks_41 : decode cX12_laySpeaks 41 = .ok (.aload_n 0, 1) := by decide +kernel
theorem dX12_laySpeaks_42 : decode cX12_laySpeaks 42 = .ok (.getfield 73, 3) := by decide +kernel
theorem dX12_laySpeaks_45 : decode cX12_laySpeaks 45 = .ok (.aload_n 0, 1) := by decide +kernel
theorem dX12_laySpeaks_46 : decode cX12_laySpeaks 46 = .ok (.aload_n 0, 1) := by decide +kernel
theorem dX12_laySpeaks_47 : decode cX12_laySpeaks 47 = .ok (.iload_n 1, 1) := by decide +kernel
theorem dX12_laySpeaks_48 : decode cX12_laySpeaks 48 = .ok (.invokevirtual 282, 3) := by decide +kernel
theorem dX12_laySpeaks_51 : decode cX12_laySpeaks 51 = .ok (.invokevirtual 276, 3) := by decide +kernel
theorem dX12_laySpeaks_54 : decode cX12_laySpeaks 54 = .ok (.iload_n 1, 1) := by decide +kernel
theorem dX12_laySpeaks_55 : decode cX12_laySpeaks 55 = .ok (.iastore, 1) := by decide +kernel
theorem dX12_laySpeaks_56 : decode cX12_laySpeaks 56 = .ok (.iinc 1 1, 3) := by decide +kernel
theorem dX12_laySpeaks_59 : decode cX12_laySpeaks 59 = .ok (.goto (-34), 3) := by decide +kernel
theorem dX12_laySpeaks_62 : decode cX12_laySpeaks 62 = .ok (.return_, 1) := by decide +kernel
theorem dX12_agrees_0 : decode cX12_agrees 0 = .ok (.iconst 0, 1) := by decide +kernel
theorem dX12_agrees_1 : decode cX12_agrees 1 = .ok (.istore_n 2, 1) := by decide +kernel
theorem dX12_agrees_2 : decode cX12_agrees 2 = .ok (.iload_n 2, 1) := by decide +kernel
theorem dX12_agrees_3 : decode cX12_agrees 3 = .ok (.aload_n 0, 1) := by decide +kernel
theorem dX12_agrees_4 : decode cX12_agrees 4 = .ok (.getfield 261, 3) := by decide +kernel
theorem dX12_agrees_7 : decode cX12_agrees 7 = .ok (.if_icmp .ge 42, 3) := by decide +kernel
theorem dX12_agrees_10 : decode cX12_agrees 10 = .ok (.aload_n 0, 1) := by decide +kernel
theorem dX12_agrees_11 : decode cX12_agrees 11 = .ok (.getfield 73, 3) := by decide +kernel
theorem dX12_agrees_14 : decode cX12_agrees 14 = .ok (.aload_n 0, 1) := by decide +kernel
theorem dX12_agrees_15 : decode cX12_agrees 15 = .ok (.getfield 66, 3) := by decide +kernel
theorem dX12_agrees_18 : decode cX12_agrees 18 = .ok (.iload_n 2, 1) := by decide +kernel
theorem dX12_agrees_19 : decode cX12_agrees 19 = .ok (.iaload, 1) := by decide +kernel
theorem dX12_agrees_20 : decode cX12_agrees 20 = .ok (.iaload, 1) := by decide +kernel
theorem dX12_agrees_21 : decode cX12_agrees 21 = .ok (.istore_n 3, 1) := by decide +kernel
theorem dX12_agrees_22 : decode cX12_agrees 22 = .ok (.iload_n 3, 1) := by decide +kernel
theorem dX12_agrees_23 : decode cX12_agrees 23 = .ok (.iconst (-1), 1) := by decide +kernel
theorem dX12_agrees_24 : decode cX12_agrees 24 = .ok (.if_icmp .eq 17, 3) := by decide +kernel
theorem dX12_agrees_27 : decode cX12_agrees 27 = .ok (.iload_n 1, 1) := by decide +kernel
theorem dX12_agrees_28 : decode cX12_agrees 28 = .ok (.iload_n 3, 1) := by decide +kernel
theorem dX12_agrees_29 : decode cX12_agrees 29 = .ok (.invokestatic 228, 3) := by decide +kernel
theorem dX12_agrees_32 : decode cX12_agrees 32 = .ok (.aload_n 0, 1) := by decide +kernel
theorem dX12_agrees_33 : decode cX12_agrees 33 = .ok (.getfield 69, 3) := by decide +kernel
theorem dX12_agrees_36 : decode cX12_agrees 36 = .ok (.iload_n 2, 1) := by decide +kernel
theorem dX12_agrees_37 : decode cX12_agrees 37 = .ok (.baload, 1) := by decide +kernel
theorem dX12_agrees_38 : decode cX12_agrees 38 = .ok (.if_icmp .eq 5, 3) := by decide +kernel
theorem dX12_agrees_41 : decode cX12_agrees 41 = .ok (.iconst 0, 1) := by decide +kernel
theorem dX12_agrees_42 : decode cX12_agrees 42 = .ok (.ireturn, 1) := by decide +kernel
theorem dX12_agrees_43 : decode cX12_agrees 43 = .ok (.iinc 2 1, 3) := by decide +kernel
theorem dX12_agrees_46 : decode cX12_agrees 46 = .ok (.goto (-44), 3) := by decide +kernel
theorem dX12_agrees_49 : decode cX12_agrees 49 = .ok (.iconst 1, 1) := by decide +kernel
theorem dX12_agrees_50 : decode cX12_agrees 50 = .ok (.ireturn, 1) := by decide +kernel
theorem dX12_fits_0 : decode cX12_fits 0 = .ok (.aload_n 0, 1) := by decide +kernel
theorem dX12_fits_1 : decode cX12_fits 1 = .ok (.getfield 252, 3) := by decide +kernel
theorem dX12_fits_4 : decode cX12_fits 4 = .ok (.ifCond .eq 8, 3) := by decide +kernel
theorem dX12_fits_7 : decode cX12_fits 7 = .ok (.iload_n 1, 1) := by decide +kernel
theorem dX12_fits_8 : decode cX12_fits 8 = .ok (.iconst (-1), 1) := by decide +kernel
theorem dX12_fits_9 : decode cX12_fits 9 = .ok (.if_icmp .ge 5, 3) := by decide +kernel
theorem dX12_fits_12 : decode cX12_fits 12 = .ok (.iconst (-1), 1) := by decide +kernel
theorem dX12_fits_13 : decode cX12_fits 13 = .ok (.ireturn, 1) := by decide +kernel
theorem dX12_fits_14 : decode cX12_fits 14 = .ok (.aload_n 0, 1) := by decide +kernel
theorem dX12_fits_15 : decode cX12_fits 15 = .ok (.invokevirtual 387, 3) := by decide +kernel
theorem dX12_fits_18 : decode cX12_fits 18 = .ok (.iconst 0, 1) := by decide +kernel
theorem dX12_fits_19 : decode cX12_fits 19 = .ok (.istore_n 2, 1) := by decide +kernel
theorem dX12_fits_20 : decode cX12_fits 20 = .ok (.iconst 0, 1) := by decide +kernel
theorem dX12_fits_21 : decode cX12_fits 21 = .ok (.istore_n 3, 1) := by decide +kernel
theorem dX12_fits_22 : decode cX12_fits 22 = .ok (.iload_n 3, 1) := by decide +kernel
theorem dX12_fits_23 : decode cX12_fits 23 = .ok (.iconst 1, 1) := by decide +kernel
theorem dX12_fits_24 : decode cX12_fits 24 = .ok (.aload_n 0, 1) := by decide +kernel
theorem dX12_fits_25 : decode cX12_fits 25 = .ok (.getfield 252, 3) := by decide +kernel
theorem dX12_fits_28 : decode cX12_fits 28 = .ok (.ishl, 1) := by decide +kernel
theorem dX12_fits_29 : decode cX12_fits 29 = .ok (.if_icmp .ge 27, 3) := by decide +kernel
theorem dX12_fits_32 : decode cX12_fits 32 = .ok (.aload_n 0, 1) := by decide +kernel
theorem dX12_fits_33 : decode cX12_fits 33 = .ok (.iload_n 3, 1) := by decide +kernel
theorem dX12_fits_34 : decode cX12_fits 34 = .ok (.invokevirtual 390, 3) := by decide +kernel
theorem dX12_fits_37 : decode cX12_fits 37 = .ok (.ifCond .eq 13, 3) := by decide +kernel
theorem dX12_fits_40 : decode cX12_fits 40 = .ok (.iload_n 2, 1) := by decide +kernel
theorem dX12_fits_41 : decode cX12_fits 41 = .ok (.iload_n 1, 1) := by decide +kernel
theorem dX12_fits_42 : decode cX12_fits 42 = .ok (.if_icmp .ne 5, 3) := by decide +kernel
theorem dX12_fits_45 : decode cX12_fits 45 = .ok (.iload_n 3, 1) := by decide +kernel
theorem dX12_fits_46 : decode cX12_fits 46 = .ok (.ireturn, 1) := by decide +kernel
theorem dX12_fits_47 : decode cX12_fits 47 = .ok (.iinc 2 1, 3) := by decide +kernel
theorem dX12_fits_50 : decode cX12_fits 50 = .ok (.iinc 3 1, 3) := by decide +kernel
theorem dX12_fits_53 : decode cX12_fits 53 = .ok (.goto (-31), 3) := by decide +kernel
theorem dX12_fits_56 : decode cX12_fits 56 = .ok (.iload_n 1, 1) := by decide +kernel
theorem dX12_fits_57 : decode cX12_fits 57 = .ok (.iconst (-1), 1) := by decide +kernel
theorem dX12_fits_58 : decode cX12_fits 58 = .ok (.if_icmp .ne 7, 3) := by decide +kernel
theorem dX12_fits_61 : decode cX12_fits 61 = .ok (.iload_n 2, 1) := by decide +kernel
theorem dX12_fits_62 : decode cX12_fits 62 = .ok (.goto 4, 3) := by decide +kernel
theorem dX12_fits_65 : decode cX12_fits 65 = .ok (.iconst (-1), 1) := by decide +kernel
theorem dX12_fits_66 : decode cX12_fits 66 = .ok (.ireturn, 1) := by decide +kernel
theorem dX12_sure_0 : decode cX12_sure 0 = .ok (.aload_n 0, 1) := by decide +kernel
theorem dX12_sure_1 : decode cX12_sure 1 = .ok (.getfield 252, 3) := by decide +kernel
theorem dX12_sure_4 : decode cX12_sure 4 = .ok (.ifCond .ne 5, 3) := by decide +kernel
theorem dX12_sure_7 : decode cX12_sure 7 = .ok (.iconst (-1), 1) := by decide +kernel
theorem dX12_sure_8 : decode cX12_sure 8 = .ok (.ireturn, 1) := by decide +kernel
theorem dX12_sure_9 : decode cX12_sure 9 = .ok (.aload_n 0, 1) := by decide +kernel
theorem dX12_sure_10 : decode cX12_sure 10 = .ok (.invokevirtual 387, 3) := by decide +kernel
theorem dX12_sure_13 : decode cX12_sure 13 = .ok (.iconst 1, 1) := by decide +kernel
theorem dX12_sure_14 : decode cX12_sure 14 = .ok (.aload_n 0, 1) := by decide +kernel
theorem dX12_sure_15 : decode cX12_sure 15 = .ok (.getfield 252, 3) := by decide +kernel
theorem dX12_sure_18 : decode cX12_sure 18 = .ok (.ishl, 1) := by decide +kernel
theorem dX12_sure_19 : decode cX12_sure 19 = .ok (.iconst 1, 1) := by decide +kernel
theorem dX12_sure_20 : decode cX12_sure 20 = .ok (.isub, 1) := by decide +kernel
theorem dX12_sure_21 : decode cX12_sure 21 = .ok (.istore_n 2, 1) := by decide +kernel
theorem dX12_sure_22 : decode cX12_sure 22 = .ok (.iload_n 2, 1) := by decide +kernel
theorem dX12_sure_23 : decode cX12_sure 23 = .ok (.istore_n 3, 1) := by decide +kernel
theorem dX12_sure_24 : decode cX12_sure 24 = .ok (.iconst 0, 1) := by decide +kernel
theorem dX12_sure_25 : decode cX12_sure 25 = .ok (.istore 4, 2) := by decide +kernel
theorem dX12_sure_27 : decode cX12_sure 27 = .ok (.iconst 0, 1) := by decide +kernel
theorem dX12_sure_28 : decode cX12_sure 28 = .ok (.istore 5, 2) := by decide +kernel
theorem dX12_sure_30 : decode cX12_sure 30 = .ok (.iload 5, 2) := by decide +kernel
theorem dX12_sure_32 : decode cX12_sure 32 = .ok (.iconst 1, 1) := by decide +kernel
theorem dX12_sure_33 : decode cX12_sure 33 = .ok (.aload_n 0, 1) := by decide +kernel
theorem dX12_sure_34 : decode cX12_sure 34 = .ok (.getfield 252, 3) := by decide +kernel
theorem dX12_sure_37 : decode cX12_sure 37 = .ok (.ishl, 1) := by decide +kernel
theorem dX12_sure_38 : decode cX12_sure 38 = .ok (.if_icmp .ge 37, 3) := by decide +kernel
theorem dX12_sure_41 : decode cX12_sure 41 = .ok (.aload_n 0, 1) := by decide +kernel
theorem dX12_sure_42 : decode cX12_sure 42 = .ok (.iload 5, 2) := by decide +kernel
theorem dX12_sure_44 : decode cX12_sure 44 = .ok (.invokevirtual 390, 3) := by decide +kernel
theorem dX12_sure_47 : decode cX12_sure 47 = .ok (.ifCond .eq 22, 3) := by decide +kernel
theorem dX12_sure_50 : decode cX12_sure 50 = .ok (.iconst 1, 1) := by decide +kernel
theorem dX12_sure_51 : decode cX12_sure 51 = .ok (.istore 4, 2) := by decide +kernel
theorem dX12_sure_53 : decode cX12_sure 53 = .ok (.iload_n 3, 1) := by decide +kernel
theorem dX12_sure_54 : decode cX12_sure 54 = .ok (.iload_n 1, 1) := by decide +kernel
theorem dX12_sure_55 : decode cX12_sure 55 = .ok (.ifCond .eq 8, 3) := by decide +kernel
theorem dX12_sure_58 : decode cX12_sure 58 = .ok (.iload 5, 2) := by decide +kernel
theorem dX12_sure_60 : decode cX12_sure 60 = .ok (.goto 7, 3) := by decide +kernel
theorem dX12_sure_63 : decode cX12_sure 63 = .ok (.iload 5, 2) := by decide +kernel
theorem dX12_sure_65 : decode cX12_sure 65 = .ok (.iconst (-1), 1) := by decide +kernel
theorem dX12_sure_66 : decode cX12_sure 66 = .ok (.ixor, 1) := by decide +kernel
theorem dX12_sure_67 : decode cX12_sure 67 = .ok (.iand, 1) := by decide +kernel
theorem dX12_sure_68 : decode cX12_sure 68 = .ok (.istore_n 3, 1) := by decide +kernel
theorem dX12_sure_69 : decode cX12_sure 69 = .ok (.iinc 5 1, 3) := by decide +kernel
theorem dX12_sure_72 : decode cX12_sure 72 = .ok (.goto (-42), 3) := by decide +kernel
theorem dX12_sure_75 : decode cX12_sure 75 = .ok (.iload 4, 2) := by decide +kernel
theorem dX12_sure_77 : decode cX12_sure 77 = .ok (.ifCond .eq 7, 3) := by decide +kernel
theorem dX12_sure_80 : decode cX12_sure 80 = .ok (.iload_n 3, 1) := by decide +kernel
theorem dX12_sure_81 : decode cX12_sure 81 = .ok (.goto 4, 3) := by decide +kernel
theorem dX12_sure_84 : decode cX12_sure 84 = .ok (.iconst (-1), 1) := by decide +kernel
theorem dX12_sure_85 : decode cX12_sure 85 = .ok (.ireturn, 1) := by decide +kernel
theorem dX12_seed_0 : decode cX12_seed 0 = .ok (.aload_n 0, 1) := by decide +kernel
theorem dX12_seed_1 : decode cX12_seed 1 = .ok (.lload_n 1, 1) := by decide +kernel
theorem dX12_seed_2 : decode cX12_seed 2 = .ok (.putfield 393, 3) := by decide +kernel
theorem dX12_seed_5 : decode cX12_seed 5 = .ok (.iconst 1, 1) := by decide +kernel
theorem dX12_seed_6 : decode cX12_seed 6 = .ok (.ireturn, 1) := by decide +kernel
theorem dX12_sitting_0 : decode cX12_sitting 0 = .ok (.aload_n 0, 1) := by decide +kernel
theorem dX12_sitting_1 : decode cX12_sitting 1 = .ok (.getfield 252, 3) := by decide +kernel
theorem dX12_sitting_4 : decode cX12_sitting 4 = .ok (.ifCond .eq 12, 3) := by decide +kernel
theorem dX12_sitting_7 : decode cX12_sitting 7 = .ok (.aload_n 0, 1) := by decide +kernel
theorem dX12_sitting_8 : decode cX12_sitting 8 = .ok (.getfield 264, 3) := by decide +kernel
theorem dX12_sitting_11 : decode cX12_sitting 11 = .ok (.bipush 40, 2) := by decide +kernel
theorem dX12_sitting_13 : decode cX12_sitting 13 = .ok (.if_icmp .ne 5, 3) := by decide +kernel
theorem dX12_sitting_16 : decode cX12_sitting 16 = .ok (.iconst (-1), 1) := by decide +kernel
theorem dX12_sitting_17 : decode cX12_sitting 17 = .ok (.ireturn, 1) := by decide +kernel
theorem dX12_sitting_18 : decode cX12_sitting 18 = .ok (.aload_n 0, 1) := by decide +kernel
theorem dX12_sitting_19 : decode cX12_sitting 19 = .ok (.getfield 82, 3) := by decide +kernel
theorem dX12_sitting_22 : decode cX12_sitting 22 = .ok (.aload_n 0, 1) := by decide +kernel
theorem dX12_sitting_23 : decode cX12_sitting 23 = .ok (.getfield 264, 3) := by decide +kernel
theorem dX12_sitting_26 : decode cX12_sitting 26 = .ok (.aload_n 0, 1) := by decide +kernel
theorem dX12_sitting_27 : decode cX12_sitting 27 = .ok (.getfield 393, 3) := by decide +kernel
theorem dX12_sitting_30 : decode cX12_sitting 30 = .ok (.lastore, 1) := by decide +kernel
theorem dX12_sitting_31 : decode cX12_sitting 31 = .ok (.iconst 0, 1) := by decide +kernel
theorem dX12_sitting_32 : decode cX12_sitting 32 = .ok (.istore_n 1, 1) := by decide +kernel
theorem dX12_sitting_33 : decode cX12_sitting 33 = .ok (.iconst 0, 1) := by decide +kernel
theorem dX12_sitting_34 : decode cX12_sitting 34 = .ok (.istore_n 2, 1) := by decide +kernel
theorem dX12_sitting_35 : decode cX12_sitting 35 = .ok (.iload_n 2, 1) := by decide +kernel
theorem dX12_sitting_36 : decode cX12_sitting 36 = .ok (.aload_n 0, 1) := by decide +kernel
theorem dX12_sitting_37 : decode cX12_sitting 37 = .ok (.getfield 252, 3) := by decide +kernel
theorem dX12_sitting_40 : decode cX12_sitting 40 = .ok (.if_icmp .ge 91, 3) := by decide +kernel
theorem dX12_sitting_43 : decode cX12_sitting 43 = .ok (.aload_n 0, 1) := by decide +kernel
theorem dX12_sitting_44 : decode cX12_sitting 44 = .ok (.iload_n 2, 1) := by decide +kernel
theorem dX12_sitting_45 : decode cX12_sitting 45 = .ok (.invokevirtual 291, 3) := by decide +kernel
theorem dX12_sitting_48 : decode cX12_sitting 48 = .ok (.ifCond .eq 77, 3) := by decide +kernel
theorem dX12_sitting_51 : decode cX12_sitting 51 = .ok (.aload_n 0, 1) := by decide +kernel
theorem dX12_sitting_52 : decode cX12_sitting 52 = .ok (.aload_n 0, 1) := by decide +kernel
theorem dX12_sitting_53 : decode cX12_sitting 53 = .ok (.getfield 393, 3) := by decide +kernel
theorem dX12_sitting_56 : decode cX12_sitting 56 = .ok (.ldc2_w 396, 3) := by decide +kernel
theorem dX12_sitting_59 : decode cX12_sitting 59 = .ok (.lmul, 1) := by decide +kernel
theorem dX12_sitting_60 : decode cX12_sitting 60 = .ok (.ldc2_w 398, 3) := by decide +kernel
theorem dX12_sitting_63 : decode cX12_sitting 63 = .ok (.ladd, 1) := by decide +kernel
theorem dX12_sitting_64 : decode cX12_sitting 64 = .ok (.putfield 393, 3) := by decide +kernel
theorem dX12_sitting_67 : decode cX12_sitting 67 = .ok (.aload_n 0, 1) := by decide +kernel
theorem dX12_sitting_68 : decode cX12_sitting 68 = .ok (.getfield 393, 3) := by decide +kernel
theorem dX12_sitting_71 : decode cX12_sitting 71 = .ok (.bipush 33, 2) := by decide +kernel
theorem dX12_sitting_73 : decode cX12_sitting 73 = .ok (.lushr, 1) := by decide +kernel
theorem dX12_sitting_74 : decode cX12_sitting 74 = .ok (.ldc2_w 319, 3) := by decide +kernel
theorem dX12_sitting_77 : decode cX12_sitting 77 = .ok (.lrem, 1) := by decide +kernel
theorem dX12_sitting_78 : decode cX12_sitting 78 = .ok (.aload_n 0, 1) := by decide +kernel
theorem dX12_sitting_79 : decode cX12_sitting 79 = .ok (.aload_n 0, 1) := by decide +kernel
theorem dX12_sitting_80 : decode cX12_sitting 80 = .ok (.iload_n 2, 1) := by decide +kernel
theorem dX12_sitting_81 : decode cX12_sitting 81 = .ok (.invokevirtual 282, 3) := by decide +kernel
theorem dX12_sitting_84 : decode cX12_sitting 84 = .ok (.invokevirtual 316, 3) := by decide +kernel
theorem dX12_sitting_87 : decode cX12_sitting 87 = .ok (.i2l, 1) := by decide +kernel
theorem dX12_sitting_88 : decode cX12_sitting 88 = .ok (.lcmp, 1) := by decide +kernel
theorem dX12_sitting_89 : decode cX12_sitting 89 = .ok (.ifCond .ge 7, 3) := by decide +kernel
theorem dX12_sitting_92 : decode cX12_sitting 92 = .ok (.iconst 1, 1) := by decide +kernel
theorem dX12_sitting_93 : decode cX12_sitting 93 = .ok (.goto 4, 3) := by decide +kernel
theorem dX12_sitting_96 : decode cX12_sitting 96 = .ok (.iconst 0, 1) := by decide +kernel
theorem dX12_sitting_97 : decode cX12_sitting 97 = .ok (.istore_n 3, 1) := by decide +kernel
theorem dX12_sitting_98 : decode cX12_sitting 98 = .ok (.iload_n 1, 1) := by decide +kernel
theorem dX12_sitting_99 : decode cX12_sitting 99 = .ok (.aload_n 0, 1) := by decide +kernel
theorem dX12_sitting_100 : decode cX12_sitting 100 = .ok (.iload_n 2, 1) := by decide +kernel
theorem dX12_sitting_101 : decode cX12_sitting 101 = .ok (.iconst 0, 1) := by decide +kernel
theorem dX12_sitting_102 : decode cX12_sitting 102 = .ok (.invokevirtual 258, 3) := by decide +kernel
theorem dX12_sitting_105 : decode cX12_sitting 105 = .ok (.iconst 1, 1) := by decide +kernel
theorem dX12_sitting_106 : decode cX12_sitting 106 = .ok (.if_icmp .ne 7, 3) := by decide +kernel
theorem dX12_sitting_109 : decode cX12_sitting 109 = .ok (.iconst 1, 1) := by decide +kernel
theorem dX12_sitting_110 : decode cX12_sitting 110 = .ok (.goto 4, 3) := by decide +kernel
theorem dX12_sitting_113 : decode cX12_sitting 113 = .ok (.iconst 0, 1) := by decide +kernel
theorem dX12_sitting_114 : decode cX12_sitting 114 = .ok (.iload_n 3, 1) := by decide +kernel
theorem dX12_sitting_115 : decode cX12_sitting 115 = .ok (.if_icmp .eq 7, 3) := by decide +kernel
theorem dX12_sitting_118 : decode cX12_sitting 118 = .ok (.iconst 1, 1) := by decide +kernel
theorem dX12_sitting_119 : decode cX12_sitting 119 = .ok (.goto 4, 3) := by decide +kernel
theorem dX12_sitting_122 : decode cX12_sitting 122 = .ok (.iconst 0, 1) := by decide +kernel
theorem dX12_sitting_123 : decode cX12_sitting 123 = .ok (.iadd, 1) := by decide +kernel
theorem dX12_sitting_124 : decode cX12_sitting 124 = .ok (.istore_n 1, 1) := by decide +kernel
theorem dX12_sitting_125 : decode cX12_sitting 125 = .ok (.iinc 2 1, 3) := by decide +kernel
theorem dX12_sitting_128 : decode cX12_sitting 128 = .ok (.goto (-93), 3) := by decide +kernel
theorem dX12_sitting_131 : decode cX12_sitting 131 = .ok (.aload_n 0, 1) := by decide +kernel
theorem dX12_sitting_132 : decode cX12_sitting 132 = .ok (.getfield 76, 3) := by decide +kernel
theorem dX12_sitting_135 : decode cX12_sitting 135 = .ok (.aload_n 0, 1) := by decide +kernel
theorem dX12_sitting_136 : decode cX12_sitting 136 = .ok (.getfield 264, 3) := by decide +kernel
theorem dX12_sitting_139 : decode cX12_sitting 139 = .ok (.iload_n 1, 1) := by decide +kernel
theorem dX12_sitting_140 : decode cX12_sitting 140 = .ok (.iastore, 1) := by decide +kernel
theorem dX12_sitting_141 : decode cX12_sitting 141 = .ok (.aload_n 0, 1) := by decide +kernel
theorem dX12_sitting_142 : decode cX12_sitting 142 = .ok (.getfield 79, 3) := by decide +kernel
theorem dX12_sitting_145 : decode cX12_sitting 145 = .ok (.aload_n 0, 1) := by decide +kernel
theorem dX12_sitting_146 : decode cX12_sitting 146 = .ok (.getfield 264, 3) := by decide +kernel
theorem dX12_sitting_149 : decode cX12_sitting 149 = .ok (.iconst 2, 1) := by decide +kernel
theorem dX12_sitting_150 : decode cX12_sitting 150 = .ok (.iload_n 1, 1) := by decide +kernel
theorem dX12_sitting_151 : decode cX12_sitting 151 = .ok (.imul, 1) := by decide +kernel
theorem dX12_sitting_152 : decode cX12_sitting 152 = .ok (.aload_n 0, 1) := by decide +kernel
theorem dX12_sitting_153 : decode cX12_sitting 153 = .ok (.invokevirtual 326, 3) := by decide +kernel
theorem dX12_sitting_156 : decode cX12_sitting 156 = .ok (.if_icmp .le 7, 3) := by decide +kernel
theorem dX12_sitting_159 : decode cX12_sitting 159 = .ok (.iconst 1, 1) := by decide +kernel
theorem dX12_sitting_160 : decode cX12_sitting 160 = .ok (.goto 4, 3) := by decide +kernel
theorem dX12_sitting_163 : decode cX12_sitting 163 = .ok (.iconst 0, 1) := by decide +kernel
theorem dX12_sitting_164 : decode cX12_sitting 164 = .ok (.bastore, 1) := by decide +kernel
theorem dX12_sitting_165 : decode cX12_sitting 165 = .ok (.aload_n 0, 1) := by decide +kernel
theorem dX12_sitting_166 : decode cX12_sitting 166 = .ok (.dup, 1) := by decide +kernel
theorem dX12_sitting_167 : decode cX12_sitting 167 = .ok (.getfield 264, 3) := by decide +kernel
theorem dX12_sitting_170 : decode cX12_sitting 170 = .ok (.iconst 1, 1) := by decide +kernel
theorem dX12_sitting_171 : decode cX12_sitting 171 = .ok (.iadd, 1) := by decide +kernel
theorem dX12_sitting_172 : decode cX12_sitting 172 = .ok (.putfield 264, 3) := by decide +kernel
theorem dX12_sitting_175 : decode cX12_sitting 175 = .ok (.iload_n 1, 1) := by decide +kernel
theorem dX12_sitting_176 : decode cX12_sitting 176 = .ok (.ireturn, 1) := by decide +kernel
theorem dX12_sat_0 : decode cX12_sat 0 = .ok (.iload_n 1, 1) := by decide +kernel
theorem dX12_sat_1 : decode cX12_sat 1 = .ok (.iconst 0, 1) := by decide +kernel
theorem dX12_sat_2 : decode cX12_sat 2 = .ok (.aload_n 0, 1) := by decide +kernel
theorem dX12_sat_3 : decode cX12_sat 3 = .ok (.getfield 264, 3) := by decide +kernel
theorem dX12_sat_6 : decode cX12_sat 6 = .ok (.iconst 1, 1) := by decide +kernel
theorem dX12_sat_7 : decode cX12_sat 7 = .ok (.isub, 1) := by decide +kernel
theorem dX12_sat_8 : decode cX12_sat 8 = .ok (.invokestatic 215, 3) := by decide +kernel
theorem dX12_sat_11 : decode cX12_sat 11 = .ok (.ifCond .eq 12, 3) := by decide +kernel
theorem dX12_sat_14 : decode cX12_sat 14 = .ok (.iload_n 2, 1) := by decide +kernel
theorem dX12_sat_15 : decode cX12_sat 15 = .ok (.iconst 0, 1) := by decide +kernel
theorem dX12_sat_16 : decode cX12_sat 16 = .ok (.iconst 1, 1) := by decide +kernel
theorem dX12_sat_17 : decode cX12_sat 17 = .ok (.invokestatic 215, 3) := by decide +kernel
theorem dX12_sat_20 : decode cX12_sat 20 = .ok (.ifCond .ne 7, 3) := by decide +kernel
theorem dX12_sat_23 : decode cX12_sat 23 = .ok (.iconst (-1), 1) := by decide +kernel
theorem dX12_sat_24 : decode cX12_sat 24 = .ok (.goto 30, 3) := by decide +kernel
theorem dX12_sat_27 : decode cX12_sat 27 = .ok (.iload_n 2, 1) := by decide +kernel
theorem dX12_sat_28 : decode cX12_sat 28 = .ok (.ifCond .ne 12, 3) := by decide +kernel
theorem dX12_sat_31 : decode cX12_sat 31 = .ok (.aload_n 0, 1) := by decide +kernel
theorem dX12_sat_32 : decode cX12_sat 32 = .ok (.getfield 76, 3) := by decide +kernel
theorem dX12_sat_35 : decode cX12_sat 35 = .ok (.iload_n 1, 1) := by decide +kernel
theorem dX12_sat_36 : decode cX12_sat 36 = .ok (.iaload, 1) := by decide +kernel
theorem dX12_sat_37 : decode cX12_sat 37 = .ok (.goto 17, 3) := by decide +kernel
theorem dX12_sat_40 : decode cX12_sat 40 = .ok (.aload_n 0, 1) := by decide +kernel
theorem dX12_sat_41 : decode cX12_sat 41 = .ok (.getfield 79, 3) := by decide +kernel
theorem dX12_sat_44 : decode cX12_sat 44 = .ok (.iload_n 1, 1) := by decide +kernel
theorem dX12_sat_45 : decode cX12_sat 45 = .ok (.baload, 1) := by decide +kernel
theorem dX12_sat_46 : decode cX12_sat 46 = .ok (.ifCond .eq 7, 3) := by decide +kernel
theorem dX12_sat_49 : decode cX12_sat 49 = .ok (.iconst 1, 1) := by decide +kernel
theorem dX12_sat_50 : decode cX12_sat 50 = .ok (.goto 4, 3) := by decide +kernel
theorem dX12_sat_53 : decode cX12_sat 53 = .ok (.iconst 0, 1) := by decide +kernel
theorem dX12_sat_54 : decode cX12_sat 54 = .ok (.ireturn, 1) := by decide +kernel
theorem dX12_undo_0 : decode cX12_undo 0 = .ok (.aload_n 0, 1) := by decide +kernel
theorem dX12_undo_1 : decode cX12_undo 1 = .ok (.getfield 264, 3) := by decide +kernel
theorem dX12_undo_4 : decode cX12_undo 4 = .ok (.ifCond .ne 5, 3) := by decide +kernel
theorem dX12_undo_7 : decode cX12_undo 7 = .ok (.iconst (-1), 1) := by decide +kernel
theorem dX12_undo_8 : decode cX12_undo 8 = .ok (.ireturn, 1) := by decide +kernel
theorem dX12_undo_9 : decode cX12_undo 9 = .ok (.aload_n 0, 1) := by decide +kernel
theorem dX12_undo_10 : decode cX12_undo 10 = .ok (.dup, 1) := by decide +kernel
theorem dX12_undo_11 : decode cX12_undo 11 = .ok (.getfield 264, 3) := by decide +kernel
theorem dX12_undo_14 : decode cX12_undo 14 = .ok (.iconst 1, 1) := by decide +kernel
theorem dX12_undo_15 : decode cX12_undo 15 = .ok (.isub, 1) := by decide +kernel
theorem dX12_undo_16 : decode cX12_undo 16 = .ok (.putfield 264, 3) := by decide +kernel
theorem dX12_undo_19 : decode cX12_undo 19 = .ok (.aload_n 0, 1) := by decide +kernel
theorem dX12_undo_20 : decode cX12_undo 20 = .ok (.aload_n 0, 1) := by decide +kernel
theorem dX12_undo_21 : decode cX12_undo 21 = .ok (.getfield 82, 3) := by decide +kernel
theorem dX12_undo_24 : decode cX12_undo 24 = .ok (.aload_n 0, 1) := by decide +kernel
theorem dX12_undo_25 : decode cX12_undo 25 = .ok (.getfield 264, 3) := by decide +kernel
theorem dX12_undo_28 : decode cX12_undo 28 = .ok (.laload, 1) := by decide +kernel
theorem dX12_undo_29 : decode cX12_undo 29 = .ok (.putfield 393, 3) := by decide +kernel
theorem dX12_undo_32 : decode cX12_undo 32 = .ok (.aload_n 0, 1) := by decide +kernel
theorem dX12_undo_33 : decode cX12_undo 33 = .ok (.getfield 264, 3) := by decide +kernel
theorem dX12_undo_36 : decode cX12_undo 36 = .ok (.ireturn, 1) := by decide +kernel
theorem dX12_image_0 : decode cX12_image 0 = .ok (.aload_n 0, 1) := by decide +kernel
theorem dX12_image_1 : decode cX12_image 1 = .ok (.getfield 252, 3) := by decide +kernel
theorem dX12_image_4 : decode cX12_image 4 = .ok (.ifCond .ne 5, 3) := by decide +kernel
theorem dX12_image_7 : decode cX12_image 7 = .ok (.iconst (-1), 1) := by decide +kernel
theorem dX12_image_8 : decode cX12_image 8 = .ok (.ireturn, 1) := by decide +kernel
theorem dX12_image_9 : decode cX12_image 9 = .ok (.iconst 0, 1) := by decide +kernel
theorem dX12_image_10 : decode cX12_image 10 = .ok (.istore_n 1, 1) := by decide +kernel
theorem dX12_image_11 : decode cX12_image 11 = .ok (.iload_n 1, 1) := by decide +kernel
theorem dX12_image_12 : decode cX12_image 12 = .ok (.bipush 7, 2) := by decide +kernel
theorem dX12_image_14 : decode cX12_image 14 = .ok (.if_icmp .ge 51, 3) := by decide +kernel
theorem dX12_image_17 : decode cX12_image 17 = .ok (.aload_n 0, 1) := by decide +kernel
theorem dX12_image_18 : decode cX12_image 18 = .ok (.getfield 85, 3) := by decide +kernel
theorem dX12_image_21 : decode cX12_image 21 = .ok (.iload_n 1, 1) := by decide +kernel
theorem dX12_image_22 : decode cX12_image 22 = .ok (.aload_n 0, 1) := by decide +kernel
theorem dX12_image_23 : decode cX12_image 23 = .ok (.getfield 46, 3) := by decide +kernel
theorem dX12_image_26 : decode cX12_image 26 = .ok (.iload_n 1, 1) := by decide +kernel
theorem dX12_image_27 : decode cX12_image 27 = .ok (.iaload, 1) := by decide +kernel
theorem dX12_image_28 : decode cX12_image 28 = .ok (.iastore, 1) := by decide +kernel
theorem dX12_image_29 : decode cX12_image 29 = .ok (.aload_n 0, 1) := by decide +kernel
theorem dX12_image_30 : decode cX12_image 30 = .ok (.getfield 88, 3) := by decide +kernel
theorem dX12_image_33 : decode cX12_image 33 = .ok (.iconst 2, 1) := by decide +kernel
theorem dX12_image_34 : decode cX12_image 34 = .ok (.iload_n 1, 1) := by decide +kernel
theorem dX12_image_35 : decode cX12_image 35 = .ok (.imul, 1) := by decide +kernel
theorem dX12_image_36 : decode cX12_image 36 = .ok (.aload_n 0, 1) := by decide +kernel
theorem dX12_image_37 : decode cX12_image 37 = .ok (.iload_n 1, 1) := by decide +kernel
theorem dX12_image_38 : decode cX12_image 38 = .ok (.iconst 0, 1) := by decide +kernel
theorem dX12_image_39 : decode cX12_image 39 = .ok (.invokevirtual 258, 3) := by decide +kernel
theorem dX12_image_42 : decode cX12_image 42 = .ok (.iastore, 1) := by decide +kernel
theorem dX12_image_43 : decode cX12_image 43 = .ok (.aload_n 0, 1) := by decide +kernel
theorem dX12_image_44 : decode cX12_image 44 = .ok (.getfield 88, 3) := by decide +kernel
theorem dX12_image_47 : decode cX12_image 47 = .ok (.iconst 2, 1) := by decide +kernel
theorem dX12_image_48 : decode cX12_image 48 = .ok (.iload_n 1, 1) := by decide +kernel
theorem dX12_image_49 : decode cX12_image 49 = .ok (.imul, 1) := by decide +kernel
theorem dX12_image_50 : decode cX12_image 50 = .ok (.iconst 1, 1) := by decide +kernel
theorem dX12_image_51 : decode cX12_image 51 = .ok (.iadd, 1) := by decide +kernel
theorem dX12_image_52 : decode cX12_image 52 = .ok (.aload_n 0, 1) := by decide +kernel
theorem dX12_image_53 : decode cX12_image 53 = .ok (.iload_n 1, 1) := by decide +kernel
theorem dX12_image_54 : decode cX12_image 54 = .ok (.iconst 3, 1) := by decide +kernel
theorem dX12_image_55 : decode cX12_image 55 = .ok (.invokevirtual 258, 3) := by decide +kernel
theorem dX12_image_58 : decode cX12_image 58 = .ok (.iastore, 1) := by decide +kernel
theorem dX12_image_59 : decode cX12_image 59 = .ok (.iinc 1 1, 3) := by decide +kernel
theorem dX12_image_62 : decode cX12_image 62 = .ok (.goto (-51), 3) := by decide +kernel
theorem dX12_image_65 : decode cX12_image 65 = .ok (.iconst 0, 1) := by decide +kernel
theorem dX12_image_66 : decode cX12_image 66 = .ok (.istore_n 1, 1) := by decide +kernel
theorem dX12_image_67 : decode cX12_image 67 = .ok (.iload_n 1, 1) := by decide +kernel
theorem dX12_image_68 : decode cX12_image 68 = .ok (.bipush 40, 2) := by decide +kernel
theorem dX12_image_70 : decode cX12_image 70 = .ok (.if_icmp .ge 45, 3) := by decide +kernel
theorem dX12_image_73 : decode cX12_image 73 = .ok (.aload_n 0, 1) := by decide +kernel
theorem dX12_image_74 : decode cX12_image 74 = .ok (.getfield 91, 3) := by decide +kernel
theorem dX12_image_77 : decode cX12_image 77 = .ok (.iload_n 1, 1) := by decide +kernel
theorem dX12_image_78 : decode cX12_image 78 = .ok (.aload_n 0, 1) := by decide +kernel
theorem dX12_image_79 : decode cX12_image 79 = .ok (.getfield 76, 3) := by decide +kernel
theorem dX12_image_82 : decode cX12_image 82 = .ok (.iload_n 1, 1) := by decide +kernel
theorem dX12_image_83 : decode cX12_image 83 = .ok (.iaload, 1) := by decide +kernel
theorem dX12_image_84 : decode cX12_image 84 = .ok (.iastore, 1) := by decide +kernel
theorem dX12_image_85 : decode cX12_image 85 = .ok (.aload_n 0, 1) := by decide +kernel
theorem dX12_image_86 : decode cX12_image 86 = .ok (.getfield 94, 3) := by decide +kernel
theorem dX12_image_89 : decode cX12_image 89 = .ok (.iload_n 1, 1) := by decide +kernel
theorem dX12_image_90 : decode cX12_image 90 = .ok (.aload_n 0, 1) := by decide +kernel
theorem dX12_image_91 : decode cX12_image 91 = .ok (.getfield 79, 3) := by decide +kernel
theorem dX12_image_94 : decode cX12_image 94 = .ok (.iload_n 1, 1) := by decide +kernel
theorem dX12_image_95 : decode cX12_image 95 = .ok (.baload, 1) := by decide +kernel
theorem dX12_image_96 : decode cX12_image 96 = .ok (.bastore, 1) := by decide +kernel
theorem dX12_image_97 : decode cX12_image 97 = .ok (.aload_n 0, 1) := by decide +kernel
theorem dX12_image_98 : decode cX12_image 98 = .ok (.getfield 97, 3) := by decide +kernel
theorem dX12_image_101 : decode cX12_image 101 = .ok (.iload_n 1, 1) := by decide +kernel
theorem dX12_image_102 : decode cX12_image 102 = .ok (.aload_n 0, 1) := by decide +kernel
theorem dX12_image_103 : decode cX12_image 103 = .ok (.getfield 82, 3) := by decide +kernel
theorem dX12_image_106 : decode cX12_image 106 = .ok (.iload_n 1, 1) := by decide +kernel
theorem dX12_image_107 : decode cX12_image 107 = .ok (.laload, 1) := by decide +kernel
theorem dX12_image_108 : decode cX12_image 108 = .ok (.lastore, 1) := by decide +kernel
theorem dX12_image_109 : decode cX12_image 109 = .ok (.iinc 1 1, 3) := by decide +kernel
theorem dX12_image_112 : decode cX12_image 112 = .ok (.goto (-45), 3) := by decide +kernel
theorem dX12_image_115 : decode cX12_image 115 = .ok (.aload_n 0, 1) := by decide +kernel
theorem dX12_image_116 : decode cX12_image 116 = .ok (.aload_n 0, 1) := by decide +kernel
theorem dX12_image_117 : decode cX12_image 117 = .ok (.getfield 264, 3) := by decide +kernel
theorem dX12_image_120 : decode cX12_image 120 = .ok (.putfield 400, 3) := by decide +kernel
theorem dX12_image_123 : decode cX12_image 123 = .ok (.aload_n 0, 1) := by decide +kernel
theorem dX12_image_124 : decode cX12_image 124 = .ok (.aload_n 0, 1) := by decide +kernel
theorem dX12_image_125 : decode cX12_image 125 = .ok (.getfield 393, 3) := by decide +kernel
theorem dX12_image_128 : decode cX12_image 128 = .ok (.putfield 403, 3) := by decide +kernel
theorem dX12_image_131 : decode cX12_image 131 = .ok (.aload_n 0, 1) := by decide +kernel
theorem dX12_image_132 : decode cX12_image 132 = .ok (.iconst 1, 1) := by decide +kernel
theorem dX12_image_133 : decode cX12_image 133 = .ok (.putfield 267, 3) := by decide +kernel
theorem dX12_image_136 : decode cX12_image 136 = .ok (.aload_n 0, 1) := by decide +kernel
theorem dX12_image_137 : decode cX12_image 137 = .ok (.getfield 264, 3) := by decide +kernel
theorem dX12_image_140 : decode cX12_image 140 = .ok (.ireturn, 1) := by decide +kernel
theorem dX12_back_0 : decode cX12_back 0 = .ok (.aload_n 0, 1) := by decide +kernel
theorem dX12_back_1 : decode cX12_back 1 = .ok (.getfield 267, 3) := by decide +kernel
theorem dX12_back_4 : decode cX12_back 4 = .ok (.ifCond .ne 5, 3) := by decide +kernel
theorem dX12_back_7 : decode cX12_back 7 = .ok (.iconst (-1), 1) := by decide +kernel
theorem dX12_back_8 : decode cX12_back 8 = .ok (.ireturn, 1) := by decide +kernel
theorem dX12_back_9 : decode cX12_back 9 = .ok (.iconst 0, 1) := by decide +kernel
theorem dX12_back_10 : decode cX12_back 10 = .ok (.istore_n 1, 1) := by decide +kernel
theorem dX12_back_11 : decode cX12_back 11 = .ok (.iload_n 1, 1) := by decide +kernel
theorem dX12_back_12 : decode cX12_back 12 = .ok (.bipush 7, 2) := by decide +kernel
theorem dX12_back_14 : decode cX12_back 14 = .ok (.if_icmp .ge 61, 3) := by decide +kernel
theorem dX12_back_17 : decode cX12_back 17 = .ok (.aload_n 0, 1) := by decide +kernel
theorem dX12_back_18 : decode cX12_back 18 = .ok (.getfield 46, 3) := by decide +kernel
theorem dX12_back_21 : decode cX12_back 21 = .ok (.iload_n 1, 1) := by decide +kernel
theorem dX12_back_22 : decode cX12_back 22 = .ok (.aload_n 0, 1) := by decide +kernel
theorem dX12_back_23 : decode cX12_back 23 = .ok (.getfield 85, 3) := by decide +kernel
theorem dX12_back_26 : decode cX12_back 26 = .ok (.iload_n 1, 1) := by decide +kernel
theorem dX12_back_27 : decode cX12_back 27 = .ok (.iaload, 1) := by decide +kernel
theorem dX12_back_28 : decode cX12_back 28 = .ok (.iastore, 1) := by decide +kernel
theorem dX12_back_29 : decode cX12_back 29 = .ok (.aload_n 0, 1) := by decide +kernel
theorem dX12_back_30 : decode cX12_back 30 = .ok (.getfield 43, 3) := by decide +kernel
theorem dX12_back_33 : decode cX12_back 33 = .ok (.bipush 7, 2) := by decide +kernel
theorem dX12_back_35 : decode cX12_back 35 = .ok (.iload_n 1, 1) := by decide +kernel
theorem dX12_back_36 : decode cX12_back 36 = .ok (.imul, 1) := by decide +kernel
theorem dX12_back_37 : decode cX12_back 37 = .ok (.iconst 0, 1) := by decide +kernel
theorem dX12_back_38 : decode cX12_back 38 = .ok (.iadd, 1) := by decide +kernel
theorem dX12_back_39 : decode cX12_back 39 = .ok (.aload_n 0, 1) := by decide +kernel
theorem dX12_back_40 : decode cX12_back 40 = .ok (.getfield 88, 3) := by decide +kernel
theorem dX12_back_43 : decode cX12_back 43 = .ok (.iconst 2, 1) := by decide +kernel
theorem dX12_back_44 : decode cX12_back 44 = .ok (.iload_n 1, 1) := by decide +kernel
theorem dX12_back_45 : decode cX12_back 45 = .ok (.imul, 1) := by decide +kernel
theorem dX12_back_46 : decode cX12_back 46 = .ok (.iaload, 1) := by decide +kernel
theorem dX12_back_47 : decode cX12_back 47 = .ok (.iastore, 1) := by decide +kernel
theorem dX12_back_48 : decode cX12_back 48 = .ok (.aload_n 0, 1) := by decide +kernel
theorem dX12_back_49 : decode cX12_back 49 = .ok (.getfield 43, 3) := by decide +kernel
theorem dX12_back_52 : decode cX12_back 52 = .ok (.bipush 7, 2) := by decide +kernel
theorem dX12_back_54 : decode cX12_back 54 = .ok (.iload_n 1, 1) := by decide +kernel
theorem dX12_back_55 : decode cX12_back 55 = .ok (.imul, 1) := by decide +kernel
theorem dX12_back_56 : decode cX12_back 56 = .ok (.iconst 3, 1) := by decide +kernel
theorem dX12_back_57 : decode cX12_back 57 = .ok (.iadd, 1) := by decide +kernel
theorem dX12_back_58 : decode cX12_back 58 = .ok (.aload_n 0, 1) := by decide +kernel
theorem dX12_back_59 : decode cX12_back 59 = .ok (.getfield 88, 3) := by decide +kernel
theorem dX12_back_62 : decode cX12_back 62 = .ok (.iconst 2, 1) := by decide +kernel
theorem dX12_back_63 : decode cX12_back 63 = .ok (.iload_n 1, 1) := by decide +kernel
theorem dX12_back_64 : decode cX12_back 64 = .ok (.imul, 1) := by decide +kernel
theorem dX12_back_65 : decode cX12_back 65 = .ok (.iconst 1, 1) := by decide +kernel
theorem dX12_back_66 : decode cX12_back 66 = .ok (.iadd, 1) := by decide +kernel
theorem dX12_back_67 : decode cX12_back 67 = .ok (.iaload, 1) := by decide +kernel
theorem dX12_back_68 : decode cX12_back 68 = .ok (.iastore, 1) := by decide +kernel
theorem dX12_back_69 : decode cX12_back 69 = .ok (.iinc 1 1, 3) := by decide +kernel
theorem dX12_back_72 : decode cX12_back 72 = .ok (.goto (-61), 3) := by decide +kernel
theorem dX12_back_75 : decode cX12_back 75 = .ok (.iconst 0, 1) := by decide +kernel
theorem dX12_back_76 : decode cX12_back 76 = .ok (.istore_n 1, 1) := by decide +kernel
theorem dX12_back_77 : decode cX12_back 77 = .ok (.iload_n 1, 1) := by decide +kernel
theorem dX12_back_78 : decode cX12_back 78 = .ok (.bipush 40, 2) := by decide +kernel
theorem dX12_back_80 : decode cX12_back 80 = .ok (.if_icmp .ge 45, 3) := by decide +kernel
theorem dX12_back_83 : decode cX12_back 83 = .ok (.aload_n 0, 1) := by decide +kernel
theorem dX12_back_84 : decode cX12_back 84 = .ok (.getfield 76, 3) := by decide +kernel
theorem dX12_back_87 : decode cX12_back 87 = .ok (.iload_n 1, 1) := by decide +kernel
theorem dX12_back_88 : decode cX12_back 88 = .ok (.aload_n 0, 1) := by decide +kernel
theorem dX12_back_89 : decode cX12_back 89 = .ok (.getfield 91, 3) := by decide +kernel
theorem dX12_back_92 : decode cX12_back 92 = .ok (.iload_n 1, 1) := by decide +kernel
theorem dX12_back_93 : decode cX12_back 93 = .ok (.iaload, 1) := by decide +kernel
theorem dX12_back_94 : decode cX12_back 94 = .ok (.iastore, 1) := by decide +kernel
theorem dX12_back_95 : decode cX12_back 95 = .ok (.aload_n 0, 1) := by decide +kernel
theorem dX12_back_96 : decode cX12_back 96 = .ok (.getfield 79, 3) := by decide +kernel
theorem dX12_back_99 : decode cX12_back 99 = .ok (.iload_n 1, 1) := by decide +kernel
theorem dX12_back_100 : decode cX12_back 100 = .ok (.aload_n 0, 1) := by decide +kernel
theorem dX12_back_101 : decode cX12_back 101 = .ok (.getfield 94, 3) := by decide +kernel
theorem dX12_back_104 : decode cX12_back 104 = .ok (.iload_n 1, 1) := by decide +kernel
theorem dX12_back_105 : decode cX12_back 105 = .ok (.baload, 1) := by decide +kernel
theorem dX12_back_106 : decode cX12_back 106 = .ok (.bastore, 1) := by decide +kernel
theorem dX12_back_107 : decode cX12_back 107 = .ok (.aload_n 0, 1) := by decide +kernel
theorem dX12_back_108 : decode cX12_back 108 = .ok (.getfield 82, 3) := by decide +kernel
theorem dX12_back_111 : decode cX12_back 111 = .ok (.iload_n 1, 1) := by decide +kernel
theorem dX12_back_112 : decode cX12_back 112 = .ok (.aload_n 0, 1) := by decide +kernel
theorem dX12_back_113 : decode cX12_back 113 = .ok (.getfield 97, 3) := by decide +kernel
theorem dX12_back_116 : decode cX12_back 116 = .ok (.iload_n 1, 1) := by decide +kernel
theorem dX12_back_117 : decode cX12_back 117 = .ok (.laload, 1) := by decide +kernel
theorem dX12_back_118 : decode cX12_back 118 = .ok (.lastore, 1) := by decide +kernel
theorem dX12_back_119 : decode cX12_back 119 = .ok (.iinc 1 1, 3) := by decide +kernel
theorem dX12_back_122 : decode cX12_back 122 = .ok (.goto (-45), 3) := by decide +kernel
theorem dX12_back_125 : decode cX12_back 125 = .ok (.aload_n 0, 1) := by decide +kernel
theorem dX12_back_126 : decode cX12_back 126 = .ok (.aload_n 0, 1) := by decide +kernel
theorem dX12_back_127 : decode cX12_back 127 = .ok (.getfield 400, 3) := by decide +kernel
theorem dX12_back_130 : decode cX12_back 130 = .ok (.putfield 264, 3) := by decide +kernel
theorem dX12_back_133 : decode cX12_back 133 = .ok (.aload_n 0, 1) := by decide +kernel
theorem dX12_back_134 : decode cX12_back 134 = .ok (.aload_n 0, 1) := by decide +kernel
theorem dX12_back_135 : decode cX12_back 135 = .ok (.getfield 403, 3) := by decide +kernel
theorem dX12_back_138 : decode cX12_back 138 = .ok (.putfield 393, 3) := by decide +kernel
theorem dX12_back_141 : decode cX12_back 141 = .ok (.aload_n 0, 1) := by decide +kernel
theorem dX12_back_142 : decode cX12_back 142 = .ok (.getfield 264, 3) := by decide +kernel
theorem dX12_back_145 : decode cX12_back 145 = .ok (.ireturn, 1) := by decide +kernel
theorem dX12_passedMany_0 : decode cX12_passedMany 0 = .ok (.iconst 0, 1) := by decide +kernel
theorem dX12_passedMany_1 : decode cX12_passedMany 1 = .ok (.istore_n 1, 1) := by decide +kernel
theorem dX12_passedMany_2 : decode cX12_passedMany 2 = .ok (.iconst 0, 1) := by decide +kernel
theorem dX12_passedMany_3 : decode cX12_passedMany 3 = .ok (.istore_n 2, 1) := by decide +kernel
theorem dX12_passedMany_4 : decode cX12_passedMany 4 = .ok (.iload_n 2, 1) := by decide +kernel
theorem dX12_passedMany_5 : decode cX12_passedMany 5 = .ok (.aload_n 0, 1) := by decide +kernel
theorem dX12_passedMany_6 : decode cX12_passedMany 6 = .ok (.getfield 264, 3) := by decide +kernel
theorem dX12_passedMany_9 : decode cX12_passedMany 9 = .ok (.if_icmp .ge 26, 3) := by decide +kernel
theorem dX12_passedMany_12 : decode cX12_passedMany 12 = .ok (.iload_n 1, 1) := by decide +kernel
theorem dX12_passedMany_13 : decode cX12_passedMany 13 = .ok (.aload_n 0, 1) := by decide +kernel
theorem dX12_passedMany_14 : decode cX12_passedMany 14 = .ok (.getfield 79, 3) := by decide +kernel
theorem dX12_passedMany_17 : decode cX12_passedMany 17 = .ok (.iload_n 2, 1) := by decide +kernel
theorem dX12_passedMany_18 : decode cX12_passedMany 18 = .ok (.baload, 1) := by decide +kernel
theorem dX12_passedMany_19 : decode cX12_passedMany 19 = .ok (.ifCond .eq 7, 3) := by decide +kernel
theorem dX12_passedMany_22 : decode cX12_passedMany 22 = .ok (.iconst 1, 1) := by decide +kernel
theorem dX12_passedMany_23 : decode cX12_passedMany 23 = .ok (.goto 4, 3) := by decide +kernel
theorem dX12_passedMany_26 : decode cX12_passedMany 26 = .ok (.iconst 0, 1) := by decide +kernel
theorem dX12_passedMany_27 : decode cX12_passedMany 27 = .ok (.iadd, 1) := by decide +kernel
theorem dX12_passedMany_28 : decode cX12_passedMany 28 = .ok (.istore_n 1, 1) := by decide +kernel
theorem dX12_passedMany_29 : decode cX12_passedMany 29 = .ok (.iinc 2 1, 3) := by decide +kernel
theorem dX12_passedMany_32 : decode cX12_passedMany 32 = .ok (.goto (-28), 3) := by decide +kernel
theorem dX12_passedMany_35 : decode cX12_passedMany 35 = .ok (.iload_n 1, 1) := by decide +kernel
theorem dX12_passedMany_36 : decode cX12_passedMany 36 = .ok (.ireturn, 1) := by decide +kernel
theorem dX12_count_0 : decode cX12_count 0 = .ok (.iload_n 1, 1) := by decide +kernel
theorem dX12_count_1 : decode cX12_count 1 = .ok (.tableswitch 111 0 8 #[51, 56, 76, 81, 86, 91, 96, 101, 106], 51) := by decide +kernel
theorem dX12_count_52 : decode cX12_count 52 = .ok (.aload_n 0, 1) := by decide +kernel
theorem dX12_count_53 : decode cX12_count 53 = .ok (.getfield 252, 3) := by decide +kernel
theorem dX12_count_56 : decode cX12_count 56 = .ok (.ireturn, 1) := by decide +kernel
theorem dX12_count_57 : decode cX12_count 57 = .ok (.aload_n 0, 1) := by decide +kernel
theorem dX12_count_58 : decode cX12_count 58 = .ok (.getfield 252, 3) := by decide +kernel
theorem dX12_count_61 : decode cX12_count 61 = .ok (.ifCond .le 14, 3) := by decide +kernel
theorem dX12_count_64 : decode cX12_count 64 = .ok (.aload_n 0, 1) := by decide +kernel
theorem dX12_count_65 : decode cX12_count 65 = .ok (.getfield 255, 3) := by decide +kernel
theorem dX12_count_68 : decode cX12_count 68 = .ok (.ifCond .eq 7, 3) := by decide +kernel
theorem dX12_count_71 : decode cX12_count 71 = .ok (.iconst 1, 1) := by decide +kernel
theorem dX12_count_72 : decode cX12_count 72 = .ok (.goto 4, 3) := by decide +kernel
theorem dX12_count_75 : decode cX12_count 75 = .ok (.iconst 0, 1) := by decide +kernel
theorem dX12_count_76 : decode cX12_count 76 = .ok (.ireturn, 1) := by decide +kernel
theorem dX12_count_77 : decode cX12_count 77 = .ok (.aload_n 0, 1) := by decide +kernel
theorem dX12_count_78 : decode cX12_count 78 = .ok (.getfield 273, 3) := by decide +kernel
theorem dX12_count_81 : decode cX12_count 81 = .ok (.ireturn, 1) := by decide +kernel
theorem dX12_count_82 : decode cX12_count 82 = .ok (.aload_n 0, 1) := by decide +kernel
theorem dX12_count_83 : decode cX12_count 83 = .ok (.getfield 107, 3) := by decide +kernel
theorem dX12_count_86 : decode cX12_count 86 = .ok (.ireturn, 1) := by decide +kernel
theorem dX12_count_87 : decode cX12_count 87 = .ok (.aload_n 0, 1) := by decide +kernel
theorem dX12_count_88 : decode cX12_count 88 = .ok (.invokevirtual 368, 3) := by decide +kernel
theorem dX12_count_91 : decode cX12_count 91 = .ok (.ireturn, 1) := by decide +kernel
theorem dX12_count_92 : decode cX12_count 92 = .ok (.aload_n 0, 1) := by decide +kernel
theorem dX12_count_93 : decode cX12_count 93 = .ok (.getfield 49, 3) := by decide +kernel
theorem dX12_count_96 : decode cX12_count 96 = .ok (.ireturn, 1) := by decide +kernel
theorem dX12_count_97 : decode cX12_count 97 = .ok (.aload_n 0, 1) := by decide +kernel
theorem dX12_count_98 : decode cX12_count 98 = .ok (.getfield 261, 3) := by decide +kernel
theorem dX12_count_101 : decode cX12_count 101 = .ok (.ireturn, 1) := by decide +kernel
theorem dX12_count_102 : decode cX12_count 102 = .ok (.aload_n 0, 1) := by decide +kernel
theorem dX12_count_103 : decode cX12_count 103 = .ok (.getfield 264, 3) := by decide +kernel
theorem dX12_count_106 : decode cX12_count 106 = .ok (.ireturn, 1) := by decide +kernel
theorem dX12_count_107 : decode cX12_count 107 = .ok (.aload_n 0, 1) := by decide +kernel
theorem dX12_count_108 : decode cX12_count 108 = .ok (.invokevirtual 406, 3) := by decide +kernel
theorem dX12_count_111 : decode cX12_count 111 = .ok (.ireturn, 1) := by decide +kernel
theorem dX12_count_112 : decode cX12_count 112 = .ok (.ldc_w 358, 3) := by decide +kernel
theorem dX12_count_115 : decode cX12_count 115 = .ok (.ireturn, 1) := by decide +kernel
theorem dJ6_bitCount_0f7a4_0 : decode cJ6_bitCount_0f7a4 0 = .ok (.iload_n 0, 1) := by decide +kernel
theorem dJ6_bitCount_0f7a4_1 : decode cJ6_bitCount_0f7a4 1 = .ok (.iload_n 0, 1) := by decide +kernel
theorem dJ6_bitCount_0f7a4_2 : decode cJ6_bitCount_0f7a4 2 = .ok (.iconst 1, 1) := by decide +kernel
theorem dJ6_bitCount_0f7a4_3 : decode cJ6_bitCount_0f7a4 3 = .ok (.iushr, 1) := by decide +kernel
theorem dJ6_bitCount_0f7a4_4 : decode cJ6_bitCount_0f7a4 4 = .ok (.ldc_w 265, 3) := by decide +kernel
theorem dJ6_bitCount_0f7a4_7 : decode cJ6_bitCount_0f7a4 7 = .ok (.iand, 1) := by decide +kernel
theorem dJ6_bitCount_0f7a4_8 : decode cJ6_bitCount_0f7a4 8 = .ok (.isub, 1) := by decide +kernel
theorem dJ6_bitCount_0f7a4_9 : decode cJ6_bitCount_0f7a4 9 = .ok (.istore_n 0, 1) := by decide +kernel
theorem dJ6_bitCount_0f7a4_10 : decode cJ6_bitCount_0f7a4 10 = .ok (.iload_n 0, 1) := by decide +kernel
theorem dJ6_bitCount_0f7a4_11 : decode cJ6_bitCount_0f7a4 11 = .ok (.ldc_w 266, 3) := by decide +kernel
theorem dJ6_bitCount_0f7a4_14 : decode cJ6_bitCount_0f7a4 14 = .ok (.iand, 1) := by decide +kernel
theorem dJ6_bitCount_0f7a4_15 : decode cJ6_bitCount_0f7a4 15 = .ok (.iload_n 0, 1) := by decide +kernel
theorem dJ6_bitCount_0f7a4_16 : decode cJ6_bitCount_0f7a4 16 = .ok (.iconst 2, 1) := by decide +kernel
theorem dJ6_bitCount_0f7a4_17 : decode cJ6_bitCount_0f7a4 17 = .ok (.iushr, 1) := by decide +kernel
theorem dJ6_bitCount_0f7a4_18 : decode cJ6_bitCount_0f7a4 18 = .ok (.ldc_w 266, 3) := by decide +kernel
theorem dJ6_bitCount_0f7a4_21 : decode cJ6_bitCount_0f7a4 21 = .ok (.iand, 1) := by decide +kernel
theorem dJ6_bitCount_0f7a4_22 : decode cJ6_bitCount_0f7a4 22 = .ok (.iadd, 1) := by decide +kernel
theorem dJ6_bitCount_0f7a4_23 : decode cJ6_bitCount_0f7a4 23 = .ok (.istore_n 0, 1) := by decide +kernel
theorem dJ6_bitCount_0f7a4_24 : decode cJ6_bitCount_0f7a4 24 = .ok (.iload_n 0, 1) := by decide +kernel
theorem dJ6_bitCount_0f7a4_25 : decode cJ6_bitCount_0f7a4 25 = .ok (.iload_n 0, 1) := by decide +kernel
theorem dJ6_bitCount_0f7a4_26 : decode cJ6_bitCount_0f7a4 26 = .ok (.iconst 4, 1) := by decide +kernel
theorem dJ6_bitCount_0f7a4_27 : decode cJ6_bitCount_0f7a4 27 = .ok (.iushr, 1) := by decide +kernel
theorem dJ6_bitCount_0f7a4_28 : decode cJ6_bitCount_0f7a4 28 = .ok (.iadd, 1) := by decide +kernel
theorem dJ6_bitCount_0f7a4_29 : decode cJ6_bitCount_0f7a4 29 = .ok (.ldc_w 267, 3) := by decide +kernel
theorem dJ6_bitCount_0f7a4_32 : decode cJ6_bitCount_0f7a4 32 = .ok (.iand, 1) := by decide +kernel
theorem dJ6_bitCount_0f7a4_33 : decode cJ6_bitCount_0f7a4 33 = .ok (.istore_n 0, 1) := by decide +kernel
theorem dJ6_bitCount_0f7a4_34 : decode cJ6_bitCount_0f7a4 34 = .ok (.iload_n 0, 1) := by decide +kernel
theorem dJ6_bitCount_0f7a4_35 : decode cJ6_bitCount_0f7a4 35 = .ok (.iload_n 0, 1) := by decide +kernel
theorem dJ6_bitCount_0f7a4_36 : decode cJ6_bitCount_0f7a4 36 = .ok (.bipush 8, 2) := by decide +kernel
theorem dJ6_bitCount_0f7a4_38 : decode cJ6_bitCount_0f7a4 38 = .ok (.iushr, 1) := by decide +kernel
theorem dJ6_bitCount_0f7a4_39 : decode cJ6_bitCount_0f7a4 39 = .ok (.iadd, 1) := by decide +kernel
theorem dJ6_bitCount_0f7a4_40 : decode cJ6_bitCount_0f7a4 40 = .ok (.istore_n 0, 1) := by decide +kernel
theorem dJ6_bitCount_0f7a4_41 : decode cJ6_bitCount_0f7a4 41 = .ok (.iload_n 0, 1) := by decide +kernel
theorem dJ6_bitCount_0f7a4_42 : decode cJ6_bitCount_0f7a4 42 = .ok (.iload_n 0, 1) := by decide +kernel
theorem dJ6_bitCount_0f7a4_43 : decode cJ6_bitCount_0f7a4 43 = .ok (.bipush 16, 2) := by decide +kernel
theorem dJ6_bitCount_0f7a4_45 : decode cJ6_bitCount_0f7a4 45 = .ok (.iushr, 1) := by decide +kernel
theorem dJ6_bitCount_0f7a4_46 : decode cJ6_bitCount_0f7a4 46 = .ok (.iadd, 1) := by decide +kernel
theorem dJ6_bitCount_0f7a4_47 : decode cJ6_bitCount_0f7a4 47 = .ok (.istore_n 0, 1) := by decide +kernel
