theorem dX10_cheapest_67 : decode cX10_cheapest 67 = .ok (.iload 8, 2) := by decide +kernel
theorem dX10_cheapest_69 : decode cX10_cheapest 69 = .ok (.ifCond .eq 49, 3) := by decide +kernel
theorem dX10_cheapest_72 : decode cX10_cheapest 72 = .ok (.iload_n 1, 1) := by decide +kernel
theorem dX10_cheapest_73 : decode cX10_cheapest 73 = .ok (.iload_n 2, 1) := by decide +kernel
theorem dX10_cheapest_74 : decode cX10_cheapest 74 = .ok (.iload 7, 2) := by decide +kernel
theorem dX10_cheapest_76 : decode cX10_cheapest 76 = .ok (.ior, 1) := by decide +kernel
theorem dX10_cheapest_77 : decode cX10_cheapest 77 = .ok (.iand, 1) := by decide +kernel
theorem dX10_cheapest_78 : decode cX10_cheapest 78 = .ok (.invokestatic 61, 3) := by decide +kernel
theorem dX10_cheapest_81 : decode cX10_cheapest 81 = .ok (.iload 4, 2) := by decide +kernel
theorem dX10_cheapest_83 : decode cX10_cheapest 83 = .ok (.invokestatic 83, 3) := by decide +kernel
theorem dX10_cheapest_86 : decode cX10_cheapest 86 = .ok (.ifCond .eq 32, 3) := by decide +kernel
theorem dX10_cheapest_89 : decode cX10_cheapest 89 = .ok (.aload_n 0, 1) := by decide +kernel
theorem dX10_cheapest_90 : decode cX10_cheapest 90 = .ok (.iload 7, 2) := by decide +kernel
theorem dX10_cheapest_92 : decode cX10_cheapest 92 = .ok (.invokevirtual 100, 3) := by decide +kernel
theorem dX10_cheapest_95 : decode cX10_cheapest 95 = .ok (.istore 9, 2) := by decide +kernel
theorem dX10_cheapest_97 : decode cX10_cheapest 97 = .ok (.iload 5, 2) := by decide +kernel
theorem dX10_cheapest_99 : decode cX10_cheapest 99 = .ok (.iconst (-1), 1) := by decide +kernel
theorem dX10_cheapest_100 : decode cX10_cheapest 100 = .ok (.if_icmp .eq 10, 3) := by decide +kernel
theorem dX10_cheapest_103 : decode cX10_cheapest 103 = .ok (.iload 9, 2) := by decide +kernel
theorem dX10_cheapest_105 : decode cX10_cheapest 105 = .ok (.iload 6, 2) := by decide +kernel
theorem dX10_cheapest_107 : decode cX10_cheapest 107 = .ok (.if_icmp .ge 11, 3) := by decide +kernel
theorem dX10_cheapest_110 : decode cX10_cheapest 110 = .ok (.iload 7, 2) := by decide +kernel
theorem dX10_cheapest_112 : decode cX10_cheapest 112 = .ok (.istore 5, 2) := by decide +kernel
theorem dX10_cheapest_114 : decode cX10_cheapest 114 = .ok (.iload 9, 2) := by decide +kernel
theorem dX10_cheapest_116 : decode cX10_cheapest 116 = .ok (.istore 6, 2) := by decide +kernel
theorem dX10_cheapest_118 : decode cX10_cheapest 118 = .ok (.iinc 7 1, 3) := by decide +kernel
theorem dX10_cheapest_121 : decode cX10_cheapest 121 = .ok (.goto (-84), 3) := by decide +kernel
theorem dX10_cheapest_124 : decode cX10_cheapest 124 = .ok (.iload 5, 2) := by decide +kernel
theorem dX10_cheapest_126 : decode cX10_cheapest 126 = .ok (.ireturn, 1) := by decide +kernel
theorem dX10_costOf_0 : decode cX10_costOf 0 = .ok (.iconst 0, 1) := by decide +kernel
theorem dX10_costOf_1 : decode cX10_costOf 1 = .ok (.istore_n 2, 1) := by decide +kernel
theorem dX10_costOf_2 : decode cX10_costOf 2 = .ok (.iconst 0, 1) := by decide +kernel
theorem dX10_costOf_3 : decode cX10_costOf 3 = .ok (.istore_n 3, 1) := by decide +kernel
theorem dX10_costOf_4 : decode cX10_costOf 4 = .ok (.iload_n 3, 1) := by decide +kernel
theorem dX10_costOf_5 : decode cX10_costOf 5 = .ok (.aload_n 0, 1) := by decide +kernel
theorem dX10_costOf_6 : decode cX10_costOf 6 = .ok (.getfield 21, 3) := by decide +kernel
theorem dX10_costOf_9 : decode cX10_costOf 9 = .ok (.getfield 44, 3) := by decide +kernel
theorem dX10_costOf_12 : decode cX10_costOf 12 = .ok (.if_icmp .ge 34, 3) := by decide +kernel
theorem dX10_costOf_15 : decode cX10_costOf 15 = .ok (.iload_n 2, 1) := by decide +kernel
theorem dX10_costOf_16 : decode cX10_costOf 16 = .ok (.iload_n 1, 1) := by decide +kernel
theorem dX10_costOf_17 : decode cX10_costOf 17 = .ok (.iload_n 3, 1) := by decide +kernel
theorem dX10_costOf_18 : decode cX10_costOf 18 = .ok (.ishr, 1) := by decide +kernel
theorem dX10_costOf_19 : decode cX10_costOf 19 = .ok (.iconst 1, 1) := by decide +kernel
theorem dX10_costOf_20 : decode cX10_costOf 20 = .ok (.iand, 1) := by decide +kernel
theorem dX10_costOf_21 : decode cX10_costOf 21 = .ok (.ifCond .eq 16, 3) := by decide +kernel
theorem dX10_costOf_24 : decode cX10_costOf 24 = .ok (.aload_n 0, 1) := by decide +kernel
theorem dX10_costOf_25 : decode cX10_costOf 25 = .ok (.getfield 21, 3) := by decide +kernel
theorem dX10_costOf_28 : decode cX10_costOf 28 = .ok (.bipush 6, 2) := by decide +kernel
theorem dX10_costOf_30 : decode cX10_costOf 30 = .ok (.iload_n 3, 1) := by decide +kernel
theorem dX10_costOf_31 : decode cX10_costOf 31 = .ok (.invokevirtual 53, 3) := by decide +kernel
theorem dX10_costOf_34 : decode cX10_costOf 34 = .ok (.goto 4, 3) := by decide +kernel
theorem dX10_costOf_37 : decode cX10_costOf 37 = .ok (.iconst 0, 1) := by decide +kernel
theorem dX10_costOf_38 : decode cX10_costOf 38 = .ok (.iadd, 1) := by decide +kernel
theorem dX10_costOf_39 : decode cX10_costOf 39 = .ok (.istore_n 2, 1) := by decide +kernel
theorem dX10_costOf_40 : decode cX10_costOf 40 = .ok (.iinc 3 1, 3) := by decide +kernel
theorem dX10_costOf_43 : decode cX10_costOf 43 = .ok (.goto (-39), 3) := by decide +kernel
theorem dX10_costOf_46 : decode cX10_costOf 46 = .ok (.iload_n 2, 1) := by decide +kernel
theorem dX10_costOf_47 : decode cX10_costOf 47 = .ok (.ireturn, 1) := by decide +kernel
theorem dX10_forgetKnown_0 : decode cX10_forgetKnown 0 = .ok (.aload_n 0, 1) := by decide +kernel
theorem dX10_forgetKnown_1 : decode cX10_forgetKnown 1 = .ok (.iconst 0, 1) := by decide +kernel
theorem dX10_forgetKnown_2 : decode cX10_forgetKnown 2 = .ok (.putfield 26, 3) := by decide +kernel
theorem dX10_forgetKnown_5 : decode cX10_forgetKnown 5 = .ok (.return_, 1) := by decide +kernel
theorem dX10_learn_0 : decode cX10_learn 0 = .ok (.aload_n 0, 1) := by decide +kernel
theorem dX10_learn_1 : decode cX10_learn 1 = .ok (.getfield 26, 3) := by decide +kernel
theorem dX10_learn_4 : decode cX10_learn 4 = .ok (.ifCond .lt 12, 3) := by decide +kernel
theorem dX10_learn_7 : decode cX10_learn 7 = .ok (.aload_n 0, 1) := by decide +kernel
theorem dX10_learn_8 : decode cX10_learn 8 = .ok (.getfield 26, 3) := by decide +kernel
theorem dX10_learn_11 : decode cX10_learn 11 = .ok (.bipush 20, 2) := by decide +kernel
theorem dX10_learn_13 : decode cX10_learn 13 = .ok (.if_icmp .lt 5, 3) := by decide +kernel
theorem dX10_learn_16 : decode cX10_learn 16 = .ok (.iconst (-1), 1) := by decide +kernel
theorem dX10_learn_17 : decode cX10_learn 17 = .ok (.ireturn, 1) := by decide +kernel
theorem dX10_learn_18 : decode cX10_learn 18 = .ok (.aload_n 0, 1) := by decide +kernel
theorem dX10_learn_19 : decode cX10_learn 19 = .ok (.getfield 30, 3) := by decide +kernel
theorem dX10_learn_22 : decode cX10_learn 22 = .ok (.aload_n 0, 1) := by decide +kernel
theorem dX10_learn_23 : decode cX10_learn 23 = .ok (.getfield 26, 3) := by decide +kernel
theorem dX10_learn_26 : decode cX10_learn 26 = .ok (.iload_n 1, 1) := by decide +kernel
theorem dX10_learn_27 : decode cX10_learn 27 = .ok (.iastore, 1) := by decide +kernel
theorem dX10_learn_28 : decode cX10_learn 28 = .ok (.aload_n 0, 1) := by decide +kernel
theorem dX10_learn_29 : decode cX10_learn 29 = .ok (.getfield 34, 3) := by decide +kernel
theorem dX10_learn_32 : decode cX10_learn 32 = .ok (.aload_n 0, 1) := by decide +kernel
theorem dX10_learn_33 : decode cX10_learn 33 = .ok (.getfield 26, 3) := by decide +kernel
theorem dX10_learn_36 : decode cX10_learn 36 = .ok (.iload_n 2, 1) := by decide +kernel
theorem dX10_learn_37 : decode cX10_learn 37 = .ok (.bastore, 1) := by decide +kernel
theorem dX10_learn_38 : decode cX10_learn 38 = .ok (.aload_n 0, 1) := by decide +kernel
theorem dX10_learn_39 : decode cX10_learn 39 = .ok (.dup, 1) := by decide +kernel
theorem dX10_learn_40 : decode cX10_learn 40 = .ok (.getfield 26, 3) := by decide +kernel
theorem dX10_learn_43 : decode cX10_learn 43 = .ok (.iconst 1, 1) := by decide +kernel
theorem dX10_learn_44 : decode cX10_learn 44 = .ok (.iadd, 1) := by decide +kernel
theorem dX10_learn_45 : decode cX10_learn 45 = .ok (.putfield 26, 3) := by decide +kernel
theorem dX10_learn_48 : decode cX10_learn 48 = .ok (.aload_n 0, 1) := by decide +kernel
theorem dX10_learn_49 : decode cX10_learn 49 = .ok (.getfield 26, 3) := by decide +kernel
theorem dX10_learn_52 : decode cX10_learn 52 = .ok (.ireturn, 1) := by decide +kernel
theorem dX10_canFit_0 : decode cX10_canFit 0 = .ok (.aload_n 0, 1) := by decide +kernel
theorem dX10_canFit_1 : decode cX10_canFit 1 = .ok (.iconst 0, 1) := by decide +kernel
theorem dX10_canFit_2 : decode cX10_canFit 2 = .ok (.putfield 38, 3) := by decide +kernel
theorem dX10_canFit_5 : decode cX10_canFit 5 = .ok (.aload_n 0, 1) := by decide +kernel
theorem dX10_canFit_6 : decode cX10_canFit 6 = .ok (.iconst 0, 1) := by decide +kernel
theorem dX10_canFit_7 : decode cX10_canFit 7 = .ok (.putfield 41, 3) := by decide +kernel
theorem dX10_canFit_10 : decode cX10_canFit 10 = .ok (.iconst 0, 1) := by decide +kernel
theorem dX10_canFit_11 : decode cX10_canFit 11 = .ok (.istore_n 1, 1) := by decide +kernel
theorem dX10_canFit_12 : decode cX10_canFit 12 = .ok (.iload_n 1, 1) := by decide +kernel
theorem dX10_canFit_13 : decode cX10_canFit 13 = .ok (.aload_n 0, 1) := by decide +kernel
theorem dX10_canFit_14 : decode cX10_canFit 14 = .ok (.getfield 26, 3) := by decide +kernel
theorem dX10_canFit_17 : decode cX10_canFit 17 = .ok (.if_icmp .ge 86, 3) := by decide +kernel
theorem dX10_canFit_20 : decode cX10_canFit 20 = .ok (.iload_n 1, 1) := by decide +kernel
theorem dX10_canFit_21 : decode cX10_canFit 21 = .ok (.bipush 20, 2) := by decide +kernel
theorem dX10_canFit_23 : decode cX10_canFit 23 = .ok (.if_icmp .ge 80, 3) := by decide +kernel
theorem dX10_canFit_26 : decode cX10_canFit 26 = .ok (.aload_n 0, 1) := by decide +kernel
theorem dX10_canFit_27 : decode cX10_canFit 27 = .ok (.getfield 9, 3) := by decide +kernel
theorem dX10_canFit_30 : decode cX10_canFit 30 = .ok (.aload_n 0, 1) := by decide +kernel
theorem dX10_canFit_31 : decode cX10_canFit 31 = .ok (.getfield 30, 3) := by decide +kernel
theorem dX10_canFit_34 : decode cX10_canFit 34 = .ok (.iload_n 1, 1) := by decide +kernel
theorem dX10_canFit_35 : decode cX10_canFit 35 = .ok (.iaload, 1) := by decide +kernel
theorem dX10_canFit_36 : decode cX10_canFit 36 = .ok (.invokevirtual 103, 3) := by decide +kernel
theorem dX10_canFit_39 : decode cX10_canFit 39 = .ok (.istore_n 2, 1) := by decide +kernel
theorem dX10_canFit_40 : decode cX10_canFit 40 = .ok (.iload_n 2, 1) := by decide +kernel
theorem dX10_canFit_41 : decode cX10_canFit 41 = .ok (.iconst (-1), 1) := by decide +kernel
theorem dX10_canFit_42 : decode cX10_canFit 42 = .ok (.if_icmp .ne 5, 3) := by decide +kernel
theorem dX10_canFit_45 : decode cX10_canFit 45 = .ok (.iconst 0, 1) := by decide +kernel
theorem dX10_canFit_46 : decode cX10_canFit 46 = .ok (.ireturn, 1) := by decide +kernel
theorem dX10_canFit_47 : decode cX10_canFit 47 = .ok (.aload_n 0, 1) := by decide +kernel
theorem dX10_canFit_48 : decode cX10_canFit 48 = .ok (.dup, 1) := by decide +kernel
theorem dX10_canFit_49 : decode cX10_canFit 49 = .ok (.getfield 38, 3) := by decide +kernel
theorem dX10_canFit_52 : decode cX10_canFit 52 = .ok (.aload_n 0, 1) := by decide +kernel
theorem dX10_canFit_53 : decode cX10_canFit 53 = .ok (.getfield 34, 3) := by decide +kernel
theorem dX10_canFit_56 : decode cX10_canFit 56 = .ok (.iload_n 1, 1) := by decide +kernel
theorem dX10_canFit_57 : decode cX10_canFit 57 = .ok (.baload, 1) := by decide +kernel
theorem dX10_canFit_58 : decode cX10_canFit 58 = .ok (.ifCond .eq 9, 3) := by decide +kernel
theorem dX10_canFit_61 : decode cX10_canFit 61 = .ok (.iconst 1, 1) := by decide +kernel
theorem dX10_canFit_62 : decode cX10_canFit 62 = .ok (.iload_n 2, 1) := by decide +kernel
theorem dX10_canFit_63 : decode cX10_canFit 63 = .ok (.ishl, 1) := by decide +kernel
theorem dX10_canFit_64 : decode cX10_canFit 64 = .ok (.goto 4, 3) := by decide +kernel
theorem dX10_canFit_67 : decode cX10_canFit 67 = .ok (.iconst 0, 1) := by decide +kernel
theorem dX10_canFit_68 : decode cX10_canFit 68 = .ok (.ior, 1) := by decide +kernel
theorem dX10_canFit_69 : decode cX10_canFit 69 = .ok (.putfield 38, 3) := by decide +kernel
theorem dX10_canFit_72 : decode cX10_canFit 72 = .ok (.aload_n 0, 1) := by decide +kernel
theorem dX10_canFit_73 : decode cX10_canFit 73 = .ok (.dup, 1) := by decide +kernel
theorem dX10_canFit_74 : decode cX10_canFit 74 = .ok (.getfield 41, 3) := by decide +kernel
theorem dX10_canFit_77 : decode cX10_canFit 77 = .ok (.aload_n 0, 1) := by decide +kernel
theorem dX10_canFit_78 : decode cX10_canFit 78 = .ok (.getfield 34, 3) := by decide +kernel
theorem dX10_canFit_81 : decode cX10_canFit 81 = .ok (.iload_n 1, 1) := by decide +kernel
theorem dX10_canFit_82 : decode cX10_canFit 82 = .ok (.baload, 1) := by decide +kernel
theorem dX10_canFit_83 : decode cX10_canFit 83 = .ok (.ifCond .eq 7, 3) := by decide +kernel
theorem dX10_canFit_86 : decode cX10_canFit 86 = .ok (.iconst 0, 1) := by decide +kernel
theorem dX10_canFit_87 : decode cX10_canFit 87 = .ok (.goto 6, 3) := by decide +kernel
theorem dX10_canFit_90 : decode cX10_canFit 90 = .ok (.iconst 1, 1) := by decide +kernel
theorem dX10_canFit_91 : decode cX10_canFit 91 = .ok (.iload_n 2, 1) := by decide +kernel
theorem dX10_canFit_92 : decode cX10_canFit 92 = .ok (.ishl, 1) := by decide +kernel
theorem dX10_canFit_93 : decode cX10_canFit 93 = .ok (.ior, 1) := by decide +kernel
theorem dX10_canFit_94 : decode cX10_canFit 94 = .ok (.putfield 41, 3) := by decide +kernel
theorem dX10_canFit_97 : decode cX10_canFit 97 = .ok (.iinc 1 1, 3) := by decide +kernel
theorem dX10_canFit_100 : decode cX10_canFit 100 = .ok (.goto (-88), 3) := by decide +kernel
theorem dX10_canFit_103 : decode cX10_canFit 103 = .ok (.aload_n 0, 1) := by decide +kernel
theorem dX10_canFit_104 : decode cX10_canFit 104 = .ok (.getfield 38, 3) := by decide +kernel
theorem dX10_canFit_107 : decode cX10_canFit 107 = .ok (.aload_n 0, 1) := by decide +kernel
theorem dX10_canFit_108 : decode cX10_canFit 108 = .ok (.getfield 41, 3) := by decide +kernel
theorem dX10_canFit_111 : decode cX10_canFit 111 = .ok (.iand, 1) := by decide +kernel
theorem dX10_canFit_112 : decode cX10_canFit 112 = .ok (.ifCond .ne 7, 3) := by decide +kernel
theorem dX10_canFit_115 : decode cX10_canFit 115 = .ok (.iconst 1, 1) := by decide +kernel
theorem dX10_canFit_116 : decode cX10_canFit 116 = .ok (.goto 4, 3) := by decide +kernel
theorem dX10_canFit_119 : decode cX10_canFit 119 = .ok (.iconst 0, 1) := by decide +kernel
theorem dX10_canFit_120 : decode cX10_canFit 120 = .ok (.ireturn, 1) := by decide +kernel
theorem dX10_isFit_0 : decode cX10_isFit 0 = .ok (.iload_n 1, 1) := by decide +kernel
theorem dX10_isFit_1 : decode cX10_isFit 1 = .ok (.aload_n 0, 1) := by decide +kernel
theorem dX10_isFit_2 : decode cX10_isFit 2 = .ok (.getfield 38, 3) := by decide +kernel
theorem dX10_isFit_5 : decode cX10_isFit 5 = .ok (.iand, 1) := by decide +kernel
theorem dX10_isFit_6 : decode cX10_isFit 6 = .ok (.aload_n 0, 1) := by decide +kernel
theorem dX10_isFit_7 : decode cX10_isFit 7 = .ok (.getfield 38, 3) := by decide +kernel
theorem dX10_isFit_10 : decode cX10_isFit 10 = .ok (.if_icmp .ne 16, 3) := by decide +kernel
theorem dX10_isFit_13 : decode cX10_isFit 13 = .ok (.iload_n 1, 1) := by decide +kernel
theorem dX10_isFit_14 : decode cX10_isFit 14 = .ok (.aload_n 0, 1) := by decide +kernel
theorem dX10_isFit_15 : decode cX10_isFit 15 = .ok (.getfield 41, 3) := by decide +kernel
theorem dX10_isFit_18 : decode cX10_isFit 18 = .ok (.iand, 1) := by decide +kernel
theorem dX10_isFit_19 : decode cX10_isFit 19 = .ok (.ifCond .ne 7, 3) := by decide +kernel
theorem dX10_isFit_22 : decode cX10_isFit 22 = .ok (.iconst 1, 1) := by decide +kernel
theorem dX10_isFit_23 : decode cX10_isFit 23 = .ok (.goto 4, 3) := by decide +kernel
theorem dX10_isFit_26 : decode cX10_isFit 26 = .ok (.iconst 0, 1) := by decide +kernel
theorem dX10_isFit_27 : decode cX10_isFit 27 = .ok (.ireturn, 1) := by decide +kernel
theorem dX10_fitting_0 : decode cX10_fitting 0 = .ok (.aload_n 0, 1) := by decide +kernel
theorem dX10_fitting_1 : decode cX10_fitting 1 = .ok (.invokevirtual 106, 3) := by decide +kernel
theorem dX10_fitting_4 : decode cX10_fitting 4 = .ok (.ifCond .ne 5, 3) := by decide +kernel
theorem dX10_fitting_7 : decode cX10_fitting 7 = .ok (.iconst 0, 1) := by decide +kernel
theorem dX10_fitting_8 : decode cX10_fitting 8 = .ok (.ireturn, 1) := by decide +kernel
theorem dX10_fitting_9 : decode cX10_fitting 9 = .ok (.aload_n 0, 1) := by decide +kernel
theorem dX10_fitting_10 : decode cX10_fitting 10 = .ok (.getfield 21, 3) := by decide +kernel
theorem dX10_fitting_13 : decode cX10_fitting 13 = .ok (.getfield 44, 3) := by decide +kernel
theorem dX10_fitting_16 : decode cX10_fitting 16 = .ok (.aload_n 0, 1) := by decide +kernel
theorem dX10_fitting_17 : decode cX10_fitting 17 = .ok (.getfield 38, 3) := by decide +kernel
theorem dX10_fitting_20 : decode cX10_fitting 20 = .ok (.aload_n 0, 1) := by decide +kernel
theorem dX10_fitting_21 : decode cX10_fitting 21 = .ok (.getfield 41, 3) := by decide +kernel
theorem dX10_fitting_24 : decode cX10_fitting 24 = .ok (.ior, 1) := by decide +kernel
theorem dX10_fitting_25 : decode cX10_fitting 25 = .ok (.invokestatic 61, 3) := by decide +kernel
theorem dX10_fitting_28 : decode cX10_fitting 28 = .ok (.isub, 1) := by decide +kernel
theorem dX10_fitting_29 : decode cX10_fitting 29 = .ok (.istore_n 1, 1) := by decide +kernel
theorem dX10_fitting_30 : decode cX10_fitting 30 = .ok (.iconst 1, 1) := by decide +kernel
theorem dX10_fitting_31 : decode cX10_fitting 31 = .ok (.iconst 0, 1) := by decide +kernel
theorem dX10_fitting_32 : decode cX10_fitting 32 = .ok (.iload_n 1, 1) := by decide +kernel
theorem dX10_fitting_33 : decode cX10_fitting 33 = .ok (.invokestatic 110, 3) := by decide +kernel
theorem dX10_fitting_36 : decode cX10_fitting 36 = .ok (.ishl, 1) := by decide +kernel
theorem dX10_fitting_37 : decode cX10_fitting 37 = .ok (.ireturn, 1) := by decide +kernel
theorem dX10_fittingRow_0 : decode cX10_fittingRow 0 = .ok (.aload_n 0, 1) := by decide +kernel
theorem dX10_fittingRow_1 : decode cX10_fittingRow 1 = .ok (.invokevirtual 106, 3) := by decide +kernel
theorem dX10_fittingRow_4 : decode cX10_fittingRow 4 = .ok (.ifCond .ne 5, 3) := by decide +kernel
theorem dX10_fittingRow_7 : decode cX10_fittingRow 7 = .ok (.iconst (-1), 1) := by decide +kernel
theorem dX10_fittingRow_8 : decode cX10_fittingRow 8 = .ok (.ireturn, 1) := by decide +kernel
theorem dX10_fittingRow_9 : decode cX10_fittingRow 9 = .ok (.iconst 0, 1) := by decide +kernel
theorem dX10_fittingRow_10 : decode cX10_fittingRow 10 = .ok (.istore_n 2, 1) := by decide +kernel
theorem dX10_fittingRow_11 : decode cX10_fittingRow 11 = .ok (.iconst 0, 1) := by decide +kernel
theorem dX10_fittingRow_12 : decode cX10_fittingRow 12 = .ok (.istore_n 3, 1) := by decide +kernel
theorem dX10_fittingRow_13 : decode cX10_fittingRow 13 = .ok (.iload_n 3, 1) := by decide +kernel
theorem dX10_fittingRow_14 : decode cX10_fittingRow 14 = .ok (.iconst 1, 1) := by decide +kernel
theorem dX10_fittingRow_15 : decode cX10_fittingRow 15 = .ok (.aload_n 0, 1) := by decide +kernel
theorem dX10_fittingRow_16 : decode cX10_fittingRow 16 = .ok (.getfield 21, 3) := by decide +kernel
theorem dX10_fittingRow_19 : decode cX10_fittingRow 19 = .ok (.getfield 44, 3) := by decide +kernel
theorem dX10_fittingRow_22 : decode cX10_fittingRow 22 = .ok (.ishl, 1) := by decide +kernel
theorem dX10_fittingRow_23 : decode cX10_fittingRow 23 = .ok (.if_icmp .ge 27, 3) := by decide +kernel
theorem dX10_fittingRow_26 : decode cX10_fittingRow 26 = .ok (.aload_n 0, 1) := by decide +kernel
theorem dX10_fittingRow_27 : decode cX10_fittingRow 27 = .ok (.iload_n 3, 1) := by decide +kernel
theorem dX10_fittingRow_28 : decode cX10_fittingRow 28 = .ok (.invokevirtual 115, 3) := by decide +kernel
theorem dX10_fittingRow_31 : decode cX10_fittingRow 31 = .ok (.ifCond .eq 13, 3) := by decide +kernel
theorem dX10_fittingRow_34 : decode cX10_fittingRow 34 = .ok (.iload_n 2, 1) := by decide +kernel
theorem dX10_fittingRow_35 : decode cX10_fittingRow 35 = .ok (.iload_n 1, 1) := by decide +kernel
theorem dX10_fittingRow_36 : decode cX10_fittingRow 36 = .ok (.if_icmp .ne 5, 3) := by decide +kernel
theorem dX10_fittingRow_39 : decode cX10_fittingRow 39 = .ok (.iload_n 3, 1) := by decide +kernel
theorem dX10_fittingRow_40 : decode cX10_fittingRow 40 = .ok (.ireturn, 1) := by decide +kernel
theorem dX10_fittingRow_41 : decode cX10_fittingRow 41 = .ok (.iinc 2 1, 3) := by decide +kernel
theorem dX10_fittingRow_44 : decode cX10_fittingRow 44 = .ok (.iinc 3 1, 3) := by decide +kernel
theorem dX10_fittingRow_47 : decode cX10_fittingRow 47 = .ok (.goto (-34), 3) := by decide +kernel
theorem dX10_fittingRow_50 : decode cX10_fittingRow 50 = .ok (.iconst (-1), 1) := by decide +kernel
theorem dX10_fittingRow_51 : decode cX10_fittingRow 51 = .ok (.ireturn, 1) := by decide +kernel
theorem dX10_certain_0 : decode cX10_certain 0 = .ok (.aload_n 0, 1) := by decide +kernel
theorem dX10_certain_1 : decode cX10_certain 1 = .ok (.invokevirtual 106, 3) := by decide +kernel
theorem dX10_certain_4 : decode cX10_certain 4 = .ok (.ifCond .ne 5, 3) := by decide +kernel
theorem dX10_certain_7 : decode cX10_certain 7 = .ok (.iconst (-1), 1) := by decide +kernel
theorem dX10_certain_8 : decode cX10_certain 8 = .ok (.ireturn, 1) := by decide +kernel
theorem dX10_certain_9 : decode cX10_certain 9 = .ok (.iload_n 1, 1) := by decide +kernel
theorem dX10_certain_10 : decode cX10_certain 10 = .ok (.ifCond .eq 10, 3) := by decide +kernel
theorem dX10_certain_13 : decode cX10_certain 13 = .ok (.aload_n 0, 1) := by decide +kernel
theorem dX10_certain_14 : decode cX10_certain 14 = .ok (.getfield 38, 3) := by decide +kernel
theorem dX10_certain_17 : decode cX10_certain 17 = .ok (.goto 7, 3) := by decide +kernel
theorem dX10_certain_20 : decode cX10_certain 20 = .ok (.aload_n 0, 1) := by decide +kernel
theorem dX10_certain_21 : decode cX10_certain 21 = .ok (.getfield 41, 3) := by decide +kernel
theorem dX10_certain_24 : decode cX10_certain 24 = .ok (.ireturn, 1) := by decide +kernel
theorem dX11_init_0 : decode cX11_init 0 = .ok (.aload_n 0, 1) := by decide +kernel
theorem dX11_init_1 : decode cX11_init 1 = .ok (.invokespecial 1, 3) := by decide +kernel
theorem dX11_init_4 : decode cX11_init 4 = .ok (.aload_n 0, 1) := by decide +kernel
theorem dX11_init_5 : decode cX11_init 5 = .ok (.new 7, 3) := by decide +kernel
theorem dX11_init_8 : decode cX11_init 8 = .ok (.dup, 1) := by decide +kernel
theorem dX11_init_9 : decode cX11_init 9 = .ok (.invokespecial 9, 3) := by decide +kernel
theorem dX11_init_12 : decode cX11_init 12 = .ok (.putfield 10, 3) := by decide +kernel
theorem dX11_init_15 : decode cX11_init 15 = .ok (.aload_n 0, 1) := by decide +kernel
theorem dX11_init_16 : decode cX11_init 16 = .ok (.new 16, 3) := by decide +kernel
theorem dX11_init_19 : decode cX11_init 19 = .ok (.dup, 1) := by decide +kernel
theorem dX11_init_20 : decode cX11_init 20 = .ok (.aload_n 0, 1) := by decide +kernel
theorem dX11_init_21 : decode cX11_init 21 = .ok (.getfield 10, 3) := by decide +kernel
theorem dX11_init_24 : decode cX11_init 24 = .ok (.invokespecial 18, 3) := by decide +kernel
theorem dX11_init_27 : decode cX11_init 27 = .ok (.putfield 21, 3) := by decide +kernel
theorem dX11_init_30 : decode cX11_init 30 = .ok (.aload_n 0, 1) := by decide +kernel
theorem dX11_init_31 : decode cX11_init 31 = .ok (.new 25, 3) := by decide +kernel
theorem dX11_init_34 : decode cX11_init 34 = .ok (.dup, 1) := by decide +kernel
theorem dX11_init_35 : decode cX11_init 35 = .ok (.aload_n 0, 1) := by decide +kernel
theorem dX11_init_36 : decode cX11_init 36 = .ok (.getfield 10, 3) := by decide +kernel
theorem dX11_init_39 : decode cX11_init 39 = .ok (.invokespecial 27, 3) := by decide +kernel
theorem dX11_init_42 : decode cX11_init 42 = .ok (.putfield 28, 3) := by decide +kernel
theorem dX11_init_45 : decode cX11_init 45 = .ok (.aload_n 0, 1) := by decide +kernel
theorem dX11_init_46 : decode cX11_init 46 = .ok (.iconst 4, 1) := by decide +kernel
theorem dX11_init_47 : decode cX11_init 47 = .ok (.anewarray 32, 3) := by decide +kernel
theorem dX11_init_50 : decode cX11_init 50 = .ok (.putfield 34, 3) := by decide +kernel
theorem dX11_init_53 : decode cX11_init 53 = .ok (.aload_n 0, 1) := by decide +kernel
theorem dX11_init_54 : decode cX11_init 54 = .ok (.iconst 0, 1) := by decide +kernel
theorem dX11_init_55 : decode cX11_init 55 = .ok (.putfield 38, 3) := by decide +kernel
theorem dX11_init_58 : decode cX11_init 58 = .ok (.aload_n 0, 1) := by decide +kernel
theorem dX11_init_59 : decode cX11_init 59 = .ok (.iconst (-1), 1) := by decide +kernel
theorem dX11_init_60 : decode cX11_init 60 = .ok (.putfield 42, 3) := by decide +kernel
theorem dX11_init_63 : decode cX11_init 63 = .ok (.aload_n 0, 1) := by decide +kernel
theorem dX11_init_64 : decode cX11_init 64 = .ok (.new 45, 3) := by decide +kernel
theorem dX11_init_67 : decode cX11_init 67 = .ok (.dup, 1) := by decide +kernel
theorem dX11_init_68 : decode cX11_init 68 = .ok (.invokespecial 47, 3) := by decide +kernel
theorem dX11_init_71 : decode cX11_init 71 = .ok (.putfield 48, 3) := by decide +kernel
theorem dX11_init_74 : decode cX11_init 74 = .ok (.aload_n 0, 1) := by decide +kernel
theorem dX11_init_75 : decode cX11_init 75 = .ok (.new 52, 3) := by decide +kernel
theorem dX11_init_78 : decode cX11_init 78 = .ok (.dup, 1) := by decide +kernel
theorem dX11_init_79 : decode cX11_init 79 = .ok (.invokespecial 54, 3) := by decide +kernel
theorem dX11_init_82 : decode cX11_init 82 = .ok (.putfield 55, 3) := by decide +kernel
theorem dX11_init_85 : decode cX11_init 85 = .ok (.aload_n 0, 1) := by decide +kernel
theorem dX11_init_86 : decode cX11_init 86 = .ok (.new 59, 3) := by decide +kernel
theorem dX11_init_89 : decode cX11_init 89 = .ok (.dup, 1) := by decide +kernel
theorem dX11_init_90 : decode cX11_init 90 = .ok (.aload_n 0, 1) := by decide +kernel
theorem dX11_init_91 : decode cX11_init 91 = .ok (.getfield 48, 3) := by decide +kernel
theorem dX11_init_94 : decode cX11_init 94 = .ok (.aload_n 0, 1) := by decide +kernel
theorem dX11_init_95 : decode cX11_init 95 = .ok (.getfield 55, 3) := by decide +kernel
theorem dX11_init_98 : decode cX11_init 98 = .ok (.invokespecial 61, 3) := by decide +kernel
theorem dX11_init_101 : decode cX11_init 101 = .ok (.putfield 64, 3) := by decide +kernel
theorem dX11_init_104 : decode cX11_init 104 = .ok (.aload_n 0, 1) := by decide +kernel
theorem dX11_init_105 : decode cX11_init 105 = .ok (.new 68, 3) := by decide +kernel
theorem dX11_init_108 : decode cX11_init 108 = .ok (.dup, 1) := by decide +kernel
theorem dX11_init_109 : decode cX11_init 109 = .ok (.aload_n 0, 1) := by decide +kernel
theorem dX11_init_110 : decode cX11_init 110 = .ok (.getfield 64, 3) := by decide +kernel
theorem dX11_init_113 : decode cX11_init 113 = .ok (.invokespecial 70, 3) := by decide +kernel
theorem dX11_init_116 : decode cX11_init 116 = .ok (.putfield 73, 3) := by decide +kernel
theorem dX11_init_119 : decode cX11_init 119 = .ok (.aload_n 0, 1) := by decide +kernel
theorem dX11_init_120 : decode cX11_init 120 = .ok (.new 77, 3) := by decide +kernel
theorem dX11_init_123 : decode cX11_init 123 = .ok (.dup, 1) := by decide +kernel
theorem dX11_init_124 : decode cX11_init 124 = .ok (.aload_n 0, 1) := by decide +kernel
theorem dX11_init_125 : decode cX11_init 125 = .ok (.getfield 48, 3) := by decide +kernel
theorem dX11_init_128 : decode cX11_init 128 = .ok (.invokespecial 79, 3) := by decide +kernel
theorem dX11_init_131 : decode cX11_init 131 = .ok (.putfield 82, 3) := by decide +kernel
theorem dX11_init_134 : decode cX11_init 134 = .ok (.aload_n 0, 1) := by decide +kernel
theorem dX11_init_135 : decode cX11_init 135 = .ok (.new 86, 3) := by decide +kernel
theorem dX11_init_138 : decode cX11_init 138 = .ok (.dup, 1) := by decide +kernel
theorem dX11_init_139 : decode cX11_init 139 = .ok (.aload_n 0, 1) := by decide +kernel
theorem dX11_init_140 : decode cX11_init 140 = .ok (.getfield 48, 3) := by decide +kernel
theorem dX11_init_143 : decode cX11_init 143 = .ok (.aload_n 0, 1) := by decide +kernel
theorem dX11_init_144 : decode cX11_init 144 = .ok (.getfield 55, 3) := by decide +kernel
theorem dX11_init_147 : decode cX11_init 147 = .ok (.invokespecial 88, 3) := by decide +kernel
theorem dX11_init_150 : decode cX11_init 150 = .ok (.putfield 89, 3) := by decide +kernel
theorem dX11_init_153 : decode cX11_init 153 = .ok (.aload_n 0, 1) := by decide +kernel
theorem dX11_init_154 : decode cX11_init 154 = .ok (.new 93, 3) := by decide +kernel
theorem dX11_init_157 : decode cX11_init 157 = .ok (.dup, 1) := by decide +kernel
theorem dX11_init_158 : decode cX11_init 158 = .ok (.invokespecial 95, 3) := by decide +kernel
theorem dX11_init_161 : decode cX11_init 161 = .ok (.putfield 96, 3) := by decide +kernel
theorem dX11_init_164 : decode cX11_init 164 = .ok (.aload_n 0, 1) := by decide +kernel
theorem dX11_init_165 : decode cX11_init 165 = .ok (.iconst 0, 1) := by decide +kernel
theorem dX11_init_166 : decode cX11_init 166 = .ok (.putfield 100, 3) := by decide +kernel
theorem dX11_init_169 : decode cX11_init 169 = .ok (.aload_n 0, 1) := by decide +kernel
theorem dX11_init_170 : decode cX11_init 170 = .ok (.new 45, 3) := by decide +kernel
theorem dX11_init_173 : decode cX11_init 173 = .ok (.dup, 1) := by decide +kernel
theorem dX11_init_174 : decode cX11_init 174 = .ok (.invokespecial 47, 3) := by decide +kernel
theorem dX11_init_177 : decode cX11_init 177 = .ok (.putfield 104, 3) := by decide +kernel
theorem dX11_init_180 : decode cX11_init 180 = .ok (.aload_n 0, 1) := by decide +kernel
theorem dX11_init_181 : decode cX11_init 181 = .ok (.new 52, 3) := by decide +kernel
theorem dX11_init_184 : decode cX11_init 184 = .ok (.dup, 1) := by decide +kernel
theorem dX11_init_185 : decode cX11_init 185 = .ok (.invokespecial 54, 3) := by decide +kernel
theorem dX11_init_188 : decode cX11_init 188 = .ok (.putfield 107, 3) := by decide +kernel
theorem dX11_init_191 : decode cX11_init 191 = .ok (.aload_n 0, 1) := by decide +kernel
theorem dX11_init_192 : decode cX11_init 192 = .ok (.new 93, 3) := by decide +kernel
theorem dX11_init_195 : decode cX11_init 195 = .ok (.dup, 1) := by decide +kernel
theorem dX11_init_196 : decode cX11_init 196 = .ok (.invokespecial 95, 3) := by decide +kernel
theorem dX11_init_199 : decode cX11_init 199 = .ok (.putfield 110, 3) := by decide +kernel
theorem dX11_init_202 : decode cX11_init 202 = .ok (.return_, 1) := by decide +kernel
theorem dX11_feed_0 : decode cX11_feed 0 = .ok (.iload_n 1, 1) := by decide +kernel
theorem dX11_feed_1 : decode cX11_feed 1 = .ok (.invokestatic 113, 3) := by decide +kernel
theorem dX11_feed_4 : decode cX11_feed 4 = .ok (.iload_n 2, 1) := by decide +kernel
theorem dX11_feed_5 : decode cX11_feed 5 = .ok (.invokestatic 113, 3) := by decide +kernel
theorem dX11_feed_8 : decode cX11_feed 8 = .ok (.iadd, 1) := by decide +kernel
theorem dX11_feed_9 : decode cX11_feed 9 = .ok (.iload_n 3, 1) := by decide +kernel
theorem dX11_feed_10 : decode cX11_feed 10 = .ok (.invokestatic 113, 3) := by decide +kernel
theorem dX11_feed_13 : decode cX11_feed 13 = .ok (.iadd, 1) := by decide +kernel
theorem dX11_feed_14 : decode cX11_feed 14 = .ok (.iload 4, 2) := by decide +kernel
theorem dX11_feed_16 : decode cX11_feed 16 = .ok (.invokestatic 113, 3) := by decide +kernel
theorem dX11_feed_19 : decode cX11_feed 19 = .ok (.iadd, 1) := by decide +kernel
theorem dX11_feed_20 : decode cX11_feed 20 = .ok (.iload 5, 2) := by decide +kernel
theorem dX11_feed_22 : decode cX11_feed 22 = .ok (.invokestatic 113, 3) := by decide +kernel
theorem dX11_feed_25 : decode cX11_feed 25 = .ok (.iadd, 1) := by decide +kernel
theorem dX11_feed_26 : decode cX11_feed 26 = .ok (.istore 6, 2) := by decide +kernel
theorem dX11_feed_28 : decode cX11_feed 28 = .ok (.aload_n 0, 1) := by decide +kernel
theorem dX11_feed_29 : decode cX11_feed 29 = .ok (.getfield 10, 3) := by decide +kernel
theorem dX11_feed_32 : decode cX11_feed 32 = .ok (.iload 6, 2) := by decide +kernel
theorem dX11_feed_34 : decode cX11_feed 34 = .ok (.invokevirtual 117, 3) := by decide +kernel
theorem dX11_feed_37 : decode cX11_feed 37 = .ok (.ifCond .ne 5, 3) := by decide +kernel
theorem dX11_feed_40 : decode cX11_feed 40 = .ok (.iconst (-1), 1) := by decide +kernel
theorem dX11_feed_41 : decode cX11_feed 41 = .ok (.ireturn, 1) := by decide +kernel
theorem dX11_feed_42 : decode cX11_feed 42 = .ok (.aload_n 0, 1) := by decide +kernel
theorem dX11_feed_43 : decode cX11_feed 43 = .ok (.getfield 10, 3) := by decide +kernel
theorem dX11_feed_46 : decode cX11_feed 46 = .ok (.iload_n 1, 1) := by decide +kernel
theorem dX11_feed_47 : decode cX11_feed 47 = .ok (.invokevirtual 121, 3) := by decide +kernel
theorem dX11_feed_50 : decode cX11_feed 50 = .ok (.aload_n 0, 1) := by decide +kernel
theorem dX11_feed_51 : decode cX11_feed 51 = .ok (.getfield 10, 3) := by decide +kernel
theorem dX11_feed_54 : decode cX11_feed 54 = .ok (.iload_n 2, 1) := by decide +kernel
theorem dX11_feed_55 : decode cX11_feed 55 = .ok (.invokevirtual 121, 3) := by decide +kernel
theorem dX11_feed_58 : decode cX11_feed 58 = .ok (.aload_n 0, 1) := by decide +kernel
theorem dX11_feed_59 : decode cX11_feed 59 = .ok (.getfield 10, 3) := by decide +kernel
theorem dX11_feed_62 : decode cX11_feed 62 = .ok (.iload_n 3, 1) := by decide +kernel
theorem dX11_feed_63 : decode cX11_feed 63 = .ok (.invokevirtual 121, 3) := by decide +kernel
theorem dX11_feed_66 : decode cX11_feed 66 = .ok (.aload_n 0, 1) := by decide +kernel
theorem dX11_feed_67 : decode cX11_feed 67 = .ok (.getfield 10, 3) := by decide +kernel
theorem dX11_feed_70 : decode cX11_feed 70 = .ok (.iload 4, 2) := by decide +kernel
theorem dX11_feed_72 : decode cX11_feed 72 = .ok (.invokevirtual 121, 3) := by decide +kernel
theorem dX11_feed_75 : decode cX11_feed 75 = .ok (.aload_n 0, 1) := by decide +kernel
theorem dX11_feed_76 : decode cX11_feed 76 = .ok (.getfield 10, 3) := by decide +kernel
theorem dX11_feed_79 : decode cX11_feed 79 = .ok (.iload 5, 2) := by decide +kernel
theorem dX11_feed_81 : decode cX11_feed 81 = .ok (.invokevirtual 121, 3) := by decide +kernel
theorem dX11_feed_84 : decode cX11_feed 84 = .ok (.aload_n 0, 1) := by decide +kernel
theorem dX11_feed_85 : decode cX11_feed 85 = .ok (.getfield 10, 3) := by decide +kernel
theorem dX11_feed_88 : decode cX11_feed 88 = .ok (.getfield 125, 3) := by decide +kernel
theorem dX11_feed_91 : decode cX11_feed 91 = .ok (.ireturn, 1) := by decide +kernel
theorem dX11_end_0 : decode cX11_end 0 = .ok (.iload_n 1, 1) := by decide +kernel
theorem dX11_end_1 : decode cX11_end 1 = .ok (.ifCond .lt 14, 3) := by decide +kernel
theorem dX11_end_4 : decode cX11_end 4 = .ok (.iload_n 1, 1) := by decide +kernel
theorem dX11_end_5 : decode cX11_end 5 = .ok (.aload_n 0, 1) := by decide +kernel
theorem dX11_end_6 : decode cX11_end 6 = .ok (.getfield 10, 3) := by decide +kernel
theorem dX11_end_9 : decode cX11_end 9 = .ok (.getfield 125, 3) := by decide +kernel
theorem dX11_end_12 : decode cX11_end 12 = .ok (.if_icmp .le 5, 3) := by decide +kernel
theorem dX11_end_15 : decode cX11_end 15 = .ok (.iconst 0, 1) := by decide +kernel
theorem dX11_end_16 : decode cX11_end 16 = .ok (.ireturn, 1) := by decide +kernel
theorem dX11_end_17 : decode cX11_end 17 = .ok (.aload_n 0, 1) := by decide +kernel
theorem dX11_end_18 : decode cX11_end 18 = .ok (.getfield 10, 3) := by decide +kernel
theorem dX11_end_21 : decode cX11_end 21 = .ok (.iload_n 1, 1) := by decide +kernel
theorem dX11_end_22 : decode cX11_end 22 = .ok (.putfield 125, 3) := by decide +kernel
theorem dX11_end_25 : decode cX11_end 25 = .ok (.iconst 1, 1) := by decide +kernel
theorem dX11_end_26 : decode cX11_end 26 = .ok (.ireturn, 1) := by decide +kernel
theorem dX11_fault_0 : decode cX11_fault 0 = .ok (.iload_n 1, 1) := by decide +kernel
theorem dX11_fault_1 : decode cX11_fault 1 = .ok (.ifCond .ne 11, 3) := by decide +kernel
theorem dX11_fault_4 : decode cX11_fault 4 = .ok (.aload_n 0, 1) := by decide +kernel
theorem dX11_fault_5 : decode cX11_fault 5 = .ok (.getfield 21, 3) := by decide +kernel
theorem dX11_fault_8 : decode cX11_fault 8 = .ok (.invokevirtual 128, 3) := by decide +kernel
theorem dX11_fault_11 : decode cX11_fault 11 = .ok (.ireturn, 1) := by decide +kernel
theorem dX11_fault_12 : decode cX11_fault 12 = .ok (.iload_n 1, 1) := by decide +kernel
theorem dX11_fault_13 : decode cX11_fault 13 = .ok (.iconst 1, 1) := by decide +kernel
theorem dX11_fault_14 : decode cX11_fault 14 = .ok (.if_icmp .ne 13, 3) := by decide +kernel
theorem dX11_fault_17 : decode cX11_fault 17 = .ok (.aload_n 0, 1) := by decide +kernel
theorem dX11_fault_18 : decode cX11_fault 18 = .ok (.getfield 28, 3) := by decide +kernel
theorem dX11_fault_21 : decode cX11_fault 21 = .ok (.invokevirtual 132, 3) := by decide +kernel
theorem dX11_fault_24 : decode cX11_fault 24 = .ok (.goto 5, 3) := by decide +kernel
theorem dX11_fault_27 : decode cX11_fault 27 = .ok (.bipush (-2), 2) := by decide +kernel
theorem dX11_fault_29 : decode cX11_fault 29 = .ok (.ireturn, 1) := by decide +kernel
theorem dX11_text_0 : decode cX11_text 0 = .ok (.iload_n 1, 1) := by decide +kernel
theorem dX11_text_1 : decode cX11_text 1 = .ok (.ifCond .ne 23, 3) := by decide +kernel
theorem dX11_text_4 : decode cX11_text 4 = .ok (.aload_n 0, 1) := by decide +kernel
theorem dX11_text_5 : decode cX11_text 5 = .ok (.getfield 21, 3) := by decide +kernel
theorem dX11_text_8 : decode cX11_text 8 = .ok (.invokevirtual 128, 3) := by decide +kernel
theorem dX11_text_11 : decode cX11_text 11 = .ok (.iconst (-1), 1) := by decide +kernel
theorem dX11_text_12 : decode cX11_text 12 = .ok (.if_icmp .ne 10, 3) := by decide +kernel
theorem dX11_text_15 : decode cX11_text 15 = .ok (.aload_n 0, 1) := by decide +kernel
theorem dX11_text_16 : decode cX11_text 16 = .ok (.invokevirtual 133, 3) := by decide +kernel
theorem dX11_text_19 : decode cX11_text 19 = .ok (.goto 4, 3) := by decide +kernel
theorem dX11_text_22 : decode cX11_text 22 = .ok (.iconst (-1), 1) := by decide +kernel
theorem dX11_text_23 : decode cX11_text 23 = .ok (.ireturn, 1) := by decide +kernel
theorem dX11_text_24 : decode cX11_text 24 = .ok (.iload_n 1, 1) := by decide +kernel
theorem dX11_text_25 : decode cX11_text 25 = .ok (.iconst 1, 1) := by decide +kernel
theorem dX11_text_26 : decode cX11_text 26 = .ok (.if_icmp .ne 22, 3) := by decide +kernel
theorem dX11_text_29 : decode cX11_text 29 = .ok (.aload_n 0, 1) := by decide +kernel
theorem dX11_text_30 : decode cX11_text 30 = .ok (.getfield 38, 3) := by decide +kernel
theorem dX11_text_33 : decode cX11_text 33 = .ok (.iconst 4, 1) := by decide +kernel
theorem dX11_text_34 : decode cX11_text 34 = .ok (.if_icmp .ge 14, 3) := by decide +kernel
theorem dX11_text_37 : decode cX11_text 37 = .ok (.aload_n 0, 1) := by decide +kernel
theorem dX11_text_38 : decode cX11_text 38 = .ok (.getfield 28, 3) := by decide +kernel
theorem dX11_text_41 : decode cX11_text 41 = .ok (.invokevirtual 132, 3) := by decide +kernel
theorem dX11_text_44 : decode cX11_text 44 = .ok (.iconst (-1), 1) := by decide +kernel
theorem dX11_text_45 : decode cX11_text 45 = .ok (.if_icmp .eq 5, 3) := by decide +kernel
theorem dX11_text_48 : decode cX11_text 48 = .ok (.iconst (-1), 1) := by decide +kernel
theorem dX11_text_49 : decode cX11_text 49 = .ok (.ireturn, 1) := by decide +kernel
theorem dX11_text_50 : decode cX11_text 50 = .ok (.aload_n 0, 1) := by decide +kernel
theorem dX11_text_51 : decode cX11_text 51 = .ok (.getfield 34, 3) := by decide +kernel
theorem dX11_text_54 : decode cX11_text 54 = .ok (.aload_n 0, 1) := by decide +kernel
theorem dX11_text_55 : decode cX11_text 55 = .ok (.getfield 38, 3) := by decide +kernel
theorem dX11_text_58 : decode cX11_text 58 = .ok (.aload_n 0, 1) := by decide +kernel
theorem dX11_text_59 : decode cX11_text 59 = .ok (.getfield 28, 3) := by decide +kernel
theorem dX11_text_62 : decode cX11_text 62 = .ok (.invokevirtual 136, 3) := by decide +kernel
theorem dX11_text_65 : decode cX11_text 65 = .ok (.aastore, 1) := by decide +kernel
theorem dX11_text_66 : decode cX11_text 66 = .ok (.aload_n 0, 1) := by decide +kernel
theorem dX11_text_67 : decode cX11_text 67 = .ok (.dup, 1) := by decide +kernel
theorem dX11_text_68 : decode cX11_text 68 = .ok (.getfield 38, 3) := by decide +kernel
theorem dX11_text_71 : decode cX11_text 71 = .ok (.iconst 1, 1) := by decide +kernel
theorem dX11_text_72 : decode cX11_text 72 = .ok (.iadd, 1) := by decide +kernel
theorem dX11_text_73 : decode cX11_text 73 = .ok (.putfield 38, 3) := by decide +kernel
theorem dX11_text_76 : decode cX11_text 76 = .ok (.aload_n 0, 1) := by decide +kernel
theorem dX11_text_77 : decode cX11_text 77 = .ok (.getfield 10, 3) := by decide +kernel
theorem dX11_text_80 : decode cX11_text 80 = .ok (.iconst 0, 1) := by decide +kernel
theorem dX11_text_81 : decode cX11_text 81 = .ok (.putfield 125, 3) := by decide +kernel
theorem dX11_text_84 : decode cX11_text 84 = .ok (.aload_n 0, 1) := by decide +kernel
theorem dX11_text_85 : decode cX11_text 85 = .ok (.getfield 38, 3) := by decide +kernel
theorem dX11_text_88 : decode cX11_text 88 = .ok (.iconst 1, 1) := by decide +kernel
theorem dX11_text_89 : decode cX11_text 89 = .ok (.isub, 1) := by decide +kernel
theorem dX11_text_90 : decode cX11_text 90 = .ok (.ireturn, 1) := by decide +kernel
theorem dX11_moveIn_0 : decode cX11_moveIn 0 = .ok (.aload_n 0, 1) := by decide +kernel
theorem dX11_moveIn_1 : decode cX11_moveIn 1 = .ok (.getfield 48, 3) := by decide +kernel
theorem dX11_moveIn_4 : decode cX11_moveIn 4 = .ok (.aload_n 0, 1) := by decide +kernel
theorem dX11_moveIn_5 : decode cX11_moveIn 5 = .ok (.getfield 21, 3) := by decide +kernel
theorem dX11_moveIn_8 : decode cX11_moveIn 8 = .ok (.getfield 140, 3) := by decide +kernel
theorem dX11_moveIn_11 : decode cX11_moveIn 11 = .ok (.invokevirtual 143, 3) := by decide +kernel
theorem dX11_moveIn_14 : decode cX11_moveIn 14 = .ok (.aload_n 0, 1) := by decide +kernel
theorem dX11_moveIn_15 : decode cX11_moveIn 15 = .ok (.getfield 55, 3) := by decide +kernel
theorem dX11_moveIn_18 : decode cX11_moveIn 18 = .ok (.aload_n 0, 1) := by decide +kernel
theorem dX11_moveIn_19 : decode cX11_moveIn 19 = .ok (.getfield 48, 3) := by decide +kernel
theorem dX11_moveIn_22 : decode cX11_moveIn 22 = .ok (.getfield 146, 3) := by decide +kernel
theorem dX11_moveIn_25 : decode cX11_moveIn 25 = .ok (.invokevirtual 149, 3) := by decide +kernel
theorem dX11_moveIn_28 : decode cX11_moveIn 28 = .ok (.aload_n 0, 1) := by decide +kernel
theorem dX11_moveIn_29 : decode cX11_moveIn 29 = .ok (.getfield 73, 3) := by decide +kernel
theorem dX11_moveIn_32 : decode cX11_moveIn 32 = .ok (.invokevirtual 152, 3) := by decide +kernel
theorem dX11_moveIn_35 : decode cX11_moveIn 35 = .ok (.aload_n 0, 1) := by decide +kernel
theorem dX11_moveIn_36 : decode cX11_moveIn 36 = .ok (.getfield 96, 3) := by decide +kernel
theorem dX11_moveIn_39 : decode cX11_moveIn 39 = .ok (.iconst 0, 1) := by decide +kernel
theorem dX11_moveIn_40 : decode cX11_moveIn 40 = .ok (.putfield 155, 3) := by decide +kernel
theorem dX11_moveIn_43 : decode cX11_moveIn 43 = .ok (.aload_n 0, 1) := by decide +kernel
theorem dX11_moveIn_44 : decode cX11_moveIn 44 = .ok (.iconst 0, 1) := by decide +kernel
theorem dX11_moveIn_45 : decode cX11_moveIn 45 = .ok (.putfield 100, 3) := by decide +kernel
theorem dX11_moveIn_48 : decode cX11_moveIn 48 = .ok (.aload_n 0, 1) := by decide +kernel
theorem dX11_moveIn_49 : decode cX11_moveIn 49 = .ok (.getfield 10, 3) := by decide +kernel
theorem dX11_moveIn_52 : decode cX11_moveIn 52 = .ok (.iconst 0, 1) := by decide +kernel
theorem dX11_moveIn_53 : decode cX11_moveIn 53 = .ok (.putfield 125, 3) := by decide +kernel
theorem dX11_moveIn_56 : decode cX11_moveIn 56 = .ok (.aload_n 0, 1) := by decide +kernel
theorem dX11_moveIn_57 : decode cX11_moveIn 57 = .ok (.invokevirtual 158, 3) := by decide +kernel
theorem dX11_moveIn_60 : decode cX11_moveIn 60 = .ok (.aload_n 0, 1) := by decide +kernel
theorem dX11_moveIn_61 : decode cX11_moveIn 61 = .ok (.getfield 48, 3) := by decide +kernel
theorem dX11_moveIn_64 : decode cX11_moveIn 64 = .ok (.getfield 146, 3) := by decide +kernel
theorem dX11_moveIn_67 : decode cX11_moveIn 67 = .ok (.ireturn, 1) := by decide +kernel
theorem dX11_forgetAnswers_0 : decode cX11_forgetAnswers 0 = .ok (.aload_n 0, 1) := by decide +kernel
theorem dX11_forgetAnswers_1 : decode cX11_forgetAnswers 1 = .ok (.getfield 82, 3) := by decide +kernel
theorem dX11_forgetAnswers_4 : decode cX11_forgetAnswers 4 = .ok (.invokevirtual 161, 3) := by decide +kernel
theorem dX11_forgetAnswers_7 : decode cX11_forgetAnswers 7 = .ok (.aload_n 0, 1) := by decide +kernel
theorem dX11_forgetAnswers_8 : decode cX11_forgetAnswers 8 = .ok (.getfield 89, 3) := by decide +kernel
theorem dX11_forgetAnswers_11 : decode cX11_forgetAnswers 11 = .ok (.invokevirtual 164, 3) := by decide +kernel
theorem dX11_forgetAnswers_14 : decode cX11_forgetAnswers 14 = .ok (.return_, 1) := by decide +kernel
theorem dX11_member_0 : decode cX11_member 0 = .ok (.aload_n 0, 1) := by decide +kernel
theorem dX11_member_1 : decode cX11_member 1 = .ok (.getfield 48, 3) := by decide +kernel
theorem dX11_member_4 : decode cX11_member 4 = .ok (.iload_n 1, 1) := by decide +kernel
theorem dX11_member_5 : decode cX11_member 5 = .ok (.invokevirtual 165, 3) := by decide +kernel
theorem dX11_member_8 : decode cX11_member 8 = .ok (.ifCond .eq 13, 3) := by decide +kernel
theorem dX11_member_11 : decode cX11_member 11 = .ok (.iload_n 2, 1) := by decide +kernel
theorem dX11_member_12 : decode cX11_member 12 = .ok (.ifCond .lt 9, 3) := by decide +kernel
theorem dX11_member_15 : decode cX11_member 15 = .ok (.iload_n 2, 1) := by decide +kernel
theorem dX11_member_16 : decode cX11_member 16 = .ok (.bipush 9, 2) := by decide +kernel
theorem dX11_member_18 : decode cX11_member 18 = .ok (.if_icmp .le 11, 3) := by decide +kernel
theorem dX11_member_21 : decode cX11_member 21 = .ok (.new 168, 3) := by decide +kernel
theorem dX11_member_24 : decode cX11_member 24 = .ok (.dup, 1) := by decide +kernel
theorem dX11_member_25 : decode cX11_member 25 = .ok (.invokespecial 170, 3) := by decide +kernel
theorem dX11_member_28 : decode cX11_member 28 = .ok (.athrow, 1) := by decide +kernel
theorem dX11_member_29 : decode cX11_member 29 = .ok (.iload_n 2, 1) := by decide +kernel
theorem dX11_member_30 : decode cX11_member 30 = .ok (.tableswitch 61 7 9 #[26, 35, 44], 26) := by decide +kernel
theorem dX11_member_56 : decode cX11_member 56 = .ok (.aload_n 0, 1) := by decide +kernel
theorem dX11_member_57 : decode cX11_member 57 = .ok (.getfield 55, 3) := by decide +kernel
theorem dX11_member_60 : decode cX11_member 60 = .ok (.iload_n 1, 1) := by decide +kernel
theorem dX11_member_61 : decode cX11_member 61 = .ok (.invokevirtual 171, 3) := by decide +kernel
theorem dX11_member_64 : decode cX11_member 64 = .ok (.ireturn, 1) := by decide +kernel
theorem dX11_member_65 : decode cX11_member 65 = .ok (.aload_n 0, 1) := by decide +kernel
theorem dX11_member_66 : decode cX11_member 66 = .ok (.getfield 64, 3) := by decide +kernel
theorem dX11_member_69 : decode cX11_member 69 = .ok (.iload_n 1, 1) := by decide +kernel
theorem dX11_member_70 : decode cX11_member 70 = .ok (.invokevirtual 174, 3) := by decide +kernel
theorem dX11_member_73 : decode cX11_member 73 = .ok (.ireturn, 1) := by decide +kernel
theorem dX11_member_74 : decode cX11_member 74 = .ok (.aload_n 0, 1) := by decide +kernel
theorem dX11_member_75 : decode cX11_member 75 = .ok (.getfield 64, 3) := by decide +kernel
theorem dX11_member_78 : decode cX11_member 78 = .ok (.iload_n 1, 1) := by decide +kernel
theorem dX11_member_79 : decode cX11_member 79 = .ok (.invokevirtual 177, 3) := by decide +kernel
theorem dX11_member_82 : decode cX11_member 82 = .ok (.ifCond .eq 7, 3) := by decide +kernel
theorem dX11_member_85 : decode cX11_member 85 = .ok (.iconst 1, 1) := by decide +kernel
theorem dX11_member_86 : decode cX11_member 86 = .ok (.goto 4, 3) := by decide +kernel
theorem dX11_member_89 : decode cX11_member 89 = .ok (.iconst 0, 1) := by decide +kernel
theorem dX11_member_90 : decode cX11_member 90 = .ok (.ireturn, 1) := by decide +kernel
theorem dX11_member_91 : decode cX11_member 91 = .ok (.aload_n 0, 1) := by decide +kernel
theorem dX11_member_92 : decode cX11_member 92 = .ok (.getfield 48, 3) := by decide +kernel
theorem dX11_member_95 : decode cX11_member 95 = .ok (.iload_n 2, 1) := by decide +kernel
theorem dX11_member_96 : decode cX11_member 96 = .ok (.iload_n 1, 1) := by decide +kernel
theorem dX11_member_97 : decode cX11_member 97 = .ok (.invokevirtual 180, 3) := by decide +kernel
theorem dX11_member_100 : decode cX11_member 100 = .ok (.ireturn, 1) := by decide +kernel
theorem dX11_seat_0 : decode cX11_seat 0 = .ok (.aload_n 0, 1) := by decide +kernel
theorem dX11_seat_1 : decode cX11_seat 1 = .ok (.getfield 55, 3) := by decide +kernel
theorem dX11_seat_4 : decode cX11_seat 4 = .ok (.iload_n 1, 1) := by decide +kernel
theorem dX11_seat_5 : decode cX11_seat 5 = .ok (.invokevirtual 184, 3) := by decide +kernel
theorem dX11_seat_8 : decode cX11_seat 8 = .ok (.ireturn, 1) := by decide +kernel
theorem dX11_manners_0 : decode cX11_manners 0 = .ok (.iload_n 1, 1) := by decide +kernel
theorem dX11_manners_1 : decode cX11_manners 1 = .ok (.iconst (-1), 1) := by decide +kernel
theorem dX11_manners_2 : decode cX11_manners 2 = .ok (.if_icmp .lt 11, 3) := by decide +kernel
theorem dX11_manners_5 : decode cX11_manners 5 = .ok (.iload_n 1, 1) := by decide +kernel
theorem dX11_manners_6 : decode cX11_manners 6 = .ok (.aload_n 0, 1) := by decide +kernel
theorem dX11_manners_7 : decode cX11_manners 7 = .ok (.getfield 38, 3) := by decide +kernel
theorem dX11_manners_10 : decode cX11_manners 10 = .ok (.if_icmp .lt 5, 3) := by decide +kernel
theorem dX11_manners_13 : decode cX11_manners 13 = .ok (.iconst 0, 1) := by decide +kernel
theorem dX11_manners_14 : decode cX11_manners 14 = .ok (.ireturn, 1) := by decide +kernel
theorem dX11_manners_15 : decode cX11_manners 15 = .ok (.aload_n 0, 1) := by decide +kernel
theorem dX11_manners_16 : decode cX11_manners 16 = .ok (.iload_n 1, 1) := by decide +kernel
theorem dX11_manners_17 : decode cX11_manners 17 = .ok (.putfield 42, 3) := by decide +kernel
theorem dX11_manners_20 : decode cX11_manners 20 = .ok (.aload_n 0, 1) := by decide +kernel
theorem dX11_manners_21 : decode cX11_manners 21 = .ok (.getfield 82, 3) := by decide +kernel
theorem dX11_manners_24 : decode cX11_manners 24 = .ok (.iload_n 1, 1) := by decide +kernel
theorem dX11_manners_25 : decode cX11_manners 25 = .ok (.iconst (-1), 1) := by decide +kernel
theorem dX11_manners_26 : decode cX11_manners 26 = .ok (.if_icmp .ne 7, 3) := by decide +kernel
theorem dX11_manners_29 : decode cX11_manners 29 = .ok (.aconst_null, 1) := by decide +kernel
theorem dX11_manners_30 : decode cX11_manners 30 = .ok (.goto 9, 3) := by decide +kernel
theorem dX11_manners_33 : decode cX11_manners 33 = .ok (.aload_n 0, 1) := by decide +kernel
theorem dX11_manners_34 : decode cX11_manners 34 = .ok (.getfield 34, 3) := by decide +kernel
theorem dX11_manners_37 : decode cX11_manners 37 = .ok (.iload_n 1, 1) := by decide +kernel
theorem dX11_manners_38 : decode cX11_manners 38 = .ok (.aaload, 1) := by decide +kernel
theorem dX11_manners_39 : decode cX11_manners 39 = .ok (.invokevirtual 187, 3) := by decide +kernel
theorem dX11_manners_42 : decode cX11_manners 42 = .ok (.iconst 1, 1) := by decide +kernel
theorem dX11_manners_43 : decode cX11_manners 43 = .ok (.ireturn, 1) := by decide +kernel
theorem dX11_set_0 : decode cX11_set 0 = .ok (.iload_n 2, 1) := by decide +kernel
theorem dX11_set_1 : decode cX11_set 1 = .ok (.ifCond .eq 10, 3) := by decide +kernel
theorem dX11_set_4 : decode cX11_set 4 = .ok (.iload_n 2, 1) := by decide +kernel
theorem dX11_set_5 : decode cX11_set 5 = .ok (.iconst 1, 1) := by decide +kernel
theorem dX11_set_6 : decode cX11_set 6 = .ok (.if_icmp .eq 5, 3) := by decide +kernel
theorem dX11_set_9 : decode cX11_set 9 = .ok (.iconst 0, 1) := by decide +kernel
theorem dX11_set_10 : decode cX11_set 10 = .ok (.ireturn, 1) := by decide +kernel
theorem dX11_set_11 : decode cX11_set 11 = .ok (.iload_n 2, 1) := by decide +kernel
theorem dX11_set_12 : decode cX11_set 12 = .ok (.ifCond .ne 7, 3) := by decide +kernel
theorem dX11_set_15 : decode cX11_set 15 = .ok (.iconst 0, 1) := by decide +kernel
theorem dX11_set_16 : decode cX11_set 16 = .ok (.goto 4, 3) := by decide +kernel
theorem dX11_set_19 : decode cX11_set 19 = .ok (.iconst 3, 1) := by decide +kernel
theorem dX11_set_20 : decode cX11_set 20 = .ok (.istore 4, 2) := by decide +kernel
theorem dX11_set_22 : decode cX11_set 22 = .ok (.aload_n 0, 1) := by decide +kernel
theorem dX11_set_23 : decode cX11_set 23 = .ok (.getfield 48, 3) := by decide +kernel
theorem dX11_set_26 : decode cX11_set 26 = .ok (.iload_n 1, 1) := by decide +kernel
theorem dX11_set_27 : decode cX11_set 27 = .ok (.invokevirtual 165, 3) := by decide +kernel
theorem dX11_set_30 : decode cX11_set 30 = .ok (.ifCond .eq 30, 3) := by decide +kernel
theorem dX11_set_33 : decode cX11_set 33 = .ok (.iload_n 3, 1) := by decide +kernel
theorem dX11_set_34 : decode cX11_set 34 = .ok (.ifCond .lt 26, 3) := by decide +kernel
theorem dX11_set_37 : decode cX11_set 37 = .ok (.iload_n 3, 1) := by decide +kernel
theorem dX11_set_38 : decode cX11_set 38 = .ok (.iload 4, 2) := by decide +kernel
theorem dX11_set_40 : decode cX11_set 40 = .ok (.invokestatic 191, 3) := by decide +kernel
theorem dX11_set_43 : decode cX11_set 43 = .ok (.if_icmp .gt 17, 3) := by decide +kernel
theorem dX11_set_46 : decode cX11_set 46 = .ok (.aload_n 0, 1) := by decide +kernel
theorem dX11_set_47 : decode cX11_set 47 = .ok (.getfield 48, 3) := by decide +kernel
theorem dX11_set_50 : decode cX11_set 50 = .ok (.iload 4, 2) := by decide +kernel
theorem dX11_set_52 : decode cX11_set 52 = .ok (.iload_n 1, 1) := by decide +kernel
theorem dX11_set_53 : decode cX11_set 53 = .ok (.invokevirtual 180, 3) := by decide +kernel
theorem dX11_set_56 : decode cX11_set 56 = .ok (.iload_n 3, 1) := by decide +kernel
theorem dX11_set_57 : decode cX11_set 57 = .ok (.if_icmp .ne 5, 3) := by decide +kernel
theorem dX11_set_60 : decode cX11_set 60 = .ok (.iconst 0, 1) := by decide +kernel
theorem dX11_set_61 : decode cX11_set 61 = .ok (.ireturn, 1) := by decide +kernel
theorem dX11_set_62 : decode cX11_set 62 = .ok (.aload_n 0, 1) := by decide +kernel
theorem dX11_set_63 : decode cX11_set 63 = .ok (.getfield 48, 3) := by decide +kernel
theorem dX11_set_66 : decode cX11_set 66 = .ok (.iload 4, 2) := by decide +kernel
theorem dX11_set_68 : decode cX11_set 68 = .ok (.iload_n 1, 1) := by decide +kernel
theorem dX11_set_69 : decode cX11_set 69 = .ok (.iload_n 3, 1) := by decide +kernel
theorem dX11_set_70 : decode cX11_set 70 = .ok (.invokevirtual 194, 3) := by decide +kernel
theorem dX11_set_73 : decode cX11_set 73 = .ok (.aload_n 0, 1) := by decide +kernel
theorem dX11_set_74 : decode cX11_set 74 = .ok (.invokevirtual 158, 3) := by decide +kernel
theorem dX11_set_77 : decode cX11_set 77 = .ok (.iconst 1, 1) := by decide +kernel
theorem dX11_set_78 : decode cX11_set 78 = .ok (.ireturn, 1) := by decide +kernel
theorem dX11_change_0 : decode cX11_change 0 = .ok (.aload_n 0, 1) := by decide +kernel
theorem dX11_change_1 : decode cX11_change 1 = .ok (.getfield 55, 3) := by decide +kernel
theorem dX11_change_4 : decode cX11_change 4 = .ok (.iload_n 1, 1) := by decide +kernel
theorem dX11_change_5 : decode cX11_change 5 = .ok (.invokevirtual 198, 3) := by decide +kernel
theorem dX11_change_8 : decode cX11_change 8 = .ok (.ifCond .eq 19, 3) := by decide +kernel
theorem dX11_change_11 : decode cX11_change 11 = .ok (.aload_n 0, 1) := by decide +kernel
theorem dX11_change_12 : decode cX11_change 12 = .ok (.getfield 55, 3) := by decide +kernel
theorem dX11_change_15 : decode cX11_change 15 = .ok (.iload_n 2, 1) := by decide +kernel
theorem dX11_change_16 : decode cX11_change 16 = .ok (.invokevirtual 198, 3) := by decide +kernel
theorem dX11_change_19 : decode cX11_change 19 = .ok (.ifCond .eq 8, 3) := by decide +kernel
theorem dX11_change_22 : decode cX11_change 22 = .ok (.iload_n 1, 1) := by decide +kernel
theorem dX11_change_23 : decode cX11_change 23 = .ok (.iload_n 2, 1) := by decide +kernel
theorem dX11_change_24 : decode cX11_change 24 = .ok (.if_icmp .ne 5, 3) := by decide +kernel
theorem dX11_change_27 : decode cX11_change 27 = .ok (.iconst 0, 1) := by decide +kernel
theorem dX11_change_28 : decode cX11_change 28 = .ok (.ireturn, 1) := by decide +kernel
theorem dX11_change_29 : decode cX11_change 29 = .ok (.aload_n 0, 1) := by decide +kernel
theorem dX11_change_30 : decode cX11_change 30 = .ok (.getfield 55, 3) := by decide +kernel
theorem dX11_change_33 : decode cX11_change 33 = .ok (.iload_n 1, 1) := by decide +kernel
theorem dX11_change_34 : decode cX11_change 34 = .ok (.iload_n 2, 1) := by decide +kernel
theorem dX11_change_35 : decode cX11_change 35 = .ok (.invokevirtual 199, 3) := by decide +kernel
theorem dX11_change_38 : decode cX11_change 38 = .ok (.aload_n 0, 1) := by decide +kernel
theorem dX11_change_39 : decode cX11_change 39 = .ok (.invokevirtual 158, 3) := by decide +kernel
theorem dX11_change_42 : decode cX11_change 42 = .ok (.iconst 1, 1) := by decide +kernel
theorem dX11_change_43 : decode cX11_change 43 = .ok (.ireturn, 1) := by decide +kernel
theorem dX11_sit_0 : decode cX11_sit 0 = .ok (.aload_n 0, 1) := by decide +kernel
theorem dX11_sit_1 : decode cX11_sit 1 = .ok (.getfield 55, 3) := by decide +kernel
theorem dX11_sit_4 : decode cX11_sit 4 = .ok (.iload_n 1, 1) := by decide +kernel
theorem dX11_sit_5 : decode cX11_sit 5 = .ok (.invokevirtual 203, 3) := by decide +kernel
theorem dX11_sit_8 : decode cX11_sit 8 = .ok (.ifCond .ne 5, 3) := by decide +kernel
theorem dX11_sit_11 : decode cX11_sit 11 = .ok (.iconst 0, 1) := by decide +kernel
theorem dX11_sit_12 : decode cX11_sit 12 = .ok (.ireturn, 1) := by decide +kernel
theorem dX11_sit_13 : decode cX11_sit 13 = .ok (.aload_n 0, 1) := by decide +kernel
theorem dX11_sit_14 : decode cX11_sit 14 = .ok (.getfield 55, 3) := by decide +kernel
theorem dX11_sit_17 : decode cX11_sit 17 = .ok (.iload_n 1, 1) := by decide +kernel
theorem dX11_sit_18 : decode cX11_sit 18 = .ok (.invokevirtual 206, 3) := by decide +kernel
theorem dX11_sit_21 : decode cX11_sit 21 = .ok (.aload_n 0, 1) := by decide +kernel
theorem dX11_sit_22 : decode cX11_sit 22 = .ok (.invokevirtual 158, 3) := by decide +kernel
theorem dX11_sit_25 : decode cX11_sit 25 = .ok (.iconst 1, 1) := by decide +kernel
theorem dX11_sit_26 : decode cX11_sit 26 = .ok (.ireturn, 1) := by decide +kernel
theorem dX11_round_0 : decode cX11_round 0 = .ok (.aload_n 0, 1) := by decide +kernel
theorem dX11_round_1 : decode cX11_round 1 = .ok (.getfield 48, 3) := by decide +kernel
theorem dX11_round_4 : decode cX11_round 4 = .ok (.iload_n 1, 1) := by decide +kernel
theorem dX11_round_5 : decode cX11_round 5 = .ok (.invokevirtual 209, 3) := by decide +kernel
theorem dX11_round_8 : decode cX11_round 8 = .ok (.ifCond .eq 22, 3) := by decide +kernel
theorem dX11_round_11 : decode cX11_round 11 = .ok (.iload_n 2, 1) := by decide +kernel
theorem dX11_round_12 : decode cX11_round 12 = .ok (.ifCond .lt 18, 3) := by decide +kernel
theorem dX11_round_15 : decode cX11_round 15 = .ok (.iload_n 2, 1) := by decide +kernel
theorem dX11_round_16 : decode cX11_round 16 = .ok (.bipush 7, 2) := by decide +kernel
theorem dX11_round_18 : decode cX11_round 18 = .ok (.if_icmp .gt 12, 3) := by decide +kernel
theorem dX11_round_21 : decode cX11_round 21 = .ok (.iload_n 3, 1) := by decide +kernel
theorem dX11_round_22 : decode cX11_round 22 = .ok (.ifCond .lt 8, 3) := by decide +kernel
theorem dX11_round_25 : decode cX11_round 25 = .ok (.iload_n 3, 1) := by decide +kernel
theorem dX11_round_26 : decode cX11_round 26 = .ok (.iconst 2, 1) := by decide +kernel
theorem dX11_round_27 : decode cX11_round 27 = .ok (.if_icmp .le 7, 3) := by decide +kernel
theorem dX11_round_30 : decode cX11_round 30 = .ok (.ldc2_w 212, 3) := by decide +kernel
theorem dX11_round_33 : decode cX11_round 33 = .ok (.lreturn, 1) := by decide +kernel
theorem dX11_round_34 : decode cX11_round 34 = .ok (.aload_n 0, 1) := by decide +kernel
theorem dX11_round_35 : decode cX11_round 35 = .ok (.getfield 64, 3) := by decide +kernel
theorem dX11_round_38 : decode cX11_round 38 = .ok (.iload_n 1, 1) := by decide +kernel
theorem dX11_round_39 : decode cX11_round 39 = .ok (.iload_n 2, 1) := by decide +kernel
theorem dX11_round_40 : decode cX11_round 40 = .ok (.iload_n 3, 1) := by decide +kernel
theorem dX11_round_41 : decode cX11_round 41 = .ok (.invokevirtual 214, 3) := by decide +kernel
theorem dX11_round_44 : decode cX11_round 44 = .ok (.lreturn, 1) := by decide +kernel
theorem dX11_tally_0 : decode cX11_tally 0 = .ok (.aload_n 0, 1) := by decide +kernel
theorem dX11_tally_1 : decode cX11_tally 1 = .ok (.getfield 48, 3) := by decide +kernel
theorem dX11_tally_4 : decode cX11_tally 4 = .ok (.getfield 146, 3) := by decide +kernel
theorem dX11_tally_7 : decode cX11_tally 7 = .ok (.ifCond .eq 12, 3) := by decide +kernel
theorem dX11_tally_10 : decode cX11_tally 10 = .ok (.iload_n 1, 1) := by decide +kernel
theorem dX11_tally_11 : decode cX11_tally 11 = .ok (.ifCond .lt 8, 3) := by decide +kernel
theorem dX11_tally_14 : decode cX11_tally 14 = .ok (.iload_n 1, 1) := by decide +kernel
theorem dX11_tally_15 : decode cX11_tally 15 = .ok (.iconst 1, 1) := by decide +kernel
theorem dX11_tally_16 : decode cX11_tally 16 = .ok (.if_icmp .le 5, 3) := by decide +kernel
theorem dX11_tally_19 : decode cX11_tally 19 = .ok (.iconst (-1), 1) := by decide +kernel
theorem dX11_tally_20 : decode cX11_tally 20 = .ok (.ireturn, 1) := by decide +kernel
theorem dX11_tally_21 : decode cX11_tally 21 = .ok (.iload_n 1, 1) := by decide +kernel
theorem dX11_tally_22 : decode cX11_tally 22 = .ok (.ifCond .ne 13, 3) := by decide +kernel
theorem dX11_tally_25 : decode cX11_tally 25 = .ok (.aload_n 0, 1) := by decide +kernel
theorem dX11_tally_26 : decode cX11_tally 26 = .ok (.getfield 73, 3) := by decide +kernel
theorem dX11_tally_29 : decode cX11_tally 29 = .ok (.invokevirtual 218, 3) := by decide +kernel
theorem dX11_tally_32 : decode cX11_tally 32 = .ok (.goto 10, 3) := by decide +kernel
theorem dX11_tally_35 : decode cX11_tally 35 = .ok (.aload_n 0, 1) := by decide +kernel
theorem dX11_tally_36 : decode cX11_tally 36 = .ok (.getfield 73, 3) := by decide +kernel
theorem dX11_tally_39 : decode cX11_tally 39 = .ok (.invokevirtual 221, 3) := by decide +kernel
theorem dX11_tally_42 : decode cX11_tally 42 = .ok (.ireturn, 1) := by decide +kernel
theorem dX11_odds_0 : decode cX11_odds 0 = .ok (.aload_n 0, 1) := by decide +kernel
theorem dX11_odds_1 : decode cX11_odds 1 = .ok (.getfield 48, 3) := by decide +kernel
theorem dX11_odds_4 : decode cX11_odds 4 = .ok (.getfield 146, 3) := by decide +kernel
theorem dX11_odds_7 : decode cX11_odds 7 = .ok (.ifCond .eq 7, 3) := by decide +kernel
theorem dX11_odds_10 : decode cX11_odds 10 = .ok (.iload_n 1, 1) := by decide +kernel
theorem dX11_odds_11 : decode cX11_odds 11 = .ok (.ifCond .ge 9, 3) := by decide +kernel
theorem dX11_odds_14 : decode cX11_odds 14 = .ok (.ldc2_w 212, 3) := by decide +kernel
theorem dX11_odds_17 : decode cX11_odds 17 = .ok (.goto 11, 3) := by decide +kernel
theorem dX11_odds_20 : decode cX11_odds 20 = .ok (.aload_n 0, 1) := by decide +kernel
theorem dX11_odds_21 : decode cX11_odds 21 = .ok (.getfield 73, 3) := by decide +kernel
theorem dX11_odds_24 : decode cX11_odds 24 = .ok (.iload_n 1, 1) := by decide +kernel
theorem dX11_odds_25 : decode cX11_odds 25 = .ok (.invokevirtual 224, 3) := by decide +kernel
theorem dX11_odds_28 : decode cX11_odds 28 = .ok (.lreturn, 1) := by decide +kernel
theorem dX11_passed_0 : decode cX11_passed 0 = .ok (.aload_n 0, 1) := by decide +kernel
theorem dX11_passed_1 : decode cX11_passed 1 = .ok (.getfield 48, 3) := by decide +kernel
theorem dX11_passed_4 : decode cX11_passed 4 = .ok (.getfield 146, 3) := by decide +kernel
theorem dX11_passed_7 : decode cX11_passed 7 = .ok (.ifCond .ne 9, 3) := by decide +kernel
theorem dX11_passed_10 : decode cX11_passed 10 = .ok (.ldc2_w 212, 3) := by decide +kernel
theorem dX11_passed_13 : decode cX11_passed 13 = .ok (.goto 11, 3) := by decide +kernel
theorem dX11_passed_16 : decode cX11_passed 16 = .ok (.aload_n 0, 1) := by decide +kernel
theorem dX11_passed_17 : decode cX11_passed 17 = .ok (.getfield 73, 3) := by decide +kernel
theorem dX11_passed_20 : decode cX11_passed 20 = .ok (.iconst (-1), 1) := by decide +kernel
theorem dX11_passed_21 : decode cX11_passed 21 = .ok (.invokevirtual 228, 3) := by decide +kernel
theorem dX11_passed_24 : decode cX11_passed 24 = .ok (.lreturn, 1) := by decide +kernel
theorem dX11_turner_0 : decode cX11_turner 0 = .ok (.aload_n 0, 1) := by decide +kernel
theorem dX11_turner_1 : decode cX11_turner 1 = .ok (.getfield 48, 3) := by decide +kernel
theorem dX11_turner_4 : decode cX11_turner 4 = .ok (.getfield 146, 3) := by decide +kernel
theorem dX11_turner_7 : decode cX11_turner 7 = .ok (.ifCond .ne 7, 3) := by decide +kernel
theorem dX11_turner_10 : decode cX11_turner 10 = .ok (.iconst (-1), 1) := by decide +kernel
theorem dX11_turner_11 : decode cX11_turner 11 = .ok (.goto 10, 3) := by decide +kernel
theorem dX11_turner_14 : decode cX11_turner 14 = .ok (.aload_n 0, 1) := by decide +kernel
theorem dX11_turner_15 : decode cX11_turner 15 = .ok (.getfield 73, 3) := by decide +kernel
theorem dX11_turner_18 : decode cX11_turner 18 = .ok (.invokevirtual 231, 3) := by decide +kernel
theorem dX11_turner_21 : decode cX11_turner 21 = .ok (.ireturn, 1) := by decide +kernel
theorem dX11_bribe_0 : decode cX11_bribe 0 = .ok (.aload_n 0, 1) := by decide +kernel
theorem dX11_bribe_1 : decode cX11_bribe 1 = .ok (.getfield 48, 3) := by decide +kernel
theorem dX11_bribe_4 : decode cX11_bribe 4 = .ok (.getfield 146, 3) := by decide +kernel
theorem dX11_bribe_7 : decode cX11_bribe 7 = .ok (.ifCond .eq 12, 3) := by decide +kernel
theorem dX11_bribe_10 : decode cX11_bribe 10 = .ok (.iload_n 1, 1) := by decide +kernel
theorem dX11_bribe_11 : decode cX11_bribe 11 = .ok (.ifCond .lt 8, 3) := by decide +kernel
theorem dX11_bribe_14 : decode cX11_bribe 14 = .ok (.iload_n 1, 1) := by decide +kernel
theorem dX11_bribe_15 : decode cX11_bribe 15 = .ok (.iconst 1, 1) := by decide +kernel
theorem dX11_bribe_16 : decode cX11_bribe 16 = .ok (.if_icmp .le 5, 3) := by decide +kernel
theorem dX11_bribe_19 : decode cX11_bribe 19 = .ok (.iconst (-1), 1) := by decide +kernel
theorem dX11_bribe_20 : decode cX11_bribe 20 = .ok (.ireturn, 1) := by decide +kernel
theorem dX11_bribe_21 : decode cX11_bribe 21 = .ok (.aload_n 0, 1) := by decide +kernel
theorem dX11_bribe_22 : decode cX11_bribe 22 = .ok (.getfield 73, 3) := by decide +kernel
theorem dX11_bribe_25 : decode cX11_bribe 25 = .ok (.invokevirtual 234, 3) := by decide +kernel
theorem dX11_bribe_28 : decode cX11_bribe 28 = .ok (.istore_n 2, 1) := by decide +kernel
theorem dX11_bribe_29 : decode cX11_bribe 29 = .ok (.iload_n 2, 1) := by decide +kernel
theorem dX11_bribe_30 : decode cX11_bribe 30 = .ok (.iconst (-1), 1) := by decide +kernel
theorem dX11_bribe_31 : decode cX11_bribe 31 = .ok (.if_icmp .eq 8, 3) := by decide +kernel
theorem dX11_bribe_34 : decode cX11_bribe 34 = .ok (.iload_n 1, 1) := by decide +kernel
theorem dX11_bribe_35 : decode cX11_bribe 35 = .ok (.iconst 1, 1) := by decide +kernel
theorem dX11_bribe_36 : decode cX11_bribe 36 = .ok (.if_icmp .ne 7, 3) := by decide +kernel
theorem dX11_bribe_39 : decode cX11_bribe 39 = .ok (.iload_n 2, 1) := by decide +kernel
theorem dX11_bribe_40 : decode cX11_bribe 40 = .ok (.goto 11, 3) := by decide +kernel
theorem dX11_bribe_43 : decode cX11_bribe 43 = .ok (.aload_n 0, 1) := by decide +kernel
theorem dX11_bribe_44 : decode cX11_bribe 44 = .ok (.getfield 73, 3) := by decide +kernel
theorem dX11_bribe_47 : decode cX11_bribe 47 = .ok (.iload_n 2, 1) := by decide +kernel
theorem dX11_bribe_48 : decode cX11_bribe 48 = .ok (.invokevirtual 237, 3) := by decide +kernel
theorem dX11_bribe_51 : decode cX11_bribe 51 = .ok (.ireturn, 1) := by decide +kernel
theorem dX11_yawn_0 : decode cX11_yawn 0 = .ok (.aload_n 0, 1) := by decide +kernel
theorem dX11_yawn_1 : decode cX11_yawn 1 = .ok (.getfield 48, 3) := by decide +kernel
theorem dX11_yawn_4 : decode cX11_yawn 4 = .ok (.iload_n 1, 1) := by decide +kernel
theorem dX11_yawn_5 : decode cX11_yawn 5 = .ok (.invokevirtual 209, 3) := by decide +kernel
theorem dX11_yawn_8 : decode cX11_yawn 8 = .ok (.ifCond .eq 14, 3) := by decide +kernel
theorem dX11_yawn_11 : decode cX11_yawn 11 = .ok (.aload_n 0, 1) := by decide +kernel
theorem dX11_yawn_12 : decode cX11_yawn 12 = .ok (.getfield 48, 3) := by decide +kernel
theorem dX11_yawn_15 : decode cX11_yawn 15 = .ok (.iload_n 2, 1) := by decide +kernel
theorem dX11_yawn_16 : decode cX11_yawn 16 = .ok (.invokevirtual 165, 3) := by decide +kernel
theorem dX11_yawn_19 : decode cX11_yawn 19 = .ok (.ifCond .ne 5, 3) := by decide +kernel
theorem dX11_yawn_22 : decode cX11_yawn 22 = .ok (.iconst (-1), 1) := by decide +kernel
theorem dX11_yawn_23 : decode cX11_yawn 23 = .ok (.ireturn, 1) := by decide +kernel
theorem dX11_yawn_24 : decode cX11_yawn 24 = .ok (.aload_n 0, 1) := by decide +kernel
theorem dX11_yawn_25 : decode cX11_yawn 25 = .ok (.getfield 64, 3) := by decide +kernel
theorem dX11_yawn_28 : decode cX11_yawn 28 = .ok (.iload_n 1, 1) := by decide +kernel
theorem dX11_yawn_29 : decode cX11_yawn 29 = .ok (.invokevirtual 240, 3) := by decide +kernel
theorem dX11_yawn_32 : decode cX11_yawn 32 = .ok (.aload_n 0, 1) := by decide +kernel
theorem dX11_yawn_33 : decode cX11_yawn 33 = .ok (.getfield 64, 3) := by decide +kernel
theorem dX11_yawn_36 : decode cX11_yawn 36 = .ok (.iload_n 2, 1) := by decide +kernel
theorem dX11_yawn_37 : decode cX11_yawn 37 = .ok (.invokevirtual 243, 3) := by decide +kernel
theorem dX11_yawn_40 : decode cX11_yawn 40 = .ok (.ireturn, 1) := by decide +kernel
theorem dX11_yawns_0 : decode cX11_yawns 0 = .ok (.aload_n 0, 1) := by decide +kernel
theorem dX11_yawns_1 : decode cX11_yawns 1 = .ok (.getfield 48, 3) := by decide +kernel
theorem dX11_yawns_4 : decode cX11_yawns 4 = .ok (.iload_n 1, 1) := by decide +kernel
theorem dX11_yawns_5 : decode cX11_yawns 5 = .ok (.invokevirtual 209, 3) := by decide +kernel
theorem dX11_yawns_8 : decode cX11_yawns 8 = .ok (.ifCond .eq 12, 3) := by decide +kernel
theorem dX11_yawns_11 : decode cX11_yawns 11 = .ok (.iload_n 2, 1) := by decide +kernel
theorem dX11_yawns_12 : decode cX11_yawns 12 = .ok (.ifCond .lt 8, 3) := by decide +kernel
theorem dX11_yawns_15 : decode cX11_yawns 15 = .ok (.iload_n 2, 1) := by decide +kernel
theorem dX11_yawns_16 : decode cX11_yawns 16 = .ok (.iconst 1, 1) := by decide +kernel
theorem dX11_yawns_17 : decode cX11_yawns 17 = .ok (.if_icmp .le 5, 3) := by decide +kernel
theorem dX11_yawns_20 : decode cX11_yawns 20 = .ok (.iconst (-1), 1) := by decide +kernel
theorem dX11_yawns_21 : decode cX11_yawns 21 = .ok (.ireturn, 1) := by decide +kernel
theorem dX11_yawns_22 : decode cX11_yawns 22 = .ok (.aload_n 0, 1) := by decide +kernel
theorem dX11_yawns_23 : decode cX11_yawns 23 = .ok (.getfield 64, 3) := by decide +kernel
theorem dX11_yawns_26 : decode cX11_yawns 26 = .ok (.iload_n 1, 1) := by decide +kernel
theorem dX11_yawns_27 : decode cX11_yawns 27 = .ok (.invokevirtual 240, 3) := by decide +kernel
theorem dX11_yawns_30 : decode cX11_yawns 30 = .ok (.iload_n 2, 1) := by decide +kernel
theorem dX11_yawns_31 : decode cX11_yawns 31 = .ok (.ifCond .ne 13, 3) := by decide +kernel
theorem dX11_yawns_34 : decode cX11_yawns 34 = .ok (.aload_n 0, 1) := by decide +kernel
theorem dX11_yawns_35 : decode cX11_yawns 35 = .ok (.getfield 64, 3) := by decide +kernel
theorem dX11_yawns_38 : decode cX11_yawns 38 = .ok (.invokevirtual 246, 3) := by decide +kernel
theorem dX11_yawns_41 : decode cX11_yawns 41 = .ok (.goto 10, 3) := by decide +kernel
theorem dX11_yawns_44 : decode cX11_yawns 44 = .ok (.aload_n 0, 1) := by decide +kernel
theorem dX11_yawns_45 : decode cX11_yawns 45 = .ok (.getfield 64, 3) := by decide +kernel
theorem dX11_yawns_48 : decode cX11_yawns 48 = .ok (.invokevirtual 249, 3) := by decide +kernel
theorem dX11_yawns_51 : decode cX11_yawns 51 = .ok (.ireturn, 1) := by decide +kernel
theorem dX11_ill_0 : decode cX11_ill 0 = .ok (.aload_n 0, 1) := by decide +kernel
theorem dX11_ill_1 : decode cX11_ill 1 = .ok (.getfield 48, 3) := by decide +kernel
theorem dX11_ill_4 : decode cX11_ill 4 = .ok (.getfield 146, 3) := by decide +kernel
theorem dX11_ill_7 : decode cX11_ill 7 = .ok (.ifCond .ne 8, 3) := by decide +kernel
theorem dX11_ill_10 : decode cX11_ill 10 = .ok (.ldc 252, 2) := by decide +kernel
theorem dX11_ill_12 : decode cX11_ill 12 = .ok (.goto 14, 3) := by decide +kernel
theorem dX11_ill_15 : decode cX11_ill 15 = .ok (.aload_n 0, 1) := by decide +kernel
theorem dX11_ill_16 : decode cX11_ill 16 = .ok (.getfield 82, 3) := by decide +kernel
theorem dX11_ill_19 : decode cX11_ill 19 = .ok (.aload_n 0, 1) := by decide +kernel
theorem dX11_ill_20 : decode cX11_ill 20 = .ok (.getfield 55, 3) := by decide +kernel
theorem dX11_ill_23 : decode cX11_ill 23 = .ok (.invokevirtual 253, 3) := by decide +kernel
theorem dX11_ill_26 : decode cX11_ill 26 = .ok (.ireturn, 1) := by decide +kernel
theorem dX11_best_0 : decode cX11_best 0 = .ok (.aload_n 0, 1) := by decide +kernel
theorem dX11_best_1 : decode cX11_best 1 = .ok (.getfield 48, 3) := by decide +kernel
theorem dX11_best_4 : decode cX11_best 4 = .ok (.getfield 146, 3) := by decide +kernel
theorem dX11_best_7 : decode cX11_best 7 = .ok (.ifCond .eq 21, 3) := by decide +kernel
theorem dX11_best_10 : decode cX11_best 10 = .ok (.iload_n 1, 1) := by decide +kernel
theorem dX11_best_11 : decode cX11_best 11 = .ok (.ifCond .lt 17, 3) := by decide +kernel
theorem dX11_best_14 : decode cX11_best 14 = .ok (.iload_n 1, 1) := by decide +kernel
theorem dX11_best_15 : decode cX11_best 15 = .ok (.iconst 2, 1) := by decide +kernel
theorem dX11_best_16 : decode cX11_best 16 = .ok (.if_icmp .gt 12, 3) := by decide +kernel
theorem dX11_best_19 : decode cX11_best 19 = .ok (.iload_n 2, 1) := by decide +kernel
theorem dX11_best_20 : decode cX11_best 20 = .ok (.ifCond .lt 8, 3) := by decide +kernel
theorem dX11_best_23 : decode cX11_best 23 = .ok (.iload_n 2, 1) := by decide +kernel
theorem dX11_best_24 : decode cX11_best 24 = .ok (.iconst 1, 1) := by decide +kernel
theorem dX11_best_25 : decode cX11_best 25 = .ok (.if_icmp .le 6, 3) := by decide +kernel
theorem dX11_best_28 : decode cX11_best 28 = .ok (.ldc 252, 2) := by decide +kernel
theorem dX11_best_30 : decode cX11_best 30 = .ok (.ireturn, 1) := by decide +kernel
theorem dX11_best_31 : decode cX11_best 31 = .ok (.aload_n 0, 1) := by decide +kernel
theorem dX11_best_32 : decode cX11_best 32 = .ok (.getfield 82, 3) := by decide +kernel
theorem dX11_best_35 : decode cX11_best 35 = .ok (.iload_n 1, 1) := by decide +kernel
theorem dX11_best_36 : decode cX11_best 36 = .ok (.invokevirtual 257, 3) := by decide +kernel
theorem dX11_best_39 : decode cX11_best 39 = .ok (.iload_n 2, 1) := by decide +kernel
theorem dX11_best_40 : decode cX11_best 40 = .ok (.ifCond .ne 14, 3) := by decide +kernel
theorem dX11_best_43 : decode cX11_best 43 = .ok (.aload_n 0, 1) := by decide +kernel
theorem dX11_best_44 : decode cX11_best 44 = .ok (.getfield 82, 3) := by decide +kernel
theorem dX11_best_47 : decode cX11_best 47 = .ok (.iload_n 1, 1) := by decide +kernel
theorem dX11_best_48 : decode cX11_best 48 = .ok (.invokevirtual 260, 3) := by decide +kernel
theorem dX11_best_51 : decode cX11_best 51 = .ok (.goto 11, 3) := by decide +kernel
theorem dX11_best_54 : decode cX11_best 54 = .ok (.aload_n 0, 1) := by decide +kernel
theorem dX11_best_55 : decode cX11_best 55 = .ok (.getfield 82, 3) := by decide +kernel
theorem dX11_best_58 : decode cX11_best 58 = .ok (.iload_n 1, 1) := by decide +kernel
theorem dX11_best_59 : decode cX11_best 59 = .ok (.invokevirtual 263, 3) := by decide +kernel
theorem dX11_best_62 : decode cX11_best 62 = .ok (.ireturn, 1) := by decide +kernel
theorem dX11_changes_0 : decode cX11_changes 0 = .ok (.aload_n 0, 1) := by decide +kernel
theorem dX11_changes_1 : decode cX11_changes 1 = .ok (.getfield 48, 3) := by decide +kernel
theorem dX11_changes_4 : decode cX11_changes 4 = .ok (.getfield 146, 3) := by decide +kernel
theorem dX11_changes_7 : decode cX11_changes 7 = .ok (.ifCond .eq 12, 3) := by decide +kernel
theorem dX11_changes_10 : decode cX11_changes 10 = .ok (.iload_n 1, 1) := by decide +kernel
theorem dX11_changes_11 : decode cX11_changes 11 = .ok (.ifCond .lt 8, 3) := by decide +kernel
theorem dX11_changes_14 : decode cX11_changes 14 = .ok (.iload_n 1, 1) := by decide +kernel
theorem dX11_changes_15 : decode cX11_changes 15 = .ok (.iconst 1, 1) := by decide +kernel
theorem dX11_changes_16 : decode cX11_changes 16 = .ok (.if_icmp .le 5, 3) := by decide +kernel
theorem dX11_changes_19 : decode cX11_changes 19 = .ok (.iconst (-1), 1) := by decide +kernel
theorem dX11_changes_20 : decode cX11_changes 20 = .ok (.ireturn, 1) := by decide +kernel
theorem dX11_changes_21 : decode cX11_changes 21 = .ok (.aload_n 0, 1) := by decide +kernel
theorem dX11_changes_22 : decode cX11_changes 22 = .ok (.getfield 89, 3) := by decide +kernel
theorem dX11_changes_25 : decode cX11_changes 25 = .ok (.invokevirtual 266, 3) := by decide +kernel
theorem dX11_changes_28 : decode cX11_changes 28 = .ok (.iload_n 1, 1) := by decide +kernel
theorem dX11_changes_29 : decode cX11_changes 29 = .ok (.ifCond .ne 13, 3) := by decide +kernel
theorem dX11_changes_32 : decode cX11_changes 32 = .ok (.aload_n 0, 1) := by decide +kernel
theorem dX11_changes_33 : decode cX11_changes 33 = .ok (.getfield 89, 3) := by decide +kernel
theorem dX11_changes_36 : decode cX11_changes 36 = .ok (.getfield 268, 3) := by decide +kernel
theorem dX11_changes_39 : decode cX11_changes 39 = .ok (.goto 10, 3) := by decide +kernel
theorem dX11_changes_42 : decode cX11_changes 42 = .ok (.aload_n 0, 1) := by decide +kernel
theorem dX11_changes_43 : decode cX11_changes 43 = .ok (.getfield 89, 3) := by decide +kernel
theorem dX11_changes_46 : decode cX11_changes 46 = .ok (.getfield 271, 3) := by decide +kernel
theorem dX11_changes_49 : decode cX11_changes 49 = .ok (.ireturn, 1) := by decide +kernel
theorem dX11_know_0 : decode cX11_know 0 = .ok (.aload_n 0, 1) := by decide +kernel
theorem dX11_know_1 : decode cX11_know 1 = .ok (.getfield 55, 3) := by decide +kernel
theorem dX11_know_4 : decode cX11_know 4 = .ok (.iload_n 1, 1) := by decide +kernel
theorem dX11_know_5 : decode cX11_know 5 = .ok (.invokevirtual 198, 3) := by decide +kernel
theorem dX11_know_8 : decode cX11_know 8 = .ok (.ifCond .eq 15, 3) := by decide +kernel
theorem dX11_know_11 : decode cX11_know 11 = .ok (.aload_n 0, 1) := by decide +kernel
theorem dX11_know_12 : decode cX11_know 12 = .ok (.getfield 73, 3) := by decide +kernel
theorem dX11_know_15 : decode cX11_know 15 = .ok (.iload_n 1, 1) := by decide +kernel
theorem dX11_know_16 : decode cX11_know 16 = .ok (.iload_n 2, 1) := by decide +kernel
theorem dX11_know_17 : decode cX11_know 17 = .ok (.invokevirtual 274, 3) := by decide +kernel
theorem dX11_know_20 : decode cX11_know 20 = .ok (.goto 4, 3) := by decide +kernel
theorem dX11_know_23 : decode cX11_know 23 = .ok (.iconst (-1), 1) := by decide +kernel
theorem dX11_know_24 : decode cX11_know 24 = .ok (.ireturn, 1) := by decide +kernel
theorem dX11_fits_0 : decode cX11_fits 0 = .ok (.aload_n 0, 1) := by decide +kernel
theorem dX11_fits_1 : decode cX11_fits 1 = .ok (.getfield 48, 3) := by decide +kernel
theorem dX11_fits_4 : decode cX11_fits 4 = .ok (.getfield 146, 3) := by decide +kernel
theorem dX11_fits_7 : decode cX11_fits 7 = .ok (.ifCond .eq 8, 3) := by decide +kernel
theorem dX11_fits_10 : decode cX11_fits 10 = .ok (.iload_n 1, 1) := by decide +kernel
theorem dX11_fits_11 : decode cX11_fits 11 = .ok (.iconst (-1), 1) := by decide +kernel
theorem dX11_fits_12 : decode cX11_fits 12 = .ok (.if_icmp .ge 5, 3) := by decide +kernel
theorem dX11_fits_15 : decode cX11_fits 15 = .ok (.iconst (-1), 1) := by decide +kernel
theorem dX11_fits_16 : decode cX11_fits 16 = .ok (.ireturn, 1) := by decide +kernel
theorem dX11_fits_17 : decode cX11_fits 17 = .ok (.iload_n 1, 1) := by decide +kernel
theorem dX11_fits_18 : decode cX11_fits 18 = .ok (.iconst (-1), 1) := by decide +kernel
theorem dX11_fits_19 : decode cX11_fits 19 = .ok (.if_icmp .ne 13, 3) := by decide +kernel
theorem dX11_fits_22 : decode cX11_fits 22 = .ok (.aload_n 0, 1) := by decide +kernel
theorem dX11_fits_23 : decode cX11_fits 23 = .ok (.getfield 73, 3) := by decide +kernel
theorem dX11_fits_26 : decode cX11_fits 26 = .ok (.invokevirtual 278, 3) := by decide +kernel
theorem dX11_fits_29 : decode cX11_fits 29 = .ok (.goto 11, 3) := by decide +kernel
theorem dX11_fits_32 : decode cX11_fits 32 = .ok (.aload_n 0, 1) := by decide +kernel
theorem dX11_fits_33 : decode cX11_fits 33 = .ok (.getfield 73, 3) := by decide +kernel
theorem dX11_fits_36 : decode cX11_fits 36 = .ok (.iload_n 1, 1) := by decide +kernel
theorem dX11_fits_37 : decode cX11_fits 37 = .ok (.invokevirtual 281, 3) := by decide +kernel
theorem dX11_fits_40 : decode cX11_fits 40 = .ok (.ireturn, 1) := by decide +kernel
theorem dX11_sure_0 : decode cX11_sure 0 = .ok (.aload_n 0, 1) := by decide +kernel
theorem dX11_sure_1 : decode cX11_sure 1 = .ok (.getfield 48, 3) := by decide +kernel
theorem dX11_sure_4 : decode cX11_sure 4 = .ok (.getfield 146, 3) := by decide +kernel
theorem dX11_sure_7 : decode cX11_sure 7 = .ok (.ifCond .ne 7, 3) := by decide +kernel
theorem dX11_sure_10 : decode cX11_sure 10 = .ok (.iconst (-1), 1) := by decide +kernel
theorem dX11_sure_11 : decode cX11_sure 11 = .ok (.goto 11, 3) := by decide +kernel
theorem dX11_sure_14 : decode cX11_sure 14 = .ok (.aload_n 0, 1) := by decide +kernel
theorem dX11_sure_15 : decode cX11_sure 15 = .ok (.getfield 73, 3) := by decide +kernel
theorem dX11_sure_18 : decode cX11_sure 18 = .ok (.iload_n 1, 1) := by decide +kernel
theorem dX11_sure_19 : decode cX11_sure 19 = .ok (.invokevirtual 284, 3) := by decide +kernel
theorem dX11_sure_22 : decode cX11_sure 22 = .ok (.ireturn, 1) := by decide +kernel
theorem dX11_seed_0 : decode cX11_seed 0 = .ok (.aload_n 0, 1) := by decide +kernel
theorem dX11_seed_1 : decode cX11_seed 1 = .ok (.getfield 96, 3) := by decide +kernel
theorem dX11_seed_4 : decode cX11_seed 4 = .ok (.lload_n 1, 1) := by decide +kernel
theorem dX11_seed_5 : decode cX11_seed 5 = .ok (.putfield 288, 3) := by decide +kernel
theorem dX11_seed_8 : decode cX11_seed 8 = .ok (.iconst 1, 1) := by decide +kernel
theorem dX11_seed_9 : decode cX11_seed 9 = .ok (.ireturn, 1) := by decide +kernel
theorem dX11_sitting_0 : decode cX11_sitting 0 = .ok (.aload_n 0, 1) := by decide +kernel
theorem dX11_sitting_1 : decode cX11_sitting 1 = .ok (.getfield 48, 3) := by decide +kernel
theorem dX11_sitting_4 : decode cX11_sitting 4 = .ok (.getfield 146, 3) := by decide +kernel
theorem dX11_sitting_7 : decode cX11_sitting 7 = .ok (.ifCond .eq 13, 3) := by decide +kernel
theorem dX11_sitting_10 : decode cX11_sitting 10 = .ok (.aload_n 0, 1) := by decide +kernel
theorem dX11_sitting_11 : decode cX11_sitting 11 = .ok (.getfield 96, 3) := by decide +kernel
theorem dX11_sitting_14 : decode cX11_sitting 14 = .ok (.invokevirtual 292, 3) := by decide +kernel
theorem dX11_sitting_17 : decode cX11_sitting 17 = .ok (.ifCond .eq 5, 3) := by decide +kernel
theorem dX11_sitting_20 : decode cX11_sitting 20 = .ok (.iconst (-1), 1) := by decide +kernel
theorem dX11_sitting_21 : decode cX11_sitting 21 = .ok (.ireturn, 1) := by decide +kernel
theorem dX11_sitting_22 : decode cX11_sitting 22 = .ok (.aload_n 0, 1) := by decide +kernel
theorem dX11_sitting_23 : decode cX11_sitting 23 = .ok (.getfield 96, 3) := by decide +kernel
theorem dX11_sitting_26 : decode cX11_sitting 26 = .ok (.getfield 288, 3) := by decide +kernel
theorem dX11_sitting_29 : decode cX11_sitting 29 = .ok (.lstore_n 1, 1) := by decide +kernel
theorem dX11_sitting_30 : decode cX11_sitting 30 = .ok (.iconst 0, 1) := by decide +kernel
theorem dX11_sitting_31 : decode cX11_sitting 31 = .ok (.istore_n 3, 1) := by decide +kernel
theorem dX11_sitting_32 : decode cX11_sitting 32 = .ok (.iconst 0, 1) := by decide +kernel
theorem dX11_sitting_33 : decode cX11_sitting 33 = .ok (.istore 4, 2) := by decide +kernel
theorem dX11_sitting_35 : decode cX11_sitting 35 = .ok (.iload 4, 2) := by decide +kernel
theorem dX11_sitting_37 : decode cX11_sitting 37 = .ok (.aload_n 0, 1) := by decide +kernel
theorem dX11_sitting_38 : decode cX11_sitting 38 = .ok (.getfield 48, 3) := by decide +kernel
theorem dX11_sitting_41 : decode cX11_sitting 41 = .ok (.getfield 146, 3) := by decide +kernel
theorem dX11_sitting_44 : decode cX11_sitting 44 = .ok (.if_icmp .ge 92, 3) := by decide +kernel
theorem dX11_sitting_47 : decode cX11_sitting 47 = .ok (.aload_n 0, 1) := by decide +kernel
theorem dX11_sitting_48 : decode cX11_sitting 48 = .ok (.getfield 64, 3) := by decide +kernel
theorem dX11_sitting_51 : decode cX11_sitting 51 = .ok (.iload 4, 2) := by decide +kernel
theorem dX11_sitting_53 : decode cX11_sitting 53 = .ok (.invokevirtual 177, 3) := by decide +kernel
theorem dX11_sitting_56 : decode cX11_sitting 56 = .ok (.ifCond .eq 74, 3) := by decide +kernel
theorem dX11_sitting_59 : decode cX11_sitting 59 = .ok (.aload_n 0, 1) := by decide +kernel
theorem dX11_sitting_60 : decode cX11_sitting 60 = .ok (.getfield 96, 3) := by decide +kernel
theorem dX11_sitting_63 : decode cX11_sitting 63 = .ok (.bipush 100, 2) := by decide +kernel
theorem dX11_sitting_65 : decode cX11_sitting 65 = .ok (.invokevirtual 296, 3) := by decide +kernel
theorem dX11_sitting_68 : decode cX11_sitting 68 = .ok (.aload_n 0, 1) := by decide +kernel
theorem dX11_sitting_69 : decode cX11_sitting 69 = .ok (.getfield 64, 3) := by decide +kernel
theorem dX11_sitting_72 : decode cX11_sitting 72 = .ok (.aload_n 0, 1) := by decide +kernel
theorem dX11_sitting_73 : decode cX11_sitting 73 = .ok (.getfield 64, 3) := by decide +kernel
theorem dX11_sitting_76 : decode cX11_sitting 76 = .ok (.iload 4, 2) := by decide +kernel
theorem dX11_sitting_78 : decode cX11_sitting 78 = .ok (.invokevirtual 174, 3) := by decide +kernel
theorem dX11_sitting_81 : decode cX11_sitting 81 = .ok (.invokevirtual 299, 3) := by decide +kernel
theorem dX11_sitting_84 : decode cX11_sitting 84 = .ok (.if_icmp .ge 7, 3) := by decide +kernel
theorem dX11_sitting_87 : decode cX11_sitting 87 = .ok (.iconst 1, 1) := by decide +kernel
theorem dX11_sitting_88 : decode cX11_sitting 88 = .ok (.goto 4, 3) := by decide +kernel
theorem dX11_sitting_91 : decode cX11_sitting 91 = .ok (.iconst 0, 1) := by decide +kernel
theorem dX11_sitting_92 : decode cX11_sitting 92 = .ok (.istore 5, 2) := by decide +kernel
theorem dX11_sitting_94 : decode cX11_sitting 94 = .ok (.aload_n 0, 1) := by decide +kernel
theorem dX11_sitting_95 : decode cX11_sitting 95 = .ok (.getfield 48, 3) := by decide +kernel
theorem dX11_sitting_98 : decode cX11_sitting 98 = .ok (.iconst 0, 1) := by decide +kernel
theorem dX11_sitting_99 : decode cX11_sitting 99 = .ok (.iload 4, 2) := by decide +kernel
theorem dX11_sitting_101 : decode cX11_sitting 101 = .ok (.invokevirtual 180, 3) := by decide +kernel
theorem dX11_sitting_104 : decode cX11_sitting 104 = .ok (.iconst 1, 1) := by decide +kernel
theorem dX11_sitting_105 : decode cX11_sitting 105 = .ok (.if_icmp .ne 7, 3) := by decide +kernel
theorem dX11_sitting_108 : decode cX11_sitting 108 = .ok (.iconst 1, 1) := by decide +kernel
theorem dX11_sitting_109 : decode cX11_sitting 109 = .ok (.goto 4, 3) := by decide +kernel
theorem dX11_sitting_112 : decode cX11_sitting 112 = .ok (.iconst 0, 1) := by decide +kernel
theorem dX11_sitting_113 : decode cX11_sitting 113 = .ok (.istore 6, 2) := by decide +kernel
theorem dX11_sitting_115 : decode cX11_sitting 115 = .ok (.iload_n 3, 1) := by decide +kernel
theorem dX11_sitting_116 : decode cX11_sitting 116 = .ok (.iload 6, 2) := by decide +kernel
theorem dX11_sitting_118 : decode cX11_sitting 118 = .ok (.iload 5, 2) := by decide +kernel
theorem dX11_sitting_120 : decode cX11_sitting 120 = .ok (.if_icmp .eq 7, 3) := by decide +kernel
theorem dX11_sitting_123 : decode cX11_sitting 123 = .ok (.iconst 1, 1) := by decide +kernel
theorem dX11_sitting_124 : decode cX11_sitting 124 = .ok (.goto 4, 3) := by decide +kernel
theorem dX11_sitting_127 : decode cX11_sitting 127 = .ok (.iconst 0, 1) := by decide +kernel
theorem dX11_sitting_128 : decode cX11_sitting 128 = .ok (.iadd, 1) := by decide +kernel
theorem dX11_sitting_129 : decode cX11_sitting 129 = .ok (.istore_n 3, 1) := by decide +kernel
theorem dX11_sitting_130 : decode cX11_sitting 130 = .ok (.iinc 4 1, 3) := by decide +kernel
theorem dX11_sitting_133 : decode cX11_sitting 133 = .ok (.goto (-98), 3) := by decide +kernel
theorem dX11_sitting_136 : decode cX11_sitting 136 = .ok (.aload_n 0, 1) := by decide +kernel
theorem dX11_sitting_137 : decode cX11_sitting 137 = .ok (.getfield 96, 3) := by decide +kernel
theorem dX11_sitting_140 : decode cX11_sitting 140 = .ok (.iload_n 3, 1) := by decide +kernel
