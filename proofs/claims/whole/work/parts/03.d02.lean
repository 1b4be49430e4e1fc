theorem dX1_init_58 : decode cX1_init 58 = .ok (.newarray .long, 2) := by decide +kernel
theorem dX1_init_60 : decode cX1_init 60 = .ok (.putfield 42, 3) := by decide +kernel
theorem dX1_init_63 : decode cX1_init 63 = .ok (.aload_n 0, 1) := by decide +kernel
theorem dX1_init_64 : decode cX1_init 64 = .ok (.iconst 0, 1) := by decide +kernel
theorem dX1_init_65 : decode cX1_init 65 = .ok (.putfield 46, 3) := by decide +kernel
theorem dX1_init_68 : decode cX1_init 68 = .ok (.aload_n 0, 1) := by decide +kernel
theorem dX1_init_69 : decode cX1_init 69 = .ok (.iconst (-1), 1) := by decide +kernel
theorem dX1_init_70 : decode cX1_init 70 = .ok (.putfield 50, 3) := by decide +kernel
theorem dX1_init_73 : decode cX1_init 73 = .ok (.aload_n 0, 1) := by decide +kernel
theorem dX1_init_74 : decode cX1_init 74 = .ok (.iconst (-1), 1) := by decide +kernel
theorem dX1_init_75 : decode cX1_init 75 = .ok (.putfield 53, 3) := by decide +kernel
theorem dX1_init_78 : decode cX1_init 78 = .ok (.return_, 1) := by decide +kernel
theorem dX1_forget_0 : decode cX1_forget 0 = .ok (.aload_n 0, 1) := by decide +kernel
theorem dX1_forget_1 : decode cX1_forget 1 = .ok (.iconst 0, 1) := by decide +kernel
theorem dX1_forget_2 : decode cX1_forget 2 = .ok (.putfield 46, 3) := by decide +kernel
theorem dX1_forget_5 : decode cX1_forget 5 = .ok (.return_, 1) := by decide +kernel
theorem dX1_search_0 : decode cX1_search 0 = .ok (.aload_n 0, 1) := by decide +kernel
theorem dX1_search_1 : decode cX1_search 1 = .ok (.getfield 46, 3) := by decide +kernel
theorem dX1_search_4 : decode cX1_search 4 = .ok (.ifCond .eq 4, 3) := by decide +kernel
theorem dX1_search_7 : decode cX1_search 7 = .ok (.return_, 1) := by decide +kernel
theorem dX1_search_8 : decode cX1_search 8 = .ok (.aload_n 0, 1) := by decide +kernel
theorem dX1_search_9 : decode cX1_search 9 = .ok (.iconst 1, 1) := by decide +kernel
theorem dX1_search_10 : decode cX1_search 10 = .ok (.putfield 46, 3) := by decide +kernel
theorem dX1_search_13 : decode cX1_search 13 = .ok (.aload_n 0, 1) := by decide +kernel
theorem dX1_search_14 : decode cX1_search 14 = .ok (.iconst (-1), 1) := by decide +kernel
theorem dX1_search_15 : decode cX1_search 15 = .ok (.putfield 50, 3) := by decide +kernel
theorem dX1_search_18 : decode cX1_search 18 = .ok (.aload_n 0, 1) := by decide +kernel
theorem dX1_search_19 : decode cX1_search 19 = .ok (.iconst (-1), 1) := by decide +kernel
theorem dX1_search_20 : decode cX1_search 20 = .ok (.putfield 53, 3) := by decide +kernel
theorem dX1_search_23 : decode cX1_search 23 = .ok (.aload_n 0, 1) := by decide +kernel
theorem dX1_search_24 : decode cX1_search 24 = .ok (.getfield 9, 3) := by decide +kernel
theorem dX1_search_27 : decode cX1_search 27 = .ok (.invokevirtual 56, 3) := by decide +kernel
theorem dX1_search_30 : decode cX1_search 30 = .ok (.istore_n 1, 1) := by decide +kernel
theorem dX1_search_31 : decode cX1_search 31 = .ok (.iload_n 1, 1) := by decide +kernel
theorem dX1_search_32 : decode cX1_search 32 = .ok (.ifCond .eq 13, 3) := by decide +kernel
theorem dX1_search_35 : decode cX1_search 35 = .ok (.aload_n 0, 1) := by decide +kernel
theorem dX1_search_36 : decode cX1_search 36 = .ok (.iload_n 1, 1) := by decide +kernel
theorem dX1_search_37 : decode cX1_search 37 = .ok (.iconst (-1), 1) := by decide +kernel
theorem dX1_search_38 : decode cX1_search 38 = .ok (.iconst (-1), 1) := by decide +kernel
theorem dX1_search_39 : decode cX1_search 39 = .ok (.invokevirtual 62, 3) := by decide +kernel
theorem dX1_search_42 : decode cX1_search 42 = .ok (.ifCond .eq 7, 3) := by decide +kernel
theorem dX1_search_45 : decode cX1_search 45 = .ok (.aload_n 0, 1) := by decide +kernel
theorem dX1_search_46 : decode cX1_search 46 = .ok (.invokevirtual 66, 3) := by decide +kernel
theorem dX1_search_49 : decode cX1_search 49 = .ok (.return_, 1) := by decide +kernel
theorem dX1_canBeOrdered_0 : decode cX1_canBeOrdered 0 = .ok (.iload_n 1, 1) := by decide +kernel
theorem dX1_canBeOrdered_1 : decode cX1_canBeOrdered 1 = .ok (.ifCond .ne 36, 3) := by decide +kernel
theorem dX1_canBeOrdered_4 : decode cX1_canBeOrdered 4 = .ok (.aload_n 0, 1) := by decide +kernel
theorem dX1_canBeOrdered_5 : decode cX1_canBeOrdered 5 = .ok (.getfield 9, 3) := by decide +kernel
theorem dX1_canBeOrdered_8 : decode cX1_canBeOrdered 8 = .ok (.getfield 69, 3) := by decide +kernel
theorem dX1_canBeOrdered_11 : decode cX1_canBeOrdered 11 = .ok (.ifCond .eq 20, 3) := by decide +kernel
theorem dX1_canBeOrdered_14 : decode cX1_canBeOrdered 14 = .ok (.iload_n 2, 1) := by decide +kernel
theorem dX1_canBeOrdered_15 : decode cX1_canBeOrdered 15 = .ok (.iload_n 3, 1) := by decide +kernel
theorem dX1_canBeOrdered_16 : decode cX1_canBeOrdered 16 = .ok (.if_icmp .eq 19, 3) := by decide +kernel
theorem dX1_canBeOrdered_19 : decode cX1_canBeOrdered 19 = .ok (.aload_n 0, 1) := by decide +kernel
theorem dX1_canBeOrdered_20 : decode cX1_canBeOrdered 20 = .ok (.getfield 9, 3) := by decide +kernel
theorem dX1_canBeOrdered_23 : decode cX1_canBeOrdered 23 = .ok (.iload_n 3, 1) := by decide +kernel
theorem dX1_canBeOrdered_24 : decode cX1_canBeOrdered 24 = .ok (.iload_n 2, 1) := by decide +kernel
theorem dX1_canBeOrdered_25 : decode cX1_canBeOrdered 25 = .ok (.invokevirtual 72, 3) := by decide +kernel
theorem dX1_canBeOrdered_28 : decode cX1_canBeOrdered 28 = .ok (.ifCond .ne 7, 3) := by decide +kernel
theorem dX1_canBeOrdered_31 : decode cX1_canBeOrdered 31 = .ok (.iconst 1, 1) := by decide +kernel
theorem dX1_canBeOrdered_32 : decode cX1_canBeOrdered 32 = .ok (.goto 4, 3) := by decide +kernel
theorem dX1_canBeOrdered_35 : decode cX1_canBeOrdered 35 = .ok (.iconst 0, 1) := by decide +kernel
theorem dX1_canBeOrdered_36 : decode cX1_canBeOrdered 36 = .ok (.ireturn, 1) := by decide +kernel
theorem dX1_canBeOrdered_37 : decode cX1_canBeOrdered 37 = .ok (.iconst 0, 1) := by decide +kernel
theorem dX1_canBeOrdered_38 : decode cX1_canBeOrdered 38 = .ok (.istore 4, 2) := by decide +kernel
theorem dX1_canBeOrdered_40 : decode cX1_canBeOrdered 40 = .ok (.iload 4, 2) := by decide +kernel
theorem dX1_canBeOrdered_42 : decode cX1_canBeOrdered 42 = .ok (.aload_n 0, 1) := by decide +kernel
theorem dX1_canBeOrdered_43 : decode cX1_canBeOrdered 43 = .ok (.getfield 9, 3) := by decide +kernel
theorem dX1_canBeOrdered_46 : decode cX1_canBeOrdered 46 = .ok (.getfield 76, 3) := by decide +kernel
theorem dX1_canBeOrdered_49 : decode cX1_canBeOrdered 49 = .ok (.if_icmp .ge 78, 3) := by decide +kernel
theorem dX1_canBeOrdered_52 : decode cX1_canBeOrdered 52 = .ok (.iload_n 1, 1) := by decide +kernel
theorem dX1_canBeOrdered_53 : decode cX1_canBeOrdered 53 = .ok (.iload 4, 2) := by decide +kernel
theorem dX1_canBeOrdered_55 : decode cX1_canBeOrdered 55 = .ok (.ishr, 1) := by decide +kernel
theorem dX1_canBeOrdered_56 : decode cX1_canBeOrdered 56 = .ok (.iconst 1, 1) := by decide +kernel
theorem dX1_canBeOrdered_57 : decode cX1_canBeOrdered 57 = .ok (.iand, 1) := by decide +kernel
theorem dX1_canBeOrdered_58 : decode cX1_canBeOrdered 58 = .ok (.ifCond .eq 25, 3) := by decide +kernel
theorem dX1_canBeOrdered_61 : decode cX1_canBeOrdered 61 = .ok (.iload_n 3, 1) := by decide +kernel
theorem dX1_canBeOrdered_62 : decode cX1_canBeOrdered 62 = .ok (.iconst (-1), 1) := by decide +kernel
theorem dX1_canBeOrdered_63 : decode cX1_canBeOrdered 63 = .ok (.if_icmp .eq 16, 3) := by decide +kernel
theorem dX1_canBeOrdered_66 : decode cX1_canBeOrdered 66 = .ok (.aload_n 0, 1) := by decide +kernel
theorem dX1_canBeOrdered_67 : decode cX1_canBeOrdered 67 = .ok (.getfield 9, 3) := by decide +kernel
theorem dX1_canBeOrdered_70 : decode cX1_canBeOrdered 70 = .ok (.iload_n 3, 1) := by decide +kernel
theorem dX1_canBeOrdered_71 : decode cX1_canBeOrdered 71 = .ok (.iload 4, 2) := by decide +kernel
theorem dX1_canBeOrdered_73 : decode cX1_canBeOrdered 73 = .ok (.invokevirtual 72, 3) := by decide +kernel
theorem dX1_canBeOrdered_76 : decode cX1_canBeOrdered 76 = .ok (.ifCond .ne 7, 3) := by decide +kernel
theorem dX1_canBeOrdered_79 : decode cX1_canBeOrdered 79 = .ok (.iconst 1, 1) := by decide +kernel
theorem dX1_canBeOrdered_80 : decode cX1_canBeOrdered 80 = .ok (.goto 4, 3) := by decide +kernel
theorem dX1_canBeOrdered_83 : decode cX1_canBeOrdered 83 = .ok (.iconst 0, 1) := by decide +kernel
theorem dX1_canBeOrdered_84 : decode cX1_canBeOrdered 84 = .ok (.istore 5, 2) := by decide +kernel
theorem dX1_canBeOrdered_86 : decode cX1_canBeOrdered 86 = .ok (.iload 5, 2) := by decide +kernel
theorem dX1_canBeOrdered_88 : decode cX1_canBeOrdered 88 = .ok (.ifCond .eq 33, 3) := by decide +kernel
theorem dX1_canBeOrdered_91 : decode cX1_canBeOrdered 91 = .ok (.aload_n 0, 1) := by decide +kernel
theorem dX1_canBeOrdered_92 : decode cX1_canBeOrdered 92 = .ok (.iload_n 1, 1) := by decide +kernel
theorem dX1_canBeOrdered_93 : decode cX1_canBeOrdered 93 = .ok (.iconst 1, 1) := by decide +kernel
theorem dX1_canBeOrdered_94 : decode cX1_canBeOrdered 94 = .ok (.iload 4, 2) := by decide +kernel
theorem dX1_canBeOrdered_96 : decode cX1_canBeOrdered 96 = .ok (.ishl, 1) := by decide +kernel
theorem dX1_canBeOrdered_97 : decode cX1_canBeOrdered 97 = .ok (.iconst (-1), 1) := by decide +kernel
theorem dX1_canBeOrdered_98 : decode cX1_canBeOrdered 98 = .ok (.ixor, 1) := by decide +kernel
theorem dX1_canBeOrdered_99 : decode cX1_canBeOrdered 99 = .ok (.iand, 1) := by decide +kernel
theorem dX1_canBeOrdered_100 : decode cX1_canBeOrdered 100 = .ok (.iload_n 2, 1) := by decide +kernel
theorem dX1_canBeOrdered_101 : decode cX1_canBeOrdered 101 = .ok (.iconst (-1), 1) := by decide +kernel
theorem dX1_canBeOrdered_102 : decode cX1_canBeOrdered 102 = .ok (.if_icmp .ne 8, 3) := by decide +kernel
theorem dX1_canBeOrdered_105 : decode cX1_canBeOrdered 105 = .ok (.iload 4, 2) := by decide +kernel
theorem dX1_canBeOrdered_107 : decode cX1_canBeOrdered 107 = .ok (.goto 4, 3) := by decide +kernel
theorem dX1_canBeOrdered_110 : decode cX1_canBeOrdered 110 = .ok (.iload_n 2, 1) := by decide +kernel
theorem dX1_canBeOrdered_111 : decode cX1_canBeOrdered 111 = .ok (.iload 4, 2) := by decide +kernel
theorem dX1_canBeOrdered_113 : decode cX1_canBeOrdered 113 = .ok (.invokevirtual 62, 3) := by decide +kernel
theorem dX1_canBeOrdered_116 : decode cX1_canBeOrdered 116 = .ok (.ifCond .eq 5, 3) := by decide +kernel
theorem dX1_canBeOrdered_119 : decode cX1_canBeOrdered 119 = .ok (.iconst 1, 1) := by decide +kernel
theorem dX1_canBeOrdered_120 : decode cX1_canBeOrdered 120 = .ok (.ireturn, 1) := by decide +kernel
theorem dX1_canBeOrdered_121 : decode cX1_canBeOrdered 121 = .ok (.iinc 4 1, 3) := by decide +kernel
theorem dX1_canBeOrdered_124 : decode cX1_canBeOrdered 124 = .ok (.goto (-84), 3) := by decide +kernel
theorem dX1_canBeOrdered_127 : decode cX1_canBeOrdered 127 = .ok (.iconst 0, 1) := by decide +kernel
theorem dX1_canBeOrdered_128 : decode cX1_canBeOrdered 128 = .ok (.ireturn, 1) := by decide +kernel
theorem dX1_goThrough_0 : decode cX1_goThrough 0 = .ok (.aload_n 0, 1) := by decide +kernel
theorem dX1_goThrough_1 : decode cX1_goThrough 1 = .ok (.getfield 42, 3) := by decide +kernel
theorem dX1_goThrough_4 : decode cX1_goThrough 4 = .ok (.lconst 0, 1) := by decide +kernel
theorem dX1_goThrough_5 : decode cX1_goThrough 5 = .ok (.invokestatic 79, 3) := by decide +kernel
theorem dX1_goThrough_8 : decode cX1_goThrough 8 = .ok (.aload_n 0, 1) := by decide +kernel
theorem dX1_goThrough_9 : decode cX1_goThrough 9 = .ok (.iconst 0, 1) := by decide +kernel
theorem dX1_goThrough_10 : decode cX1_goThrough 10 = .ok (.putfield 38, 3) := by decide +kernel
theorem dX1_goThrough_13 : decode cX1_goThrough 13 = .ok (.aload_n 0, 1) := by decide +kernel
theorem dX1_goThrough_14 : decode cX1_goThrough 14 = .ok (.getfield 22, 3) := by decide +kernel
theorem dX1_goThrough_17 : decode cX1_goThrough 17 = .ok (.aload_n 0, 1) := by decide +kernel
theorem dX1_goThrough_18 : decode cX1_goThrough 18 = .ok (.getfield 15, 3) := by decide +kernel
theorem dX1_goThrough_21 : decode cX1_goThrough 21 = .ok (.invokevirtual 85, 3) := by decide +kernel
theorem dX1_goThrough_24 : decode cX1_goThrough 24 = .ok (.aload_n 0, 1) := by decide +kernel
theorem dX1_goThrough_25 : decode cX1_goThrough 25 = .ok (.invokevirtual 89, 3) := by decide +kernel
theorem dX1_goThrough_28 : decode cX1_goThrough 28 = .ok (.iconst 0, 1) := by decide +kernel
theorem dX1_goThrough_29 : decode cX1_goThrough 29 = .ok (.istore_n 1, 1) := by decide +kernel
theorem dX1_goThrough_30 : decode cX1_goThrough 30 = .ok (.iconst 0, 1) := by decide +kernel
theorem dX1_goThrough_31 : decode cX1_goThrough 31 = .ok (.istore_n 2, 1) := by decide +kernel
theorem dX1_goThrough_32 : decode cX1_goThrough 32 = .ok (.iload_n 2, 1) := by decide +kernel
theorem dX1_goThrough_33 : decode cX1_goThrough 33 = .ok (.sipush 5040, 3) := by decide +kernel
theorem dX1_goThrough_36 : decode cX1_goThrough 36 = .ok (.if_icmp .ge 82, 3) := by decide +kernel
theorem dX1_goThrough_39 : decode cX1_goThrough 39 = .ok (.iload_n 1, 1) := by decide +kernel
theorem dX1_goThrough_40 : decode cX1_goThrough 40 = .ok (.aload_n 0, 1) := by decide +kernel
theorem dX1_goThrough_41 : decode cX1_goThrough 41 = .ok (.getfield 38, 3) := by decide +kernel
theorem dX1_goThrough_44 : decode cX1_goThrough 44 = .ok (.if_icmp .ge 74, 3) := by decide +kernel
theorem dX1_goThrough_47 : decode cX1_goThrough 47 = .ok (.aload_n 0, 1) := by decide +kernel
theorem dX1_goThrough_48 : decode cX1_goThrough 48 = .ok (.getfield 38, 3) := by decide +kernel
theorem dX1_goThrough_51 : decode cX1_goThrough 51 = .ok (.istore_n 3, 1) := by decide +kernel
theorem dX1_goThrough_52 : decode cX1_goThrough 52 = .ok (.aload_n 0, 1) := by decide +kernel
theorem dX1_goThrough_53 : decode cX1_goThrough 53 = .ok (.aload_n 0, 1) := by decide +kernel
theorem dX1_goThrough_54 : decode cX1_goThrough 54 = .ok (.iload_n 1, 1) := by decide +kernel
theorem dX1_goThrough_55 : decode cX1_goThrough 55 = .ok (.iload_n 3, 1) := by decide +kernel
theorem dX1_goThrough_56 : decode cX1_goThrough 56 = .ok (.invokevirtual 92, 3) := by decide +kernel
theorem dX1_goThrough_59 : decode cX1_goThrough 59 = .ok (.putfield 53, 3) := by decide +kernel
theorem dX1_goThrough_62 : decode cX1_goThrough 62 = .ok (.aload_n 0, 1) := by decide +kernel
theorem dX1_goThrough_63 : decode cX1_goThrough 63 = .ok (.getfield 53, 3) := by decide +kernel
theorem dX1_goThrough_66 : decode cX1_goThrough 66 = .ok (.iconst (-1), 1) := by decide +kernel
theorem dX1_goThrough_67 : decode cX1_goThrough 67 = .ok (.if_icmp .eq 9, 3) := by decide +kernel
theorem dX1_goThrough_70 : decode cX1_goThrough 70 = .ok (.aload_n 0, 1) := by decide +kernel
theorem dX1_goThrough_71 : decode cX1_goThrough 71 = .ok (.iload_n 2, 1) := by decide +kernel
theorem dX1_goThrough_72 : decode cX1_goThrough 72 = .ok (.putfield 50, 3) := by decide +kernel
theorem dX1_goThrough_75 : decode cX1_goThrough 75 = .ok (.return_, 1) := by decide +kernel
theorem dX1_goThrough_76 : decode cX1_goThrough 76 = .ok (.iload_n 1, 1) := by decide +kernel
theorem dX1_goThrough_77 : decode cX1_goThrough 77 = .ok (.istore 4, 2) := by decide +kernel
theorem dX1_goThrough_79 : decode cX1_goThrough 79 = .ok (.iload 4, 2) := by decide +kernel
theorem dX1_goThrough_81 : decode cX1_goThrough 81 = .ok (.iload_n 3, 1) := by decide +kernel
theorem dX1_goThrough_82 : decode cX1_goThrough 82 = .ok (.if_icmp .ge 28, 3) := by decide +kernel
theorem dX1_goThrough_85 : decode cX1_goThrough 85 = .ok (.iload 4, 2) := by decide +kernel
theorem dX1_goThrough_87 : decode cX1_goThrough 87 = .ok (.sipush 5040, 3) := by decide +kernel
theorem dX1_goThrough_90 : decode cX1_goThrough 90 = .ok (.if_icmp .ge 20, 3) := by decide +kernel
theorem dX1_goThrough_93 : decode cX1_goThrough 93 = .ok (.aload_n 0, 1) := by decide +kernel
theorem dX1_goThrough_94 : decode cX1_goThrough 94 = .ok (.aload_n 0, 1) := by decide +kernel
theorem dX1_goThrough_95 : decode cX1_goThrough 95 = .ok (.getfield 34, 3) := by decide +kernel
theorem dX1_goThrough_98 : decode cX1_goThrough 98 = .ok (.iload 4, 2) := by decide +kernel
theorem dX1_goThrough_100 : decode cX1_goThrough 100 = .ok (.iaload, 1) := by decide +kernel
theorem dX1_goThrough_101 : decode cX1_goThrough 101 = .ok (.invokevirtual 96, 3) := by decide +kernel
theorem dX1_goThrough_104 : decode cX1_goThrough 104 = .ok (.iinc 4 1, 3) := by decide +kernel
theorem dX1_goThrough_107 : decode cX1_goThrough 107 = .ok (.goto (-28), 3) := by decide +kernel
theorem dX1_goThrough_110 : decode cX1_goThrough 110 = .ok (.iload_n 3, 1) := by decide +kernel
theorem dX1_goThrough_111 : decode cX1_goThrough 111 = .ok (.istore_n 1, 1) := by decide +kernel
theorem dX1_goThrough_112 : decode cX1_goThrough 112 = .ok (.iinc 2 1, 3) := by decide +kernel
theorem dX1_goThrough_115 : decode cX1_goThrough 115 = .ok (.goto (-83), 3) := by decide +kernel
theorem dX1_goThrough_118 : decode cX1_goThrough 118 = .ok (.return_, 1) := by decide +kernel
theorem dX1_leastGood_0 : decode cX1_leastGood 0 = .ok (.iconst (-1), 1) := by decide +kernel
theorem dX1_leastGood_1 : decode cX1_leastGood 1 = .ok (.istore_n 3, 1) := by decide +kernel
theorem dX1_leastGood_2 : decode cX1_leastGood 2 = .ok (.iconst 0, 1) := by decide +kernel
theorem dX1_leastGood_3 : decode cX1_leastGood 3 = .ok (.iload_n 1, 1) := by decide +kernel
theorem dX1_leastGood_4 : decode cX1_leastGood 4 = .ok (.invokestatic 100, 3) := by decide +kernel
theorem dX1_leastGood_7 : decode cX1_leastGood 7 = .ok (.istore 4, 2) := by decide +kernel
theorem dX1_leastGood_9 : decode cX1_leastGood 9 = .ok (.iload 4, 2) := by decide +kernel
theorem dX1_leastGood_11 : decode cX1_leastGood 11 = .ok (.iload_n 2, 1) := by decide +kernel
theorem dX1_leastGood_12 : decode cX1_leastGood 12 = .ok (.if_icmp .ge 69, 3) := by decide +kernel
theorem dX1_leastGood_15 : decode cX1_leastGood 15 = .ok (.iload 4, 2) := by decide +kernel
theorem dX1_leastGood_17 : decode cX1_leastGood 17 = .ok (.sipush 5040, 3) := by decide +kernel
theorem dX1_leastGood_20 : decode cX1_leastGood 20 = .ok (.if_icmp .ge 61, 3) := by decide +kernel
theorem dX1_leastGood_23 : decode cX1_leastGood 23 = .ok (.iload_n 3, 1) := by decide +kernel
theorem dX1_leastGood_24 : decode cX1_leastGood 24 = .ok (.iconst (-1), 1) := by decide +kernel
theorem dX1_leastGood_25 : decode cX1_leastGood 25 = .ok (.if_icmp .eq 14, 3) := by decide +kernel
theorem dX1_leastGood_28 : decode cX1_leastGood 28 = .ok (.aload_n 0, 1) := by decide +kernel
theorem dX1_leastGood_29 : decode cX1_leastGood 29 = .ok (.getfield 34, 3) := by decide +kernel
theorem dX1_leastGood_32 : decode cX1_leastGood 32 = .ok (.iload 4, 2) := by decide +kernel
theorem dX1_leastGood_34 : decode cX1_leastGood 34 = .ok (.iaload, 1) := by decide +kernel
theorem dX1_leastGood_35 : decode cX1_leastGood 35 = .ok (.iload_n 3, 1) := by decide +kernel
theorem dX1_leastGood_36 : decode cX1_leastGood 36 = .ok (.if_icmp .ge 39, 3) := by decide +kernel
theorem dX1_leastGood_39 : decode cX1_leastGood 39 = .ok (.aload_n 0, 1) := by decide +kernel
theorem dX1_leastGood_40 : decode cX1_leastGood 40 = .ok (.getfield 22, 3) := by decide +kernel
theorem dX1_leastGood_43 : decode cX1_leastGood 43 = .ok (.aload_n 0, 1) := by decide +kernel
theorem dX1_leastGood_44 : decode cX1_leastGood 44 = .ok (.getfield 34, 3) := by decide +kernel
theorem dX1_leastGood_47 : decode cX1_leastGood 47 = .ok (.iload 4, 2) := by decide +kernel
theorem dX1_leastGood_49 : decode cX1_leastGood 49 = .ok (.iaload, 1) := by decide +kernel
theorem dX1_leastGood_50 : decode cX1_leastGood 50 = .ok (.invokevirtual 105, 3) := by decide +kernel
theorem dX1_leastGood_53 : decode cX1_leastGood 53 = .ok (.aload_n 0, 1) := by decide +kernel
theorem dX1_leastGood_54 : decode cX1_leastGood 54 = .ok (.getfield 30, 3) := by decide +kernel
theorem dX1_leastGood_57 : decode cX1_leastGood 57 = .ok (.invokevirtual 108, 3) := by decide +kernel
theorem dX1_leastGood_60 : decode cX1_leastGood 60 = .ok (.ifCond .eq 13, 3) := by decide +kernel
theorem dX1_leastGood_63 : decode cX1_leastGood 63 = .ok (.aload_n 0, 1) := by decide +kernel
theorem dX1_leastGood_64 : decode cX1_leastGood 64 = .ok (.getfield 34, 3) := by decide +kernel
theorem dX1_leastGood_67 : decode cX1_leastGood 67 = .ok (.iload 4, 2) := by decide +kernel
theorem dX1_leastGood_69 : decode cX1_leastGood 69 = .ok (.iaload, 1) := by decide +kernel
theorem dX1_leastGood_70 : decode cX1_leastGood 70 = .ok (.goto 4, 3) := by decide +kernel
theorem dX1_leastGood_73 : decode cX1_leastGood 73 = .ok (.iload_n 3, 1) := by decide +kernel
theorem dX1_leastGood_74 : decode cX1_leastGood 74 = .ok (.istore_n 3, 1) := by decide +kernel
theorem dX1_leastGood_75 : decode cX1_leastGood 75 = .ok (.iinc 4 1, 3) := by decide +kernel
theorem dX1_leastGood_78 : decode cX1_leastGood 78 = .ok (.goto (-69), 3) := by decide +kernel
theorem dX1_leastGood_81 : decode cX1_leastGood 81 = .ok (.iload_n 3, 1) := by decide +kernel
theorem dX1_leastGood_82 : decode cX1_leastGood 82 = .ok (.ireturn, 1) := by decide +kernel
theorem dX1_exchangeAll_0 : decode cX1_exchangeAll 0 = .ok (.aload_n 0, 1) := by decide +kernel
theorem dX1_exchangeAll_1 : decode cX1_exchangeAll 1 = .ok (.getfield 22, 3) := by decide +kernel
theorem dX1_exchangeAll_4 : decode cX1_exchangeAll 4 = .ok (.iload_n 1, 1) := by decide +kernel
theorem dX1_exchangeAll_5 : decode cX1_exchangeAll 5 = .ok (.invokevirtual 105, 3) := by decide +kernel
theorem dX1_exchangeAll_8 : decode cX1_exchangeAll 8 = .ok (.iconst 0, 1) := by decide +kernel
theorem dX1_exchangeAll_9 : decode cX1_exchangeAll 9 = .ok (.istore_n 2, 1) := by decide +kernel
theorem dX1_exchangeAll_10 : decode cX1_exchangeAll 10 = .ok (.iload_n 2, 1) := by decide +kernel
theorem dX1_exchangeAll_11 : decode cX1_exchangeAll 11 = .ok (.aload_n 0, 1) := by decide +kernel
theorem dX1_exchangeAll_12 : decode cX1_exchangeAll 12 = .ok (.getfield 9, 3) := by decide +kernel
theorem dX1_exchangeAll_15 : decode cX1_exchangeAll 15 = .ok (.getfield 76, 3) := by decide +kernel
theorem dX1_exchangeAll_18 : decode cX1_exchangeAll 18 = .ok (.if_icmp .ge 52, 3) := by decide +kernel
theorem dX1_exchangeAll_21 : decode cX1_exchangeAll 21 = .ok (.aload_n 0, 1) := by decide +kernel
theorem dX1_exchangeAll_22 : decode cX1_exchangeAll 22 = .ok (.getfield 22, 3) := by decide +kernel
theorem dX1_exchangeAll_25 : decode cX1_exchangeAll 25 = .ok (.iload_n 2, 1) := by decide +kernel
theorem dX1_exchangeAll_26 : decode cX1_exchangeAll 26 = .ok (.aload_n 0, 1) := by decide +kernel
theorem dX1_exchangeAll_27 : decode cX1_exchangeAll 27 = .ok (.getfield 9, 3) := by decide +kernel
theorem dX1_exchangeAll_30 : decode cX1_exchangeAll 30 = .ok (.getfield 69, 3) := by decide +kernel
theorem dX1_exchangeAll_33 : decode cX1_exchangeAll 33 = .ok (.invokevirtual 112, 3) := by decide +kernel
theorem dX1_exchangeAll_36 : decode cX1_exchangeAll 36 = .ok (.istore_n 3, 1) := by decide +kernel
theorem dX1_exchangeAll_37 : decode cX1_exchangeAll 37 = .ok (.iload_n 3, 1) := by decide +kernel
theorem dX1_exchangeAll_38 : decode cX1_exchangeAll 38 = .ok (.iconst (-1), 1) := by decide +kernel
theorem dX1_exchangeAll_39 : decode cX1_exchangeAll 39 = .ok (.if_icmp .eq 25, 3) := by decide +kernel
theorem dX1_exchangeAll_42 : decode cX1_exchangeAll 42 = .ok (.aload_n 0, 1) := by decide +kernel
theorem dX1_exchangeAll_43 : decode cX1_exchangeAll 43 = .ok (.getfield 22, 3) := by decide +kernel
theorem dX1_exchangeAll_46 : decode cX1_exchangeAll 46 = .ok (.iload_n 2, 1) := by decide +kernel
theorem dX1_exchangeAll_47 : decode cX1_exchangeAll 47 = .ok (.iload_n 3, 1) := by decide +kernel
theorem dX1_exchangeAll_48 : decode cX1_exchangeAll 48 = .ok (.invokevirtual 116, 3) := by decide +kernel
theorem dX1_exchangeAll_51 : decode cX1_exchangeAll 51 = .ok (.aload_n 0, 1) := by decide +kernel
theorem dX1_exchangeAll_52 : decode cX1_exchangeAll 52 = .ok (.invokevirtual 89, 3) := by decide +kernel
theorem dX1_exchangeAll_55 : decode cX1_exchangeAll 55 = .ok (.aload_n 0, 1) := by decide +kernel
theorem dX1_exchangeAll_56 : decode cX1_exchangeAll 56 = .ok (.getfield 22, 3) := by decide +kernel
theorem dX1_exchangeAll_59 : decode cX1_exchangeAll 59 = .ok (.iload_n 2, 1) := by decide +kernel
theorem dX1_exchangeAll_60 : decode cX1_exchangeAll 60 = .ok (.iload_n 3, 1) := by decide +kernel
theorem dX1_exchangeAll_61 : decode cX1_exchangeAll 61 = .ok (.invokevirtual 116, 3) := by decide +kernel
theorem dX1_exchangeAll_64 : decode cX1_exchangeAll 64 = .ok (.iinc 2 1, 3) := by decide +kernel
theorem dX1_exchangeAll_67 : decode cX1_exchangeAll 67 = .ok (.goto (-57), 3) := by decide +kernel
theorem dX1_exchangeAll_70 : decode cX1_exchangeAll 70 = .ok (.return_, 1) := by decide +kernel
theorem dX1_reach_0 : decode cX1_reach 0 = .ok (.aload_n 0, 1) := by decide +kernel
theorem dX1_reach_1 : decode cX1_reach 1 = .ok (.invokevirtual 120, 3) := by decide +kernel
theorem dX1_reach_4 : decode cX1_reach 4 = .ok (.istore_n 1, 1) := by decide +kernel
theorem dX1_reach_5 : decode cX1_reach 5 = .ok (.iload_n 1, 1) := by decide +kernel
theorem dX1_reach_6 : decode cX1_reach 6 = .ok (.ifCond .lt 27, 3) := by decide +kernel
theorem dX1_reach_9 : decode cX1_reach 9 = .ok (.iload_n 1, 1) := by decide +kernel
theorem dX1_reach_10 : decode cX1_reach 10 = .ok (.sipush 5040, 3) := by decide +kernel
theorem dX1_reach_13 : decode cX1_reach 13 = .ok (.if_icmp .ge 20, 3) := by decide +kernel
theorem dX1_reach_16 : decode cX1_reach 16 = .ok (.aload_n 0, 1) := by decide +kernel
theorem dX1_reach_17 : decode cX1_reach 17 = .ok (.getfield 38, 3) := by decide +kernel
theorem dX1_reach_20 : decode cX1_reach 20 = .ok (.ifCond .lt 13, 3) := by decide +kernel
theorem dX1_reach_23 : decode cX1_reach 23 = .ok (.aload_n 0, 1) := by decide +kernel
theorem dX1_reach_24 : decode cX1_reach 24 = .ok (.getfield 38, 3) := by decide +kernel
theorem dX1_reach_27 : decode cX1_reach 27 = .ok (.sipush 5040, 3) := by decide +kernel
theorem dX1_reach_30 : decode cX1_reach 30 = .ok (.if_icmp .lt 4, 3) := by decide +kernel
theorem dX1_reach_33 : decode cX1_reach 33 = .ok (.return_, 1) := by decide +kernel
theorem dX1_reach_34 : decode cX1_reach 34 = .ok (.lconst 1, 1) := by decide +kernel
theorem dX1_reach_35 : decode cX1_reach 35 = .ok (.iload_n 1, 1) := by decide +kernel
theorem dX1_reach_36 : decode cX1_reach 36 = .ok (.bipush 64, 2) := by decide +kernel
theorem dX1_reach_38 : decode cX1_reach 38 = .ok (.irem, 1) := by decide +kernel
theorem dX1_reach_39 : decode cX1_reach 39 = .ok (.lshl, 1) := by decide +kernel
theorem dX1_reach_40 : decode cX1_reach 40 = .ok (.lstore_n 2, 1) := by decide +kernel
theorem dX1_reach_41 : decode cX1_reach 41 = .ok (.aload_n 0, 1) := by decide +kernel
theorem dX1_reach_42 : decode cX1_reach 42 = .ok (.getfield 42, 3) := by decide +kernel
theorem dX1_reach_45 : decode cX1_reach 45 = .ok (.iload_n 1, 1) := by decide +kernel
theorem dX1_reach_46 : decode cX1_reach 46 = .ok (.bipush 64, 2) := by decide +kernel
theorem dX1_reach_48 : decode cX1_reach 48 = .ok (.idiv, 1) := by decide +kernel
theorem dX1_reach_49 : decode cX1_reach 49 = .ok (.laload, 1) := by decide +kernel
theorem dX1_reach_50 : decode cX1_reach 50 = .ok (.lload_n 2, 1) := by decide +kernel
theorem dX1_reach_51 : decode cX1_reach 51 = .ok (.land, 1) := by decide +kernel
theorem dX1_reach_52 : decode cX1_reach 52 = .ok (.lconst 0, 1) := by decide +kernel
theorem dX1_reach_53 : decode cX1_reach 53 = .ok (.lcmp, 1) := by decide +kernel
theorem dX1_reach_54 : decode cX1_reach 54 = .ok (.ifCond .ne 42, 3) := by decide +kernel
theorem dX1_reach_57 : decode cX1_reach 57 = .ok (.aload_n 0, 1) := by decide +kernel
theorem dX1_reach_58 : decode cX1_reach 58 = .ok (.getfield 42, 3) := by decide +kernel
theorem dX1_reach_61 : decode cX1_reach 61 = .ok (.iload_n 1, 1) := by decide +kernel
theorem dX1_reach_62 : decode cX1_reach 62 = .ok (.bipush 64, 2) := by decide +kernel
theorem dX1_reach_64 : decode cX1_reach 64 = .ok (.idiv, 1) := by decide +kernel
theorem dX1_reach_65 : decode cX1_reach 65 = .ok (.dup2, 1) := by decide +kernel
theorem dX1_reach_66 : decode cX1_reach 66 = .ok (.laload, 1) := by decide +kernel
theorem dX1_reach_67 : decode cX1_reach 67 = .ok (.lload_n 2, 1) := by decide +kernel
theorem dX1_reach_68 : decode cX1_reach 68 = .ok (.lor, 1) := by decide +kernel
theorem dX1_reach_69 : decode cX1_reach 69 = .ok (.lastore, 1) := by decide +kernel
theorem dX1_reach_70 : decode cX1_reach 70 = .ok (.aload_n 0, 1) := by decide +kernel
theorem dX1_reach_71 : decode cX1_reach 71 = .ok (.getfield 34, 3) := by decide +kernel
theorem dX1_reach_74 : decode cX1_reach 74 = .ok (.aload_n 0, 1) := by decide +kernel
theorem dX1_reach_75 : decode cX1_reach 75 = .ok (.getfield 38, 3) := by decide +kernel
theorem dX1_reach_78 : decode cX1_reach 78 = .ok (.aload_n 0, 1) := by decide +kernel
theorem dX1_reach_79 : decode cX1_reach 79 = .ok (.getfield 22, 3) := by decide +kernel
theorem dX1_reach_82 : decode cX1_reach 82 = .ok (.invokevirtual 123, 3) := by decide +kernel
theorem dX1_reach_85 : decode cX1_reach 85 = .ok (.iastore, 1) := by decide +kernel
theorem dX1_reach_86 : decode cX1_reach 86 = .ok (.aload_n 0, 1) := by decide +kernel
theorem dX1_reach_87 : decode cX1_reach 87 = .ok (.dup, 1) := by decide +kernel
theorem dX1_reach_88 : decode cX1_reach 88 = .ok (.getfield 38, 3) := by decide +kernel
theorem dX1_reach_91 : decode cX1_reach 91 = .ok (.iconst 1, 1) := by decide +kernel
theorem dX1_reach_92 : decode cX1_reach 92 = .ok (.iadd, 1) := by decide +kernel
theorem dX1_reach_93 : decode cX1_reach 93 = .ok (.putfield 38, 3) := by decide +kernel
theorem dX1_reach_96 : decode cX1_reach 96 = .ok (.return_, 1) := by decide +kernel
theorem dX1_rankOfTrial_0 : decode cX1_rankOfTrial 0 = .ok (.iconst 0, 1) := by decide +kernel
theorem dX1_rankOfTrial_1 : decode cX1_rankOfTrial 1 = .ok (.istore_n 1, 1) := by decide +kernel
theorem dX1_rankOfTrial_2 : decode cX1_rankOfTrial 2 = .ok (.iconst 1, 1) := by decide +kernel
theorem dX1_rankOfTrial_3 : decode cX1_rankOfTrial 3 = .ok (.aload_n 0, 1) := by decide +kernel
theorem dX1_rankOfTrial_4 : decode cX1_rankOfTrial 4 = .ok (.getfield 9, 3) := by decide +kernel
theorem dX1_rankOfTrial_7 : decode cX1_rankOfTrial 7 = .ok (.getfield 76, 3) := by decide +kernel
theorem dX1_rankOfTrial_10 : decode cX1_rankOfTrial 10 = .ok (.ishl, 1) := by decide +kernel
theorem dX1_rankOfTrial_11 : decode cX1_rankOfTrial 11 = .ok (.iconst 1, 1) := by decide +kernel
theorem dX1_rankOfTrial_12 : decode cX1_rankOfTrial 12 = .ok (.isub, 1) := by decide +kernel
theorem dX1_rankOfTrial_13 : decode cX1_rankOfTrial 13 = .ok (.istore_n 2, 1) := by decide +kernel
theorem dX1_rankOfTrial_14 : decode cX1_rankOfTrial 14 = .ok (.iconst 0, 1) := by decide +kernel
theorem dX1_rankOfTrial_15 : decode cX1_rankOfTrial 15 = .ok (.istore_n 3, 1) := by decide +kernel
theorem dX1_rankOfTrial_16 : decode cX1_rankOfTrial 16 = .ok (.iload_n 3, 1) := by decide +kernel
theorem dX1_rankOfTrial_17 : decode cX1_rankOfTrial 17 = .ok (.aload_n 0, 1) := by decide +kernel
theorem dX1_rankOfTrial_18 : decode cX1_rankOfTrial 18 = .ok (.getfield 9, 3) := by decide +kernel
theorem dX1_rankOfTrial_21 : decode cX1_rankOfTrial 21 = .ok (.getfield 76, 3) := by decide +kernel
theorem dX1_rankOfTrial_24 : decode cX1_rankOfTrial 24 = .ok (.if_icmp .ge 50, 3) := by decide +kernel
theorem dX1_rankOfTrial_27 : decode cX1_rankOfTrial 27 = .ok (.iconst 1, 1) := by decide +kernel
theorem dX1_rankOfTrial_28 : decode cX1_rankOfTrial 28 = .ok (.aload_n 0, 1) := by decide +kernel
theorem dX1_rankOfTrial_29 : decode cX1_rankOfTrial 29 = .ok (.getfield 22, 3) := by decide +kernel
theorem dX1_rankOfTrial_32 : decode cX1_rankOfTrial 32 = .ok (.iload_n 3, 1) := by decide +kernel
theorem dX1_rankOfTrial_33 : decode cX1_rankOfTrial 33 = .ok (.invokevirtual 126, 3) := by decide +kernel
theorem dX1_rankOfTrial_36 : decode cX1_rankOfTrial 36 = .ok (.ishl, 1) := by decide +kernel
theorem dX1_rankOfTrial_37 : decode cX1_rankOfTrial 37 = .ok (.istore 4, 2) := by decide +kernel
theorem dX1_rankOfTrial_39 : decode cX1_rankOfTrial 39 = .ok (.iload_n 1, 1) := by decide +kernel
theorem dX1_rankOfTrial_40 : decode cX1_rankOfTrial 40 = .ok (.aload_n 0, 1) := by decide +kernel
theorem dX1_rankOfTrial_41 : decode cX1_rankOfTrial 41 = .ok (.getfield 9, 3) := by decide +kernel
theorem dX1_rankOfTrial_44 : decode cX1_rankOfTrial 44 = .ok (.getfield 76, 3) := by decide +kernel
theorem dX1_rankOfTrial_47 : decode cX1_rankOfTrial 47 = .ok (.iload_n 3, 1) := by decide +kernel
theorem dX1_rankOfTrial_48 : decode cX1_rankOfTrial 48 = .ok (.isub, 1) := by decide +kernel
theorem dX1_rankOfTrial_49 : decode cX1_rankOfTrial 49 = .ok (.imul, 1) := by decide +kernel
theorem dX1_rankOfTrial_50 : decode cX1_rankOfTrial 50 = .ok (.iload_n 2, 1) := by decide +kernel
theorem dX1_rankOfTrial_51 : decode cX1_rankOfTrial 51 = .ok (.iload 4, 2) := by decide +kernel
theorem dX1_rankOfTrial_53 : decode cX1_rankOfTrial 53 = .ok (.iconst 1, 1) := by decide +kernel
theorem dX1_rankOfTrial_54 : decode cX1_rankOfTrial 54 = .ok (.isub, 1) := by decide +kernel
theorem dX1_rankOfTrial_55 : decode cX1_rankOfTrial 55 = .ok (.iand, 1) := by decide +kernel
theorem dX1_rankOfTrial_56 : decode cX1_rankOfTrial 56 = .ok (.invokestatic 130, 3) := by decide +kernel
theorem dX1_rankOfTrial_59 : decode cX1_rankOfTrial 59 = .ok (.iadd, 1) := by decide +kernel
theorem dX1_rankOfTrial_60 : decode cX1_rankOfTrial 60 = .ok (.istore_n 1, 1) := by decide +kernel
theorem dX1_rankOfTrial_61 : decode cX1_rankOfTrial 61 = .ok (.iload_n 2, 1) := by decide +kernel
theorem dX1_rankOfTrial_62 : decode cX1_rankOfTrial 62 = .ok (.iload 4, 2) := by decide +kernel
theorem dX1_rankOfTrial_64 : decode cX1_rankOfTrial 64 = .ok (.iconst (-1), 1) := by decide +kernel
theorem dX1_rankOfTrial_65 : decode cX1_rankOfTrial 65 = .ok (.ixor, 1) := by decide +kernel
theorem dX1_rankOfTrial_66 : decode cX1_rankOfTrial 66 = .ok (.iand, 1) := by decide +kernel
theorem dX1_rankOfTrial_67 : decode cX1_rankOfTrial 67 = .ok (.istore_n 2, 1) := by decide +kernel
theorem dX1_rankOfTrial_68 : decode cX1_rankOfTrial 68 = .ok (.iinc 3 1, 3) := by decide +kernel
theorem dX1_rankOfTrial_71 : decode cX1_rankOfTrial 71 = .ok (.goto (-55), 3) := by decide +kernel
theorem dX1_rankOfTrial_74 : decode cX1_rankOfTrial 74 = .ok (.iload_n 1, 1) := by decide +kernel
theorem dX1_rankOfTrial_75 : decode cX1_rankOfTrial 75 = .ok (.ireturn, 1) := by decide +kernel
theorem dX2_init_0 : decode cX2_init 0 = .ok (.aload_n 0, 1) := by decide +kernel
theorem dX2_init_1 : decode cX2_init 1 = .ok (.invokespecial 3, 3) := by decide +kernel
theorem dX2_init_4 : decode cX2_init 4 = .ok (.aload_n 0, 1) := by decide +kernel
theorem dX2_init_5 : decode cX2_init 5 = .ok (.aload_n 1, 1) := by decide +kernel
theorem dX2_init_6 : decode cX2_init 6 = .ok (.putfield 9, 3) := by decide +kernel
theorem dX2_init_9 : decode cX2_init 9 = .ok (.aload_n 0, 1) := by decide +kernel
theorem dX2_init_10 : decode cX2_init 10 = .ok (.new 15, 3) := by decide +kernel
theorem dX2_init_13 : decode cX2_init 13 = .ok (.dup, 1) := by decide +kernel
theorem dX2_init_14 : decode cX2_init 14 = .ok (.invokespecial 17, 3) := by decide +kernel
theorem dX2_init_17 : decode cX2_init 17 = .ok (.putfield 18, 3) := by decide +kernel
theorem dX2_init_20 : decode cX2_init 20 = .ok (.return_, 1) := by decide +kernel
theorem dX2_read_0 : decode cX2_read 0 = .ok (.aload_n 0, 1) := by decide +kernel
theorem dX2_read_1 : decode cX2_read 1 = .ok (.getfield 18, 3) := by decide +kernel
theorem dX2_read_4 : decode cX2_read 4 = .ok (.invokevirtual 22, 3) := by decide +kernel
theorem dX2_read_7 : decode cX2_read 7 = .ok (.aload_n 0, 1) := by decide +kernel
theorem dX2_read_8 : decode cX2_read 8 = .ok (.getfield 9, 3) := by decide +kernel
theorem dX2_read_11 : decode cX2_read 11 = .ok (.invokevirtual 25, 3) := by decide +kernel
theorem dX2_read_14 : decode cX2_read 14 = .ok (.aload_n 0, 1) := by decide +kernel
theorem dX2_read_15 : decode cX2_read 15 = .ok (.invokevirtual 30, 3) := by decide +kernel
theorem dX2_read_18 : decode cX2_read 18 = .ok (.istore_n 1, 1) := by decide +kernel
theorem dX2_read_19 : decode cX2_read 19 = .ok (.iconst 1, 1) := by decide +kernel
theorem dX2_read_20 : decode cX2_read 20 = .ok (.istore_n 2, 1) := by decide +kernel
theorem dX2_read_21 : decode cX2_read 21 = .ok (.iload_n 1, 1) := by decide +kernel
theorem dX2_read_22 : decode cX2_read 22 = .ok (.ifCond .eq 33, 3) := by decide +kernel
theorem dX2_read_25 : decode cX2_read 25 = .ok (.iload_n 2, 1) := by decide +kernel
theorem dX2_read_26 : decode cX2_read 26 = .ok (.sipush 160, 3) := by decide +kernel
theorem dX2_read_29 : decode cX2_read 29 = .ok (.if_icmp .ge 26, 3) := by decide +kernel
theorem dX2_read_32 : decode cX2_read 32 = .ok (.aload_n 0, 1) := by decide +kernel
theorem dX2_read_33 : decode cX2_read 33 = .ok (.getfield 9, 3) := by decide +kernel
theorem dX2_read_36 : decode cX2_read 36 = .ok (.bipush 59, 2) := by decide +kernel
theorem dX2_read_38 : decode cX2_read 38 = .ok (.invokevirtual 34, 3) := by decide +kernel
theorem dX2_read_41 : decode cX2_read 41 = .ok (.ifCond .eq 14, 3) := by decide +kernel
theorem dX2_read_44 : decode cX2_read 44 = .ok (.aload_n 0, 1) := by decide +kernel
theorem dX2_read_45 : decode cX2_read 45 = .ok (.invokevirtual 30, 3) := by decide +kernel
theorem dX2_read_48 : decode cX2_read 48 = .ok (.istore_n 1, 1) := by decide +kernel
theorem dX2_read_49 : decode cX2_read 49 = .ok (.iinc 2 1, 3) := by decide +kernel
theorem dX2_read_52 : decode cX2_read 52 = .ok (.goto (-31), 3) := by decide +kernel
theorem dX2_read_55 : decode cX2_read 55 = .ok (.iload_n 1, 1) := by decide +kernel
theorem dX2_read_56 : decode cX2_read 56 = .ok (.ifCond .eq 25, 3) := by decide +kernel
theorem dX2_read_59 : decode cX2_read 59 = .ok (.aload_n 0, 1) := by decide +kernel
theorem dX2_read_60 : decode cX2_read 60 = .ok (.getfield 9, 3) := by decide +kernel
theorem dX2_read_63 : decode cX2_read 63 = .ok (.invokevirtual 38, 3) := by decide +kernel
theorem dX2_read_66 : decode cX2_read 66 = .ok (.iconst (-1), 1) := by decide +kernel
theorem dX2_read_67 : decode cX2_read 67 = .ok (.if_icmp .ne 14, 3) := by decide +kernel
theorem dX2_read_70 : decode cX2_read 70 = .ok (.aload_n 0, 1) := by decide +kernel
theorem dX2_read_71 : decode cX2_read 71 = .ok (.getfield 18, 3) := by decide +kernel
theorem dX2_read_74 : decode cX2_read 74 = .ok (.getfield 42, 3) := by decide +kernel
theorem dX2_read_77 : decode cX2_read 77 = .ok (.iconst 2, 1) := by decide +kernel
theorem dX2_read_78 : decode cX2_read 78 = .ok (.if_icmp .ge 11, 3) := by decide +kernel
theorem dX2_read_81 : decode cX2_read 81 = .ok (.aload_n 0, 1) := by decide +kernel
theorem dX2_read_82 : decode cX2_read 82 = .ok (.getfield 9, 3) := by decide +kernel
theorem dX2_read_85 : decode cX2_read 85 = .ok (.getfield 46, 3) := by decide +kernel
theorem dX2_read_88 : decode cX2_read 88 = .ok (.ireturn, 1) := by decide +kernel
theorem dX2_read_89 : decode cX2_read 89 = .ok (.aload_n 0, 1) := by decide +kernel
theorem dX2_read_90 : decode cX2_read 90 = .ok (.getfield 18, 3) := by decide +kernel
theorem dX2_read_93 : decode cX2_read 93 = .ok (.invokevirtual 49, 3) := by decide +kernel
theorem dX2_read_96 : decode cX2_read 96 = .ok (.iconst (-1), 1) := by decide +kernel
theorem dX2_read_97 : decode cX2_read 97 = .ok (.ireturn, 1) := by decide +kernel
theorem dX2_readClause_0 : decode cX2_readClause 0 = .ok (.aload_n 0, 1) := by decide +kernel
theorem dX2_readClause_1 : decode cX2_readClause 1 = .ok (.getfield 9, 3) := by decide +kernel
theorem dX2_readClause_4 : decode cX2_readClause 4 = .ok (.invokevirtual 38, 3) := by decide +kernel
theorem dX2_readClause_7 : decode cX2_readClause 7 = .ok (.istore_n 1, 1) := by decide +kernel
theorem dX2_readClause_8 : decode cX2_readClause 8 = .ok (.iload_n 1, 1) := by decide +kernel
theorem dX2_readClause_9 : decode cX2_readClause 9 = .ok (.bipush 114, 2) := by decide +kernel
theorem dX2_readClause_11 : decode cX2_readClause 11 = .ok (.if_icmp .ne 30, 3) := by decide +kernel
theorem dX2_readClause_14 : decode cX2_readClause 14 = .ok (.aload_n 0, 1) := by decide +kernel
theorem dX2_readClause_15 : decode cX2_readClause 15 = .ok (.getfield 18, 3) := by decide +kernel
theorem dX2_readClause_18 : decode cX2_readClause 18 = .ok (.getfield 52, 3) := by decide +kernel
theorem dX2_readClause_21 : decode cX2_readClause 21 = .ok (.ifCond .ne 20, 3) := by decide +kernel
theorem dX2_readClause_24 : decode cX2_readClause 24 = .ok (.aload_n 0, 1) := by decide +kernel
theorem dX2_readClause_25 : decode cX2_readClause 25 = .ok (.getfield 18, 3) := by decide +kernel
theorem dX2_readClause_28 : decode cX2_readClause 28 = .ok (.iconst 1, 1) := by decide +kernel
theorem dX2_readClause_29 : decode cX2_readClause 29 = .ok (.putfield 52, 3) := by decide +kernel
theorem dX2_readClause_32 : decode cX2_readClause 32 = .ok (.aload_n 0, 1) := by decide +kernel
theorem dX2_readClause_33 : decode cX2_readClause 33 = .ok (.getfield 9, 3) := by decide +kernel
theorem dX2_readClause_36 : decode cX2_readClause 36 = .ok (.invokevirtual 56, 3) := by decide +kernel
theorem dX2_readClause_39 : decode cX2_readClause 39 = .ok (.iconst 1, 1) := by decide +kernel
theorem dX2_readClause_40 : decode cX2_readClause 40 = .ok (.ireturn, 1) := by decide +kernel
theorem dX2_readClause_41 : decode cX2_readClause 41 = .ok (.iload_n 1, 1) := by decide +kernel
theorem dX2_readClause_42 : decode cX2_readClause 42 = .ok (.bipush 109, 2) := by decide +kernel
theorem dX2_readClause_44 : decode cX2_readClause 44 = .ok (.if_icmp .ne 15, 3) := by decide +kernel
theorem dX2_readClause_47 : decode cX2_readClause 47 = .ok (.aload_n 0, 1) := by decide +kernel
theorem dX2_readClause_48 : decode cX2_readClause 48 = .ok (.getfield 18, 3) := by decide +kernel
theorem dX2_readClause_51 : decode cX2_readClause 51 = .ok (.getfield 42, 3) := by decide +kernel
theorem dX2_readClause_54 : decode cX2_readClause 54 = .ok (.bipush 7, 2) := by decide +kernel
theorem dX2_readClause_56 : decode cX2_readClause 56 = .ok (.if_icmp .lt 5, 3) := by decide +kernel
theorem dX2_readClause_59 : decode cX2_readClause 59 = .ok (.iconst 0, 1) := by decide +kernel
theorem dX2_readClause_60 : decode cX2_readClause 60 = .ok (.ireturn, 1) := by decide +kernel
theorem dX2_readClause_61 : decode cX2_readClause 61 = .ok (.aload_n 0, 1) := by decide +kernel
theorem dX2_readClause_62 : decode cX2_readClause 62 = .ok (.getfield 9, 3) := by decide +kernel
theorem dX2_readClause_65 : decode cX2_readClause 65 = .ok (.invokevirtual 56, 3) := by decide +kernel
theorem dX2_readClause_68 : decode cX2_readClause 68 = .ok (.aload_n 0, 1) := by decide +kernel
theorem dX2_readClause_69 : decode cX2_readClause 69 = .ok (.getfield 18, 3) := by decide +kernel
theorem dX2_readClause_72 : decode cX2_readClause 72 = .ok (.invokevirtual 59, 3) := by decide +kernel
theorem dX2_readClause_75 : decode cX2_readClause 75 = .ok (.aload_n 0, 1) := by decide +kernel
theorem dX2_readClause_76 : decode cX2_readClause 76 = .ok (.invokevirtual 62, 3) := by decide +kernel
theorem dX2_readClause_79 : decode cX2_readClause 79 = .ok (.ireturn, 1) := by decide +kernel
theorem dX2_readItems_0 : decode cX2_readItems 0 = .ok (.iconst 0, 1) := by decide +kernel
theorem dX2_readItems_1 : decode cX2_readItems 1 = .ok (.istore_n 1, 1) := by decide +kernel
theorem dX2_readItems_2 : decode cX2_readItems 2 = .ok (.iconst 0, 1) := by decide +kernel
theorem dX2_readItems_3 : decode cX2_readItems 3 = .ok (.istore_n 2, 1) := by decide +kernel
theorem dX2_readItems_4 : decode cX2_readItems 4 = .ok (.iload_n 2, 1) := by decide +kernel
theorem dX2_readItems_5 : decode cX2_readItems 5 = .ok (.bipush 7, 2) := by decide +kernel
theorem dX2_readItems_7 : decode cX2_readItems 7 = .ok (.if_icmp .gt 60, 3) := by decide +kernel
theorem dX2_readItems_10 : decode cX2_readItems 10 = .ok (.aload_n 0, 1) := by decide +kernel
theorem dX2_readItems_11 : decode cX2_readItems 11 = .ok (.getfield 9, 3) := by decide +kernel
theorem dX2_readItems_14 : decode cX2_readItems 14 = .ok (.invokevirtual 38, 3) := by decide +kernel
theorem dX2_readItems_17 : decode cX2_readItems 17 = .ok (.invokestatic 65, 3) := by decide +kernel
theorem dX2_readItems_20 : decode cX2_readItems 20 = .ok (.istore_n 3, 1) := by decide +kernel
theorem dX2_readItems_21 : decode cX2_readItems 21 = .ok (.iload_n 3, 1) := by decide +kernel
theorem dX2_readItems_22 : decode cX2_readItems 22 = .ok (.iconst (-1), 1) := by decide +kernel
theorem dX2_readItems_23 : decode cX2_readItems 23 = .ok (.if_icmp .ne 5, 3) := by decide +kernel
theorem dX2_readItems_26 : decode cX2_readItems 26 = .ok (.iconst 1, 1) := by decide +kernel
theorem dX2_readItems_27 : decode cX2_readItems 27 = .ok (.ireturn, 1) := by decide +kernel
theorem dX2_readItems_28 : decode cX2_readItems 28 = .ok (.iload_n 1, 1) := by decide +kernel
theorem dX2_readItems_29 : decode cX2_readItems 29 = .ok (.iload_n 3, 1) := by decide +kernel
theorem dX2_readItems_30 : decode cX2_readItems 30 = .ok (.ishr, 1) := by decide +kernel
theorem dX2_readItems_31 : decode cX2_readItems 31 = .ok (.iconst 1, 1) := by decide +kernel
theorem dX2_readItems_32 : decode cX2_readItems 32 = .ok (.iand, 1) := by decide +kernel
theorem dX2_readItems_33 : decode cX2_readItems 33 = .ok (.ifCond .eq 5, 3) := by decide +kernel
theorem dX2_readItems_36 : decode cX2_readItems 36 = .ok (.iconst 0, 1) := by decide +kernel
theorem dX2_readItems_37 : decode cX2_readItems 37 = .ok (.ireturn, 1) := by decide +kernel
theorem dX2_readItems_38 : decode cX2_readItems 38 = .ok (.iload_n 1, 1) := by decide +kernel
theorem dX2_readItems_39 : decode cX2_readItems 39 = .ok (.iconst 1, 1) := by decide +kernel
theorem dX2_readItems_40 : decode cX2_readItems 40 = .ok (.iload_n 3, 1) := by decide +kernel
theorem dX2_readItems_41 : decode cX2_readItems 41 = .ok (.ishl, 1) := by decide +kernel
theorem dX2_readItems_42 : decode cX2_readItems 42 = .ok (.ior, 1) := by decide +kernel
theorem dX2_readItems_43 : decode cX2_readItems 43 = .ok (.istore_n 1, 1) := by decide +kernel
theorem dX2_readItems_44 : decode cX2_readItems 44 = .ok (.aload_n 0, 1) := by decide +kernel
theorem dX2_readItems_45 : decode cX2_readItems 45 = .ok (.getfield 9, 3) := by decide +kernel
theorem dX2_readItems_48 : decode cX2_readItems 48 = .ok (.invokevirtual 56, 3) := by decide +kernel
theorem dX2_readItems_51 : decode cX2_readItems 51 = .ok (.aload_n 0, 1) := by decide +kernel
theorem dX2_readItems_52 : decode cX2_readItems 52 = .ok (.iload_n 3, 1) := by decide +kernel
theorem dX2_readItems_53 : decode cX2_readItems 53 = .ok (.invokevirtual 69, 3) := by decide +kernel
theorem dX2_readItems_56 : decode cX2_readItems 56 = .ok (.ifCond .ne 5, 3) := by decide +kernel
theorem dX2_readItems_59 : decode cX2_readItems 59 = .ok (.iconst 0, 1) := by decide +kernel
theorem dX2_readItems_60 : decode cX2_readItems 60 = .ok (.ireturn, 1) := by decide +kernel
theorem dX2_readItems_61 : decode cX2_readItems 61 = .ok (.iinc 2 1, 3) := by decide +kernel
theorem dX2_readItems_64 : decode cX2_readItems 64 = .ok (.goto (-60), 3) := by decide +kernel
theorem dX2_readItems_67 : decode cX2_readItems 67 = .ok (.iconst 1, 1) := by decide +kernel
theorem dX2_readItems_68 : decode cX2_readItems 68 = .ok (.ireturn, 1) := by decide +kernel
theorem dX2_itemOf_0 : decode cX2_itemOf 0 = .ok (.iconst 0, 1) := by decide +kernel
theorem dX2_itemOf_1 : decode cX2_itemOf 1 = .ok (.istore_n 1, 1) := by decide +kernel
theorem dX2_itemOf_2 : decode cX2_itemOf 2 = .ok (.iload_n 1, 1) := by decide +kernel
theorem dX2_itemOf_3 : decode cX2_itemOf 3 = .ok (.getstatic 72, 3) := by decide +kernel
theorem dX2_itemOf_6 : decode cX2_itemOf 6 = .ok (.arraylength, 1) := by decide +kernel
theorem dX2_itemOf_7 : decode cX2_itemOf 7 = .ok (.if_icmp .ge 20, 3) := by decide +kernel
theorem dX2_itemOf_10 : decode cX2_itemOf 10 = .ok (.getstatic 72, 3) := by decide +kernel
theorem dX2_itemOf_13 : decode cX2_itemOf 13 = .ok (.iload_n 1, 1) := by decide +kernel
theorem dX2_itemOf_14 : decode cX2_itemOf 14 = .ok (.iaload, 1) := by decide +kernel
theorem dX2_itemOf_15 : decode cX2_itemOf 15 = .ok (.iload_n 0, 1) := by decide +kernel
theorem dX2_itemOf_16 : decode cX2_itemOf 16 = .ok (.if_icmp .ne 5, 3) := by decide +kernel
theorem dX2_itemOf_19 : decode cX2_itemOf 19 = .ok (.iload_n 1, 1) := by decide +kernel
theorem dX2_itemOf_20 : decode cX2_itemOf 20 = .ok (.ireturn, 1) := by decide +kernel
theorem dX2_itemOf_21 : decode cX2_itemOf 21 = .ok (.iinc 1 1, 3) := by decide +kernel
theorem dX2_itemOf_24 : decode cX2_itemOf 24 = .ok (.goto (-22), 3) := by decide +kernel
theorem dX2_itemOf_27 : decode cX2_itemOf 27 = .ok (.iconst (-1), 1) := by decide +kernel
theorem dX2_itemOf_28 : decode cX2_itemOf 28 = .ok (.ireturn, 1) := by decide +kernel
theorem dX2_readValue_0 : decode cX2_readValue 0 = .ok (.aload_n 0, 1) := by decide +kernel
theorem dX2_readValue_1 : decode cX2_readValue 1 = .ok (.getfield 9, 3) := by decide +kernel
theorem dX2_readValue_4 : decode cX2_readValue 4 = .ok (.iconst 2, 1) := by decide +kernel
theorem dX2_readValue_5 : decode cX2_readValue 5 = .ok (.invokevirtual 76, 3) := by decide +kernel
theorem dX2_readValue_8 : decode cX2_readValue 8 = .ok (.istore_n 2, 1) := by decide +kernel
theorem dX2_readValue_9 : decode cX2_readValue 9 = .ok (.iload_n 2, 1) := by decide +kernel
theorem dX2_readValue_10 : decode cX2_readValue 10 = .ok (.iconst (-1), 1) := by decide +kernel
theorem dX2_readValue_11 : decode cX2_readValue 11 = .ok (.if_icmp .ne 5, 3) := by decide +kernel
theorem dX2_readValue_14 : decode cX2_readValue 14 = .ok (.iconst 0, 1) := by decide +kernel
theorem dX2_readValue_15 : decode cX2_readValue 15 = .ok (.ireturn, 1) := by decide +kernel
theorem dX2_readValue_16 : decode cX2_readValue 16 = .ok (.iload_n 2, 1) := by decide +kernel
theorem dX2_readValue_17 : decode cX2_readValue 17 = .ok (.iload_n 1, 1) := by decide +kernel
theorem dX2_readValue_18 : decode cX2_readValue 18 = .ok (.invokestatic 79, 3) := by decide +kernel
theorem dX2_readValue_21 : decode cX2_readValue 21 = .ok (.if_icmp .le 12, 3) := by decide +kernel
theorem dX2_readValue_24 : decode cX2_readValue 24 = .ok (.aload_n 0, 1) := by decide +kernel
theorem dX2_readValue_25 : decode cX2_readValue 25 = .ok (.getfield 9, 3) := by decide +kernel
theorem dX2_readValue_28 : decode cX2_readValue 28 = .ok (.invokevirtual 82, 3) := by decide +kernel
theorem dX2_readValue_31 : decode cX2_readValue 31 = .ok (.iconst 0, 1) := by decide +kernel
theorem dX2_readValue_32 : decode cX2_readValue 32 = .ok (.ireturn, 1) := by decide +kernel
theorem dX2_readValue_33 : decode cX2_readValue 33 = .ok (.aload_n 0, 1) := by decide +kernel
theorem dX2_readValue_34 : decode cX2_readValue 34 = .ok (.getfield 18, 3) := by decide +kernel
theorem dX2_readValue_37 : decode cX2_readValue 37 = .ok (.iload_n 1, 1) := by decide +kernel
theorem dX2_readValue_38 : decode cX2_readValue 38 = .ok (.aload_n 0, 1) := by decide +kernel
theorem dX2_readValue_39 : decode cX2_readValue 39 = .ok (.getfield 18, 3) := by decide +kernel
theorem dX2_readValue_42 : decode cX2_readValue 42 = .ok (.getfield 42, 3) := by decide +kernel
theorem dX2_readValue_45 : decode cX2_readValue 45 = .ok (.iconst 1, 1) := by decide +kernel
theorem dX2_readValue_46 : decode cX2_readValue 46 = .ok (.isub, 1) := by decide +kernel
theorem dX2_readValue_47 : decode cX2_readValue 47 = .ok (.iload_n 2, 1) := by decide +kernel
theorem dX2_readValue_48 : decode cX2_readValue 48 = .ok (.invokevirtual 85, 3) := by decide +kernel
theorem dX2_readValue_51 : decode cX2_readValue 51 = .ok (.iconst 1, 1) := by decide +kernel
theorem dX2_readValue_52 : decode cX2_readValue 52 = .ok (.ireturn, 1) := by decide +kernel
theorem dX3_init_0 : decode cX3_init 0 = .ok (.aload_n 0, 1) := by decide +kernel
theorem dX3_init_1 : decode cX3_init 1 = .ok (.invokespecial 3, 3) := by decide +kernel
theorem dX3_init_4 : decode cX3_init 4 = .ok (.iconst 0, 1) := by decide +kernel
theorem dX3_init_5 : decode cX3_init 5 = .ok (.iload_n 2, 1) := by decide +kernel
theorem dX3_init_6 : decode cX3_init 6 = .ok (.aload_n 1, 1) := by decide +kernel
theorem dX3_init_7 : decode cX3_init 7 = .ok (.arraylength, 1) := by decide +kernel
theorem dX3_init_8 : decode cX3_init 8 = .ok (.invokestatic 9, 3) := by decide +kernel
theorem dX3_init_11 : decode cX3_init 11 = .ok (.invokestatic 15, 3) := by decide +kernel
theorem dX3_init_14 : decode cX3_init 14 = .ok (.istore_n 3, 1) := by decide +kernel
theorem dX3_init_15 : decode cX3_init 15 = .ok (.aload_n 0, 1) := by decide +kernel
theorem dX3_init_16 : decode cX3_init 16 = .ok (.iload_n 3, 1) := by decide +kernel
theorem dX3_init_17 : decode cX3_init 17 = .ok (.newarray .int, 2) := by decide +kernel
theorem dX3_init_19 : decode cX3_init 19 = .ok (.putfield 18, 3) := by decide +kernel
theorem dX3_init_22 : decode cX3_init 22 = .ok (.aload_n 1, 1) := by decide +kernel
theorem dX3_init_23 : decode cX3_init 23 = .ok (.iconst 0, 1) := by decide +kernel
theorem dX3_init_24 : decode cX3_init 24 = .ok (.aload_n 0, 1) := by decide +kernel
theorem dX3_init_25 : decode cX3_init 25 = .ok (.getfield 18, 3) := by decide +kernel
theorem dX3_init_28 : decode cX3_init 28 = .ok (.iconst 0, 1) := by decide +kernel
theorem dX3_init_29 : decode cX3_init 29 = .ok (.iload_n 3, 1) := by decide +kernel
theorem dX3_init_30 : decode cX3_init 30 = .ok (.invokestatic 24, 3) := by decide +kernel
theorem dX3_init_33 : decode cX3_init 33 = .ok (.aload_n 0, 1) := by decide +kernel
theorem dX3_init_34 : decode cX3_init 34 = .ok (.iload_n 3, 1) := by decide +kernel
theorem dX3_init_35 : decode cX3_init 35 = .ok (.iconst 1, 1) := by decide +kernel
theorem dX3_init_36 : decode cX3_init 36 = .ok (.iadd, 1) := by decide +kernel
theorem dX3_init_37 : decode cX3_init 37 = .ok (.newarray .int, 2) := by decide +kernel
theorem dX3_init_39 : decode cX3_init 39 = .ok (.putfield 30, 3) := by decide +kernel
theorem dX3_init_42 : decode cX3_init 42 = .ok (.aload_n 0, 1) := by decide +kernel
theorem dX3_init_43 : decode cX3_init 43 = .ok (.iconst 0, 1) := by decide +kernel
theorem dX3_init_44 : decode cX3_init 44 = .ok (.putfield 33, 3) := by decide +kernel
theorem dX3_init_47 : decode cX3_init 47 = .ok (.return_, 1) := by decide +kernel
theorem dX3_letterOf_0 : decode cX3_letterOf 0 = .ok (.iconst 0, 1) := by decide +kernel
theorem dX3_letterOf_1 : decode cX3_letterOf 1 = .ok (.istore_n 1, 1) := by decide +kernel
theorem dX3_letterOf_2 : decode cX3_letterOf 2 = .ok (.iload_n 1, 1) := by decide +kernel
theorem dX3_letterOf_3 : decode cX3_letterOf 3 = .ok (.getstatic 37, 3) := by decide +kernel
theorem dX3_letterOf_6 : decode cX3_letterOf 6 = .ok (.arraylength, 1) := by decide +kernel
theorem dX3_letterOf_7 : decode cX3_letterOf 7 = .ok (.if_icmp .ge 20, 3) := by decide +kernel
theorem dX3_letterOf_10 : decode cX3_letterOf 10 = .ok (.getstatic 37, 3) := by decide +kernel
theorem dX3_letterOf_13 : decode cX3_letterOf 13 = .ok (.iload_n 1, 1) := by decide +kernel
theorem dX3_letterOf_14 : decode cX3_letterOf 14 = .ok (.iaload, 1) := by decide +kernel
theorem dX3_letterOf_15 : decode cX3_letterOf 15 = .ok (.iload_n 0, 1) := by decide +kernel
theorem dX3_letterOf_16 : decode cX3_letterOf 16 = .ok (.if_icmp .ne 5, 3) := by decide +kernel
theorem dX3_letterOf_19 : decode cX3_letterOf 19 = .ok (.iload_n 1, 1) := by decide +kernel
theorem dX3_letterOf_20 : decode cX3_letterOf 20 = .ok (.ireturn, 1) := by decide +kernel
theorem dX3_letterOf_21 : decode cX3_letterOf 21 = .ok (.iinc 1 1, 3) := by decide +kernel
theorem dX3_letterOf_24 : decode cX3_letterOf 24 = .ok (.goto (-22), 3) := by decide +kernel
theorem dX3_letterOf_27 : decode cX3_letterOf 27 = .ok (.iconst (-1), 1) := by decide +kernel
theorem dX3_letterOf_28 : decode cX3_letterOf 28 = .ok (.ireturn, 1) := by decide +kernel
theorem dX3_worthBy_0 : decode cX3_worthBy 0 = .ok (.aload_n 0, 1) := by decide +kernel
theorem dX3_worthBy_1 : decode cX3_worthBy 1 = .ok (.iconst 0, 1) := by decide +kernel
theorem dX3_worthBy_2 : decode cX3_worthBy 2 = .ok (.putfield 33, 3) := by decide +kernel
theorem dX3_worthBy_5 : decode cX3_worthBy 5 = .ok (.iconst 0, 1) := by decide +kernel
theorem dX3_worthBy_6 : decode cX3_worthBy 6 = .ok (.istore_n 2, 1) := by decide +kernel
theorem dX3_worthBy_7 : decode cX3_worthBy 7 = .ok (.iload_n 2, 1) := by decide +kernel
theorem dX3_worthBy_8 : decode cX3_worthBy 8 = .ok (.aload_n 0, 1) := by decide +kernel
theorem dX3_worthBy_9 : decode cX3_worthBy 9 = .ok (.getfield 18, 3) := by decide +kernel
theorem dX3_worthBy_12 : decode cX3_worthBy 12 = .ok (.arraylength, 1) := by decide +kernel
theorem dX3_worthBy_13 : decode cX3_worthBy 13 = .ok (.if_icmp .ge 90, 3) := by decide +kernel
theorem dX3_worthBy_16 : decode cX3_worthBy 16 = .ok (.aload_n 0, 1) := by decide +kernel
theorem dX3_worthBy_17 : decode cX3_worthBy 17 = .ok (.getfield 18, 3) := by decide +kernel
theorem dX3_worthBy_20 : decode cX3_worthBy 20 = .ok (.iload_n 2, 1) := by decide +kernel
theorem dX3_worthBy_21 : decode cX3_worthBy 21 = .ok (.iaload, 1) := by decide +kernel
theorem dX3_worthBy_22 : decode cX3_worthBy 22 = .ok (.istore_n 3, 1) := by decide +kernel
theorem dX3_worthBy_23 : decode cX3_worthBy 23 = .ok (.iinc 2 1, 3) := by decide +kernel
theorem dX3_worthBy_26 : decode cX3_worthBy 26 = .ok (.iload_n 3, 1) := by decide +kernel
theorem dX3_worthBy_27 : decode cX3_worthBy 27 = .ok (.ifCond .lt 11, 3) := by decide +kernel
theorem dX3_worthBy_30 : decode cX3_worthBy 30 = .ok (.aload_n 0, 1) := by decide +kernel
theorem dX3_worthBy_31 : decode cX3_worthBy 31 = .ok (.iload_n 3, 1) := by decide +kernel
theorem dX3_worthBy_32 : decode cX3_worthBy 32 = .ok (.invokevirtual 40, 3) := by decide +kernel
theorem dX3_worthBy_35 : decode cX3_worthBy 35 = .ok (.goto 65, 3) := by decide +kernel
theorem dX3_worthBy_38 : decode cX3_worthBy 38 = .ok (.iload_n 3, 1) := by decide +kernel
theorem dX3_worthBy_39 : decode cX3_worthBy 39 = .ok (.bipush (-59), 2) := by decide +kernel
theorem dX3_worthBy_41 : decode cX3_worthBy 41 = .ok (.if_icmp .ne 8, 3) := by decide +kernel
theorem dX3_worthBy_44 : decode cX3_worthBy 44 = .ok (.aload_n 0, 1) := by decide +kernel
theorem dX3_worthBy_45 : decode cX3_worthBy 45 = .ok (.invokevirtual 44, 3) := by decide +kernel
theorem dX3_worthBy_48 : decode cX3_worthBy 48 = .ok (.ireturn, 1) := by decide +kernel
theorem dX3_worthBy_49 : decode cX3_worthBy 49 = .ok (.iload_n 3, 1) := by decide +kernel
theorem dX3_worthBy_50 : decode cX3_worthBy 50 = .ok (.bipush (-63), 2) := by decide +kernel
theorem dX3_worthBy_52 : decode cX3_worthBy 52 = .ok (.if_icmp .ne 41, 3) := by decide +kernel
theorem dX3_worthBy_55 : decode cX3_worthBy 55 = .ok (.aload_n 0, 1) := by decide +kernel
theorem dX3_worthBy_56 : decode cX3_worthBy 56 = .ok (.invokevirtual 44, 3) := by decide +kernel
theorem dX3_worthBy_59 : decode cX3_worthBy 59 = .ok (.ifCond .ne 12, 3) := by decide +kernel
theorem dX3_worthBy_62 : decode cX3_worthBy 62 = .ok (.iload_n 2, 1) := by decide +kernel
theorem dX3_worthBy_63 : decode cX3_worthBy 63 = .ok (.aload_n 0, 1) := by decide +kernel
theorem dX3_worthBy_64 : decode cX3_worthBy 64 = .ok (.getfield 18, 3) := by decide +kernel
theorem dX3_worthBy_67 : decode cX3_worthBy 67 = .ok (.arraylength, 1) := by decide +kernel
theorem dX3_worthBy_68 : decode cX3_worthBy 68 = .ok (.if_icmp .lt 9, 3) := by decide +kernel
theorem dX3_worthBy_71 : decode cX3_worthBy 71 = .ok (.iload_n 2, 1) := by decide +kernel
theorem dX3_worthBy_72 : decode cX3_worthBy 72 = .ok (.iconst 1, 1) := by decide +kernel
theorem dX3_worthBy_73 : decode cX3_worthBy 73 = .ok (.iadd, 1) := by decide +kernel
theorem dX3_worthBy_74 : decode cX3_worthBy 74 = .ok (.goto 15, 3) := by decide +kernel
theorem dX3_worthBy_77 : decode cX3_worthBy 77 = .ok (.iload_n 2, 1) := by decide +kernel
theorem dX3_worthBy_78 : decode cX3_worthBy 78 = .ok (.iconst 1, 1) := by decide +kernel
theorem dX3_worthBy_79 : decode cX3_worthBy 79 = .ok (.iadd, 1) := by decide +kernel
theorem dX3_worthBy_80 : decode cX3_worthBy 80 = .ok (.aload_n 0, 1) := by decide +kernel
theorem dX3_worthBy_81 : decode cX3_worthBy 81 = .ok (.getfield 18, 3) := by decide +kernel
theorem dX3_worthBy_84 : decode cX3_worthBy 84 = .ok (.iload_n 2, 1) := by decide +kernel
theorem dX3_worthBy_85 : decode cX3_worthBy 85 = .ok (.iaload, 1) := by decide +kernel
theorem dX3_worthBy_86 : decode cX3_worthBy 86 = .ok (.invokestatic 15, 3) := by decide +kernel
theorem dX3_worthBy_89 : decode cX3_worthBy 89 = .ok (.istore_n 2, 1) := by decide +kernel
theorem dX3_worthBy_90 : decode cX3_worthBy 90 = .ok (.goto 10, 3) := by decide +kernel
theorem dX3_worthBy_93 : decode cX3_worthBy 93 = .ok (.aload_n 0, 1) := by decide +kernel
theorem dX3_worthBy_94 : decode cX3_worthBy 94 = .ok (.iload_n 3, 1) := by decide +kernel
theorem dX3_worthBy_95 : decode cX3_worthBy 95 = .ok (.ineg, 1) := by decide +kernel
theorem dX3_worthBy_96 : decode cX3_worthBy 96 = .ok (.aload_n 1, 1) := by decide +kernel
theorem dX3_worthBy_97 : decode cX3_worthBy 97 = .ok (.invokevirtual 48, 3) := by decide +kernel
theorem dX3_worthBy_100 : decode cX3_worthBy 100 = .ok (.goto (-93), 3) := by decide +kernel
theorem dX3_worthBy_103 : decode cX3_worthBy 103 = .ok (.iconst 0, 1) := by decide +kernel
theorem dX3_worthBy_104 : decode cX3_worthBy 104 = .ok (.ireturn, 1) := by decide +kernel
theorem dX3_work_0 : decode cX3_work 0 = .ok (.iload_n 1, 1) := by decide +kernel
theorem dX3_work_1 : decode cX3_work 1 = .ok (.invokestatic 52, 3) := by decide +kernel
theorem dX3_work_4 : decode cX3_work 4 = .ok (.istore_n 3, 1) := by decide +kernel
theorem dX3_work_5 : decode cX3_work 5 = .ok (.iload_n 3, 1) := by decide +kernel
theorem dX3_work_6 : decode cX3_work 6 = .ok (.iconst (-1), 1) := by decide +kernel
theorem dX3_work_7 : decode cX3_work 7 = .ok (.if_icmp .eq 23, 3) := by decide +kernel
theorem dX3_work_10 : decode cX3_work 10 = .ok (.aload_n 0, 1) := by decide +kernel
theorem dX3_work_11 : decode cX3_work 11 = .ok (.iload_n 3, 1) := by decide +kernel
theorem dX3_work_12 : decode cX3_work 12 = .ok (.aload_n 2, 1) := by decide +kernel
theorem dX3_work_13 : decode cX3_work 13 = .ok (.arraylength, 1) := by decide +kernel
theorem dX3_work_14 : decode cX3_work 14 = .ok (.if_icmp .ge 9, 3) := by decide +kernel
theorem dX3_work_17 : decode cX3_work 17 = .ok (.aload_n 2, 1) := by decide +kernel
theorem dX3_work_18 : decode cX3_work 18 = .ok (.iload_n 3, 1) := by decide +kernel
theorem dX3_work_19 : decode cX3_work 19 = .ok (.iaload, 1) := by decide +kernel
theorem dX3_work_20 : decode cX3_work 20 = .ok (.goto 4, 3) := by decide +kernel
theorem dX3_work_23 : decode cX3_work 23 = .ok (.iconst 0, 1) := by decide +kernel
theorem dX3_work_24 : decode cX3_work 24 = .ok (.invokevirtual 40, 3) := by decide +kernel
theorem dX3_work_27 : decode cX3_work 27 = .ok (.goto 72, 3) := by decide +kernel
theorem dX3_work_30 : decode cX3_work 30 = .ok (.iload_n 1, 1) := by decide +kernel
theorem dX3_work_31 : decode cX3_work 31 = .ok (.bipush 33, 2) := by decide +kernel
theorem dX3_work_33 : decode cX3_work 33 = .ok (.if_icmp .ne 22, 3) := by decide +kernel
theorem dX3_work_36 : decode cX3_work 36 = .ok (.aload_n 0, 1) := by decide +kernel
theorem dX3_work_37 : decode cX3_work 37 = .ok (.aload_n 0, 1) := by decide +kernel
theorem dX3_work_38 : decode cX3_work 38 = .ok (.invokevirtual 44, 3) := by decide +kernel
theorem dX3_work_41 : decode cX3_work 41 = .ok (.ifCond .ne 7, 3) := by decide +kernel
theorem dX3_work_44 : decode cX3_work 44 = .ok (.iconst 1, 1) := by decide +kernel
theorem dX3_work_45 : decode cX3_work 45 = .ok (.goto 4, 3) := by decide +kernel
theorem dX3_work_48 : decode cX3_work 48 = .ok (.iconst 0, 1) := by decide +kernel
theorem dX3_work_49 : decode cX3_work 49 = .ok (.invokevirtual 40, 3) := by decide +kernel
theorem dX3_work_52 : decode cX3_work 52 = .ok (.goto 47, 3) := by decide +kernel
theorem dX3_work_55 : decode cX3_work 55 = .ok (.aload_n 0, 1) := by decide +kernel
theorem dX3_work_56 : decode cX3_work 56 = .ok (.invokevirtual 44, 3) := by decide +kernel
theorem dX3_work_59 : decode cX3_work 59 = .ok (.istore 4, 2) := by decide +kernel
theorem dX3_work_61 : decode cX3_work 61 = .ok (.aload_n 0, 1) := by decide +kernel
theorem dX3_work_62 : decode cX3_work 62 = .ok (.invokevirtual 44, 3) := by decide +kernel
theorem dX3_work_65 : decode cX3_work 65 = .ok (.istore 5, 2) := by decide +kernel
theorem dX3_work_67 : decode cX3_work 67 = .ok (.aload_n 0, 1) := by decide +kernel
theorem dX3_work_68 : decode cX3_work 68 = .ok (.iload_n 1, 1) := by decide +kernel
theorem dX3_work_69 : decode cX3_work 69 = .ok (.invokestatic 56, 3) := by decide +kernel
theorem dX3_work_72 : decode cX3_work 72 = .ok (.ifCond .eq 14, 3) := by decide +kernel
theorem dX3_work_75 : decode cX3_work 75 = .ok (.iload_n 1, 1) := by decide +kernel
theorem dX3_work_76 : decode cX3_work 76 = .ok (.iload 5, 2) := by decide +kernel
theorem dX3_work_78 : decode cX3_work 78 = .ok (.iload 4, 2) := by decide +kernel
theorem dX3_work_80 : decode cX3_work 80 = .ok (.invokestatic 60, 3) := by decide +kernel
theorem dX3_work_83 : decode cX3_work 83 = .ok (.goto 13, 3) := by decide +kernel
theorem dX3_work_86 : decode cX3_work 86 = .ok (.iload_n 1, 1) := by decide +kernel
theorem dX3_work_87 : decode cX3_work 87 = .ok (.iload 5, 2) := by decide +kernel
theorem dX3_work_89 : decode cX3_work 89 = .ok (.i2l, 1) := by decide +kernel
theorem dX3_work_90 : decode cX3_work 90 = .ok (.iload 4, 2) := by decide +kernel
theorem dX3_work_92 : decode cX3_work 92 = .ok (.i2l, 1) := by decide +kernel
theorem dX3_work_93 : decode cX3_work 93 = .ok (.invokestatic 64, 3) := by decide +kernel
theorem dX3_work_96 : decode cX3_work 96 = .ok (.invokevirtual 40, 3) := by decide +kernel
theorem dX3_work_99 : decode cX3_work 99 = .ok (.return_, 1) := by decide +kernel
theorem dX3_push_0 : decode cX3_push 0 = .ok (.aload_n 0, 1) := by decide +kernel
theorem dX3_push_1 : decode cX3_push 1 = .ok (.getfield 33, 3) := by decide +kernel
theorem dX3_push_4 : decode cX3_push 4 = .ok (.ifCond .lt 35, 3) := by decide +kernel
theorem dX3_push_7 : decode cX3_push 7 = .ok (.aload_n 0, 1) := by decide +kernel
theorem dX3_push_8 : decode cX3_push 8 = .ok (.getfield 33, 3) := by decide +kernel
theorem dX3_push_11 : decode cX3_push 11 = .ok (.aload_n 0, 1) := by decide +kernel
theorem dX3_push_12 : decode cX3_push 12 = .ok (.getfield 30, 3) := by decide +kernel
theorem dX3_push_15 : decode cX3_push 15 = .ok (.arraylength, 1) := by decide +kernel
theorem dX3_push_16 : decode cX3_push 16 = .ok (.if_icmp .ge 23, 3) := by decide +kernel
theorem dX3_push_19 : decode cX3_push 19 = .ok (.aload_n 0, 1) := by decide +kernel
theorem dX3_push_20 : decode cX3_push 20 = .ok (.getfield 30, 3) := by decide +kernel
theorem dX3_push_23 : decode cX3_push 23 = .ok (.aload_n 0, 1) := by decide +kernel
theorem dX3_push_24 : decode cX3_push 24 = .ok (.getfield 33, 3) := by decide +kernel
theorem dX3_push_27 : decode cX3_push 27 = .ok (.iload_n 1, 1) := by decide +kernel
theorem dX3_push_28 : decode cX3_push 28 = .ok (.iastore, 1) := by decide +kernel
theorem dX3_push_29 : decode cX3_push 29 = .ok (.aload_n 0, 1) := by decide +kernel
theorem dX3_push_30 : decode cX3_push 30 = .ok (.dup, 1) := by decide +kernel
theorem dX3_push_31 : decode cX3_push 31 = .ok (.getfield 33, 3) := by decide +kernel
theorem dX3_push_34 : decode cX3_push 34 = .ok (.iconst 1, 1) := by decide +kernel
theorem dX3_push_35 : decode cX3_push 35 = .ok (.iadd, 1) := by decide +kernel
theorem dX3_push_36 : decode cX3_push 36 = .ok (.putfield 33, 3) := by decide +kernel
theorem dX3_push_39 : decode cX3_push 39 = .ok (.return_, 1) := by decide +kernel
theorem dX3_pop_0 : decode cX3_pop 0 = .ok (.aload_n 0, 1) := by decide +kernel
theorem dX3_pop_1 : decode cX3_pop 1 = .ok (.getfield 33, 3) := by decide +kernel
theorem dX3_pop_4 : decode cX3_pop 4 = .ok (.ifCond .le 15, 3) := by decide +kernel
theorem dX3_pop_7 : decode cX3_pop 7 = .ok (.aload_n 0, 1) := by decide +kernel
theorem dX3_pop_8 : decode cX3_pop 8 = .ok (.getfield 33, 3) := by decide +kernel
theorem dX3_pop_11 : decode cX3_pop 11 = .ok (.aload_n 0, 1) := by decide +kernel
theorem dX3_pop_12 : decode cX3_pop 12 = .ok (.getfield 30, 3) := by decide +kernel
theorem dX3_pop_15 : decode cX3_pop 15 = .ok (.arraylength, 1) := by decide +kernel
theorem dX3_pop_16 : decode cX3_pop 16 = .ok (.if_icmp .le 5, 3) := by decide +kernel
theorem dX3_pop_19 : decode cX3_pop 19 = .ok (.iconst 0, 1) := by decide +kernel
theorem dX3_pop_20 : decode cX3_pop 20 = .ok (.ireturn, 1) := by decide +kernel
theorem dX3_pop_21 : decode cX3_pop 21 = .ok (.aload_n 0, 1) := by decide +kernel
theorem dX3_pop_22 : decode cX3_pop 22 = .ok (.dup, 1) := by decide +kernel
theorem dX3_pop_23 : decode cX3_pop 23 = .ok (.getfield 33, 3) := by decide +kernel
theorem dX3_pop_26 : decode cX3_pop 26 = .ok (.iconst 1, 1) := by decide +kernel
theorem dX3_pop_27 : decode cX3_pop 27 = .ok (.isub, 1) := by decide +kernel
theorem dX3_pop_28 : decode cX3_pop 28 = .ok (.putfield 33, 3) := by decide +kernel
theorem dX3_pop_31 : decode cX3_pop 31 = .ok (.aload_n 0, 1) := by decide +kernel
theorem dX3_pop_32 : decode cX3_pop 32 = .ok (.getfield 30, 3) := by decide +kernel
theorem dX3_pop_35 : decode cX3_pop 35 = .ok (.aload_n 0, 1) := by decide +kernel
theorem dX3_pop_36 : decode cX3_pop 36 = .ok (.getfield 33, 3) := by decide +kernel
theorem dX3_pop_39 : decode cX3_pop 39 = .ok (.iaload, 1) := by decide +kernel
theorem dX3_pop_40 : decode cX3_pop 40 = .ok (.ireturn, 1) := by decide +kernel
theorem dX3_isTruthSign_0 : decode cX3_isTruthSign 0 = .ok (.iload_n 0, 1) := by decide +kernel
theorem dX3_isTruthSign_1 : decode cX3_isTruthSign 1 = .ok (.bipush 61, 2) := by decide +kernel
theorem dX3_isTruthSign_3 : decode cX3_isTruthSign 3 = .ok (.if_icmp .eq 27, 3) := by decide +kernel
theorem dX3_isTruthSign_6 : decode cX3_isTruthSign 6 = .ok (.iload_n 0, 1) := by decide +kernel
theorem dX3_isTruthSign_7 : decode cX3_isTruthSign 7 = .ok (.bipush 60, 2) := by decide +kernel
theorem dX3_isTruthSign_9 : decode cX3_isTruthSign 9 = .ok (.if_icmp .eq 21, 3) := by decide +kernel
theorem dX3_isTruthSign_12 : decode cX3_isTruthSign 12 = .ok (.iload_n 0, 1) := by decide +kernel
theorem dX3_isTruthSign_13 : decode cX3_isTruthSign 13 = .ok (.bipush 62, 2) := by decide +kernel
theorem dX3_isTruthSign_15 : decode cX3_isTruthSign 15 = .ok (.if_icmp .eq 15, 3) := by decide +kernel
theorem dX3_isTruthSign_18 : decode cX3_isTruthSign 18 = .ok (.iload_n 0, 1) := by decide +kernel
theorem dX3_isTruthSign_19 : decode cX3_isTruthSign 19 = .ok (.bipush 38, 2) := by decide +kernel
theorem dX3_isTruthSign_21 : decode cX3_isTruthSign 21 = .ok (.if_icmp .eq 9, 3) := by decide +kernel
theorem dX3_isTruthSign_24 : decode cX3_isTruthSign 24 = .ok (.iload_n 0, 1) := by decide +kernel
theorem dX3_isTruthSign_25 : decode cX3_isTruthSign 25 = .ok (.bipush 124, 2) := by decide +kernel
theorem dX3_isTruthSign_27 : decode cX3_isTruthSign 27 = .ok (.if_icmp .ne 7, 3) := by decide +kernel
theorem dX3_isTruthSign_30 : decode cX3_isTruthSign 30 = .ok (.iconst 1, 1) := by decide +kernel
theorem dX3_isTruthSign_31 : decode cX3_isTruthSign 31 = .ok (.goto 4, 3) := by decide +kernel
theorem dX3_isTruthSign_34 : decode cX3_isTruthSign 34 = .ok (.iconst 0, 1) := by decide +kernel
theorem dX3_isTruthSign_35 : decode cX3_isTruthSign 35 = .ok (.ireturn, 1) := by decide +kernel
theorem dX3_truth_0 : decode cX3_truth 0 = .ok (.iload_n 0, 1) := by decide +kernel
theorem dX3_truth_1 : decode cX3_truth 1 = .ok (.lookupswitch 80 #[(38, 76), (60, 54), (61, 43), (62, 65)], 43) := by decide +kernel
theorem dX3_truth_44 : decode cX3_truth 44 = .ok (.iload_n 1, 1) := by decide +kernel
theorem dX3_truth_45 : decode cX3_truth 45 = .ok (.iload_n 2, 1) := by decide +kernel
theorem dX3_truth_46 : decode cX3_truth 46 = .ok (.if_icmp .ne 7, 3) := by decide +kernel
theorem dX3_truth_49 : decode cX3_truth 49 = .ok (.iconst 1, 1) := by decide +kernel
theorem dX3_truth_50 : decode cX3_truth 50 = .ok (.goto 4, 3) := by decide +kernel
theorem dX3_truth_53 : decode cX3_truth 53 = .ok (.iconst 0, 1) := by decide +kernel
theorem dX3_truth_54 : decode cX3_truth 54 = .ok (.ireturn, 1) := by decide +kernel
theorem dX3_truth_55 : decode cX3_truth 55 = .ok (.iload_n 1, 1) := by decide +kernel
theorem dX3_truth_56 : decode cX3_truth 56 = .ok (.iload_n 2, 1) := by decide +kernel
theorem dX3_truth_57 : decode cX3_truth 57 = .ok (.if_icmp .ge 7, 3) := by decide +kernel
theorem dX3_truth_60 : decode cX3_truth 60 = .ok (.iconst 1, 1) := by decide +kernel
theorem dX3_truth_61 : decode cX3_truth 61 = .ok (.goto 4, 3) := by decide +kernel
theorem dX3_truth_64 : decode cX3_truth 64 = .ok (.iconst 0, 1) := by decide +kernel
theorem dX3_truth_65 : decode cX3_truth 65 = .ok (.ireturn, 1) := by decide +kernel
theorem dX3_truth_66 : decode cX3_truth 66 = .ok (.iload_n 1, 1) := by decide +kernel
theorem dX3_truth_67 : decode cX3_truth 67 = .ok (.iload_n 2, 1) := by decide +kernel
theorem dX3_truth_68 : decode cX3_truth 68 = .ok (.if_icmp .le 7, 3) := by decide +kernel
theorem dX3_truth_71 : decode cX3_truth 71 = .ok (.iconst 1, 1) := by decide +kernel
theorem dX3_truth_72 : decode cX3_truth 72 = .ok (.goto 4, 3) := by decide +kernel
theorem dX3_truth_75 : decode cX3_truth 75 = .ok (.iconst 0, 1) := by decide +kernel
theorem dX3_truth_76 : decode cX3_truth 76 = .ok (.ireturn, 1) := by decide +kernel
theorem dX3_truth_77 : decode cX3_truth 77 = .ok (.iload_n 1, 1) := by decide +kernel
theorem dX3_truth_78 : decode cX3_truth 78 = .ok (.iload_n 2, 1) := by decide +kernel
theorem dX3_truth_79 : decode cX3_truth 79 = .ok (.iand, 1) := by decide +kernel
theorem dX3_truth_80 : decode cX3_truth 80 = .ok (.ireturn, 1) := by decide +kernel
theorem dX3_truth_81 : decode cX3_truth 81 = .ok (.iload_n 1, 1) := by decide +kernel
theorem dX3_truth_82 : decode cX3_truth 82 = .ok (.iload_n 2, 1) := by decide +kernel
theorem dX3_truth_83 : decode cX3_truth 83 = .ok (.ior, 1) := by decide +kernel
theorem dX3_truth_84 : decode cX3_truth 84 = .ok (.ireturn, 1) := by decide +kernel
theorem dX3_bounded_0 : decode cX3_bounded 0 = .ok (.lconst 0, 1) := by decide +kernel
theorem dX3_bounded_1 : decode cX3_bounded 1 = .ok (.lstore 5, 2) := by decide +kernel
theorem dX3_bounded_3 : decode cX3_bounded 3 = .ok (.iload_n 0, 1) := by decide +kernel
theorem dX3_bounded_4 : decode cX3_bounded 4 = .ok (.tableswitch 56 42 45 #[48, 32, 56, 40], 32) := by decide +kernel
theorem dX3_bounded_36 : decode cX3_bounded 36 = .ok (.lload_n 1, 1) := by decide +kernel
theorem dX3_bounded_37 : decode cX3_bounded 37 = .ok (.lload_n 3, 1) := by decide +kernel
theorem dX3_bounded_38 : decode cX3_bounded 38 = .ok (.ladd, 1) := by decide +kernel
theorem dX3_bounded_39 : decode cX3_bounded 39 = .ok (.lstore 5, 2) := by decide +kernel
theorem dX3_bounded_41 : decode cX3_bounded 41 = .ok (.goto 34, 3) := by decide +kernel
theorem dX3_bounded_44 : decode cX3_bounded 44 = .ok (.lload_n 1, 1) := by decide +kernel
theorem dX3_bounded_45 : decode cX3_bounded 45 = .ok (.lload_n 3, 1) := by decide +kernel
theorem dX3_bounded_46 : decode cX3_bounded 46 = .ok (.lsub, 1) := by decide +kernel
theorem dX3_bounded_47 : decode cX3_bounded 47 = .ok (.lstore 5, 2) := by decide +kernel
theorem dX3_bounded_49 : decode cX3_bounded 49 = .ok (.goto 26, 3) := by decide +kernel
theorem dX3_bounded_52 : decode cX3_bounded 52 = .ok (.lload_n 1, 1) := by decide +kernel
theorem dX3_bounded_53 : decode cX3_bounded 53 = .ok (.lload_n 3, 1) := by decide +kernel
theorem dX3_bounded_54 : decode cX3_bounded 54 = .ok (.lmul, 1) := by decide +kernel
theorem dX3_bounded_55 : decode cX3_bounded 55 = .ok (.lstore 5, 2) := by decide +kernel
theorem dX3_bounded_57 : decode cX3_bounded 57 = .ok (.goto 18, 3) := by decide +kernel
theorem dX3_bounded_60 : decode cX3_bounded 60 = .ok (.lload_n 3, 1) := by decide +kernel
theorem dX3_bounded_61 : decode cX3_bounded 61 = .ok (.lconst 0, 1) := by decide +kernel
theorem dX3_bounded_62 : decode cX3_bounded 62 = .ok (.lcmp, 1) := by decide +kernel
theorem dX3_bounded_63 : decode cX3_bounded 63 = .ok (.ifCond .ne 7, 3) := by decide +kernel
theorem dX3_bounded_66 : decode cX3_bounded 66 = .ok (.lconst 0, 1) := by decide +kernel
theorem dX3_bounded_67 : decode cX3_bounded 67 = .ok (.goto 6, 3) := by decide +kernel
theorem dX3_bounded_70 : decode cX3_bounded 70 = .ok (.lload_n 1, 1) := by decide +kernel
theorem dX3_bounded_71 : decode cX3_bounded 71 = .ok (.lload_n 3, 1) := by decide +kernel
theorem dX3_bounded_72 : decode cX3_bounded 72 = .ok (.ldiv, 1) := by decide +kernel
theorem dX3_bounded_73 : decode cX3_bounded 73 = .ok (.lstore 5, 2) := by decide +kernel
theorem dX3_bounded_75 : decode cX3_bounded 75 = .ok (.lload 5, 2) := by decide +kernel
theorem dX3_bounded_77 : decode cX3_bounded 77 = .ok (.ldc2_w 68, 3) := by decide +kernel
theorem dX3_bounded_80 : decode cX3_bounded 80 = .ok (.lcmp, 1) := by decide +kernel
theorem dX3_bounded_81 : decode cX3_bounded 81 = .ok (.ifCond .le 6, 3) := by decide +kernel
theorem dX3_bounded_84 : decode cX3_bounded 84 = .ok (.ldc 70, 2) := by decide +kernel
theorem dX3_bounded_86 : decode cX3_bounded 86 = .ok (.ireturn, 1) := by decide +kernel
theorem dX3_bounded_87 : decode cX3_bounded 87 = .ok (.lload 5, 2) := by decide +kernel
theorem dX3_bounded_89 : decode cX3_bounded 89 = .ok (.ldc2_w 71, 3) := by decide +kernel
theorem dX3_bounded_92 : decode cX3_bounded 92 = .ok (.lcmp, 1) := by decide +kernel
theorem dX3_bounded_93 : decode cX3_bounded 93 = .ok (.ifCond .ge 8, 3) := by decide +kernel
theorem dX3_bounded_96 : decode cX3_bounded 96 = .ok (.ldc 73, 2) := by decide +kernel
theorem dX3_bounded_98 : decode cX3_bounded 98 = .ok (.goto 6, 3) := by decide +kernel
theorem dX3_bounded_101 : decode cX3_bounded 101 = .ok (.lload 5, 2) := by decide +kernel
theorem dX3_bounded_103 : decode cX3_bounded 103 = .ok (.l2i, 1) := by decide +kernel
theorem dX3_bounded_104 : decode cX3_bounded 104 = .ok (.ireturn, 1) := by decide +kernel
theorem dX4_init_0 : decode cX4_init 0 = .ok (.aload_n 0, 1) := by decide +kernel
theorem dX4_init_1 : decode cX4_init 1 = .ok (.invokespecial 3, 3) := by decide +kernel
theorem dX4_init_4 : decode cX4_init 4 = .ok (.aload_n 0, 1) := by decide +kernel
theorem dX4_init_5 : decode cX4_init 5 = .ok (.aload_n 1, 1) := by decide +kernel
theorem dX4_init_6 : decode cX4_init 6 = .ok (.putfield 9, 3) := by decide +kernel
theorem dX4_init_9 : decode cX4_init 9 = .ok (.aload_n 0, 1) := by decide +kernel
theorem dX4_init_10 : decode cX4_init 10 = .ok (.sipush 160, 3) := by decide +kernel
theorem dX4_init_13 : decode cX4_init 13 = .ok (.newarray .int, 2) := by decide +kernel
theorem dX4_init_15 : decode cX4_init 15 = .ok (.putfield 17, 3) := by decide +kernel
theorem dX4_init_18 : decode cX4_init 18 = .ok (.aload_n 0, 1) := by decide +kernel
theorem dX4_init_19 : decode cX4_init 19 = .ok (.iconst 0, 1) := by decide +kernel
theorem dX4_init_20 : decode cX4_init 20 = .ok (.putfield 21, 3) := by decide +kernel
theorem dX4_init_23 : decode cX4_init 23 = .ok (.return_, 1) := by decide +kernel
theorem dX4_read_0 : decode cX4_read 0 = .ok (.aload_n 0, 1) := by decide +kernel
theorem dX4_read_1 : decode cX4_read 1 = .ok (.iconst 0, 1) := by decide +kernel
theorem dX4_read_2 : decode cX4_read 2 = .ok (.putfield 21, 3) := by decide +kernel
theorem dX4_read_5 : decode cX4_read 5 = .ok (.aload_n 0, 1) := by decide +kernel
theorem dX4_read_6 : decode cX4_read 6 = .ok (.getfield 9, 3) := by decide +kernel
theorem dX4_read_9 : decode cX4_read 9 = .ok (.invokevirtual 25, 3) := by decide +kernel
theorem dX4_read_12 : decode cX4_read 12 = .ok (.aload_n 0, 1) := by decide +kernel
theorem dX4_read_13 : decode cX4_read 13 = .ok (.invokevirtual 28, 3) := by decide +kernel
theorem dX4_read_16 : decode cX4_read 16 = .ok (.istore_n 1, 1) := by decide +kernel
theorem dX4_read_17 : decode cX4_read 17 = .ok (.iconst 1, 1) := by decide +kernel
theorem dX4_read_18 : decode cX4_read 18 = .ok (.istore_n 2, 1) := by decide +kernel
theorem dX4_read_19 : decode cX4_read 19 = .ok (.iload_n 1, 1) := by decide +kernel
theorem dX4_read_20 : decode cX4_read 20 = .ok (.ifCond .eq 33, 3) := by decide +kernel
theorem dX4_read_23 : decode cX4_read 23 = .ok (.iload_n 2, 1) := by decide +kernel
theorem dX4_read_24 : decode cX4_read 24 = .ok (.sipush 160, 3) := by decide +kernel
theorem dX4_read_27 : decode cX4_read 27 = .ok (.if_icmp .ge 26, 3) := by decide +kernel
theorem dX4_read_30 : decode cX4_read 30 = .ok (.aload_n 0, 1) := by decide +kernel
theorem dX4_read_31 : decode cX4_read 31 = .ok (.getfield 9, 3) := by decide +kernel
theorem dX4_read_34 : decode cX4_read 34 = .ok (.bipush 59, 2) := by decide +kernel
theorem dX4_read_36 : decode cX4_read 36 = .ok (.invokevirtual 32, 3) := by decide +kernel
theorem dX4_read_39 : decode cX4_read 39 = .ok (.ifCond .eq 14, 3) := by decide +kernel
theorem dX4_read_42 : decode cX4_read 42 = .ok (.aload_n 0, 1) := by decide +kernel
theorem dX4_read_43 : decode cX4_read 43 = .ok (.invokevirtual 28, 3) := by decide +kernel
theorem dX4_read_46 : decode cX4_read 46 = .ok (.istore_n 1, 1) := by decide +kernel
theorem dX4_read_47 : decode cX4_read 47 = .ok (.iinc 2 1, 3) := by decide +kernel
theorem dX4_read_50 : decode cX4_read 50 = .ok (.goto (-31), 3) := by decide +kernel
theorem dX4_read_53 : decode cX4_read 53 = .ok (.iload_n 1, 1) := by decide +kernel
theorem dX4_read_54 : decode cX4_read 54 = .ok (.ifCond .eq 18, 3) := by decide +kernel
theorem dX4_read_57 : decode cX4_read 57 = .ok (.aload_n 0, 1) := by decide +kernel
theorem dX4_read_58 : decode cX4_read 58 = .ok (.getfield 9, 3) := by decide +kernel
theorem dX4_read_61 : decode cX4_read 61 = .ok (.invokevirtual 36, 3) := by decide +kernel
theorem dX4_read_64 : decode cX4_read 64 = .ok (.iconst (-1), 1) := by decide +kernel
theorem dX4_read_65 : decode cX4_read 65 = .ok (.if_icmp .ne 7, 3) := by decide +kernel
theorem dX4_read_68 : decode cX4_read 68 = .ok (.iconst (-1), 1) := by decide +kernel
theorem dX4_read_69 : decode cX4_read 69 = .ok (.goto 10, 3) := by decide +kernel
theorem dX4_read_72 : decode cX4_read 72 = .ok (.aload_n 0, 1) := by decide +kernel
theorem dX4_read_73 : decode cX4_read 73 = .ok (.getfield 9, 3) := by decide +kernel
theorem dX4_read_76 : decode cX4_read 76 = .ok (.getfield 40, 3) := by decide +kernel
theorem dX4_read_79 : decode cX4_read 79 = .ok (.ireturn, 1) := by decide +kernel
theorem dX4_written_0 : decode cX4_written 0 = .ok (.new 43, 3) := by decide +kernel
theorem dX4_written_3 : decode cX4_written 3 = .ok (.dup, 1) := by decide +kernel
theorem dX4_written_4 : decode cX4_written 4 = .ok (.aload_n 0, 1) := by decide +kernel
theorem dX4_written_5 : decode cX4_written 5 = .ok (.getfield 17, 3) := by decide +kernel
theorem dX4_written_8 : decode cX4_written 8 = .ok (.aload_n 0, 1) := by decide +kernel
theorem dX4_written_9 : decode cX4_written 9 = .ok (.getfield 21, 3) := by decide +kernel
theorem dX4_written_12 : decode cX4_written 12 = .ok (.invokespecial 45, 3) := by decide +kernel
theorem dX4_written_15 : decode cX4_written 15 = .ok (.areturn, 1) := by decide +kernel
theorem dX4_readClause_0 : decode cX4_readClause 0 = .ok (.aload_n 0, 1) := by decide +kernel
theorem dX4_readClause_1 : decode cX4_readClause 1 = .ok (.getfield 9, 3) := by decide +kernel
theorem dX4_readClause_4 : decode cX4_readClause 4 = .ok (.bipush 121, 2) := by decide +kernel
theorem dX4_readClause_6 : decode cX4_readClause 6 = .ok (.invokevirtual 32, 3) := by decide +kernel
theorem dX4_readClause_9 : decode cX4_readClause 9 = .ok (.ifCond .eq 15, 3) := by decide +kernel
theorem dX4_readClause_12 : decode cX4_readClause 12 = .ok (.aload_n 0, 1) := by decide +kernel
theorem dX4_readClause_13 : decode cX4_readClause 13 = .ok (.getfield 9, 3) := by decide +kernel
theorem dX4_readClause_16 : decode cX4_readClause 16 = .ok (.bipush 58, 2) := by decide +kernel
theorem dX4_readClause_18 : decode cX4_readClause 18 = .ok (.invokevirtual 32, 3) := by decide +kernel
theorem dX4_readClause_21 : decode cX4_readClause 21 = .ok (.ifCond .ne 5, 3) := by decide +kernel
theorem dX4_readClause_24 : decode cX4_readClause 24 = .ok (.iconst 0, 1) := by decide +kernel
theorem dX4_readClause_25 : decode cX4_readClause 25 = .ok (.ireturn, 1) := by decide +kernel
theorem dX4_readClause_26 : decode cX4_readClause 26 = .ok (.aload_n 0, 1) := by decide +kernel
theorem dX4_readClause_27 : decode cX4_readClause 27 = .ok (.getfield 9, 3) := by decide +kernel
theorem dX4_readClause_30 : decode cX4_readClause 30 = .ok (.invokevirtual 36, 3) := by decide +kernel
theorem dX4_readClause_33 : decode cX4_readClause 33 = .ok (.istore_n 1, 1) := by decide +kernel
theorem dX4_readClause_34 : decode cX4_readClause 34 = .ok (.iload_n 1, 1) := by decide +kernel
theorem dX4_readClause_35 : decode cX4_readClause 35 = .ok (.bipush 33, 2) := by decide +kernel
theorem dX4_readClause_37 : decode cX4_readClause 37 = .ok (.if_icmp .eq 13, 3) := by decide +kernel
theorem dX4_readClause_40 : decode cX4_readClause 40 = .ok (.iload_n 1, 1) := by decide +kernel
theorem dX4_readClause_41 : decode cX4_readClause 41 = .ok (.bipush 40, 2) := by decide +kernel
theorem dX4_readClause_43 : decode cX4_readClause 43 = .ok (.if_icmp .eq 7, 3) := by decide +kernel
theorem dX4_readClause_46 : decode cX4_readClause 46 = .ok (.iconst 1, 1) := by decide +kernel
theorem dX4_readClause_47 : decode cX4_readClause 47 = .ok (.goto 4, 3) := by decide +kernel
theorem dX4_readClause_50 : decode cX4_readClause 50 = .ok (.iconst 0, 1) := by decide +kernel
theorem dX4_readClause_51 : decode cX4_readClause 51 = .ok (.istore_n 2, 1) := by decide +kernel
theorem dX4_readClause_52 : decode cX4_readClause 52 = .ok (.iload_n 2, 1) := by decide +kernel
theorem dX4_readClause_53 : decode cX4_readClause 53 = .ok (.ifCond .eq 34, 3) := by decide +kernel
theorem dX4_readClause_56 : decode cX4_readClause 56 = .ok (.aload_n 0, 1) := by decide +kernel
theorem dX4_readClause_57 : decode cX4_readClause 57 = .ok (.iconst 0, 1) := by decide +kernel
theorem dX4_readClause_58 : decode cX4_readClause 58 = .ok (.invokevirtual 48, 3) := by decide +kernel
theorem dX4_readClause_61 : decode cX4_readClause 61 = .ok (.ifCond .ne 5, 3) := by decide +kernel
theorem dX4_readClause_64 : decode cX4_readClause 64 = .ok (.iconst 0, 1) := by decide +kernel
theorem dX4_readClause_65 : decode cX4_readClause 65 = .ok (.ireturn, 1) := by decide +kernel
theorem dX4_readClause_66 : decode cX4_readClause 66 = .ok (.aload_n 0, 1) := by decide +kernel
theorem dX4_readClause_67 : decode cX4_readClause 67 = .ok (.getfield 9, 3) := by decide +kernel
theorem dX4_readClause_70 : decode cX4_readClause 70 = .ok (.invokevirtual 36, 3) := by decide +kernel
theorem dX4_readClause_73 : decode cX4_readClause 73 = .ok (.invokestatic 51, 3) := by decide +kernel
theorem dX4_readClause_76 : decode cX4_readClause 76 = .ok (.ifCond .ne 11, 3) := by decide +kernel
theorem dX4_readClause_79 : decode cX4_readClause 79 = .ok (.aload_n 0, 1) := by decide +kernel
theorem dX4_readClause_80 : decode cX4_readClause 80 = .ok (.bipush (-59), 2) := by decide +kernel
theorem dX4_readClause_82 : decode cX4_readClause 82 = .ok (.invokevirtual 54, 3) := by decide +kernel
theorem dX4_readClause_85 : decode cX4_readClause 85 = .ok (.iconst 1, 1) := by decide +kernel
theorem dX4_readClause_86 : decode cX4_readClause 86 = .ok (.ireturn, 1) := by decide +kernel
theorem dX4_readClause_87 : decode cX4_readClause 87 = .ok (.aload_n 0, 1) := by decide +kernel
theorem dX4_readClause_88 : decode cX4_readClause 88 = .ok (.iconst 0, 1) := by decide +kernel
theorem dX4_readClause_89 : decode cX4_readClause 89 = .ok (.iload_n 2, 1) := by decide +kernel
theorem dX4_readClause_90 : decode cX4_readClause 90 = .ok (.invokevirtual 58, 3) := by decide +kernel
theorem dX4_readClause_93 : decode cX4_readClause 93 = .ok (.ifCond .eq 14, 3) := by decide +kernel
theorem dX4_readClause_96 : decode cX4_readClause 96 = .ok (.aload_n 0, 1) := by decide +kernel
theorem dX4_readClause_97 : decode cX4_readClause 97 = .ok (.invokevirtual 62, 3) := by decide +kernel
theorem dX4_readClause_100 : decode cX4_readClause 100 = .ok (.ifCond .eq 7, 3) := by decide +kernel
theorem dX4_readClause_103 : decode cX4_readClause 103 = .ok (.iconst 1, 1) := by decide +kernel
theorem dX4_readClause_104 : decode cX4_readClause 104 = .ok (.goto 4, 3) := by decide +kernel
theorem dX4_readClause_107 : decode cX4_readClause 107 = .ok (.iconst 0, 1) := by decide +kernel
theorem dX4_readClause_108 : decode cX4_readClause 108 = .ok (.ireturn, 1) := by decide +kernel
theorem dX4_readConsequence_0 : decode cX4_readConsequence 0 = .ok (.aload_n 0, 1) := by decide +kernel
theorem dX4_readConsequence_1 : decode cX4_readConsequence 1 = .ok (.getfield 9, 3) := by decide +kernel
theorem dX4_readConsequence_4 : decode cX4_readConsequence 4 = .ok (.bipush 63, 2) := by decide +kernel
theorem dX4_readConsequence_6 : decode cX4_readConsequence 6 = .ok (.invokevirtual 32, 3) := by decide +kernel
theorem dX4_readConsequence_9 : decode cX4_readConsequence 9 = .ok (.ifCond .ne 5, 3) := by decide +kernel
theorem dX4_readConsequence_12 : decode cX4_readConsequence 12 = .ok (.iconst 0, 1) := by decide +kernel
theorem dX4_readConsequence_13 : decode cX4_readConsequence 13 = .ok (.ireturn, 1) := by decide +kernel
theorem dX4_readConsequence_14 : decode cX4_readConsequence 14 = .ok (.aload_n 0, 1) := by decide +kernel
theorem dX4_readConsequence_15 : decode cX4_readConsequence 15 = .ok (.bipush (-63), 2) := by decide +kernel
theorem dX4_readConsequence_17 : decode cX4_readConsequence 17 = .ok (.invokevirtual 54, 3) := by decide +kernel
theorem dX4_readConsequence_20 : decode cX4_readConsequence 20 = .ok (.aload_n 0, 1) := by decide +kernel
theorem dX4_readConsequence_21 : decode cX4_readConsequence 21 = .ok (.getfield 21, 3) := by decide +kernel
theorem dX4_readConsequence_24 : decode cX4_readConsequence 24 = .ok (.istore_n 1, 1) := by decide +kernel
theorem dX4_readConsequence_25 : decode cX4_readConsequence 25 = .ok (.aload_n 0, 1) := by decide +kernel
theorem dX4_readConsequence_26 : decode cX4_readConsequence 26 = .ok (.iconst 0, 1) := by decide +kernel
theorem dX4_readConsequence_27 : decode cX4_readConsequence 27 = .ok (.invokevirtual 54, 3) := by decide +kernel
theorem dX4_readConsequence_30 : decode cX4_readConsequence 30 = .ok (.aload_n 0, 1) := by decide +kernel
theorem dX4_readConsequence_31 : decode cX4_readConsequence 31 = .ok (.iconst 0, 1) := by decide +kernel
theorem dX4_readConsequence_32 : decode cX4_readConsequence 32 = .ok (.invokevirtual 48, 3) := by decide +kernel
theorem dX4_readConsequence_35 : decode cX4_readConsequence 35 = .ok (.ifCond .ne 5, 3) := by decide +kernel
theorem dX4_readConsequence_38 : decode cX4_readConsequence 38 = .ok (.iconst 0, 1) := by decide +kernel
theorem dX4_readConsequence_39 : decode cX4_readConsequence 39 = .ok (.ireturn, 1) := by decide +kernel
theorem dX4_readConsequence_40 : decode cX4_readConsequence 40 = .ok (.aload_n 0, 1) := by decide +kernel
theorem dX4_readConsequence_41 : decode cX4_readConsequence 41 = .ok (.bipush (-59), 2) := by decide +kernel
theorem dX4_readConsequence_43 : decode cX4_readConsequence 43 = .ok (.invokevirtual 54, 3) := by decide +kernel
theorem dX4_readConsequence_46 : decode cX4_readConsequence 46 = .ok (.iload_n 1, 1) := by decide +kernel
theorem dX4_readConsequence_47 : decode cX4_readConsequence 47 = .ok (.aload_n 0, 1) := by decide +kernel
theorem dX4_readConsequence_48 : decode cX4_readConsequence 48 = .ok (.getfield 17, 3) := by decide +kernel
theorem dX4_readConsequence_51 : decode cX4_readConsequence 51 = .ok (.arraylength, 1) := by decide +kernel
theorem dX4_readConsequence_52 : decode cX4_readConsequence 52 = .ok (.if_icmp .ge 13, 3) := by decide +kernel
theorem dX4_readConsequence_55 : decode cX4_readConsequence 55 = .ok (.aload_n 0, 1) := by decide +kernel
