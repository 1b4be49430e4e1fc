theorem dX0_init_0 : decode cX0_init 0 = .ok (.aload_n 0, 1) := by decide +kernel
theorem dX0_init_1 : decode cX0_init 1 = .ok (.invokespecial 3, 3) := by decide +kernel
theorem dX0_init_4 : decode cX0_init 4 = .ok (.aload_n 0, 1) := by decide +kernel
theorem dX0_init_5 : decode cX0_init 5 = .ok (.aload_n 1, 1) := by decide +kernel
theorem dX0_init_6 : decode cX0_init 6 = .ok (.putfield 9, 3) := by decide +kernel
theorem dX0_init_9 : decode cX0_init 9 = .ok (.aload_n 0, 1) := by decide +kernel
theorem dX0_init_10 : decode cX0_init 10 = .ok (.aconst_null, 1) := by decide +kernel
theorem dX0_init_11 : decode cX0_init 11 = .ok (.putfield 15, 3) := by decide +kernel
theorem dX0_init_14 : decode cX0_init 14 = .ok (.aload_n 0, 1) := by decide +kernel
theorem dX0_init_15 : decode cX0_init 15 = .ok (.getstatic 19, 3) := by decide +kernel
theorem dX0_init_18 : decode cX0_init 18 = .ok (.arraylength, 1) := by decide +kernel
theorem dX0_init_19 : decode cX0_init 19 = .ok (.newarray .int, 2) := by decide +kernel
theorem dX0_init_21 : decode cX0_init 21 = .ok (.putfield 25, 3) := by decide +kernel
theorem dX0_init_24 : decode cX0_init 24 = .ok (.aload_n 0, 1) := by decide +kernel
theorem dX0_init_25 : decode cX0_init 25 = .ok (.sipush 343, 3) := by decide +kernel
theorem dX0_init_28 : decode cX0_init 28 = .ok (.newarray .int, 2) := by decide +kernel
theorem dX0_init_30 : decode cX0_init 30 = .ok (.putfield 28, 3) := by decide +kernel
theorem dX0_init_33 : decode cX0_init 33 = .ok (.aload_n 0, 1) := by decide +kernel
theorem dX0_init_34 : decode cX0_init 34 = .ok (.bipush 8, 2) := by decide +kernel
theorem dX0_init_36 : decode cX0_init 36 = .ok (.newarray .int, 2) := by decide +kernel
theorem dX0_init_38 : decode cX0_init 38 = .ok (.putfield 31, 3) := by decide +kernel
theorem dX0_init_41 : decode cX0_init 41 = .ok (.aload_n 0, 1) := by decide +kernel
theorem dX0_init_42 : decode cX0_init 42 = .ok (.bipush 7, 2) := by decide +kernel
theorem dX0_init_44 : decode cX0_init 44 = .ok (.newarray .int, 2) := by decide +kernel
theorem dX0_init_46 : decode cX0_init 46 = .ok (.putfield 34, 3) := by decide +kernel
theorem dX0_init_49 : decode cX0_init 49 = .ok (.aload_n 0, 1) := by decide +kernel
theorem dX0_init_50 : decode cX0_init 50 = .ok (.bipush 7, 2) := by decide +kernel
theorem dX0_init_52 : decode cX0_init 52 = .ok (.newarray .int, 2) := by decide +kernel
theorem dX0_init_54 : decode cX0_init 54 = .ok (.putfield 37, 3) := by decide +kernel
theorem dX0_init_57 : decode cX0_init 57 = .ok (.aload_n 0, 1) := by decide +kernel
theorem dX0_init_58 : decode cX0_init 58 = .ok (.iconst 3, 1) := by decide +kernel
theorem dX0_init_59 : decode cX0_init 59 = .ok (.newarray .boolean, 2) := by decide +kernel
theorem dX0_init_61 : decode cX0_init 61 = .ok (.putfield 40, 3) := by decide +kernel
theorem dX0_init_64 : decode cX0_init 64 = .ok (.aload_n 0, 1) := by decide +kernel
theorem dX0_init_65 : decode cX0_init 65 = .ok (.iconst 3, 1) := by decide +kernel
theorem dX0_init_66 : decode cX0_init 66 = .ok (.newarray .int, 2) := by decide +kernel
theorem dX0_init_68 : decode cX0_init 68 = .ok (.putfield 44, 3) := by decide +kernel
theorem dX0_init_71 : decode cX0_init 71 = .ok (.aload_n 0, 1) := by decide +kernel
theorem dX0_init_72 : decode cX0_init 72 = .ok (.iconst 3, 1) := by decide +kernel
theorem dX0_init_73 : decode cX0_init 73 = .ok (.newarray .int, 2) := by decide +kernel
theorem dX0_init_75 : decode cX0_init 75 = .ok (.putfield 47, 3) := by decide +kernel
theorem dX0_init_78 : decode cX0_init 78 = .ok (.return_, 1) := by decide +kernel
theorem dX0_forget_0 : decode cX0_forget 0 = .ok (.iconst 0, 1) := by decide +kernel
theorem dX0_forget_1 : decode cX0_forget 1 = .ok (.istore_n 1, 1) := by decide +kernel
theorem dX0_forget_2 : decode cX0_forget 2 = .ok (.iload_n 1, 1) := by decide +kernel
theorem dX0_forget_3 : decode cX0_forget 3 = .ok (.iconst 3, 1) := by decide +kernel
theorem dX0_forget_4 : decode cX0_forget 4 = .ok (.if_icmp .ge 16, 3) := by decide +kernel
theorem dX0_forget_7 : decode cX0_forget 7 = .ok (.aload_n 0, 1) := by decide +kernel
theorem dX0_forget_8 : decode cX0_forget 8 = .ok (.getfield 40, 3) := by decide +kernel
theorem dX0_forget_11 : decode cX0_forget 11 = .ok (.iload_n 1, 1) := by decide +kernel
theorem dX0_forget_12 : decode cX0_forget 12 = .ok (.iconst 0, 1) := by decide +kernel
theorem dX0_forget_13 : decode cX0_forget 13 = .ok (.bastore, 1) := by decide +kernel
theorem dX0_forget_14 : decode cX0_forget 14 = .ok (.iinc 1 1, 3) := by decide +kernel
theorem dX0_forget_17 : decode cX0_forget 17 = .ok (.goto (-15), 3) := by decide +kernel
theorem dX0_forget_20 : decode cX0_forget 20 = .ok (.return_, 1) := by decide +kernel
theorem dX0_hold_0 : decode cX0_hold 0 = .ok (.aload_n 0, 1) := by decide +kernel
theorem dX0_hold_1 : decode cX0_hold 1 = .ok (.aload_n 1, 1) := by decide +kernel
theorem dX0_hold_2 : decode cX0_hold 2 = .ok (.putfield 15, 3) := by decide +kernel
theorem dX0_hold_5 : decode cX0_hold 5 = .ok (.aload_n 0, 1) := by decide +kernel
theorem dX0_hold_6 : decode cX0_hold 6 = .ok (.invokevirtual 50, 3) := by decide +kernel
theorem dX0_hold_9 : decode cX0_hold 9 = .ok (.return_, 1) := by decide +kernel
theorem dX0_illOf_0 : decode cX0_illOf 0 = .ok (.iconst 0, 1) := by decide +kernel
theorem dX0_illOf_1 : decode cX0_illOf 1 = .ok (.istore_n 2, 1) := by decide +kernel
theorem dX0_illOf_2 : decode cX0_illOf 2 = .ok (.iconst 0, 1) := by decide +kernel
theorem dX0_illOf_3 : decode cX0_illOf 3 = .ok (.istore_n 3, 1) := by decide +kernel
theorem dX0_illOf_4 : decode cX0_illOf 4 = .ok (.iload_n 3, 1) := by decide +kernel
theorem dX0_illOf_5 : decode cX0_illOf 5 = .ok (.aload_n 0, 1) := by decide +kernel
theorem dX0_illOf_6 : decode cX0_illOf 6 = .ok (.getfield 9, 3) := by decide +kernel
theorem dX0_illOf_9 : decode cX0_illOf 9 = .ok (.getfield 53, 3) := by decide +kernel
theorem dX0_illOf_12 : decode cX0_illOf 12 = .ok (.if_icmp .ge 52, 3) := by decide +kernel
theorem dX0_illOf_15 : decode cX0_illOf 15 = .ok (.aload_n 1, 1) := by decide +kernel
theorem dX0_illOf_16 : decode cX0_illOf 16 = .ok (.aload_n 1, 1) := by decide +kernel
theorem dX0_illOf_17 : decode cX0_illOf 17 = .ok (.iload_n 3, 1) := by decide +kernel
theorem dX0_illOf_18 : decode cX0_illOf 18 = .ok (.aload_n 0, 1) := by decide +kernel
theorem dX0_illOf_19 : decode cX0_illOf 19 = .ok (.getfield 9, 3) := by decide +kernel
theorem dX0_illOf_22 : decode cX0_illOf 22 = .ok (.getfield 59, 3) := by decide +kernel
theorem dX0_illOf_25 : decode cX0_illOf 25 = .ok (.invokevirtual 63, 3) := by decide +kernel
theorem dX0_illOf_28 : decode cX0_illOf 28 = .ok (.invokevirtual 69, 3) := by decide +kernel
theorem dX0_illOf_31 : decode cX0_illOf 31 = .ok (.istore 4, 2) := by decide +kernel
theorem dX0_illOf_33 : decode cX0_illOf 33 = .ok (.iload_n 2, 1) := by decide +kernel
theorem dX0_illOf_34 : decode cX0_illOf 34 = .ok (.iload 4, 2) := by decide +kernel
theorem dX0_illOf_36 : decode cX0_illOf 36 = .ok (.iconst (-1), 1) := by decide +kernel
theorem dX0_illOf_37 : decode cX0_illOf 37 = .ok (.if_icmp .ne 7, 3) := by decide +kernel
theorem dX0_illOf_40 : decode cX0_illOf 40 = .ok (.iconst 0, 1) := by decide +kernel
theorem dX0_illOf_41 : decode cX0_illOf 41 = .ok (.goto 15, 3) := by decide +kernel
theorem dX0_illOf_44 : decode cX0_illOf 44 = .ok (.aload_n 0, 1) := by decide +kernel
theorem dX0_illOf_45 : decode cX0_illOf 45 = .ok (.iload 4, 2) := by decide +kernel
theorem dX0_illOf_47 : decode cX0_illOf 47 = .ok (.aload_n 1, 1) := by decide +kernel
theorem dX0_illOf_48 : decode cX0_illOf 48 = .ok (.iload_n 3, 1) := by decide +kernel
theorem dX0_illOf_49 : decode cX0_illOf 49 = .ok (.invokevirtual 69, 3) := by decide +kernel
theorem dX0_illOf_52 : decode cX0_illOf 52 = .ok (.iload_n 3, 1) := by decide +kernel
theorem dX0_illOf_53 : decode cX0_illOf 53 = .ok (.invokevirtual 73, 3) := by decide +kernel
theorem dX0_illOf_56 : decode cX0_illOf 56 = .ok (.iadd, 1) := by decide +kernel
theorem dX0_illOf_57 : decode cX0_illOf 57 = .ok (.istore_n 2, 1) := by decide +kernel
theorem dX0_illOf_58 : decode cX0_illOf 58 = .ok (.iinc 3 1, 3) := by decide +kernel
theorem dX0_illOf_61 : decode cX0_illOf 61 = .ok (.goto (-57), 3) := by decide +kernel
theorem dX0_illOf_64 : decode cX0_illOf 64 = .ok (.iload_n 2, 1) := by decide +kernel
theorem dX0_illOf_65 : decode cX0_illOf 65 = .ok (.ireturn, 1) := by decide +kernel
theorem dX0_worthOf_0 : decode cX0_worthOf 0 = .ok (.aload_n 0, 1) := by decide +kernel
theorem dX0_worthOf_1 : decode cX0_worthOf 1 = .ok (.getfield 9, 3) := by decide +kernel
theorem dX0_worthOf_4 : decode cX0_worthOf 4 = .ok (.iload_n 1, 1) := by decide +kernel
theorem dX0_worthOf_5 : decode cX0_worthOf 5 = .ok (.iload_n 2, 1) := by decide +kernel
theorem dX0_worthOf_6 : decode cX0_worthOf 6 = .ok (.invokevirtual 77, 3) := by decide +kernel
theorem dX0_worthOf_9 : decode cX0_worthOf 9 = .ok (.ifCond .eq 7, 3) := by decide +kernel
theorem dX0_worthOf_12 : decode cX0_worthOf 12 = .ok (.iconst 1, 1) := by decide +kernel
theorem dX0_worthOf_13 : decode cX0_worthOf 13 = .ok (.goto 4, 3) := by decide +kernel
theorem dX0_worthOf_16 : decode cX0_worthOf 16 = .ok (.iconst 0, 1) := by decide +kernel
theorem dX0_worthOf_17 : decode cX0_worthOf 17 = .ok (.istore 4, 2) := by decide +kernel
theorem dX0_worthOf_19 : decode cX0_worthOf 19 = .ok (.aload_n 0, 1) := by decide +kernel
theorem dX0_worthOf_20 : decode cX0_worthOf 20 = .ok (.getfield 15, 3) := by decide +kernel
theorem dX0_worthOf_23 : decode cX0_worthOf 23 = .ok (.ifnonnull 6, 3) := by decide +kernel
theorem dX0_worthOf_26 : decode cX0_worthOf 26 = .ok (.iload 4, 2) := by decide +kernel
theorem dX0_worthOf_28 : decode cX0_worthOf 28 = .ok (.ireturn, 1) := by decide +kernel
theorem dX0_worthOf_29 : decode cX0_worthOf 29 = .ok (.aload_n 0, 1) := by decide +kernel
theorem dX0_worthOf_30 : decode cX0_worthOf 30 = .ok (.getfield 25, 3) := by decide +kernel
theorem dX0_worthOf_33 : decode cX0_worthOf 33 = .ok (.iconst 0, 1) := by decide +kernel
theorem dX0_worthOf_34 : decode cX0_worthOf 34 = .ok (.aload_n 0, 1) := by decide +kernel
theorem dX0_worthOf_35 : decode cX0_worthOf 35 = .ok (.getfield 9, 3) := by decide +kernel
theorem dX0_worthOf_38 : decode cX0_worthOf 38 = .ok (.iconst 0, 1) := by decide +kernel
theorem dX0_worthOf_39 : decode cX0_worthOf 39 = .ok (.iload_n 1, 1) := by decide +kernel
theorem dX0_worthOf_40 : decode cX0_worthOf 40 = .ok (.invokevirtual 81, 3) := by decide +kernel
theorem dX0_worthOf_43 : decode cX0_worthOf 43 = .ok (.iastore, 1) := by decide +kernel
theorem dX0_worthOf_44 : decode cX0_worthOf 44 = .ok (.aload_n 0, 1) := by decide +kernel
theorem dX0_worthOf_45 : decode cX0_worthOf 45 = .ok (.getfield 25, 3) := by decide +kernel
theorem dX0_worthOf_48 : decode cX0_worthOf 48 = .ok (.iconst 1, 1) := by decide +kernel
theorem dX0_worthOf_49 : decode cX0_worthOf 49 = .ok (.aload_n 0, 1) := by decide +kernel
theorem dX0_worthOf_50 : decode cX0_worthOf 50 = .ok (.getfield 9, 3) := by decide +kernel
theorem dX0_worthOf_53 : decode cX0_worthOf 53 = .ok (.iconst 0, 1) := by decide +kernel
theorem dX0_worthOf_54 : decode cX0_worthOf 54 = .ok (.iload_n 2, 1) := by decide +kernel
theorem dX0_worthOf_55 : decode cX0_worthOf 55 = .ok (.invokevirtual 81, 3) := by decide +kernel
theorem dX0_worthOf_58 : decode cX0_worthOf 58 = .ok (.iastore, 1) := by decide +kernel
theorem dX0_worthOf_59 : decode cX0_worthOf 59 = .ok (.aload_n 0, 1) := by decide +kernel
theorem dX0_worthOf_60 : decode cX0_worthOf 60 = .ok (.getfield 25, 3) := by decide +kernel
theorem dX0_worthOf_63 : decode cX0_worthOf 63 = .ok (.iconst 2, 1) := by decide +kernel
theorem dX0_worthOf_64 : decode cX0_worthOf 64 = .ok (.aload_n 0, 1) := by decide +kernel
theorem dX0_worthOf_65 : decode cX0_worthOf 65 = .ok (.getfield 9, 3) := by decide +kernel
theorem dX0_worthOf_68 : decode cX0_worthOf 68 = .ok (.iconst 1, 1) := by decide +kernel
theorem dX0_worthOf_69 : decode cX0_worthOf 69 = .ok (.iload_n 1, 1) := by decide +kernel
theorem dX0_worthOf_70 : decode cX0_worthOf 70 = .ok (.invokevirtual 81, 3) := by decide +kernel
theorem dX0_worthOf_73 : decode cX0_worthOf 73 = .ok (.iastore, 1) := by decide +kernel
theorem dX0_worthOf_74 : decode cX0_worthOf 74 = .ok (.aload_n 0, 1) := by decide +kernel
theorem dX0_worthOf_75 : decode cX0_worthOf 75 = .ok (.getfield 25, 3) := by decide +kernel
theorem dX0_worthOf_78 : decode cX0_worthOf 78 = .ok (.iconst 3, 1) := by decide +kernel
theorem dX0_worthOf_79 : decode cX0_worthOf 79 = .ok (.aload_n 0, 1) := by decide +kernel
theorem dX0_worthOf_80 : decode cX0_worthOf 80 = .ok (.getfield 9, 3) := by decide +kernel
theorem dX0_worthOf_83 : decode cX0_worthOf 83 = .ok (.iconst 3, 1) := by decide +kernel
theorem dX0_worthOf_84 : decode cX0_worthOf 84 = .ok (.iload_n 1, 1) := by decide +kernel
theorem dX0_worthOf_85 : decode cX0_worthOf 85 = .ok (.invokevirtual 81, 3) := by decide +kernel
theorem dX0_worthOf_88 : decode cX0_worthOf 88 = .ok (.iconst 2, 1) := by decide +kernel
theorem dX0_worthOf_89 : decode cX0_worthOf 89 = .ok (.if_icmp .ne 7, 3) := by decide +kernel
theorem dX0_worthOf_92 : decode cX0_worthOf 92 = .ok (.iconst 0, 1) := by decide +kernel
theorem dX0_worthOf_93 : decode cX0_worthOf 93 = .ok (.goto 12, 3) := by decide +kernel
theorem dX0_worthOf_96 : decode cX0_worthOf 96 = .ok (.aload_n 0, 1) := by decide +kernel
theorem dX0_worthOf_97 : decode cX0_worthOf 97 = .ok (.getfield 9, 3) := by decide +kernel
theorem dX0_worthOf_100 : decode cX0_worthOf 100 = .ok (.iconst 2, 1) := by decide +kernel
theorem dX0_worthOf_101 : decode cX0_worthOf 101 = .ok (.iload_n 1, 1) := by decide +kernel
theorem dX0_worthOf_102 : decode cX0_worthOf 102 = .ok (.invokevirtual 81, 3) := by decide +kernel
theorem dX0_worthOf_105 : decode cX0_worthOf 105 = .ok (.iastore, 1) := by decide +kernel
theorem dX0_worthOf_106 : decode cX0_worthOf 106 = .ok (.aload_n 0, 1) := by decide +kernel
theorem dX0_worthOf_107 : decode cX0_worthOf 107 = .ok (.getfield 25, 3) := by decide +kernel
theorem dX0_worthOf_110 : decode cX0_worthOf 110 = .ok (.iconst 4, 1) := by decide +kernel
theorem dX0_worthOf_111 : decode cX0_worthOf 111 = .ok (.iload 4, 2) := by decide +kernel
theorem dX0_worthOf_113 : decode cX0_worthOf 113 = .ok (.iastore, 1) := by decide +kernel
theorem dX0_worthOf_114 : decode cX0_worthOf 114 = .ok (.aload_n 0, 1) := by decide +kernel
theorem dX0_worthOf_115 : decode cX0_worthOf 115 = .ok (.getfield 25, 3) := by decide +kernel
theorem dX0_worthOf_118 : decode cX0_worthOf 118 = .ok (.iconst 5, 1) := by decide +kernel
theorem dX0_worthOf_119 : decode cX0_worthOf 119 = .ok (.iload_n 3, 1) := by decide +kernel
theorem dX0_worthOf_120 : decode cX0_worthOf 120 = .ok (.iastore, 1) := by decide +kernel
theorem dX0_worthOf_121 : decode cX0_worthOf 121 = .ok (.aload_n 0, 1) := by decide +kernel
theorem dX0_worthOf_122 : decode cX0_worthOf 122 = .ok (.getfield 15, 3) := by decide +kernel
theorem dX0_worthOf_125 : decode cX0_worthOf 125 = .ok (.aload_n 0, 1) := by decide +kernel
theorem dX0_worthOf_126 : decode cX0_worthOf 126 = .ok (.getfield 25, 3) := by decide +kernel
theorem dX0_worthOf_129 : decode cX0_worthOf 129 = .ok (.invokevirtual 85, 3) := by decide +kernel
theorem dX0_worthOf_132 : decode cX0_worthOf 132 = .ok (.ireturn, 1) := by decide +kernel
theorem dX0_seatingFor_0 : decode cX0_seatingFor 0 = .ok (.iload_n 1, 1) := by decide +kernel
theorem dX0_seatingFor_1 : decode cX0_seatingFor 1 = .ok (.ifCond .lt 17, 3) := by decide +kernel
theorem dX0_seatingFor_4 : decode cX0_seatingFor 4 = .ok (.iload_n 1, 1) := by decide +kernel
theorem dX0_seatingFor_5 : decode cX0_seatingFor 5 = .ok (.iconst 3, 1) := by decide +kernel
theorem dX0_seatingFor_6 : decode cX0_seatingFor 6 = .ok (.if_icmp .ge 12, 3) := by decide +kernel
theorem dX0_seatingFor_9 : decode cX0_seatingFor 9 = .ok (.aload_n 0, 1) := by decide +kernel
theorem dX0_seatingFor_10 : decode cX0_seatingFor 10 = .ok (.getfield 44, 3) := by decide +kernel
theorem dX0_seatingFor_13 : decode cX0_seatingFor 13 = .ok (.iload_n 1, 1) := by decide +kernel
theorem dX0_seatingFor_14 : decode cX0_seatingFor 14 = .ok (.iaload, 1) := by decide +kernel
theorem dX0_seatingFor_15 : decode cX0_seatingFor 15 = .ok (.goto 5, 3) := by decide +kernel
theorem dX0_seatingFor_18 : decode cX0_seatingFor 18 = .ok (.ldc 89, 2) := by decide +kernel
theorem dX0_seatingFor_20 : decode cX0_seatingFor 20 = .ok (.ireturn, 1) := by decide +kernel
theorem dX0_muchFor_0 : decode cX0_muchFor 0 = .ok (.iload_n 1, 1) := by decide +kernel
theorem dX0_muchFor_1 : decode cX0_muchFor 1 = .ok (.ifCond .lt 8, 3) := by decide +kernel
theorem dX0_muchFor_4 : decode cX0_muchFor 4 = .ok (.iload_n 1, 1) := by decide +kernel
theorem dX0_muchFor_5 : decode cX0_muchFor 5 = .ok (.iconst 3, 1) := by decide +kernel
theorem dX0_muchFor_6 : decode cX0_muchFor 6 = .ok (.if_icmp .lt 6, 3) := by decide +kernel
theorem dX0_muchFor_9 : decode cX0_muchFor 9 = .ok (.ldc 89, 2) := by decide +kernel
theorem dX0_muchFor_11 : decode cX0_muchFor 11 = .ok (.ireturn, 1) := by decide +kernel
theorem dX0_muchFor_12 : decode cX0_muchFor 12 = .ok (.iload_n 1, 1) := by decide +kernel
theorem dX0_muchFor_13 : decode cX0_muchFor 13 = .ok (.ifCond .ne 13, 3) := by decide +kernel
theorem dX0_muchFor_16 : decode cX0_muchFor 16 = .ok (.aload_n 0, 1) := by decide +kernel
theorem dX0_muchFor_17 : decode cX0_muchFor 17 = .ok (.getfield 47, 3) := by decide +kernel
theorem dX0_muchFor_20 : decode cX0_muchFor 20 = .ok (.iload_n 1, 1) := by decide +kernel
theorem dX0_muchFor_21 : decode cX0_muchFor 21 = .ok (.iaload, 1) := by decide +kernel
theorem dX0_muchFor_22 : decode cX0_muchFor 22 = .ok (.ineg, 1) := by decide +kernel
theorem dX0_muchFor_23 : decode cX0_muchFor 23 = .ok (.goto 9, 3) := by decide +kernel
theorem dX0_muchFor_26 : decode cX0_muchFor 26 = .ok (.aload_n 0, 1) := by decide +kernel
theorem dX0_muchFor_27 : decode cX0_muchFor 27 = .ok (.getfield 47, 3) := by decide +kernel
theorem dX0_muchFor_30 : decode cX0_muchFor 30 = .ok (.iload_n 1, 1) := by decide +kernel
theorem dX0_muchFor_31 : decode cX0_muchFor 31 = .ok (.iaload, 1) := by decide +kernel
theorem dX0_muchFor_32 : decode cX0_muchFor 32 = .ok (.ireturn, 1) := by decide +kernel
theorem dX0_search_0 : decode cX0_search 0 = .ok (.iload_n 1, 1) := by decide +kernel
theorem dX0_search_1 : decode cX0_search 1 = .ok (.ifCond .lt 17, 3) := by decide +kernel
theorem dX0_search_4 : decode cX0_search 4 = .ok (.iload_n 1, 1) := by decide +kernel
theorem dX0_search_5 : decode cX0_search 5 = .ok (.iconst 3, 1) := by decide +kernel
theorem dX0_search_6 : decode cX0_search 6 = .ok (.if_icmp .ge 12, 3) := by decide +kernel
theorem dX0_search_9 : decode cX0_search 9 = .ok (.aload_n 0, 1) := by decide +kernel
theorem dX0_search_10 : decode cX0_search 10 = .ok (.getfield 40, 3) := by decide +kernel
theorem dX0_search_13 : decode cX0_search 13 = .ok (.iload_n 1, 1) := by decide +kernel
theorem dX0_search_14 : decode cX0_search 14 = .ok (.baload, 1) := by decide +kernel
theorem dX0_search_15 : decode cX0_search 15 = .ok (.ifCond .eq 4, 3) := by decide +kernel
theorem dX0_search_18 : decode cX0_search 18 = .ok (.return_, 1) := by decide +kernel
theorem dX0_search_19 : decode cX0_search 19 = .ok (.iload_n 1, 1) := by decide +kernel
theorem dX0_search_20 : decode cX0_search 20 = .ok (.ifCond .ne 7, 3) := by decide +kernel
theorem dX0_search_23 : decode cX0_search 23 = .ok (.aload_n 0, 1) := by decide +kernel
theorem dX0_search_24 : decode cX0_search 24 = .ok (.invokevirtual 90, 3) := by decide +kernel
theorem dX0_search_27 : decode cX0_search 27 = .ok (.aload_n 0, 1) := by decide +kernel
theorem dX0_search_28 : decode cX0_search 28 = .ok (.aload_n 0, 1) := by decide +kernel
theorem dX0_search_29 : decode cX0_search 29 = .ok (.getfield 9, 3) := by decide +kernel
theorem dX0_search_32 : decode cX0_search 32 = .ok (.invokevirtual 93, 3) := by decide +kernel
theorem dX0_search_35 : decode cX0_search 35 = .ok (.invokestatic 97, 3) := by decide +kernel
theorem dX0_search_38 : decode cX0_search 38 = .ok (.putfield 102, 3) := by decide +kernel
theorem dX0_search_41 : decode cX0_search 41 = .ok (.aload_n 0, 1) := by decide +kernel
theorem dX0_search_42 : decode cX0_search 42 = .ok (.iload_n 1, 1) := by decide +kernel
theorem dX0_search_43 : decode cX0_search 43 = .ok (.iconst 2, 1) := by decide +kernel
theorem dX0_search_44 : decode cX0_search 44 = .ok (.if_icmp .ne 10, 3) := by decide +kernel
theorem dX0_search_47 : decode cX0_search 47 = .ok (.aload_n 0, 1) := by decide +kernel
theorem dX0_search_48 : decode cX0_search 48 = .ok (.invokevirtual 105, 3) := by decide +kernel
theorem dX0_search_51 : decode cX0_search 51 = .ok (.goto 4, 3) := by decide +kernel
theorem dX0_search_54 : decode cX0_search 54 = .ok (.iconst 0, 1) := by decide +kernel
theorem dX0_search_55 : decode cX0_search 55 = .ok (.putfield 108, 3) := by decide +kernel
theorem dX0_search_58 : decode cX0_search 58 = .ok (.aload_n 0, 1) := by decide +kernel
theorem dX0_search_59 : decode cX0_search 59 = .ok (.iconst 0, 1) := by decide +kernel
theorem dX0_search_60 : decode cX0_search 60 = .ok (.putfield 111, 3) := by decide +kernel
theorem dX0_search_63 : decode cX0_search 63 = .ok (.aload_n 0, 1) := by decide +kernel
theorem dX0_search_64 : decode cX0_search 64 = .ok (.iload_n 1, 1) := by decide +kernel
theorem dX0_search_65 : decode cX0_search 65 = .ok (.iconst 0, 1) := by decide +kernel
theorem dX0_search_66 : decode cX0_search 66 = .ok (.iconst 0, 1) := by decide +kernel
theorem dX0_search_67 : decode cX0_search 67 = .ok (.iconst 0, 1) := by decide +kernel
theorem dX0_search_68 : decode cX0_search 68 = .ok (.iconst 0, 1) := by decide +kernel
theorem dX0_search_69 : decode cX0_search 69 = .ok (.invokevirtual 114, 3) := by decide +kernel
theorem dX0_search_72 : decode cX0_search 72 = .ok (.aload_n 0, 1) := by decide +kernel
theorem dX0_search_73 : decode cX0_search 73 = .ok (.getfield 44, 3) := by decide +kernel
theorem dX0_search_76 : decode cX0_search 76 = .ok (.iload_n 1, 1) := by decide +kernel
theorem dX0_search_77 : decode cX0_search 77 = .ok (.aload_n 0, 1) := by decide +kernel
theorem dX0_search_78 : decode cX0_search 78 = .ok (.getfield 118, 3) := by decide +kernel
theorem dX0_search_81 : decode cX0_search 81 = .ok (.iastore, 1) := by decide +kernel
theorem dX0_search_82 : decode cX0_search 82 = .ok (.aload_n 0, 1) := by decide +kernel
theorem dX0_search_83 : decode cX0_search 83 = .ok (.getfield 47, 3) := by decide +kernel
theorem dX0_search_86 : decode cX0_search 86 = .ok (.iload_n 1, 1) := by decide +kernel
theorem dX0_search_87 : decode cX0_search 87 = .ok (.aload_n 0, 1) := by decide +kernel
theorem dX0_search_88 : decode cX0_search 88 = .ok (.getfield 121, 3) := by decide +kernel
theorem dX0_search_91 : decode cX0_search 91 = .ok (.iastore, 1) := by decide +kernel
theorem dX0_search_92 : decode cX0_search 92 = .ok (.aload_n 0, 1) := by decide +kernel
theorem dX0_search_93 : decode cX0_search 93 = .ok (.getfield 40, 3) := by decide +kernel
theorem dX0_search_96 : decode cX0_search 96 = .ok (.iload_n 1, 1) := by decide +kernel
theorem dX0_search_97 : decode cX0_search 97 = .ok (.iconst 1, 1) := by decide +kernel
theorem dX0_search_98 : decode cX0_search 98 = .ok (.bastore, 1) := by decide +kernel
theorem dX0_search_99 : decode cX0_search 99 = .ok (.return_, 1) := by decide +kernel
theorem dX0_fillWorths_0 : decode cX0_fillWorths 0 = .ok (.aload_n 0, 1) := by decide +kernel
theorem dX0_fillWorths_1 : decode cX0_fillWorths 1 = .ok (.getfield 31, 3) := by decide +kernel
theorem dX0_fillWorths_4 : decode cX0_fillWorths 4 = .ok (.iconst 0, 1) := by decide +kernel
theorem dX0_fillWorths_5 : decode cX0_fillWorths 5 = .ok (.invokestatic 124, 3) := by decide +kernel
theorem dX0_fillWorths_8 : decode cX0_fillWorths 8 = .ok (.aload_n 0, 1) := by decide +kernel
theorem dX0_fillWorths_9 : decode cX0_fillWorths 9 = .ok (.getfield 9, 3) := by decide +kernel
theorem dX0_fillWorths_12 : decode cX0_fillWorths 12 = .ok (.getfield 53, 3) := by decide +kernel
theorem dX0_fillWorths_15 : decode cX0_fillWorths 15 = .ok (.iconst 1, 1) := by decide +kernel
theorem dX0_fillWorths_16 : decode cX0_fillWorths 16 = .ok (.isub, 1) := by decide +kernel
theorem dX0_fillWorths_17 : decode cX0_fillWorths 17 = .ok (.istore_n 1, 1) := by decide +kernel
theorem dX0_fillWorths_18 : decode cX0_fillWorths 18 = .ok (.iload_n 1, 1) := by decide +kernel
theorem dX0_fillWorths_19 : decode cX0_fillWorths 19 = .ok (.ifCond .lt 43, 3) := by decide +kernel
theorem dX0_fillWorths_22 : decode cX0_fillWorths 22 = .ok (.iload_n 1, 1) := by decide +kernel
theorem dX0_fillWorths_23 : decode cX0_fillWorths 23 = .ok (.bipush 7, 2) := by decide +kernel
theorem dX0_fillWorths_25 : decode cX0_fillWorths 25 = .ok (.if_icmp .ge 37, 3) := by decide +kernel
theorem dX0_fillWorths_28 : decode cX0_fillWorths 28 = .ok (.aload_n 0, 1) := by decide +kernel
theorem dX0_fillWorths_29 : decode cX0_fillWorths 29 = .ok (.getfield 31, 3) := by decide +kernel
theorem dX0_fillWorths_32 : decode cX0_fillWorths 32 = .ok (.iload_n 1, 1) := by decide +kernel
theorem dX0_fillWorths_33 : decode cX0_fillWorths 33 = .ok (.aload_n 0, 1) := by decide +kernel
theorem dX0_fillWorths_34 : decode cX0_fillWorths 34 = .ok (.getfield 31, 3) := by decide +kernel
theorem dX0_fillWorths_37 : decode cX0_fillWorths 37 = .ok (.iload_n 1, 1) := by decide +kernel
theorem dX0_fillWorths_38 : decode cX0_fillWorths 38 = .ok (.iconst 1, 1) := by decide +kernel
theorem dX0_fillWorths_39 : decode cX0_fillWorths 39 = .ok (.iadd, 1) := by decide +kernel
theorem dX0_fillWorths_40 : decode cX0_fillWorths 40 = .ok (.iaload, 1) := by decide +kernel
theorem dX0_fillWorths_41 : decode cX0_fillWorths 41 = .ok (.iload_n 1, 1) := by decide +kernel
theorem dX0_fillWorths_42 : decode cX0_fillWorths 42 = .ok (.ifCond .le 11, 3) := by decide +kernel
theorem dX0_fillWorths_45 : decode cX0_fillWorths 45 = .ok (.aload_n 0, 1) := by decide +kernel
theorem dX0_fillWorths_46 : decode cX0_fillWorths 46 = .ok (.iload_n 1, 1) := by decide +kernel
theorem dX0_fillWorths_47 : decode cX0_fillWorths 47 = .ok (.invokevirtual 130, 3) := by decide +kernel
theorem dX0_fillWorths_50 : decode cX0_fillWorths 50 = .ok (.goto 4, 3) := by decide +kernel
theorem dX0_fillWorths_53 : decode cX0_fillWorths 53 = .ok (.iconst 0, 1) := by decide +kernel
theorem dX0_fillWorths_54 : decode cX0_fillWorths 54 = .ok (.iadd, 1) := by decide +kernel
theorem dX0_fillWorths_55 : decode cX0_fillWorths 55 = .ok (.iastore, 1) := by decide +kernel
theorem dX0_fillWorths_56 : decode cX0_fillWorths 56 = .ok (.iinc 1 (-1), 3) := by decide +kernel
theorem dX0_fillWorths_59 : decode cX0_fillWorths 59 = .ok (.goto (-41), 3) := by decide +kernel
theorem dX0_fillWorths_62 : decode cX0_fillWorths 62 = .ok (.aload_n 0, 1) := by decide +kernel
theorem dX0_fillWorths_63 : decode cX0_fillWorths 63 = .ok (.getfield 9, 3) := by decide +kernel
theorem dX0_fillWorths_66 : decode cX0_fillWorths 66 = .ok (.getfield 59, 3) := by decide +kernel
theorem dX0_fillWorths_69 : decode cX0_fillWorths 69 = .ok (.ifCond .eq 11, 3) := by decide +kernel
theorem dX0_fillWorths_72 : decode cX0_fillWorths 72 = .ok (.aload_n 0, 1) := by decide +kernel
theorem dX0_fillWorths_73 : decode cX0_fillWorths 73 = .ok (.iconst 0, 1) := by decide +kernel
theorem dX0_fillWorths_74 : decode cX0_fillWorths 74 = .ok (.invokevirtual 130, 3) := by decide +kernel
theorem dX0_fillWorths_77 : decode cX0_fillWorths 77 = .ok (.goto 4, 3) := by decide +kernel
theorem dX0_fillWorths_80 : decode cX0_fillWorths 80 = .ok (.iconst 0, 1) := by decide +kernel
theorem dX0_fillWorths_81 : decode cX0_fillWorths 81 = .ok (.istore_n 1, 1) := by decide +kernel
theorem dX0_fillWorths_82 : decode cX0_fillWorths 82 = .ok (.iconst 0, 1) := by decide +kernel
theorem dX0_fillWorths_83 : decode cX0_fillWorths 83 = .ok (.istore_n 2, 1) := by decide +kernel
theorem dX0_fillWorths_84 : decode cX0_fillWorths 84 = .ok (.iload_n 2, 1) := by decide +kernel
theorem dX0_fillWorths_85 : decode cX0_fillWorths 85 = .ok (.aload_n 0, 1) := by decide +kernel
theorem dX0_fillWorths_86 : decode cX0_fillWorths 86 = .ok (.getfield 31, 3) := by decide +kernel
theorem dX0_fillWorths_89 : decode cX0_fillWorths 89 = .ok (.arraylength, 1) := by decide +kernel
theorem dX0_fillWorths_90 : decode cX0_fillWorths 90 = .ok (.if_icmp .ge 19, 3) := by decide +kernel
theorem dX0_fillWorths_93 : decode cX0_fillWorths 93 = .ok (.aload_n 0, 1) := by decide +kernel
theorem dX0_fillWorths_94 : decode cX0_fillWorths 94 = .ok (.getfield 31, 3) := by decide +kernel
theorem dX0_fillWorths_97 : decode cX0_fillWorths 97 = .ok (.iload_n 2, 1) := by decide +kernel
theorem dX0_fillWorths_98 : decode cX0_fillWorths 98 = .ok (.dup2, 1) := by decide +kernel
theorem dX0_fillWorths_99 : decode cX0_fillWorths 99 = .ok (.iaload, 1) := by decide +kernel
theorem dX0_fillWorths_100 : decode cX0_fillWorths 100 = .ok (.iload_n 1, 1) := by decide +kernel
theorem dX0_fillWorths_101 : decode cX0_fillWorths 101 = .ok (.iadd, 1) := by decide +kernel
theorem dX0_fillWorths_102 : decode cX0_fillWorths 102 = .ok (.iastore, 1) := by decide +kernel
theorem dX0_fillWorths_103 : decode cX0_fillWorths 103 = .ok (.iinc 2 1, 3) := by decide +kernel
theorem dX0_fillWorths_106 : decode cX0_fillWorths 106 = .ok (.goto (-22), 3) := by decide +kernel
theorem dX0_fillWorths_109 : decode cX0_fillWorths 109 = .ok (.return_, 1) := by decide +kernel
theorem dX0_fillWorthsAt_0 : decode cX0_fillWorthsAt 0 = .ok (.iconst 0, 1) := by decide +kernel
theorem dX0_fillWorthsAt_1 : decode cX0_fillWorthsAt 1 = .ok (.istore_n 2, 1) := by decide +kernel
theorem dX0_fillWorthsAt_2 : decode cX0_fillWorthsAt 2 = .ok (.iconst 0, 1) := by decide +kernel
theorem dX0_fillWorthsAt_3 : decode cX0_fillWorthsAt 3 = .ok (.istore_n 3, 1) := by decide +kernel
theorem dX0_fillWorthsAt_4 : decode cX0_fillWorthsAt 4 = .ok (.iconst 0, 1) := by decide +kernel
theorem dX0_fillWorthsAt_5 : decode cX0_fillWorthsAt 5 = .ok (.istore 4, 2) := by decide +kernel
theorem dX0_fillWorthsAt_7 : decode cX0_fillWorthsAt 7 = .ok (.iload 4, 2) := by decide +kernel
theorem dX0_fillWorthsAt_9 : decode cX0_fillWorthsAt 9 = .ok (.aload_n 0, 1) := by decide +kernel
theorem dX0_fillWorthsAt_10 : decode cX0_fillWorthsAt 10 = .ok (.getfield 9, 3) := by decide +kernel
theorem dX0_fillWorthsAt_13 : decode cX0_fillWorthsAt 13 = .ok (.getfield 53, 3) := by decide +kernel
theorem dX0_fillWorthsAt_16 : decode cX0_fillWorthsAt 16 = .ok (.if_icmp .ge 111, 3) := by decide +kernel
theorem dX0_fillWorthsAt_19 : decode cX0_fillWorthsAt 19 = .ok (.iconst 0, 1) := by decide +kernel
theorem dX0_fillWorthsAt_20 : decode cX0_fillWorthsAt 20 = .ok (.istore 5, 2) := by decide +kernel
theorem dX0_fillWorthsAt_22 : decode cX0_fillWorthsAt 22 = .ok (.iload 5, 2) := by decide +kernel
theorem dX0_fillWorthsAt_24 : decode cX0_fillWorthsAt 24 = .ok (.aload_n 0, 1) := by decide +kernel
theorem dX0_fillWorthsAt_25 : decode cX0_fillWorthsAt 25 = .ok (.getfield 9, 3) := by decide +kernel
theorem dX0_fillWorthsAt_28 : decode cX0_fillWorthsAt 28 = .ok (.getfield 53, 3) := by decide +kernel
theorem dX0_fillWorthsAt_31 : decode cX0_fillWorthsAt 31 = .ok (.if_icmp .ge 90, 3) := by decide +kernel
theorem dX0_fillWorthsAt_34 : decode cX0_fillWorthsAt 34 = .ok (.iload 4, 2) := by decide +kernel
theorem dX0_fillWorthsAt_36 : decode cX0_fillWorthsAt 36 = .ok (.bipush 7, 2) := by decide +kernel
theorem dX0_fillWorthsAt_38 : decode cX0_fillWorthsAt 38 = .ok (.imul, 1) := by decide +kernel
theorem dX0_fillWorthsAt_39 : decode cX0_fillWorthsAt 39 = .ok (.iload 5, 2) := by decide +kernel
theorem dX0_fillWorthsAt_41 : decode cX0_fillWorthsAt 41 = .ok (.iadd, 1) := by decide +kernel
theorem dX0_fillWorthsAt_42 : decode cX0_fillWorthsAt 42 = .ok (.bipush 7, 2) := by decide +kernel
theorem dX0_fillWorthsAt_44 : decode cX0_fillWorthsAt 44 = .ok (.imul, 1) := by decide +kernel
theorem dX0_fillWorthsAt_45 : decode cX0_fillWorthsAt 45 = .ok (.iload_n 1, 1) := by decide +kernel
theorem dX0_fillWorthsAt_46 : decode cX0_fillWorthsAt 46 = .ok (.iadd, 1) := by decide +kernel
theorem dX0_fillWorthsAt_47 : decode cX0_fillWorthsAt 47 = .ok (.istore 6, 2) := by decide +kernel
theorem dX0_fillWorthsAt_49 : decode cX0_fillWorthsAt 49 = .ok (.iload 4, 2) := by decide +kernel
theorem dX0_fillWorthsAt_51 : decode cX0_fillWorthsAt 51 = .ok (.iload 5, 2) := by decide +kernel
theorem dX0_fillWorthsAt_53 : decode cX0_fillWorthsAt 53 = .ok (.if_icmp .eq 62, 3) := by decide +kernel
theorem dX0_fillWorthsAt_56 : decode cX0_fillWorthsAt 56 = .ok (.iload 6, 2) := by decide +kernel
theorem dX0_fillWorthsAt_58 : decode cX0_fillWorthsAt 58 = .ok (.ifCond .lt 57, 3) := by decide +kernel
theorem dX0_fillWorthsAt_61 : decode cX0_fillWorthsAt 61 = .ok (.iload 6, 2) := by decide +kernel
theorem dX0_fillWorthsAt_63 : decode cX0_fillWorthsAt 63 = .ok (.aload_n 0, 1) := by decide +kernel
theorem dX0_fillWorthsAt_64 : decode cX0_fillWorthsAt 64 = .ok (.getfield 28, 3) := by decide +kernel
theorem dX0_fillWorthsAt_67 : decode cX0_fillWorthsAt 67 = .ok (.arraylength, 1) := by decide +kernel
theorem dX0_fillWorthsAt_68 : decode cX0_fillWorthsAt 68 = .ok (.if_icmp .ge 47, 3) := by decide +kernel
theorem dX0_fillWorthsAt_71 : decode cX0_fillWorthsAt 71 = .ok (.aload_n 0, 1) := by decide +kernel
theorem dX0_fillWorthsAt_72 : decode cX0_fillWorthsAt 72 = .ok (.getfield 28, 3) := by decide +kernel
theorem dX0_fillWorthsAt_75 : decode cX0_fillWorthsAt 75 = .ok (.iload 6, 2) := by decide +kernel
theorem dX0_fillWorthsAt_77 : decode cX0_fillWorthsAt 77 = .ok (.aload_n 0, 1) := by decide +kernel
theorem dX0_fillWorthsAt_78 : decode cX0_fillWorthsAt 78 = .ok (.iload 4, 2) := by decide +kernel
theorem dX0_fillWorthsAt_80 : decode cX0_fillWorthsAt 80 = .ok (.iload 5, 2) := by decide +kernel
theorem dX0_fillWorthsAt_82 : decode cX0_fillWorthsAt 82 = .ok (.iload_n 1, 1) := by decide +kernel
theorem dX0_fillWorthsAt_83 : decode cX0_fillWorthsAt 83 = .ok (.invokevirtual 73, 3) := by decide +kernel
theorem dX0_fillWorthsAt_86 : decode cX0_fillWorthsAt 86 = .ok (.iastore, 1) := by decide +kernel
theorem dX0_fillWorthsAt_87 : decode cX0_fillWorthsAt 87 = .ok (.iload_n 2, 1) := by decide +kernel
theorem dX0_fillWorthsAt_88 : decode cX0_fillWorthsAt 88 = .ok (.ifCond .eq 17, 3) := by decide +kernel
theorem dX0_fillWorthsAt_91 : decode cX0_fillWorthsAt 91 = .ok (.iload_n 3, 1) := by decide +kernel
theorem dX0_fillWorthsAt_92 : decode cX0_fillWorthsAt 92 = .ok (.aload_n 0, 1) := by decide +kernel
theorem dX0_fillWorthsAt_93 : decode cX0_fillWorthsAt 93 = .ok (.getfield 28, 3) := by decide +kernel
theorem dX0_fillWorthsAt_96 : decode cX0_fillWorthsAt 96 = .ok (.iload 6, 2) := by decide +kernel
theorem dX0_fillWorthsAt_98 : decode cX0_fillWorthsAt 98 = .ok (.iaload, 1) := by decide +kernel
theorem dX0_fillWorthsAt_99 : decode cX0_fillWorthsAt 99 = .ok (.invokestatic 133, 3) := by decide +kernel
theorem dX0_fillWorthsAt_102 : decode cX0_fillWorthsAt 102 = .ok (.goto 10, 3) := by decide +kernel
theorem dX0_fillWorthsAt_105 : decode cX0_fillWorthsAt 105 = .ok (.aload_n 0, 1) := by decide +kernel
theorem dX0_fillWorthsAt_106 : decode cX0_fillWorthsAt 106 = .ok (.getfield 28, 3) := by decide +kernel
theorem dX0_fillWorthsAt_109 : decode cX0_fillWorthsAt 109 = .ok (.iload 6, 2) := by decide +kernel
theorem dX0_fillWorthsAt_111 : decode cX0_fillWorthsAt 111 = .ok (.iaload, 1) := by decide +kernel
theorem dX0_fillWorthsAt_112 : decode cX0_fillWorthsAt 112 = .ok (.istore_n 3, 1) := by decide +kernel
theorem dX0_fillWorthsAt_113 : decode cX0_fillWorthsAt 113 = .ok (.iconst 1, 1) := by decide +kernel
theorem dX0_fillWorthsAt_114 : decode cX0_fillWorthsAt 114 = .ok (.istore_n 2, 1) := by decide +kernel
theorem dX0_fillWorthsAt_115 : decode cX0_fillWorthsAt 115 = .ok (.iinc 5 1, 3) := by decide +kernel
theorem dX0_fillWorthsAt_118 : decode cX0_fillWorthsAt 118 = .ok (.goto (-96), 3) := by decide +kernel
theorem dX0_fillWorthsAt_121 : decode cX0_fillWorthsAt 121 = .ok (.iinc 4 1, 3) := by decide +kernel
theorem dX0_fillWorthsAt_124 : decode cX0_fillWorthsAt 124 = .ok (.goto (-117), 3) := by decide +kernel
theorem dX0_fillWorthsAt_127 : decode cX0_fillWorthsAt 127 = .ok (.iload_n 3, 1) := by decide +kernel
theorem dX0_fillWorthsAt_128 : decode cX0_fillWorthsAt 128 = .ok (.ireturn, 1) := by decide +kernel
theorem dX0_keptWorth_0 : decode cX0_keptWorth 0 = .ok (.iload_n 1, 1) := by decide +kernel
theorem dX0_keptWorth_1 : decode cX0_keptWorth 1 = .ok (.bipush 7, 2) := by decide +kernel
theorem dX0_keptWorth_3 : decode cX0_keptWorth 3 = .ok (.imul, 1) := by decide +kernel
theorem dX0_keptWorth_4 : decode cX0_keptWorth 4 = .ok (.iload_n 2, 1) := by decide +kernel
theorem dX0_keptWorth_5 : decode cX0_keptWorth 5 = .ok (.iadd, 1) := by decide +kernel
theorem dX0_keptWorth_6 : decode cX0_keptWorth 6 = .ok (.bipush 7, 2) := by decide +kernel
theorem dX0_keptWorth_8 : decode cX0_keptWorth 8 = .ok (.imul, 1) := by decide +kernel
theorem dX0_keptWorth_9 : decode cX0_keptWorth 9 = .ok (.iload_n 3, 1) := by decide +kernel
theorem dX0_keptWorth_10 : decode cX0_keptWorth 10 = .ok (.iadd, 1) := by decide +kernel
theorem dX0_keptWorth_11 : decode cX0_keptWorth 11 = .ok (.istore 4, 2) := by decide +kernel
theorem dX0_keptWorth_13 : decode cX0_keptWorth 13 = .ok (.iload 4, 2) := by decide +kernel
theorem dX0_keptWorth_15 : decode cX0_keptWorth 15 = .ok (.ifCond .lt 23, 3) := by decide +kernel
theorem dX0_keptWorth_18 : decode cX0_keptWorth 18 = .ok (.iload 4, 2) := by decide +kernel
theorem dX0_keptWorth_20 : decode cX0_keptWorth 20 = .ok (.aload_n 0, 1) := by decide +kernel
theorem dX0_keptWorth_21 : decode cX0_keptWorth 21 = .ok (.getfield 28, 3) := by decide +kernel
theorem dX0_keptWorth_24 : decode cX0_keptWorth 24 = .ok (.arraylength, 1) := by decide +kernel
theorem dX0_keptWorth_25 : decode cX0_keptWorth 25 = .ok (.if_icmp .ge 13, 3) := by decide +kernel
theorem dX0_keptWorth_28 : decode cX0_keptWorth 28 = .ok (.aload_n 0, 1) := by decide +kernel
theorem dX0_keptWorth_29 : decode cX0_keptWorth 29 = .ok (.getfield 28, 3) := by decide +kernel
theorem dX0_keptWorth_32 : decode cX0_keptWorth 32 = .ok (.iload 4, 2) := by decide +kernel
theorem dX0_keptWorth_34 : decode cX0_keptWorth 34 = .ok (.iaload, 1) := by decide +kernel
theorem dX0_keptWorth_35 : decode cX0_keptWorth 35 = .ok (.goto 4, 3) := by decide +kernel
theorem dX0_keptWorth_38 : decode cX0_keptWorth 38 = .ok (.iconst 0, 1) := by decide +kernel
theorem dX0_keptWorth_39 : decode cX0_keptWorth 39 = .ok (.ireturn, 1) := by decide +kernel
theorem dX0_place_0 : decode cX0_place 0 = .ok (.iload_n 2, 1) := by decide +kernel
theorem dX0_place_1 : decode cX0_place 1 = .ok (.aload_n 0, 1) := by decide +kernel
theorem dX0_place_2 : decode cX0_place 2 = .ok (.getfield 9, 3) := by decide +kernel
theorem dX0_place_5 : decode cX0_place 5 = .ok (.getfield 53, 3) := by decide +kernel
theorem dX0_place_8 : decode cX0_place 8 = .ok (.if_icmp .ge 9, 3) := by decide +kernel
theorem dX0_place_11 : decode cX0_place 11 = .ok (.iload_n 2, 1) := by decide +kernel
theorem dX0_place_12 : decode cX0_place 12 = .ok (.bipush 7, 2) := by decide +kernel
theorem dX0_place_14 : decode cX0_place 14 = .ok (.if_icmp .lt 19, 3) := by decide +kernel
theorem dX0_place_17 : decode cX0_place 17 = .ok (.aload_n 0, 1) := by decide +kernel
theorem dX0_place_18 : decode cX0_place 18 = .ok (.iload 5, 2) := by decide +kernel
theorem dX0_place_20 : decode cX0_place 20 = .ok (.aload_n 0, 1) := by decide +kernel
theorem dX0_place_21 : decode cX0_place 21 = .ok (.iload_n 1, 1) := by decide +kernel
theorem dX0_place_22 : decode cX0_place 22 = .ok (.iload_n 2, 1) := by decide +kernel
theorem dX0_place_23 : decode cX0_place 23 = .ok (.iload 4, 2) := by decide +kernel
theorem dX0_place_25 : decode cX0_place 25 = .ok (.invokevirtual 138, 3) := by decide +kernel
theorem dX0_place_28 : decode cX0_place 28 = .ok (.iadd, 1) := by decide +kernel
theorem dX0_place_29 : decode cX0_place 29 = .ok (.invokevirtual 141, 3) := by decide +kernel
theorem dX0_place_32 : decode cX0_place 32 = .ok (.return_, 1) := by decide +kernel
theorem dX0_place_33 : decode cX0_place 33 = .ok (.iconst 0, 1) := by decide +kernel
theorem dX0_place_34 : decode cX0_place 34 = .ok (.istore 6, 2) := by decide +kernel
theorem dX0_place_36 : decode cX0_place 36 = .ok (.iload 6, 2) := by decide +kernel
theorem dX0_place_38 : decode cX0_place 38 = .ok (.aload_n 0, 1) := by decide +kernel
theorem dX0_place_39 : decode cX0_place 39 = .ok (.getfield 9, 3) := by decide +kernel
theorem dX0_place_42 : decode cX0_place 42 = .ok (.getfield 53, 3) := by decide +kernel
theorem dX0_place_45 : decode cX0_place 45 = .ok (.if_icmp .ge 135, 3) := by decide +kernel
theorem dX0_place_48 : decode cX0_place 48 = .ok (.iload_n 3, 1) := by decide +kernel
theorem dX0_place_49 : decode cX0_place 49 = .ok (.iload 6, 2) := by decide +kernel
theorem dX0_place_51 : decode cX0_place 51 = .ok (.ishr, 1) := by decide +kernel
theorem dX0_place_52 : decode cX0_place 52 = .ok (.iconst 1, 1) := by decide +kernel
theorem dX0_place_53 : decode cX0_place 53 = .ok (.iand, 1) := by decide +kernel
theorem dX0_place_54 : decode cX0_place 54 = .ok (.ifCond .eq 6, 3) := by decide +kernel
theorem dX0_place_57 : decode cX0_place 57 = .ok (.goto 117, 3) := by decide +kernel
theorem dX0_place_60 : decode cX0_place 60 = .ok (.aload_n 0, 1) := by decide +kernel
theorem dX0_place_61 : decode cX0_place 61 = .ok (.getfield 34, 3) := by decide +kernel
theorem dX0_place_64 : decode cX0_place 64 = .ok (.iload_n 2, 1) := by decide +kernel
theorem dX0_place_65 : decode cX0_place 65 = .ok (.iload 6, 2) := by decide +kernel
theorem dX0_place_67 : decode cX0_place 67 = .ok (.iastore, 1) := by decide +kernel
theorem dX0_place_68 : decode cX0_place 68 = .ok (.iload 4, 2) := by decide +kernel
theorem dX0_place_70 : decode cX0_place 70 = .ok (.istore 7, 2) := by decide +kernel
theorem dX0_place_72 : decode cX0_place 72 = .ok (.aload_n 0, 1) := by decide +kernel
theorem dX0_place_73 : decode cX0_place 73 = .ok (.getfield 9, 3) := by decide +kernel
theorem dX0_place_76 : decode cX0_place 76 = .ok (.iload 6, 2) := by decide +kernel
theorem dX0_place_78 : decode cX0_place 78 = .ok (.invokevirtual 145, 3) := by decide +kernel
theorem dX0_place_81 : decode cX0_place 81 = .ok (.ifCond .eq 27, 3) := by decide +kernel
theorem dX0_place_84 : decode cX0_place 84 = .ok (.iload 4, 2) := by decide +kernel
theorem dX0_place_86 : decode cX0_place 86 = .ok (.ifCond .lt 22, 3) := by decide +kernel
theorem dX0_place_89 : decode cX0_place 89 = .ok (.iload 4, 2) := by decide +kernel
theorem dX0_place_91 : decode cX0_place 91 = .ok (.bipush 7, 2) := by decide +kernel
theorem dX0_place_93 : decode cX0_place 93 = .ok (.if_icmp .ge 15, 3) := by decide +kernel
theorem dX0_place_96 : decode cX0_place 96 = .ok (.aload_n 0, 1) := by decide +kernel
theorem dX0_place_97 : decode cX0_place 97 = .ok (.getfield 37, 3) := by decide +kernel
theorem dX0_place_100 : decode cX0_place 100 = .ok (.iload 4, 2) := by decide +kernel
theorem dX0_place_102 : decode cX0_place 102 = .ok (.iload 6, 2) := by decide +kernel
theorem dX0_place_104 : decode cX0_place 104 = .ok (.iastore, 1) := by decide +kernel
theorem dX0_place_105 : decode cX0_place 105 = .ok (.iinc 7 1, 3) := by decide +kernel
theorem dX0_place_108 : decode cX0_place 108 = .ok (.iload 5, 2) := by decide +kernel
theorem dX0_place_110 : decode cX0_place 110 = .ok (.aload_n 0, 1) := by decide +kernel
theorem dX0_place_111 : decode cX0_place 111 = .ok (.iload_n 1, 1) := by decide +kernel
theorem dX0_place_112 : decode cX0_place 112 = .ok (.iload_n 2, 1) := by decide +kernel
theorem dX0_place_113 : decode cX0_place 113 = .ok (.iload 4, 2) := by decide +kernel
theorem dX0_place_115 : decode cX0_place 115 = .ok (.iload 6, 2) := by decide +kernel
theorem dX0_place_117 : decode cX0_place 117 = .ok (.invokevirtual 149, 3) := by decide +kernel
theorem dX0_place_120 : decode cX0_place 120 = .ok (.iadd, 1) := by decide +kernel
theorem dX0_place_121 : decode cX0_place 121 = .ok (.istore 8, 2) := by decide +kernel
theorem dX0_place_123 : decode cX0_place 123 = .ok (.iload_n 3, 1) := by decide +kernel
theorem dX0_place_124 : decode cX0_place 124 = .ok (.iconst 1, 1) := by decide +kernel
theorem dX0_place_125 : decode cX0_place 125 = .ok (.iload 6, 2) := by decide +kernel
theorem dX0_place_127 : decode cX0_place 127 = .ok (.ishl, 1) := by decide +kernel
theorem dX0_place_128 : decode cX0_place 128 = .ok (.ior, 1) := by decide +kernel
theorem dX0_place_129 : decode cX0_place 129 = .ok (.istore 9, 2) := by decide +kernel
theorem dX0_place_131 : decode cX0_place 131 = .ok (.aload_n 0, 1) := by decide +kernel
theorem dX0_place_132 : decode cX0_place 132 = .ok (.getfield 111, 3) := by decide +kernel
theorem dX0_place_135 : decode cX0_place 135 = .ok (.ifCond .eq 25, 3) := by decide +kernel
theorem dX0_place_138 : decode cX0_place 138 = .ok (.iload 8, 2) := by decide +kernel
theorem dX0_place_140 : decode cX0_place 140 = .ok (.aload_n 0, 1) := by decide +kernel
theorem dX0_place_141 : decode cX0_place 141 = .ok (.iload_n 1, 1) := by decide +kernel
theorem dX0_place_142 : decode cX0_place 142 = .ok (.iload_n 2, 1) := by decide +kernel
theorem dX0_place_143 : decode cX0_place 143 = .ok (.iconst 1, 1) := by decide +kernel
theorem dX0_place_144 : decode cX0_place 144 = .ok (.iadd, 1) := by decide +kernel
theorem dX0_place_145 : decode cX0_place 145 = .ok (.iload 9, 2) := by decide +kernel
theorem dX0_place_147 : decode cX0_place 147 = .ok (.iload 7, 2) := by decide +kernel
theorem dX0_place_149 : decode cX0_place 149 = .ok (.invokevirtual 153, 3) := by decide +kernel
theorem dX0_place_152 : decode cX0_place 152 = .ok (.iadd, 1) := by decide +kernel
theorem dX0_place_153 : decode cX0_place 153 = .ok (.aload_n 0, 1) := by decide +kernel
theorem dX0_place_154 : decode cX0_place 154 = .ok (.getfield 121, 3) := by decide +kernel
theorem dX0_place_157 : decode cX0_place 157 = .ok (.if_icmp .le 17, 3) := by decide +kernel
theorem dX0_place_160 : decode cX0_place 160 = .ok (.aload_n 0, 1) := by decide +kernel
theorem dX0_place_161 : decode cX0_place 161 = .ok (.iload_n 1, 1) := by decide +kernel
theorem dX0_place_162 : decode cX0_place 162 = .ok (.iload_n 2, 1) := by decide +kernel
theorem dX0_place_163 : decode cX0_place 163 = .ok (.iconst 1, 1) := by decide +kernel
theorem dX0_place_164 : decode cX0_place 164 = .ok (.iadd, 1) := by decide +kernel
theorem dX0_place_165 : decode cX0_place 165 = .ok (.iload 9, 2) := by decide +kernel
theorem dX0_place_167 : decode cX0_place 167 = .ok (.iload 7, 2) := by decide +kernel
theorem dX0_place_169 : decode cX0_place 169 = .ok (.iload 8, 2) := by decide +kernel
theorem dX0_place_171 : decode cX0_place 171 = .ok (.invokevirtual 114, 3) := by decide +kernel
theorem dX0_place_174 : decode cX0_place 174 = .ok (.iinc 6 1, 3) := by decide +kernel
theorem dX0_place_177 : decode cX0_place 177 = .ok (.goto (-141), 3) := by decide +kernel
theorem dX0_place_180 : decode cX0_place 180 = .ok (.return_, 1) := by decide +kernel
theorem dX0_judge_0 : decode cX0_judge 0 = .ok (.aload_n 0, 1) := by decide +kernel
theorem dX0_judge_1 : decode cX0_judge 1 = .ok (.getfield 111, 3) := by decide +kernel
theorem dX0_judge_4 : decode cX0_judge 4 = .ok (.ifCond .eq 12, 3) := by decide +kernel
theorem dX0_judge_7 : decode cX0_judge 7 = .ok (.iload_n 1, 1) := by decide +kernel
theorem dX0_judge_8 : decode cX0_judge 8 = .ok (.aload_n 0, 1) := by decide +kernel
theorem dX0_judge_9 : decode cX0_judge 9 = .ok (.getfield 121, 3) := by decide +kernel
theorem dX0_judge_12 : decode cX0_judge 12 = .ok (.if_icmp .gt 4, 3) := by decide +kernel
theorem dX0_judge_15 : decode cX0_judge 15 = .ok (.return_, 1) := by decide +kernel
theorem dX0_judge_16 : decode cX0_judge 16 = .ok (.aload_n 0, 1) := by decide +kernel
theorem dX0_judge_17 : decode cX0_judge 17 = .ok (.iconst 1, 1) := by decide +kernel
theorem dX0_judge_18 : decode cX0_judge 18 = .ok (.putfield 111, 3) := by decide +kernel
theorem dX0_judge_21 : decode cX0_judge 21 = .ok (.aload_n 0, 1) := by decide +kernel
theorem dX0_judge_22 : decode cX0_judge 22 = .ok (.iload_n 1, 1) := by decide +kernel
theorem dX0_judge_23 : decode cX0_judge 23 = .ok (.putfield 121, 3) := by decide +kernel
theorem dX0_judge_26 : decode cX0_judge 26 = .ok (.aload_n 0, 1) := by decide +kernel
theorem dX0_judge_27 : decode cX0_judge 27 = .ok (.iconst 0, 1) := by decide +kernel
theorem dX0_judge_28 : decode cX0_judge 28 = .ok (.putfield 118, 3) := by decide +kernel
theorem dX0_judge_31 : decode cX0_judge 31 = .ok (.iconst 0, 1) := by decide +kernel
theorem dX0_judge_32 : decode cX0_judge 32 = .ok (.istore_n 2, 1) := by decide +kernel
theorem dX0_judge_33 : decode cX0_judge 33 = .ok (.iload_n 2, 1) := by decide +kernel
theorem dX0_judge_34 : decode cX0_judge 34 = .ok (.aload_n 0, 1) := by decide +kernel
theorem dX0_judge_35 : decode cX0_judge 35 = .ok (.getfield 9, 3) := by decide +kernel
theorem dX0_judge_38 : decode cX0_judge 38 = .ok (.getfield 53, 3) := by decide +kernel
theorem dX0_judge_41 : decode cX0_judge 41 = .ok (.if_icmp .ge 33, 3) := by decide +kernel
theorem dX0_judge_44 : decode cX0_judge 44 = .ok (.iload_n 2, 1) := by decide +kernel
theorem dX0_judge_45 : decode cX0_judge 45 = .ok (.bipush 7, 2) := by decide +kernel
theorem dX0_judge_47 : decode cX0_judge 47 = .ok (.if_icmp .ge 27, 3) := by decide +kernel
theorem dX0_judge_50 : decode cX0_judge 50 = .ok (.aload_n 0, 1) := by decide +kernel
theorem dX0_judge_51 : decode cX0_judge 51 = .ok (.aload_n 0, 1) := by decide +kernel
theorem dX0_judge_52 : decode cX0_judge 52 = .ok (.getfield 118, 3) := by decide +kernel
theorem dX0_judge_55 : decode cX0_judge 55 = .ok (.bipush 10, 2) := by decide +kernel
theorem dX0_judge_57 : decode cX0_judge 57 = .ok (.imul, 1) := by decide +kernel
theorem dX0_judge_58 : decode cX0_judge 58 = .ok (.aload_n 0, 1) := by decide +kernel
theorem dX0_judge_59 : decode cX0_judge 59 = .ok (.getfield 34, 3) := by decide +kernel
theorem dX0_judge_62 : decode cX0_judge 62 = .ok (.iload_n 2, 1) := by decide +kernel
theorem dX0_judge_63 : decode cX0_judge 63 = .ok (.iaload, 1) := by decide +kernel
theorem dX0_judge_64 : decode cX0_judge 64 = .ok (.iadd, 1) := by decide +kernel
theorem dX0_judge_65 : decode cX0_judge 65 = .ok (.putfield 118, 3) := by decide +kernel
theorem dX0_judge_68 : decode cX0_judge 68 = .ok (.iinc 2 1, 3) := by decide +kernel
theorem dX0_judge_71 : decode cX0_judge 71 = .ok (.goto (-38), 3) := by decide +kernel
theorem dX0_judge_74 : decode cX0_judge 74 = .ok (.return_, 1) := by decide +kernel
theorem dX0_gain_0 : decode cX0_gain 0 = .ok (.iload_n 1, 1) := by decide +kernel
theorem dX0_gain_1 : decode cX0_gain 1 = .ok (.ifCond .ne 34, 3) := by decide +kernel
theorem dX0_gain_4 : decode cX0_gain 4 = .ok (.iload_n 2, 1) := by decide +kernel
theorem dX0_gain_5 : decode cX0_gain 5 = .ok (.ifCond .le 28, 3) := by decide +kernel
theorem dX0_gain_8 : decode cX0_gain 8 = .ok (.iload_n 2, 1) := by decide +kernel
theorem dX0_gain_9 : decode cX0_gain 9 = .ok (.bipush 7, 2) := by decide +kernel
theorem dX0_gain_11 : decode cX0_gain 11 = .ok (.if_icmp .gt 22, 3) := by decide +kernel
theorem dX0_gain_14 : decode cX0_gain 14 = .ok (.aload_n 0, 1) := by decide +kernel
theorem dX0_gain_15 : decode cX0_gain 15 = .ok (.aload_n 0, 1) := by decide +kernel
theorem dX0_gain_16 : decode cX0_gain 16 = .ok (.getfield 34, 3) := by decide +kernel
theorem dX0_gain_19 : decode cX0_gain 19 = .ok (.iload_n 2, 1) := by decide +kernel
theorem dX0_gain_20 : decode cX0_gain 20 = .ok (.iconst 1, 1) := by decide +kernel
theorem dX0_gain_21 : decode cX0_gain 21 = .ok (.isub, 1) := by decide +kernel
theorem dX0_gain_22 : decode cX0_gain 22 = .ok (.iaload, 1) := by decide +kernel
theorem dX0_gain_23 : decode cX0_gain 23 = .ok (.iload 4, 2) := by decide +kernel
theorem dX0_gain_25 : decode cX0_gain 25 = .ok (.iload_n 2, 1) := by decide +kernel
theorem dX0_gain_26 : decode cX0_gain 26 = .ok (.invokevirtual 156, 3) := by decide +kernel
theorem dX0_gain_29 : decode cX0_gain 29 = .ok (.ineg, 1) := by decide +kernel
theorem dX0_gain_30 : decode cX0_gain 30 = .ok (.goto 4, 3) := by decide +kernel
theorem dX0_gain_33 : decode cX0_gain 33 = .ok (.iconst 0, 1) := by decide +kernel
theorem dX0_gain_34 : decode cX0_gain 34 = .ok (.ireturn, 1) := by decide +kernel
theorem dX0_gain_35 : decode cX0_gain 35 = .ok (.aload_n 0, 1) := by decide +kernel
theorem dX0_gain_36 : decode cX0_gain 36 = .ok (.getfield 9, 3) := by decide +kernel
theorem dX0_gain_39 : decode cX0_gain 39 = .ok (.iload 4, 2) := by decide +kernel
theorem dX0_gain_41 : decode cX0_gain 41 = .ok (.invokevirtual 145, 3) := by decide +kernel
theorem dX0_gain_44 : decode cX0_gain 44 = .ok (.ifCond .ne 5, 3) := by decide +kernel
theorem dX0_gain_47 : decode cX0_gain 47 = .ok (.iconst 0, 1) := by decide +kernel
theorem dX0_gain_48 : decode cX0_gain 48 = .ok (.ireturn, 1) := by decide +kernel
theorem dX0_gain_49 : decode cX0_gain 49 = .ok (.iload_n 1, 1) := by decide +kernel
theorem dX0_gain_50 : decode cX0_gain 50 = .ok (.iconst 2, 1) := by decide +kernel
theorem dX0_gain_51 : decode cX0_gain 51 = .ok (.if_icmp .ne 30, 3) := by decide +kernel
theorem dX0_gain_54 : decode cX0_gain 54 = .ok (.iload 4, 2) := by decide +kernel
theorem dX0_gain_56 : decode cX0_gain 56 = .ok (.ifCond .ne 23, 3) := by decide +kernel
theorem dX0_gain_59 : decode cX0_gain 59 = .ok (.aload_n 0, 1) := by decide +kernel
theorem dX0_gain_60 : decode cX0_gain 60 = .ok (.getfield 9, 3) := by decide +kernel
theorem dX0_gain_63 : decode cX0_gain 63 = .ok (.getfield 59, 3) := by decide +kernel
theorem dX0_gain_66 : decode cX0_gain 66 = .ok (.ifCond .ne 13, 3) := by decide +kernel
theorem dX0_gain_69 : decode cX0_gain 69 = .ok (.aload_n 0, 1) := by decide +kernel
theorem dX0_gain_70 : decode cX0_gain 70 = .ok (.iload_n 3, 1) := by decide +kernel
theorem dX0_gain_71 : decode cX0_gain 71 = .ok (.iconst 1, 1) := by decide +kernel
theorem dX0_gain_72 : decode cX0_gain 72 = .ok (.iadd, 1) := by decide +kernel
theorem dX0_gain_73 : decode cX0_gain 73 = .ok (.invokevirtual 159, 3) := by decide +kernel
theorem dX0_gain_76 : decode cX0_gain 76 = .ok (.goto 4, 3) := by decide +kernel
theorem dX0_gain_79 : decode cX0_gain 79 = .ok (.iconst 0, 1) := by decide +kernel
theorem dX0_gain_80 : decode cX0_gain 80 = .ok (.ireturn, 1) := by decide +kernel
theorem dX0_gain_81 : decode cX0_gain 81 = .ok (.iload_n 3, 1) := by decide +kernel
theorem dX0_gain_82 : decode cX0_gain 82 = .ok (.ifCond .le 33, 3) := by decide +kernel
theorem dX0_gain_85 : decode cX0_gain 85 = .ok (.iload_n 3, 1) := by decide +kernel
theorem dX0_gain_86 : decode cX0_gain 86 = .ok (.bipush 7, 2) := by decide +kernel
theorem dX0_gain_88 : decode cX0_gain 88 = .ok (.if_icmp .gt 27, 3) := by decide +kernel
theorem dX0_gain_91 : decode cX0_gain 91 = .ok (.aload_n 0, 1) := by decide +kernel
theorem dX0_gain_92 : decode cX0_gain 92 = .ok (.getfield 9, 3) := by decide +kernel
theorem dX0_gain_95 : decode cX0_gain 95 = .ok (.aload_n 0, 1) := by decide +kernel
theorem dX0_gain_96 : decode cX0_gain 96 = .ok (.getfield 37, 3) := by decide +kernel
theorem dX0_gain_99 : decode cX0_gain 99 = .ok (.iload_n 3, 1) := by decide +kernel
theorem dX0_gain_100 : decode cX0_gain 100 = .ok (.iconst 1, 1) := by decide +kernel
theorem dX0_gain_101 : decode cX0_gain 101 = .ok (.isub, 1) := by decide +kernel
theorem dX0_gain_102 : decode cX0_gain 102 = .ok (.iaload, 1) := by decide +kernel
theorem dX0_gain_103 : decode cX0_gain 103 = .ok (.iload 4, 2) := by decide +kernel
theorem dX0_gain_105 : decode cX0_gain 105 = .ok (.invokevirtual 162, 3) := by decide +kernel
theorem dX0_gain_108 : decode cX0_gain 108 = .ok (.ifCond .ne 7, 3) := by decide +kernel
theorem dX0_gain_111 : decode cX0_gain 111 = .ok (.iconst 1, 1) := by decide +kernel
theorem dX0_gain_112 : decode cX0_gain 112 = .ok (.goto 4, 3) := by decide +kernel
theorem dX0_gain_115 : decode cX0_gain 115 = .ok (.iconst 0, 1) := by decide +kernel
theorem dX0_gain_116 : decode cX0_gain 116 = .ok (.ireturn, 1) := by decide +kernel
theorem dX0_lastGain_0 : decode cX0_lastGain 0 = .ok (.aload_n 0, 1) := by decide +kernel
theorem dX0_lastGain_1 : decode cX0_lastGain 1 = .ok (.getfield 9, 3) := by decide +kernel
theorem dX0_lastGain_4 : decode cX0_lastGain 4 = .ok (.getfield 59, 3) := by decide +kernel
theorem dX0_lastGain_7 : decode cX0_lastGain 7 = .ok (.ifCond .eq 14, 3) := by decide +kernel
theorem dX0_lastGain_10 : decode cX0_lastGain 10 = .ok (.iload_n 2, 1) := by decide +kernel
theorem dX0_lastGain_11 : decode cX0_lastGain 11 = .ok (.iconst 1, 1) := by decide +kernel
theorem dX0_lastGain_12 : decode cX0_lastGain 12 = .ok (.if_icmp .lt 9, 3) := by decide +kernel
theorem dX0_lastGain_15 : decode cX0_lastGain 15 = .ok (.iload_n 2, 1) := by decide +kernel
theorem dX0_lastGain_16 : decode cX0_lastGain 16 = .ok (.bipush 7, 2) := by decide +kernel
theorem dX0_lastGain_18 : decode cX0_lastGain 18 = .ok (.if_icmp .le 5, 3) := by decide +kernel
theorem dX0_lastGain_21 : decode cX0_lastGain 21 = .ok (.iconst 0, 1) := by decide +kernel
theorem dX0_lastGain_22 : decode cX0_lastGain 22 = .ok (.ireturn, 1) := by decide +kernel
theorem dX0_lastGain_23 : decode cX0_lastGain 23 = .ok (.iload_n 1, 1) := by decide +kernel
theorem dX0_lastGain_24 : decode cX0_lastGain 24 = .ok (.iconst 2, 1) := by decide +kernel
theorem dX0_lastGain_25 : decode cX0_lastGain 25 = .ok (.if_icmp .ne 9, 3) := by decide +kernel
theorem dX0_lastGain_28 : decode cX0_lastGain 28 = .ok (.aload_n 0, 1) := by decide +kernel
theorem dX0_lastGain_29 : decode cX0_lastGain 29 = .ok (.iload_n 3, 1) := by decide +kernel
theorem dX0_lastGain_30 : decode cX0_lastGain 30 = .ok (.invokevirtual 159, 3) := by decide +kernel
theorem dX0_lastGain_33 : decode cX0_lastGain 33 = .ok (.ireturn, 1) := by decide +kernel
theorem dX0_lastGain_34 : decode cX0_lastGain 34 = .ok (.iload_n 1, 1) := by decide +kernel
theorem dX0_lastGain_35 : decode cX0_lastGain 35 = .ok (.ifCond .ne 24, 3) := by decide +kernel
theorem dX0_lastGain_38 : decode cX0_lastGain 38 = .ok (.aload_n 0, 1) := by decide +kernel
theorem dX0_lastGain_39 : decode cX0_lastGain 39 = .ok (.aload_n 0, 1) := by decide +kernel
theorem dX0_lastGain_40 : decode cX0_lastGain 40 = .ok (.getfield 34, 3) := by decide +kernel
theorem dX0_lastGain_43 : decode cX0_lastGain 43 = .ok (.iload_n 2, 1) := by decide +kernel
theorem dX0_lastGain_44 : decode cX0_lastGain 44 = .ok (.iconst 1, 1) := by decide +kernel
theorem dX0_lastGain_45 : decode cX0_lastGain 45 = .ok (.isub, 1) := by decide +kernel
theorem dX0_lastGain_46 : decode cX0_lastGain 46 = .ok (.iaload, 1) := by decide +kernel
theorem dX0_lastGain_47 : decode cX0_lastGain 47 = .ok (.aload_n 0, 1) := by decide +kernel
theorem dX0_lastGain_48 : decode cX0_lastGain 48 = .ok (.getfield 34, 3) := by decide +kernel
theorem dX0_lastGain_51 : decode cX0_lastGain 51 = .ok (.iconst 0, 1) := by decide +kernel
theorem dX0_lastGain_52 : decode cX0_lastGain 52 = .ok (.iaload, 1) := by decide +kernel
theorem dX0_lastGain_53 : decode cX0_lastGain 53 = .ok (.iconst 0, 1) := by decide +kernel
theorem dX0_lastGain_54 : decode cX0_lastGain 54 = .ok (.invokevirtual 156, 3) := by decide +kernel
theorem dX0_lastGain_57 : decode cX0_lastGain 57 = .ok (.ineg, 1) := by decide +kernel
theorem dX0_lastGain_58 : decode cX0_lastGain 58 = .ok (.ireturn, 1) := by decide +kernel
theorem dX0_lastGain_59 : decode cX0_lastGain 59 = .ok (.iload_n 3, 1) := by decide +kernel
theorem dX0_lastGain_60 : decode cX0_lastGain 60 = .ok (.iconst 2, 1) := by decide +kernel
theorem dX0_lastGain_61 : decode cX0_lastGain 61 = .ok (.if_icmp .lt 9, 3) := by decide +kernel
theorem dX0_lastGain_64 : decode cX0_lastGain 64 = .ok (.iload_n 3, 1) := by decide +kernel
theorem dX0_lastGain_65 : decode cX0_lastGain 65 = .ok (.bipush 7, 2) := by decide +kernel
theorem dX0_lastGain_67 : decode cX0_lastGain 67 = .ok (.if_icmp .le 5, 3) := by decide +kernel
theorem dX0_lastGain_70 : decode cX0_lastGain 70 = .ok (.iconst 0, 1) := by decide +kernel
theorem dX0_lastGain_71 : decode cX0_lastGain 71 = .ok (.ireturn, 1) := by decide +kernel
theorem dX0_lastGain_72 : decode cX0_lastGain 72 = .ok (.aload_n 0, 1) := by decide +kernel
theorem dX0_lastGain_73 : decode cX0_lastGain 73 = .ok (.getfield 9, 3) := by decide +kernel
theorem dX0_lastGain_76 : decode cX0_lastGain 76 = .ok (.aload_n 0, 1) := by decide +kernel
theorem dX0_lastGain_77 : decode cX0_lastGain 77 = .ok (.getfield 37, 3) := by decide +kernel
theorem dX0_lastGain_80 : decode cX0_lastGain 80 = .ok (.iload_n 3, 1) := by decide +kernel
theorem dX0_lastGain_81 : decode cX0_lastGain 81 = .ok (.iconst 1, 1) := by decide +kernel
theorem dX0_lastGain_82 : decode cX0_lastGain 82 = .ok (.isub, 1) := by decide +kernel
theorem dX0_lastGain_83 : decode cX0_lastGain 83 = .ok (.iaload, 1) := by decide +kernel
theorem dX0_lastGain_84 : decode cX0_lastGain 84 = .ok (.aload_n 0, 1) := by decide +kernel
theorem dX0_lastGain_85 : decode cX0_lastGain 85 = .ok (.getfield 37, 3) := by decide +kernel
theorem dX0_lastGain_88 : decode cX0_lastGain 88 = .ok (.iconst 0, 1) := by decide +kernel
theorem dX0_lastGain_89 : decode cX0_lastGain 89 = .ok (.iaload, 1) := by decide +kernel
theorem dX0_lastGain_90 : decode cX0_lastGain 90 = .ok (.invokevirtual 162, 3) := by decide +kernel
theorem dX0_lastGain_93 : decode cX0_lastGain 93 = .ok (.ifCond .eq 7, 3) := by decide +kernel
theorem dX0_lastGain_96 : decode cX0_lastGain 96 = .ok (.iconst 0, 1) := by decide +kernel
theorem dX0_lastGain_97 : decode cX0_lastGain 97 = .ok (.goto 4, 3) := by decide +kernel
theorem dX0_lastGain_100 : decode cX0_lastGain 100 = .ok (.iconst 1, 1) := by decide +kernel
theorem dX0_lastGain_101 : decode cX0_lastGain 101 = .ok (.ireturn, 1) := by decide +kernel
theorem dX0_hope_0 : decode cX0_hope 0 = .ok (.iload_n 1, 1) := by decide +kernel
theorem dX0_hope_1 : decode cX0_hope 1 = .ok (.ifCond .ne 28, 3) := by decide +kernel
theorem dX0_hope_4 : decode cX0_hope 4 = .ok (.iload_n 2, 1) := by decide +kernel
theorem dX0_hope_5 : decode cX0_hope 5 = .ok (.ifCond .lt 22, 3) := by decide +kernel
theorem dX0_hope_8 : decode cX0_hope 8 = .ok (.iload_n 2, 1) := by decide +kernel
theorem dX0_hope_9 : decode cX0_hope 9 = .ok (.aload_n 0, 1) := by decide +kernel
theorem dX0_hope_10 : decode cX0_hope 10 = .ok (.getfield 31, 3) := by decide +kernel
theorem dX0_hope_13 : decode cX0_hope 13 = .ok (.arraylength, 1) := by decide +kernel
theorem dX0_hope_14 : decode cX0_hope 14 = .ok (.if_icmp .ge 13, 3) := by decide +kernel
theorem dX0_hope_17 : decode cX0_hope 17 = .ok (.aload_n 0, 1) := by decide +kernel
theorem dX0_hope_18 : decode cX0_hope 18 = .ok (.getfield 31, 3) := by decide +kernel
theorem dX0_hope_21 : decode cX0_hope 21 = .ok (.iload_n 2, 1) := by decide +kernel
theorem dX0_hope_22 : decode cX0_hope 22 = .ok (.iaload, 1) := by decide +kernel
theorem dX0_hope_23 : decode cX0_hope 23 = .ok (.ineg, 1) := by decide +kernel
theorem dX0_hope_24 : decode cX0_hope 24 = .ok (.goto 4, 3) := by decide +kernel
theorem dX0_hope_27 : decode cX0_hope 27 = .ok (.iconst 0, 1) := by decide +kernel
theorem dX0_hope_28 : decode cX0_hope 28 = .ok (.ireturn, 1) := by decide +kernel
theorem dX0_hope_29 : decode cX0_hope 29 = .ok (.iload_n 1, 1) := by decide +kernel
theorem dX0_hope_30 : decode cX0_hope 30 = .ok (.iconst 1, 1) := by decide +kernel
theorem dX0_hope_31 : decode cX0_hope 31 = .ok (.if_icmp .ne 27, 3) := by decide +kernel
theorem dX0_hope_34 : decode cX0_hope 34 = .ok (.aload_n 0, 1) := by decide +kernel
theorem dX0_hope_35 : decode cX0_hope 35 = .ok (.getfield 102, 3) := by decide +kernel
theorem dX0_hope_38 : decode cX0_hope 38 = .ok (.iload 4, 2) := by decide +kernel
theorem dX0_hope_40 : decode cX0_hope 40 = .ok (.isub, 1) := by decide +kernel
theorem dX0_hope_41 : decode cX0_hope 41 = .ok (.aload_n 0, 1) := by decide +kernel
theorem dX0_hope_42 : decode cX0_hope 42 = .ok (.getfield 9, 3) := by decide +kernel
theorem dX0_hope_45 : decode cX0_hope 45 = .ok (.getfield 59, 3) := by decide +kernel
theorem dX0_hope_48 : decode cX0_hope 48 = .ok (.ifCond .eq 7, 3) := by decide +kernel
theorem dX0_hope_51 : decode cX0_hope 51 = .ok (.iconst 1, 1) := by decide +kernel
theorem dX0_hope_52 : decode cX0_hope 52 = .ok (.goto 4, 3) := by decide +kernel
theorem dX0_hope_55 : decode cX0_hope 55 = .ok (.iconst 0, 1) := by decide +kernel
theorem dX0_hope_56 : decode cX0_hope 56 = .ok (.iadd, 1) := by decide +kernel
theorem dX0_hope_57 : decode cX0_hope 57 = .ok (.ireturn, 1) := by decide +kernel
theorem dX0_hope_58 : decode cX0_hope 58 = .ok (.aload_n 0, 1) := by decide +kernel
theorem dX0_hope_59 : decode cX0_hope 59 = .ok (.getfield 9, 3) := by decide +kernel
theorem dX0_hope_62 : decode cX0_hope 62 = .ok (.getfield 59, 3) := by decide +kernel
theorem dX0_hope_65 : decode cX0_hope 65 = .ok (.ifCond .ne 13, 3) := by decide +kernel
theorem dX0_hope_68 : decode cX0_hope 68 = .ok (.iload_n 3, 1) := by decide +kernel
theorem dX0_hope_69 : decode cX0_hope 69 = .ok (.iconst 1, 1) := by decide +kernel
theorem dX0_hope_70 : decode cX0_hope 70 = .ok (.iand, 1) := by decide +kernel
theorem dX0_hope_71 : decode cX0_hope 71 = .ok (.ifCond .eq 7, 3) := by decide +kernel
theorem dX0_hope_74 : decode cX0_hope 74 = .ok (.iconst 0, 1) := by decide +kernel
theorem dX0_hope_75 : decode cX0_hope 75 = .ok (.goto 7, 3) := by decide +kernel
theorem dX0_hope_78 : decode cX0_hope 78 = .ok (.aload_n 0, 1) := by decide +kernel
theorem dX0_hope_79 : decode cX0_hope 79 = .ok (.getfield 108, 3) := by decide +kernel
theorem dX0_hope_82 : decode cX0_hope 82 = .ok (.ireturn, 1) := by decide +kernel
theorem dX0_roundHope_0 : decode cX0_roundHope 0 = .ok (.iconst 0, 1) := by decide +kernel
theorem dX0_roundHope_1 : decode cX0_roundHope 1 = .ok (.istore_n 1, 1) := by decide +kernel
theorem dX0_roundHope_2 : decode cX0_roundHope 2 = .ok (.iconst 0, 1) := by decide +kernel
theorem dX0_roundHope_3 : decode cX0_roundHope 3 = .ok (.istore_n 2, 1) := by decide +kernel
theorem dX0_roundHope_4 : decode cX0_roundHope 4 = .ok (.iload_n 2, 1) := by decide +kernel
theorem dX0_roundHope_5 : decode cX0_roundHope 5 = .ok (.aload_n 0, 1) := by decide +kernel
theorem dX0_roundHope_6 : decode cX0_roundHope 6 = .ok (.getfield 9, 3) := by decide +kernel
theorem dX0_roundHope_9 : decode cX0_roundHope 9 = .ok (.getfield 53, 3) := by decide +kernel
theorem dX0_roundHope_12 : decode cX0_roundHope 12 = .ok (.if_icmp .ge 43, 3) := by decide +kernel
theorem dX0_roundHope_15 : decode cX0_roundHope 15 = .ok (.iload_n 1, 1) := by decide +kernel
theorem dX0_roundHope_16 : decode cX0_roundHope 16 = .ok (.aload_n 0, 1) := by decide +kernel
theorem dX0_roundHope_17 : decode cX0_roundHope 17 = .ok (.getfield 9, 3) := by decide +kernel
theorem dX0_roundHope_20 : decode cX0_roundHope 20 = .ok (.iload_n 2, 1) := by decide +kernel
theorem dX0_roundHope_21 : decode cX0_roundHope 21 = .ok (.invokevirtual 145, 3) := by decide +kernel
theorem dX0_roundHope_24 : decode cX0_roundHope 24 = .ok (.ifCond .eq 22, 3) := by decide +kernel
theorem dX0_roundHope_27 : decode cX0_roundHope 27 = .ok (.aload_n 0, 1) := by decide +kernel
theorem dX0_roundHope_28 : decode cX0_roundHope 28 = .ok (.getfield 9, 3) := by decide +kernel
theorem dX0_roundHope_31 : decode cX0_roundHope 31 = .ok (.iconst 3, 1) := by decide +kernel
theorem dX0_roundHope_32 : decode cX0_roundHope 32 = .ok (.iload_n 2, 1) := by decide +kernel
theorem dX0_roundHope_33 : decode cX0_roundHope 33 = .ok (.invokevirtual 81, 3) := by decide +kernel
theorem dX0_roundHope_36 : decode cX0_roundHope 36 = .ok (.iconst 3, 1) := by decide +kernel
theorem dX0_roundHope_37 : decode cX0_roundHope 37 = .ok (.if_icmp .eq 9, 3) := by decide +kernel
theorem dX0_roundHope_40 : decode cX0_roundHope 40 = .ok (.iconst 1, 1) := by decide +kernel
theorem dX0_roundHope_41 : decode cX0_roundHope 41 = .ok (.iload_n 2, 1) := by decide +kernel
theorem dX0_roundHope_42 : decode cX0_roundHope 42 = .ok (.ishl, 1) := by decide +kernel
theorem dX0_roundHope_43 : decode cX0_roundHope 43 = .ok (.goto 4, 3) := by decide +kernel
theorem dX0_roundHope_46 : decode cX0_roundHope 46 = .ok (.iconst 0, 1) := by decide +kernel
theorem dX0_roundHope_47 : decode cX0_roundHope 47 = .ok (.ior, 1) := by decide +kernel
theorem dX0_roundHope_48 : decode cX0_roundHope 48 = .ok (.istore_n 1, 1) := by decide +kernel
theorem dX0_roundHope_49 : decode cX0_roundHope 49 = .ok (.iinc 2 1, 3) := by decide +kernel
theorem dX0_roundHope_52 : decode cX0_roundHope 52 = .ok (.goto (-48), 3) := by decide +kernel
theorem dX0_roundHope_55 : decode cX0_roundHope 55 = .ok (.iload_n 1, 1) := by decide +kernel
theorem dX0_roundHope_56 : decode cX0_roundHope 56 = .ok (.bipush (-2), 2) := by decide +kernel
theorem dX0_roundHope_58 : decode cX0_roundHope 58 = .ok (.iand, 1) := by decide +kernel
theorem dX0_roundHope_59 : decode cX0_roundHope 59 = .ok (.istore_n 2, 1) := by decide +kernel
theorem dX0_roundHope_60 : decode cX0_roundHope 60 = .ok (.iload_n 2, 1) := by decide +kernel
theorem dX0_roundHope_61 : decode cX0_roundHope 61 = .ok (.ifCond .eq 14, 3) := by decide +kernel
theorem dX0_roundHope_64 : decode cX0_roundHope 64 = .ok (.aload_n 0, 1) := by decide +kernel
theorem dX0_roundHope_65 : decode cX0_roundHope 65 = .ok (.getfield 9, 3) := by decide +kernel
theorem dX0_roundHope_68 : decode cX0_roundHope 68 = .ok (.iconst 0, 1) := by decide +kernel
theorem dX0_roundHope_69 : decode cX0_roundHope 69 = .ok (.invokevirtual 145, 3) := by decide +kernel
theorem dX0_roundHope_72 : decode cX0_roundHope 72 = .ok (.ifCond .ne 5, 3) := by decide +kernel
theorem dX0_roundHope_75 : decode cX0_roundHope 75 = .ok (.iconst 0, 1) := by decide +kernel
theorem dX0_roundHope_76 : decode cX0_roundHope 76 = .ok (.ireturn, 1) := by decide +kernel
theorem dX0_roundHope_77 : decode cX0_roundHope 77 = .ok (.aload_n 0, 1) := by decide +kernel
theorem dX0_roundHope_78 : decode cX0_roundHope 78 = .ok (.getfield 9, 3) := by decide +kernel
theorem dX0_roundHope_81 : decode cX0_roundHope 81 = .ok (.getfield 59, 3) := by decide +kernel
theorem dX0_roundHope_84 : decode cX0_roundHope 84 = .ok (.ifCond .eq 18, 3) := by decide +kernel
theorem dX0_roundHope_87 : decode cX0_roundHope 87 = .ok (.iload_n 1, 1) := by decide +kernel
theorem dX0_roundHope_88 : decode cX0_roundHope 88 = .ok (.aload_n 0, 1) := by decide +kernel
theorem dX0_roundHope_89 : decode cX0_roundHope 89 = .ok (.getfield 9, 3) := by decide +kernel
theorem dX0_roundHope_92 : decode cX0_roundHope 92 = .ok (.invokevirtual 93, 3) := by decide +kernel
theorem dX0_roundHope_95 : decode cX0_roundHope 95 = .ok (.if_icmp .ne 7, 3) := by decide +kernel
theorem dX0_roundHope_98 : decode cX0_roundHope 98 = .ok (.iconst 1, 1) := by decide +kernel
theorem dX0_roundHope_99 : decode cX0_roundHope 99 = .ok (.goto 4, 3) := by decide +kernel
theorem dX0_roundHope_102 : decode cX0_roundHope 102 = .ok (.iconst 0, 1) := by decide +kernel
theorem dX0_roundHope_103 : decode cX0_roundHope 103 = .ok (.istore_n 3, 1) := by decide +kernel
theorem dX0_roundHope_104 : decode cX0_roundHope 104 = .ok (.iload_n 3, 1) := by decide +kernel
theorem dX0_roundHope_105 : decode cX0_roundHope 105 = .ok (.ifCond .eq 8, 3) := by decide +kernel
theorem dX0_roundHope_108 : decode cX0_roundHope 108 = .ok (.bipush 7, 2) := by decide +kernel
theorem dX0_roundHope_110 : decode cX0_roundHope 110 = .ok (.goto 7, 3) := by decide +kernel
theorem dX0_roundHope_113 : decode cX0_roundHope 113 = .ok (.iload_n 2, 1) := by decide +kernel
theorem dX0_roundHope_114 : decode cX0_roundHope 114 = .ok (.invokestatic 97, 3) := by decide +kernel
theorem dX0_roundHope_117 : decode cX0_roundHope 117 = .ok (.istore 4, 2) := by decide +kernel
theorem dX0_roundHope_119 : decode cX0_roundHope 119 = .ok (.iload_n 2, 1) := by decide +kernel
theorem dX0_roundHope_120 : decode cX0_roundHope 120 = .ok (.istore 5, 2) := by decide +kernel
theorem dX0_roundHope_122 : decode cX0_roundHope 122 = .ok (.iconst 0, 1) := by decide +kernel
theorem dX0_roundHope_123 : decode cX0_roundHope 123 = .ok (.istore 6, 2) := by decide +kernel
theorem dX0_roundHope_125 : decode cX0_roundHope 125 = .ok (.iconst 0, 1) := by decide +kernel
theorem dX0_roundHope_126 : decode cX0_roundHope 126 = .ok (.istore 7, 2) := by decide +kernel
theorem dX0_roundHope_128 : decode cX0_roundHope 128 = .ok (.iload 7, 2) := by decide +kernel
theorem dX0_roundHope_130 : decode cX0_roundHope 130 = .ok (.iload 4, 2) := by decide +kernel
theorem dX0_roundHope_132 : decode cX0_roundHope 132 = .ok (.if_icmp .ge 65, 3) := by decide +kernel
theorem dX0_roundHope_135 : decode cX0_roundHope 135 = .ok (.iload 5, 2) := by decide +kernel
theorem dX0_roundHope_137 : decode cX0_roundHope 137 = .ok (.ifCond .ne 7, 3) := by decide +kernel
theorem dX0_roundHope_140 : decode cX0_roundHope 140 = .ok (.iconst 0, 1) := by decide +kernel
theorem dX0_roundHope_141 : decode cX0_roundHope 141 = .ok (.goto 9, 3) := by decide +kernel
theorem dX0_roundHope_144 : decode cX0_roundHope 144 = .ok (.aload_n 0, 1) := by decide +kernel
theorem dX0_roundHope_145 : decode cX0_roundHope 145 = .ok (.iload 5, 2) := by decide +kernel
theorem dX0_roundHope_147 : decode cX0_roundHope 147 = .ok (.invokevirtual 167, 3) := by decide +kernel
theorem dX0_roundHope_150 : decode cX0_roundHope 150 = .ok (.istore 8, 2) := by decide +kernel
theorem dX0_roundHope_152 : decode cX0_roundHope 152 = .ok (.iload 5, 2) := by decide +kernel
theorem dX0_roundHope_154 : decode cX0_roundHope 154 = .ok (.ifCond .ne 7, 3) := by decide +kernel
theorem dX0_roundHope_157 : decode cX0_roundHope 157 = .ok (.iload_n 2, 1) := by decide +kernel
theorem dX0_roundHope_158 : decode cX0_roundHope 158 = .ok (.goto 12, 3) := by decide +kernel
theorem dX0_roundHope_161 : decode cX0_roundHope 161 = .ok (.iload 5, 2) := by decide +kernel
theorem dX0_roundHope_163 : decode cX0_roundHope 163 = .ok (.iconst 1, 1) := by decide +kernel
theorem dX0_roundHope_164 : decode cX0_roundHope 164 = .ok (.iload 8, 2) := by decide +kernel
theorem dX0_roundHope_166 : decode cX0_roundHope 166 = .ok (.ishl, 1) := by decide +kernel
theorem dX0_roundHope_167 : decode cX0_roundHope 167 = .ok (.iconst (-1), 1) := by decide +kernel
theorem dX0_roundHope_168 : decode cX0_roundHope 168 = .ok (.ixor, 1) := by decide +kernel
theorem dX0_roundHope_169 : decode cX0_roundHope 169 = .ok (.iand, 1) := by decide +kernel
theorem dX0_roundHope_170 : decode cX0_roundHope 170 = .ok (.istore 5, 2) := by decide +kernel
theorem dX0_roundHope_172 : decode cX0_roundHope 172 = .ok (.iload 6, 2) := by decide +kernel
theorem dX0_roundHope_174 : decode cX0_roundHope 174 = .ok (.sipush 1000, 3) := by decide +kernel
theorem dX0_roundHope_177 : decode cX0_roundHope 177 = .ok (.aload_n 0, 1) := by decide +kernel
theorem dX0_roundHope_178 : decode cX0_roundHope 178 = .ok (.getfield 9, 3) := by decide +kernel
theorem dX0_roundHope_181 : decode cX0_roundHope 181 = .ok (.iconst 1, 1) := by decide +kernel
theorem dX0_roundHope_182 : decode cX0_roundHope 182 = .ok (.iload 8, 2) := by decide +kernel
theorem dX0_roundHope_184 : decode cX0_roundHope 184 = .ok (.invokevirtual 81, 3) := by decide +kernel
theorem dX0_roundHope_187 : decode cX0_roundHope 187 = .ok (.isub, 1) := by decide +kernel
theorem dX0_roundHope_188 : decode cX0_roundHope 188 = .ok (.iadd, 1) := by decide +kernel
theorem dX0_roundHope_189 : decode cX0_roundHope 189 = .ok (.istore 6, 2) := by decide +kernel
theorem dX0_roundHope_191 : decode cX0_roundHope 191 = .ok (.iinc 7 1, 3) := by decide +kernel
theorem dX0_roundHope_194 : decode cX0_roundHope 194 = .ok (.goto (-66), 3) := by decide +kernel
theorem dX0_roundHope_197 : decode cX0_roundHope 197 = .ok (.iload 6, 2) := by decide +kernel
theorem dX0_roundHope_199 : decode cX0_roundHope 199 = .ok (.ireturn, 1) := by decide +kernel
theorem dX0_quickest_0 : decode cX0_quickest 0 = .ok (.iconst (-1), 1) := by decide +kernel
theorem dX0_quickest_1 : decode cX0_quickest 1 = .ok (.istore_n 2, 1) := by decide +kernel
theorem dX0_quickest_2 : decode cX0_quickest 2 = .ok (.iconst 0, 1) := by decide +kernel
theorem dX0_quickest_3 : decode cX0_quickest 3 = .ok (.istore_n 3, 1) := by decide +kernel
theorem dX0_quickest_4 : decode cX0_quickest 4 = .ok (.iload_n 3, 1) := by decide +kernel
theorem dX0_quickest_5 : decode cX0_quickest 5 = .ok (.aload_n 0, 1) := by decide +kernel
theorem dX0_quickest_6 : decode cX0_quickest 6 = .ok (.getfield 9, 3) := by decide +kernel
theorem dX0_quickest_9 : decode cX0_quickest 9 = .ok (.getfield 53, 3) := by decide +kernel
theorem dX0_quickest_12 : decode cX0_quickest 12 = .ok (.if_icmp .ge 57, 3) := by decide +kernel
theorem dX0_quickest_15 : decode cX0_quickest 15 = .ok (.iload_n 1, 1) := by decide +kernel
theorem dX0_quickest_16 : decode cX0_quickest 16 = .ok (.iload_n 3, 1) := by decide +kernel
theorem dX0_quickest_17 : decode cX0_quickest 17 = .ok (.ishr, 1) := by decide +kernel
theorem dX0_quickest_18 : decode cX0_quickest 18 = .ok (.iconst 1, 1) := by decide +kernel
theorem dX0_quickest_19 : decode cX0_quickest 19 = .ok (.iand, 1) := by decide +kernel
theorem dX0_quickest_20 : decode cX0_quickest 20 = .ok (.ifCond .eq 7, 3) := by decide +kernel
theorem dX0_quickest_23 : decode cX0_quickest 23 = .ok (.iconst 1, 1) := by decide +kernel
theorem dX0_quickest_24 : decode cX0_quickest 24 = .ok (.goto 4, 3) := by decide +kernel
theorem dX0_quickest_27 : decode cX0_quickest 27 = .ok (.iconst 0, 1) := by decide +kernel
theorem dX0_quickest_28 : decode cX0_quickest 28 = .ok (.istore 4, 2) := by decide +kernel
theorem dX0_quickest_30 : decode cX0_quickest 30 = .ok (.iload 4, 2) := by decide +kernel
theorem dX0_quickest_32 : decode cX0_quickest 32 = .ok (.ifCond .eq 31, 3) := by decide +kernel
theorem dX0_quickest_35 : decode cX0_quickest 35 = .ok (.iload_n 2, 1) := by decide +kernel
theorem dX0_quickest_36 : decode cX0_quickest 36 = .ok (.iconst (-1), 1) := by decide +kernel
theorem dX0_quickest_37 : decode cX0_quickest 37 = .ok (.if_icmp .eq 24, 3) := by decide +kernel
theorem dX0_quickest_40 : decode cX0_quickest 40 = .ok (.aload_n 0, 1) := by decide +kernel
theorem dX0_quickest_41 : decode cX0_quickest 41 = .ok (.getfield 9, 3) := by decide +kernel
theorem dX0_quickest_44 : decode cX0_quickest 44 = .ok (.iconst 1, 1) := by decide +kernel
theorem dX0_quickest_45 : decode cX0_quickest 45 = .ok (.iload_n 3, 1) := by decide +kernel
theorem dX0_quickest_46 : decode cX0_quickest 46 = .ok (.invokevirtual 81, 3) := by decide +kernel
theorem dX0_quickest_49 : decode cX0_quickest 49 = .ok (.aload_n 0, 1) := by decide +kernel
theorem dX0_quickest_50 : decode cX0_quickest 50 = .ok (.getfield 9, 3) := by decide +kernel
theorem dX0_quickest_53 : decode cX0_quickest 53 = .ok (.iconst 1, 1) := by decide +kernel
theorem dX0_quickest_54 : decode cX0_quickest 54 = .ok (.iload_n 2, 1) := by decide +kernel
theorem dX0_quickest_55 : decode cX0_quickest 55 = .ok (.invokevirtual 81, 3) := by decide +kernel
theorem dX0_quickest_58 : decode cX0_quickest 58 = .ok (.if_icmp .ge 5, 3) := by decide +kernel
theorem dX0_quickest_61 : decode cX0_quickest 61 = .ok (.iload_n 3, 1) := by decide +kernel
theorem dX0_quickest_62 : decode cX0_quickest 62 = .ok (.istore_n 2, 1) := by decide +kernel
theorem dX0_quickest_63 : decode cX0_quickest 63 = .ok (.iinc 3 1, 3) := by decide +kernel
theorem dX0_quickest_66 : decode cX0_quickest 66 = .ok (.goto (-62), 3) := by decide +kernel
theorem dX0_quickest_69 : decode cX0_quickest 69 = .ok (.iload_n 2, 1) := by decide +kernel
theorem dX0_quickest_70 : decode cX0_quickest 70 = .ok (.ireturn, 1) := by decide +kernel
theorem dX0_roundScore_0 : decode cX0_roundScore 0 = .ok (.iconst (-1), 1) := by decide +kernel
theorem dX0_roundScore_1 : decode cX0_roundScore 1 = .ok (.istore_n 2, 1) := by decide +kernel
theorem dX0_roundScore_2 : decode cX0_roundScore 2 = .ok (.iconst 0, 1) := by decide +kernel
theorem dX0_roundScore_3 : decode cX0_roundScore 3 = .ok (.istore_n 3, 1) := by decide +kernel
theorem dX0_roundScore_4 : decode cX0_roundScore 4 = .ok (.iload_n 3, 1) := by decide +kernel
theorem dX0_roundScore_5 : decode cX0_roundScore 5 = .ok (.iload_n 1, 1) := by decide +kernel
theorem dX0_roundScore_6 : decode cX0_roundScore 6 = .ok (.if_icmp .ge 30, 3) := by decide +kernel
theorem dX0_roundScore_9 : decode cX0_roundScore 9 = .ok (.iload_n 3, 1) := by decide +kernel
theorem dX0_roundScore_10 : decode cX0_roundScore 10 = .ok (.bipush 7, 2) := by decide +kernel
theorem dX0_roundScore_12 : decode cX0_roundScore 12 = .ok (.if_icmp .ge 24, 3) := by decide +kernel
theorem dX0_roundScore_15 : decode cX0_roundScore 15 = .ok (.aload_n 0, 1) := by decide +kernel
theorem dX0_roundScore_16 : decode cX0_roundScore 16 = .ok (.getfield 37, 3) := by decide +kernel
theorem dX0_roundScore_19 : decode cX0_roundScore 19 = .ok (.iload_n 3, 1) := by decide +kernel
theorem dX0_roundScore_20 : decode cX0_roundScore 20 = .ok (.iaload, 1) := by decide +kernel
theorem dX0_roundScore_21 : decode cX0_roundScore 21 = .ok (.ifCond .ne 7, 3) := by decide +kernel
theorem dX0_roundScore_24 : decode cX0_roundScore 24 = .ok (.iload_n 3, 1) := by decide +kernel
theorem dX0_roundScore_25 : decode cX0_roundScore 25 = .ok (.goto 4, 3) := by decide +kernel
theorem dX0_roundScore_28 : decode cX0_roundScore 28 = .ok (.iload_n 2, 1) := by decide +kernel
theorem dX0_roundScore_29 : decode cX0_roundScore 29 = .ok (.istore_n 2, 1) := by decide +kernel
theorem dX0_roundScore_30 : decode cX0_roundScore 30 = .ok (.iinc 3 1, 3) := by decide +kernel
theorem dX0_roundScore_33 : decode cX0_roundScore 33 = .ok (.goto (-29), 3) := by decide +kernel
theorem dX0_roundScore_36 : decode cX0_roundScore 36 = .ok (.iconst 0, 1) := by decide +kernel
theorem dX0_roundScore_37 : decode cX0_roundScore 37 = .ok (.istore_n 3, 1) := by decide +kernel
theorem dX0_roundScore_38 : decode cX0_roundScore 38 = .ok (.iconst 0, 1) := by decide +kernel
theorem dX0_roundScore_39 : decode cX0_roundScore 39 = .ok (.istore 4, 2) := by decide +kernel
theorem dX0_roundScore_41 : decode cX0_roundScore 41 = .ok (.iload 4, 2) := by decide +kernel
theorem dX0_roundScore_43 : decode cX0_roundScore 43 = .ok (.bipush 7, 2) := by decide +kernel
theorem dX0_roundScore_45 : decode cX0_roundScore 45 = .ok (.if_icmp .ge 114, 3) := by decide +kernel
theorem dX0_roundScore_48 : decode cX0_roundScore 48 = .ok (.iload_n 2, 1) := by decide +kernel
theorem dX0_roundScore_49 : decode cX0_roundScore 49 = .ok (.ifCond .lt 110, 3) := by decide +kernel
theorem dX0_roundScore_52 : decode cX0_roundScore 52 = .ok (.iload_n 2, 1) := by decide +kernel
theorem dX0_roundScore_53 : decode cX0_roundScore 53 = .ok (.bipush 7, 2) := by decide +kernel
theorem dX0_roundScore_55 : decode cX0_roundScore 55 = .ok (.if_icmp .ge 104, 3) := by decide +kernel
theorem dX0_roundScore_58 : decode cX0_roundScore 58 = .ok (.iload_n 2, 1) := by decide +kernel
theorem dX0_roundScore_59 : decode cX0_roundScore 59 = .ok (.ifCond .gt 13, 3) := by decide +kernel
theorem dX0_roundScore_62 : decode cX0_roundScore 62 = .ok (.aload_n 0, 1) := by decide +kernel
theorem dX0_roundScore_63 : decode cX0_roundScore 63 = .ok (.getfield 9, 3) := by decide +kernel
theorem dX0_roundScore_66 : decode cX0_roundScore 66 = .ok (.getfield 59, 3) := by decide +kernel
theorem dX0_roundScore_69 : decode cX0_roundScore 69 = .ok (.ifCond .ne 9, 3) := by decide +kernel
theorem dX0_roundScore_72 : decode cX0_roundScore 72 = .ok (.iload_n 2, 1) := by decide +kernel
theorem dX0_roundScore_73 : decode cX0_roundScore 73 = .ok (.iconst 1, 1) := by decide +kernel
theorem dX0_roundScore_74 : decode cX0_roundScore 74 = .ok (.isub, 1) := by decide +kernel
theorem dX0_roundScore_75 : decode cX0_roundScore 75 = .ok (.goto 6, 3) := by decide +kernel
theorem dX0_roundScore_78 : decode cX0_roundScore 78 = .ok (.iload_n 1, 1) := by decide +kernel
theorem dX0_roundScore_79 : decode cX0_roundScore 79 = .ok (.iconst 1, 1) := by decide +kernel
theorem dX0_roundScore_80 : decode cX0_roundScore 80 = .ok (.isub, 1) := by decide +kernel
theorem dX0_roundScore_81 : decode cX0_roundScore 81 = .ok (.istore 5, 2) := by decide +kernel
theorem dX0_roundScore_83 : decode cX0_roundScore 83 = .ok (.iload 5, 2) := by decide +kernel
theorem dX0_roundScore_85 : decode cX0_roundScore 85 = .ok (.ifCond .lt 16, 3) := by decide +kernel
theorem dX0_roundScore_88 : decode cX0_roundScore 88 = .ok (.iload 5, 2) := by decide +kernel
theorem dX0_roundScore_90 : decode cX0_roundScore 90 = .ok (.bipush 7, 2) := by decide +kernel
theorem dX0_roundScore_92 : decode cX0_roundScore 92 = .ok (.if_icmp .ge 9, 3) := by decide +kernel
theorem dX0_roundScore_95 : decode cX0_roundScore 95 = .ok (.iload 5, 2) := by decide +kernel
theorem dX0_roundScore_97 : decode cX0_roundScore 97 = .ok (.iload_n 2, 1) := by decide +kernel
theorem dX0_roundScore_98 : decode cX0_roundScore 98 = .ok (.if_icmp .ne 5, 3) := by decide +kernel
theorem dX0_roundScore_101 : decode cX0_roundScore 101 = .ok (.iload_n 3, 1) := by decide +kernel
theorem dX0_roundScore_102 : decode cX0_roundScore 102 = .ok (.ireturn, 1) := by decide +kernel
theorem dX0_roundScore_103 : decode cX0_roundScore 103 = .ok (.aload_n 0, 1) := by decide +kernel
theorem dX0_roundScore_104 : decode cX0_roundScore 104 = .ok (.getfield 9, 3) := by decide +kernel
theorem dX0_roundScore_107 : decode cX0_roundScore 107 = .ok (.aload_n 0, 1) := by decide +kernel
theorem dX0_roundScore_108 : decode cX0_roundScore 108 = .ok (.getfield 37, 3) := by decide +kernel
theorem dX0_roundScore_111 : decode cX0_roundScore 111 = .ok (.iload 5, 2) := by decide +kernel
theorem dX0_roundScore_113 : decode cX0_roundScore 113 = .ok (.iaload, 1) := by decide +kernel
theorem dX0_roundScore_114 : decode cX0_roundScore 114 = .ok (.aload_n 0, 1) := by decide +kernel
theorem dX0_roundScore_115 : decode cX0_roundScore 115 = .ok (.getfield 37, 3) := by decide +kernel
theorem dX0_roundScore_118 : decode cX0_roundScore 118 = .ok (.iload_n 2, 1) := by decide +kernel
theorem dX0_roundScore_119 : decode cX0_roundScore 119 = .ok (.iaload, 1) := by decide +kernel
theorem dX0_roundScore_120 : decode cX0_roundScore 120 = .ok (.invokevirtual 162, 3) := by decide +kernel
theorem dX0_roundScore_123 : decode cX0_roundScore 123 = .ok (.ifCond .eq 5, 3) := by decide +kernel
theorem dX0_roundScore_126 : decode cX0_roundScore 126 = .ok (.iload_n 3, 1) := by decide +kernel
theorem dX0_roundScore_127 : decode cX0_roundScore 127 = .ok (.ireturn, 1) := by decide +kernel
theorem dX0_roundScore_128 : decode cX0_roundScore 128 = .ok (.iload_n 3, 1) := by decide +kernel
theorem dX0_roundScore_129 : decode cX0_roundScore 129 = .ok (.sipush 1000, 3) := by decide +kernel
theorem dX0_roundScore_132 : decode cX0_roundScore 132 = .ok (.aload_n 0, 1) := by decide +kernel
theorem dX0_roundScore_133 : decode cX0_roundScore 133 = .ok (.getfield 9, 3) := by decide +kernel
theorem dX0_roundScore_136 : decode cX0_roundScore 136 = .ok (.iconst 1, 1) := by decide +kernel
theorem dX0_roundScore_137 : decode cX0_roundScore 137 = .ok (.aload_n 0, 1) := by decide +kernel
theorem dX0_roundScore_138 : decode cX0_roundScore 138 = .ok (.getfield 37, 3) := by decide +kernel
theorem dX0_roundScore_141 : decode cX0_roundScore 141 = .ok (.iload 5, 2) := by decide +kernel
theorem dX0_roundScore_143 : decode cX0_roundScore 143 = .ok (.iaload, 1) := by decide +kernel
theorem dX0_roundScore_144 : decode cX0_roundScore 144 = .ok (.invokevirtual 81, 3) := by decide +kernel
theorem dX0_roundScore_147 : decode cX0_roundScore 147 = .ok (.isub, 1) := by decide +kernel
theorem dX0_roundScore_148 : decode cX0_roundScore 148 = .ok (.iadd, 1) := by decide +kernel
theorem dX0_roundScore_149 : decode cX0_roundScore 149 = .ok (.istore_n 3, 1) := by decide +kernel
theorem dX0_roundScore_150 : decode cX0_roundScore 150 = .ok (.iload 5, 2) := by decide +kernel
theorem dX0_roundScore_152 : decode cX0_roundScore 152 = .ok (.istore_n 2, 1) := by decide +kernel
theorem dX0_roundScore_153 : decode cX0_roundScore 153 = .ok (.iinc 4 1, 3) := by decide +kernel
theorem dX0_roundScore_156 : decode cX0_roundScore 156 = .ok (.goto (-115), 3) := by decide +kernel
theorem dX0_roundScore_159 : decode cX0_roundScore 159 = .ok (.iload_n 3, 1) := by decide +kernel
theorem dX0_roundScore_160 : decode cX0_roundScore 160 = .ok (.ireturn, 1) := by decide +kernel
theorem dX1_init_0 : decode cX1_init 0 = .ok (.aload_n 0, 1) := by decide +kernel
theorem dX1_init_1 : decode cX1_init 1 = .ok (.invokespecial 3, 3) := by decide +kernel
theorem dX1_init_4 : decode cX1_init 4 = .ok (.aload_n 0, 1) := by decide +kernel
theorem dX1_init_5 : decode cX1_init 5 = .ok (.aload_n 1, 1) := by decide +kernel
theorem dX1_init_6 : decode cX1_init 6 = .ok (.putfield 9, 3) := by decide +kernel
theorem dX1_init_9 : decode cX1_init 9 = .ok (.aload_n 0, 1) := by decide +kernel
theorem dX1_init_10 : decode cX1_init 10 = .ok (.aload_n 2, 1) := by decide +kernel
theorem dX1_init_11 : decode cX1_init 11 = .ok (.putfield 15, 3) := by decide +kernel
theorem dX1_init_14 : decode cX1_init 14 = .ok (.aload_n 0, 1) := by decide +kernel
theorem dX1_init_15 : decode cX1_init 15 = .ok (.new 19, 3) := by decide +kernel
theorem dX1_init_18 : decode cX1_init 18 = .ok (.dup, 1) := by decide +kernel
theorem dX1_init_19 : decode cX1_init 19 = .ok (.invokespecial 21, 3) := by decide +kernel
theorem dX1_init_22 : decode cX1_init 22 = .ok (.putfield 22, 3) := by decide +kernel
theorem dX1_init_25 : decode cX1_init 25 = .ok (.aload_n 0, 1) := by decide +kernel
theorem dX1_init_26 : decode cX1_init 26 = .ok (.new 25, 3) := by decide +kernel
theorem dX1_init_29 : decode cX1_init 29 = .ok (.dup, 1) := by decide +kernel
theorem dX1_init_30 : decode cX1_init 30 = .ok (.aload_n 1, 1) := by decide +kernel
theorem dX1_init_31 : decode cX1_init 31 = .ok (.aload_n 0, 1) := by decide +kernel
theorem dX1_init_32 : decode cX1_init 32 = .ok (.getfield 22, 3) := by decide +kernel
theorem dX1_init_35 : decode cX1_init 35 = .ok (.invokespecial 27, 3) := by decide +kernel
theorem dX1_init_38 : decode cX1_init 38 = .ok (.putfield 30, 3) := by decide +kernel
theorem dX1_init_41 : decode cX1_init 41 = .ok (.aload_n 0, 1) := by decide +kernel
theorem dX1_init_42 : decode cX1_init 42 = .ok (.sipush 5040, 3) := by decide +kernel
theorem dX1_init_45 : decode cX1_init 45 = .ok (.newarray .int, 2) := by decide +kernel
theorem dX1_init_47 : decode cX1_init 47 = .ok (.putfield 34, 3) := by decide +kernel
theorem dX1_init_50 : decode cX1_init 50 = .ok (.aload_n 0, 1) := by decide +kernel
theorem dX1_init_51 : decode cX1_init 51 = .ok (.iconst 0, 1) := by decide +kernel
theorem dX1_init_52 : decode cX1_init 52 = .ok (.putfield 38, 3) := by decide +kernel
theorem dX1_init_55 : decode cX1_init 55 = .ok (.aload_n 0, 1) := by decide +kernel
theorem dX1_init_56 : decode cX1_init 56 = .ok (.bipush 79, 2) := by decide +kernel
