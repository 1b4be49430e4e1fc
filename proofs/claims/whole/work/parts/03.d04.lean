theorem dX7_passedOnes_30 : decode cX7_passedOnes 30 = .ok (.goto (-26), 3) := by decide +kernel
theorem dX7_passedOnes_33 : decode cX7_passedOnes 33 = .ok (.iload_n 1, 1) := by decide +kernel
theorem dX7_passedOnes_34 : decode cX7_passedOnes 34 = .ok (.ireturn, 1) := by decide +kernel
theorem dX7_copyFrom_0 : decode cX7_copyFrom 0 = .ok (.aload_n 0, 1) := by decide +kernel
theorem dX7_copyFrom_1 : decode cX7_copyFrom 1 = .ok (.aload_n 1, 1) := by decide +kernel
theorem dX7_copyFrom_2 : decode cX7_copyFrom 2 = .ok (.getfield 9, 3) := by decide +kernel
theorem dX7_copyFrom_5 : decode cX7_copyFrom 5 = .ok (.putfield 9, 3) := by decide +kernel
theorem dX7_copyFrom_8 : decode cX7_copyFrom 8 = .ok (.aload_n 0, 1) := by decide +kernel
theorem dX7_copyFrom_9 : decode cX7_copyFrom 9 = .ok (.aload_n 1, 1) := by decide +kernel
theorem dX7_copyFrom_10 : decode cX7_copyFrom 10 = .ok (.getfield 15, 3) := by decide +kernel
theorem dX7_copyFrom_13 : decode cX7_copyFrom 13 = .ok (.putfield 15, 3) := by decide +kernel
theorem dX7_copyFrom_16 : decode cX7_copyFrom 16 = .ok (.aload_n 1, 1) := by decide +kernel
theorem dX7_copyFrom_17 : decode cX7_copyFrom 17 = .ok (.getfield 19, 3) := by decide +kernel
theorem dX7_copyFrom_20 : decode cX7_copyFrom 20 = .ok (.iconst 0, 1) := by decide +kernel
theorem dX7_copyFrom_21 : decode cX7_copyFrom 21 = .ok (.aload_n 0, 1) := by decide +kernel
theorem dX7_copyFrom_22 : decode cX7_copyFrom 22 = .ok (.getfield 19, 3) := by decide +kernel
theorem dX7_copyFrom_25 : decode cX7_copyFrom 25 = .ok (.iconst 0, 1) := by decide +kernel
theorem dX7_copyFrom_26 : decode cX7_copyFrom 26 = .ok (.bipush 40, 2) := by decide +kernel
theorem dX7_copyFrom_28 : decode cX7_copyFrom 28 = .ok (.invokestatic 38, 3) := by decide +kernel
theorem dX7_copyFrom_31 : decode cX7_copyFrom 31 = .ok (.aload_n 1, 1) := by decide +kernel
theorem dX7_copyFrom_32 : decode cX7_copyFrom 32 = .ok (.getfield 23, 3) := by decide +kernel
theorem dX7_copyFrom_35 : decode cX7_copyFrom 35 = .ok (.iconst 0, 1) := by decide +kernel
theorem dX7_copyFrom_36 : decode cX7_copyFrom 36 = .ok (.aload_n 0, 1) := by decide +kernel
theorem dX7_copyFrom_37 : decode cX7_copyFrom 37 = .ok (.getfield 23, 3) := by decide +kernel
theorem dX7_copyFrom_40 : decode cX7_copyFrom 40 = .ok (.iconst 0, 1) := by decide +kernel
theorem dX7_copyFrom_41 : decode cX7_copyFrom 41 = .ok (.bipush 40, 2) := by decide +kernel
theorem dX7_copyFrom_43 : decode cX7_copyFrom 43 = .ok (.invokestatic 38, 3) := by decide +kernel
theorem dX7_copyFrom_46 : decode cX7_copyFrom 46 = .ok (.aload_n 1, 1) := by decide +kernel
theorem dX7_copyFrom_47 : decode cX7_copyFrom 47 = .ok (.getfield 26, 3) := by decide +kernel
theorem dX7_copyFrom_50 : decode cX7_copyFrom 50 = .ok (.iconst 0, 1) := by decide +kernel
theorem dX7_copyFrom_51 : decode cX7_copyFrom 51 = .ok (.aload_n 0, 1) := by decide +kernel
theorem dX7_copyFrom_52 : decode cX7_copyFrom 52 = .ok (.getfield 26, 3) := by decide +kernel
theorem dX7_copyFrom_55 : decode cX7_copyFrom 55 = .ok (.iconst 0, 1) := by decide +kernel
theorem dX7_copyFrom_56 : decode cX7_copyFrom 56 = .ok (.bipush 40, 2) := by decide +kernel
theorem dX7_copyFrom_58 : decode cX7_copyFrom 58 = .ok (.invokestatic 38, 3) := by decide +kernel
theorem dX7_copyFrom_61 : decode cX7_copyFrom 61 = .ok (.return_, 1) := by decide +kernel
theorem dX8_init_0 : decode cX8_init 0 = .ok (.aload_n 0, 1) := by decide +kernel
theorem dX8_init_1 : decode cX8_init 1 = .ok (.invokespecial 3, 3) := by decide +kernel
theorem dX8_init_4 : decode cX8_init 4 = .ok (.aload_n 0, 1) := by decide +kernel
theorem dX8_init_5 : decode cX8_init 5 = .ok (.aload_n 1, 1) := by decide +kernel
theorem dX8_init_6 : decode cX8_init 6 = .ok (.putfield 9, 3) := by decide +kernel
theorem dX8_init_9 : decode cX8_init 9 = .ok (.aload_n 0, 1) := by decide +kernel
theorem dX8_init_10 : decode cX8_init 10 = .ok (.aload_n 2, 1) := by decide +kernel
theorem dX8_init_11 : decode cX8_init 11 = .ok (.putfield 15, 3) := by decide +kernel
theorem dX8_init_14 : decode cX8_init 14 = .ok (.aload_n 0, 1) := by decide +kernel
theorem dX8_init_15 : decode cX8_init 15 = .ok (.bipush 7, 2) := by decide +kernel
theorem dX8_init_17 : decode cX8_init 17 = .ok (.newarray .int, 2) := by decide +kernel
theorem dX8_init_19 : decode cX8_init 19 = .ok (.putfield 19, 3) := by decide +kernel
theorem dX8_init_22 : decode cX8_init 22 = .ok (.return_, 1) := by decide +kernel
theorem dX8_mouthOf_0 : decode cX8_mouthOf 0 = .ok (.aload_n 0, 1) := by decide +kernel
theorem dX8_mouthOf_1 : decode cX8_mouthOf 1 = .ok (.getfield 9, 3) := by decide +kernel
theorem dX8_mouthOf_4 : decode cX8_mouthOf 4 = .ok (.iload_n 1, 1) := by decide +kernel
theorem dX8_mouthOf_5 : decode cX8_mouthOf 5 = .ok (.invokevirtual 23, 3) := by decide +kernel
theorem dX8_mouthOf_8 : decode cX8_mouthOf 8 = .ok (.ifCond .ne 5, 3) := by decide +kernel
theorem dX8_mouthOf_11 : decode cX8_mouthOf 11 = .ok (.iconst (-1), 1) := by decide +kernel
theorem dX8_mouthOf_12 : decode cX8_mouthOf 12 = .ok (.ireturn, 1) := by decide +kernel
theorem dX8_mouthOf_13 : decode cX8_mouthOf 13 = .ok (.aload_n 0, 1) := by decide +kernel
theorem dX8_mouthOf_14 : decode cX8_mouthOf 14 = .ok (.getfield 15, 3) := by decide +kernel
theorem dX8_mouthOf_17 : decode cX8_mouthOf 17 = .ok (.iload_n 1, 1) := by decide +kernel
theorem dX8_mouthOf_18 : decode cX8_mouthOf 18 = .ok (.invokevirtual 29, 3) := by decide +kernel
theorem dX8_mouthOf_21 : decode cX8_mouthOf 21 = .ok (.istore_n 2, 1) := by decide +kernel
theorem dX8_mouthOf_22 : decode cX8_mouthOf 22 = .ok (.iconst 1, 1) := by decide +kernel
theorem dX8_mouthOf_23 : decode cX8_mouthOf 23 = .ok (.istore_n 3, 1) := by decide +kernel
theorem dX8_mouthOf_24 : decode cX8_mouthOf 24 = .ok (.iload_n 3, 1) := by decide +kernel
theorem dX8_mouthOf_25 : decode cX8_mouthOf 25 = .ok (.aload_n 0, 1) := by decide +kernel
theorem dX8_mouthOf_26 : decode cX8_mouthOf 26 = .ok (.getfield 9, 3) := by decide +kernel
theorem dX8_mouthOf_29 : decode cX8_mouthOf 29 = .ok (.getfield 35, 3) := by decide +kernel
theorem dX8_mouthOf_32 : decode cX8_mouthOf 32 = .ok (.if_icmp .ge 57, 3) := by decide +kernel
theorem dX8_mouthOf_35 : decode cX8_mouthOf 35 = .ok (.aload_n 0, 1) := by decide +kernel
theorem dX8_mouthOf_36 : decode cX8_mouthOf 36 = .ok (.getfield 15, 3) := by decide +kernel
theorem dX8_mouthOf_39 : decode cX8_mouthOf 39 = .ok (.iload_n 2, 1) := by decide +kernel
theorem dX8_mouthOf_40 : decode cX8_mouthOf 40 = .ok (.aload_n 0, 1) := by decide +kernel
theorem dX8_mouthOf_41 : decode cX8_mouthOf 41 = .ok (.getfield 9, 3) := by decide +kernel
theorem dX8_mouthOf_44 : decode cX8_mouthOf 44 = .ok (.getfield 39, 3) := by decide +kernel
theorem dX8_mouthOf_47 : decode cX8_mouthOf 47 = .ok (.invokevirtual 43, 3) := by decide +kernel
theorem dX8_mouthOf_50 : decode cX8_mouthOf 50 = .ok (.istore_n 2, 1) := by decide +kernel
theorem dX8_mouthOf_51 : decode cX8_mouthOf 51 = .ok (.iload_n 2, 1) := by decide +kernel
theorem dX8_mouthOf_52 : decode cX8_mouthOf 52 = .ok (.iconst (-1), 1) := by decide +kernel
theorem dX8_mouthOf_53 : decode cX8_mouthOf 53 = .ok (.if_icmp .ne 5, 3) := by decide +kernel
theorem dX8_mouthOf_56 : decode cX8_mouthOf 56 = .ok (.iconst (-1), 1) := by decide +kernel
theorem dX8_mouthOf_57 : decode cX8_mouthOf 57 = .ok (.ireturn, 1) := by decide +kernel
theorem dX8_mouthOf_58 : decode cX8_mouthOf 58 = .ok (.aload_n 0, 1) := by decide +kernel
theorem dX8_mouthOf_59 : decode cX8_mouthOf 59 = .ok (.getfield 15, 3) := by decide +kernel
theorem dX8_mouthOf_62 : decode cX8_mouthOf 62 = .ok (.iload_n 2, 1) := by decide +kernel
theorem dX8_mouthOf_63 : decode cX8_mouthOf 63 = .ok (.invokevirtual 47, 3) := by decide +kernel
theorem dX8_mouthOf_66 : decode cX8_mouthOf 66 = .ok (.istore 4, 2) := by decide +kernel
theorem dX8_mouthOf_68 : decode cX8_mouthOf 68 = .ok (.aload_n 0, 1) := by decide +kernel
theorem dX8_mouthOf_69 : decode cX8_mouthOf 69 = .ok (.getfield 9, 3) := by decide +kernel
theorem dX8_mouthOf_72 : decode cX8_mouthOf 72 = .ok (.iload 4, 2) := by decide +kernel
theorem dX8_mouthOf_74 : decode cX8_mouthOf 74 = .ok (.invokevirtual 23, 3) := by decide +kernel
theorem dX8_mouthOf_77 : decode cX8_mouthOf 77 = .ok (.ifCond .eq 6, 3) := by decide +kernel
theorem dX8_mouthOf_80 : decode cX8_mouthOf 80 = .ok (.iload 4, 2) := by decide +kernel
theorem dX8_mouthOf_82 : decode cX8_mouthOf 82 = .ok (.ireturn, 1) := by decide +kernel
theorem dX8_mouthOf_83 : decode cX8_mouthOf 83 = .ok (.iinc 3 1, 3) := by decide +kernel
theorem dX8_mouthOf_86 : decode cX8_mouthOf 86 = .ok (.goto (-62), 3) := by decide +kernel
theorem dX8_mouthOf_89 : decode cX8_mouthOf 89 = .ok (.iconst (-1), 1) := by decide +kernel
theorem dX8_mouthOf_90 : decode cX8_mouthOf 90 = .ok (.ireturn, 1) := by decide +kernel
theorem dX8_isHeard_0 : decode cX8_isHeard 0 = .ok (.aload_n 0, 1) := by decide +kernel
theorem dX8_isHeard_1 : decode cX8_isHeard 1 = .ok (.iload_n 1, 1) := by decide +kernel
theorem dX8_isHeard_2 : decode cX8_isHeard 2 = .ok (.invokevirtual 50, 3) := by decide +kernel
theorem dX8_isHeard_5 : decode cX8_isHeard 5 = .ok (.istore_n 2, 1) := by decide +kernel
theorem dX8_isHeard_6 : decode cX8_isHeard 6 = .ok (.iload_n 2, 1) := by decide +kernel
theorem dX8_isHeard_7 : decode cX8_isHeard 7 = .ok (.iconst (-1), 1) := by decide +kernel
theorem dX8_isHeard_8 : decode cX8_isHeard 8 = .ok (.if_icmp .eq 19, 3) := by decide +kernel
theorem dX8_isHeard_11 : decode cX8_isHeard 11 = .ok (.aload_n 0, 1) := by decide +kernel
theorem dX8_isHeard_12 : decode cX8_isHeard 12 = .ok (.getfield 9, 3) := by decide +kernel
theorem dX8_isHeard_15 : decode cX8_isHeard 15 = .ok (.iload_n 2, 1) := by decide +kernel
theorem dX8_isHeard_16 : decode cX8_isHeard 16 = .ok (.iload_n 1, 1) := by decide +kernel
theorem dX8_isHeard_17 : decode cX8_isHeard 17 = .ok (.invokevirtual 53, 3) := by decide +kernel
theorem dX8_isHeard_20 : decode cX8_isHeard 20 = .ok (.ifCond .ne 7, 3) := by decide +kernel
theorem dX8_isHeard_23 : decode cX8_isHeard 23 = .ok (.iconst 1, 1) := by decide +kernel
theorem dX8_isHeard_24 : decode cX8_isHeard 24 = .ok (.goto 4, 3) := by decide +kernel
theorem dX8_isHeard_27 : decode cX8_isHeard 27 = .ok (.iconst 0, 1) := by decide +kernel
theorem dX8_isHeard_28 : decode cX8_isHeard 28 = .ok (.ireturn, 1) := by decide +kernel
theorem dX8_slipOf_0 : decode cX8_slipOf 0 = .ok (.aload_n 0, 1) := by decide +kernel
theorem dX8_slipOf_1 : decode cX8_slipOf 1 = .ok (.getfield 9, 3) := by decide +kernel
theorem dX8_slipOf_4 : decode cX8_slipOf 4 = .ok (.iconst 3, 1) := by decide +kernel
theorem dX8_slipOf_5 : decode cX8_slipOf 5 = .ok (.iload_n 1, 1) := by decide +kernel
theorem dX8_slipOf_6 : decode cX8_slipOf 6 = .ok (.invokevirtual 57, 3) := by decide +kernel
theorem dX8_slipOf_9 : decode cX8_slipOf 9 = .ok (.iconst 2, 1) := by decide +kernel
theorem dX8_slipOf_10 : decode cX8_slipOf 10 = .ok (.if_icmp .ne 7, 3) := by decide +kernel
theorem dX8_slipOf_13 : decode cX8_slipOf 13 = .ok (.iconst 0, 1) := by decide +kernel
theorem dX8_slipOf_14 : decode cX8_slipOf 14 = .ok (.goto 12, 3) := by decide +kernel
theorem dX8_slipOf_17 : decode cX8_slipOf 17 = .ok (.aload_n 0, 1) := by decide +kernel
theorem dX8_slipOf_18 : decode cX8_slipOf 18 = .ok (.getfield 9, 3) := by decide +kernel
theorem dX8_slipOf_21 : decode cX8_slipOf 21 = .ok (.iconst 2, 1) := by decide +kernel
theorem dX8_slipOf_22 : decode cX8_slipOf 22 = .ok (.iload_n 1, 1) := by decide +kernel
theorem dX8_slipOf_23 : decode cX8_slipOf 23 = .ok (.invokevirtual 57, 3) := by decide +kernel
theorem dX8_slipOf_26 : decode cX8_slipOf 26 = .ok (.ireturn, 1) := by decide +kernel
theorem dX8_speakerThrough_0 : decode cX8_speakerThrough 0 = .ok (.aload_n 0, 1) := by decide +kernel
theorem dX8_speakerThrough_1 : decode cX8_speakerThrough 1 = .ok (.getfield 15, 3) := by decide +kernel
theorem dX8_speakerThrough_4 : decode cX8_speakerThrough 4 = .ok (.iload_n 1, 1) := by decide +kernel
theorem dX8_speakerThrough_5 : decode cX8_speakerThrough 5 = .ok (.invokevirtual 47, 3) := by decide +kernel
theorem dX8_speakerThrough_8 : decode cX8_speakerThrough 8 = .ok (.istore_n 2, 1) := by decide +kernel
theorem dX8_speakerThrough_9 : decode cX8_speakerThrough 9 = .ok (.iconst 0, 1) := by decide +kernel
theorem dX8_speakerThrough_10 : decode cX8_speakerThrough 10 = .ok (.istore_n 3, 1) := by decide +kernel
theorem dX8_speakerThrough_11 : decode cX8_speakerThrough 11 = .ok (.iload_n 3, 1) := by decide +kernel
theorem dX8_speakerThrough_12 : decode cX8_speakerThrough 12 = .ok (.aload_n 0, 1) := by decide +kernel
theorem dX8_speakerThrough_13 : decode cX8_speakerThrough 13 = .ok (.getfield 9, 3) := by decide +kernel
theorem dX8_speakerThrough_16 : decode cX8_speakerThrough 16 = .ok (.getfield 35, 3) := by decide +kernel
theorem dX8_speakerThrough_19 : decode cX8_speakerThrough 19 = .ok (.if_icmp .ge 28, 3) := by decide +kernel
theorem dX8_speakerThrough_22 : decode cX8_speakerThrough 22 = .ok (.aload_n 0, 1) := by decide +kernel
theorem dX8_speakerThrough_23 : decode cX8_speakerThrough 23 = .ok (.iload_n 3, 1) := by decide +kernel
theorem dX8_speakerThrough_24 : decode cX8_speakerThrough 24 = .ok (.invokevirtual 50, 3) := by decide +kernel
theorem dX8_speakerThrough_27 : decode cX8_speakerThrough 27 = .ok (.iload_n 2, 1) := by decide +kernel
theorem dX8_speakerThrough_28 : decode cX8_speakerThrough 28 = .ok (.if_icmp .ne 13, 3) := by decide +kernel
theorem dX8_speakerThrough_31 : decode cX8_speakerThrough 31 = .ok (.aload_n 0, 1) := by decide +kernel
theorem dX8_speakerThrough_32 : decode cX8_speakerThrough 32 = .ok (.iload_n 3, 1) := by decide +kernel
theorem dX8_speakerThrough_33 : decode cX8_speakerThrough 33 = .ok (.invokevirtual 61, 3) := by decide +kernel
theorem dX8_speakerThrough_36 : decode cX8_speakerThrough 36 = .ok (.ifCond .eq 5, 3) := by decide +kernel
theorem dX8_speakerThrough_39 : decode cX8_speakerThrough 39 = .ok (.iload_n 3, 1) := by decide +kernel
theorem dX8_speakerThrough_40 : decode cX8_speakerThrough 40 = .ok (.ireturn, 1) := by decide +kernel
theorem dX8_speakerThrough_41 : decode cX8_speakerThrough 41 = .ok (.iinc 3 1, 3) := by decide +kernel
theorem dX8_speakerThrough_44 : decode cX8_speakerThrough 44 = .ok (.goto (-33), 3) := by decide +kernel
theorem dX8_speakerThrough_47 : decode cX8_speakerThrough 47 = .ok (.iconst (-1), 1) := by decide +kernel
theorem dX8_speakerThrough_48 : decode cX8_speakerThrough 48 = .ok (.ireturn, 1) := by decide +kernel
theorem dX8_isAllHeard_0 : decode cX8_isAllHeard 0 = .ok (.iconst 0, 1) := by decide +kernel
theorem dX8_isAllHeard_1 : decode cX8_isAllHeard 1 = .ok (.istore_n 1, 1) := by decide +kernel
theorem dX8_isAllHeard_2 : decode cX8_isAllHeard 2 = .ok (.iload_n 1, 1) := by decide +kernel
theorem dX8_isAllHeard_3 : decode cX8_isAllHeard 3 = .ok (.aload_n 0, 1) := by decide +kernel
theorem dX8_isAllHeard_4 : decode cX8_isAllHeard 4 = .ok (.getfield 9, 3) := by decide +kernel
theorem dX8_isAllHeard_7 : decode cX8_isAllHeard 7 = .ok (.getfield 35, 3) := by decide +kernel
theorem dX8_isAllHeard_10 : decode cX8_isAllHeard 10 = .ok (.if_icmp .ge 58, 3) := by decide +kernel
theorem dX8_isAllHeard_13 : decode cX8_isAllHeard 13 = .ok (.aload_n 0, 1) := by decide +kernel
theorem dX8_isAllHeard_14 : decode cX8_isAllHeard 14 = .ok (.iload_n 1, 1) := by decide +kernel
theorem dX8_isAllHeard_15 : decode cX8_isAllHeard 15 = .ok (.invokevirtual 50, 3) := by decide +kernel
theorem dX8_isAllHeard_18 : decode cX8_isAllHeard 18 = .ok (.istore_n 2, 1) := by decide +kernel
theorem dX8_isAllHeard_19 : decode cX8_isAllHeard 19 = .ok (.iload_n 2, 1) := by decide +kernel
theorem dX8_isAllHeard_20 : decode cX8_isAllHeard 20 = .ok (.iconst (-1), 1) := by decide +kernel
theorem dX8_isAllHeard_21 : decode cX8_isAllHeard 21 = .ok (.if_icmp .ne 27, 3) := by decide +kernel
theorem dX8_isAllHeard_24 : decode cX8_isAllHeard 24 = .ok (.aload_n 0, 1) := by decide +kernel
theorem dX8_isAllHeard_25 : decode cX8_isAllHeard 25 = .ok (.getfield 9, 3) := by decide +kernel
theorem dX8_isAllHeard_28 : decode cX8_isAllHeard 28 = .ok (.getfield 39, 3) := by decide +kernel
theorem dX8_isAllHeard_31 : decode cX8_isAllHeard 31 = .ok (.ifCond .eq 31, 3) := by decide +kernel
theorem dX8_isAllHeard_34 : decode cX8_isAllHeard 34 = .ok (.aload_n 0, 1) := by decide +kernel
theorem dX8_isAllHeard_35 : decode cX8_isAllHeard 35 = .ok (.getfield 9, 3) := by decide +kernel
theorem dX8_isAllHeard_38 : decode cX8_isAllHeard 38 = .ok (.iload_n 1, 1) := by decide +kernel
theorem dX8_isAllHeard_39 : decode cX8_isAllHeard 39 = .ok (.invokevirtual 23, 3) := by decide +kernel
theorem dX8_isAllHeard_42 : decode cX8_isAllHeard 42 = .ok (.ifCond .eq 20, 3) := by decide +kernel
theorem dX8_isAllHeard_45 : decode cX8_isAllHeard 45 = .ok (.goto 15, 3) := by decide +kernel
theorem dX8_isAllHeard_48 : decode cX8_isAllHeard 48 = .ok (.aload_n 0, 1) := by decide +kernel
theorem dX8_isAllHeard_49 : decode cX8_isAllHeard 49 = .ok (.getfield 9, 3) := by decide +kernel
theorem dX8_isAllHeard_52 : decode cX8_isAllHeard 52 = .ok (.iload_n 2, 1) := by decide +kernel
theorem dX8_isAllHeard_53 : decode cX8_isAllHeard 53 = .ok (.iload_n 1, 1) := by decide +kernel
theorem dX8_isAllHeard_54 : decode cX8_isAllHeard 54 = .ok (.invokevirtual 53, 3) := by decide +kernel
theorem dX8_isAllHeard_57 : decode cX8_isAllHeard 57 = .ok (.ifCond .eq 5, 3) := by decide +kernel
theorem dX8_isAllHeard_60 : decode cX8_isAllHeard 60 = .ok (.iconst 0, 1) := by decide +kernel
theorem dX8_isAllHeard_61 : decode cX8_isAllHeard 61 = .ok (.ireturn, 1) := by decide +kernel
theorem dX8_isAllHeard_62 : decode cX8_isAllHeard 62 = .ok (.iinc 1 1, 3) := by decide +kernel
theorem dX8_isAllHeard_65 : decode cX8_isAllHeard 65 = .ok (.goto (-63), 3) := by decide +kernel
theorem dX8_isAllHeard_68 : decode cX8_isAllHeard 68 = .ok (.iconst 1, 1) := by decide +kernel
theorem dX8_isAllHeard_69 : decode cX8_isAllHeard 69 = .ok (.ireturn, 1) := by decide +kernel
theorem dX8_wordOf_0 : decode cX8_wordOf 0 = .ok (.iload_n 1, 1) := by decide +kernel
theorem dX8_wordOf_1 : decode cX8_wordOf 1 = .ok (.istore 4, 2) := by decide +kernel
theorem dX8_wordOf_3 : decode cX8_wordOf 3 = .ok (.lconst 0, 1) := by decide +kernel
theorem dX8_wordOf_4 : decode cX8_wordOf 4 = .ok (.lstore 5, 2) := by decide +kernel
theorem dX8_wordOf_6 : decode cX8_wordOf 6 = .ok (.lconst 1, 1) := by decide +kernel
theorem dX8_wordOf_7 : decode cX8_wordOf 7 = .ok (.lstore 7, 2) := by decide +kernel
theorem dX8_wordOf_9 : decode cX8_wordOf 9 = .ok (.lconst 1, 1) := by decide +kernel
theorem dX8_wordOf_10 : decode cX8_wordOf 10 = .ok (.lstore 9, 2) := by decide +kernel
theorem dX8_wordOf_12 : decode cX8_wordOf 12 = .ok (.iconst 0, 1) := by decide +kernel
theorem dX8_wordOf_13 : decode cX8_wordOf 13 = .ok (.istore 11, 2) := by decide +kernel
theorem dX8_wordOf_15 : decode cX8_wordOf 15 = .ok (.iload 11, 2) := by decide +kernel
theorem dX8_wordOf_17 : decode cX8_wordOf 17 = .ok (.iload_n 2, 1) := by decide +kernel
theorem dX8_wordOf_18 : decode cX8_wordOf 18 = .ok (.if_icmp .ge 83, 3) := by decide +kernel
theorem dX8_wordOf_21 : decode cX8_wordOf 21 = .ok (.aload_n 0, 1) := by decide +kernel
theorem dX8_wordOf_22 : decode cX8_wordOf 22 = .ok (.iload 4, 2) := by decide +kernel
theorem dX8_wordOf_24 : decode cX8_wordOf 24 = .ok (.invokevirtual 61, 3) := by decide +kernel
theorem dX8_wordOf_27 : decode cX8_wordOf 27 = .ok (.ifCond .ne 7, 3) := by decide +kernel
theorem dX8_wordOf_30 : decode cX8_wordOf 30 = .ok (.ldc2_w 64, 3) := by decide +kernel
theorem dX8_wordOf_33 : decode cX8_wordOf 33 = .ok (.lreturn, 1) := by decide +kernel
theorem dX8_wordOf_34 : decode cX8_wordOf 34 = .ok (.aload_n 0, 1) := by decide +kernel
theorem dX8_wordOf_35 : decode cX8_wordOf 35 = .ok (.iload 4, 2) := by decide +kernel
theorem dX8_wordOf_37 : decode cX8_wordOf 37 = .ok (.invokevirtual 50, 3) := by decide +kernel
theorem dX8_wordOf_40 : decode cX8_wordOf 40 = .ok (.istore 4, 2) := by decide +kernel
theorem dX8_wordOf_42 : decode cX8_wordOf 42 = .ok (.aload_n 0, 1) := by decide +kernel
theorem dX8_wordOf_43 : decode cX8_wordOf 43 = .ok (.iload 4, 2) := by decide +kernel
theorem dX8_wordOf_45 : decode cX8_wordOf 45 = .ok (.invokevirtual 66, 3) := by decide +kernel
theorem dX8_wordOf_48 : decode cX8_wordOf 48 = .ok (.i2l, 1) := by decide +kernel
theorem dX8_wordOf_49 : decode cX8_wordOf 49 = .ok (.lstore 12, 2) := by decide +kernel
theorem dX8_wordOf_51 : decode cX8_wordOf 51 = .ok (.lload 5, 2) := by decide +kernel
theorem dX8_wordOf_53 : decode cX8_wordOf 53 = .ok (.aload_n 0, 1) := by decide +kernel
theorem dX8_wordOf_54 : decode cX8_wordOf 54 = .ok (.getfield 9, 3) := by decide +kernel
theorem dX8_wordOf_57 : decode cX8_wordOf 57 = .ok (.iconst 1, 1) := by decide +kernel
theorem dX8_wordOf_58 : decode cX8_wordOf 58 = .ok (.iload 4, 2) := by decide +kernel
theorem dX8_wordOf_60 : decode cX8_wordOf 60 = .ok (.invokevirtual 57, 3) := by decide +kernel
theorem dX8_wordOf_63 : decode cX8_wordOf 63 = .ok (.i2l, 1) := by decide +kernel
theorem dX8_wordOf_64 : decode cX8_wordOf 64 = .ok (.ladd, 1) := by decide +kernel
theorem dX8_wordOf_65 : decode cX8_wordOf 65 = .ok (.lstore 5, 2) := by decide +kernel
theorem dX8_wordOf_67 : decode cX8_wordOf 67 = .ok (.lload 7, 2) := by decide +kernel
theorem dX8_wordOf_69 : decode cX8_wordOf 69 = .ok (.ldc2_w 69, 3) := by decide +kernel
theorem dX8_wordOf_72 : decode cX8_wordOf 72 = .ok (.lload 12, 2) := by decide +kernel
theorem dX8_wordOf_74 : decode cX8_wordOf 74 = .ok (.lsub, 1) := by decide +kernel
theorem dX8_wordOf_75 : decode cX8_wordOf 75 = .ok (.lmul, 1) := by decide +kernel
theorem dX8_wordOf_76 : decode cX8_wordOf 76 = .ok (.lload 9, 2) := by decide +kernel
theorem dX8_wordOf_78 : decode cX8_wordOf 78 = .ok (.lload 7, 2) := by decide +kernel
theorem dX8_wordOf_80 : decode cX8_wordOf 80 = .ok (.lsub, 1) := by decide +kernel
theorem dX8_wordOf_81 : decode cX8_wordOf 81 = .ok (.lload 12, 2) := by decide +kernel
theorem dX8_wordOf_83 : decode cX8_wordOf 83 = .ok (.lmul, 1) := by decide +kernel
theorem dX8_wordOf_84 : decode cX8_wordOf 84 = .ok (.ladd, 1) := by decide +kernel
theorem dX8_wordOf_85 : decode cX8_wordOf 85 = .ok (.lstore 7, 2) := by decide +kernel
theorem dX8_wordOf_87 : decode cX8_wordOf 87 = .ok (.lload 9, 2) := by decide +kernel
theorem dX8_wordOf_89 : decode cX8_wordOf 89 = .ok (.ldc2_w 69, 3) := by decide +kernel
theorem dX8_wordOf_92 : decode cX8_wordOf 92 = .ok (.lmul, 1) := by decide +kernel
theorem dX8_wordOf_93 : decode cX8_wordOf 93 = .ok (.lstore 9, 2) := by decide +kernel
theorem dX8_wordOf_95 : decode cX8_wordOf 95 = .ok (.iinc 11 1, 3) := by decide +kernel
theorem dX8_wordOf_98 : decode cX8_wordOf 98 = .ok (.goto (-83), 3) := by decide +kernel
theorem dX8_wordOf_101 : decode cX8_wordOf 101 = .ok (.iload_n 3, 1) := by decide +kernel
theorem dX8_wordOf_102 : decode cX8_wordOf 102 = .ok (.ifCond .ne 14, 3) := by decide +kernel
theorem dX8_wordOf_105 : decode cX8_wordOf 105 = .ok (.aload_n 0, 1) := by decide +kernel
theorem dX8_wordOf_106 : decode cX8_wordOf 106 = .ok (.getfield 15, 3) := by decide +kernel
theorem dX8_wordOf_109 : decode cX8_wordOf 109 = .ok (.iload 4, 2) := by decide +kernel
theorem dX8_wordOf_111 : decode cX8_wordOf 111 = .ok (.invokevirtual 29, 3) := by decide +kernel
theorem dX8_wordOf_114 : decode cX8_wordOf 114 = .ok (.i2l, 1) := by decide +kernel
theorem dX8_wordOf_115 : decode cX8_wordOf 115 = .ok (.lreturn, 1) := by decide +kernel
theorem dX8_wordOf_116 : decode cX8_wordOf 116 = .ok (.iload_n 3, 1) := by decide +kernel
theorem dX8_wordOf_117 : decode cX8_wordOf 117 = .ok (.iconst 1, 1) := by decide +kernel
theorem dX8_wordOf_118 : decode cX8_wordOf 118 = .ok (.if_icmp .ne 8, 3) := by decide +kernel
theorem dX8_wordOf_121 : decode cX8_wordOf 121 = .ok (.lload 5, 2) := by decide +kernel
theorem dX8_wordOf_123 : decode cX8_wordOf 123 = .ok (.goto 5, 3) := by decide +kernel
theorem dX8_wordOf_126 : decode cX8_wordOf 126 = .ok (.lload 7, 2) := by decide +kernel
theorem dX8_wordOf_128 : decode cX8_wordOf 128 = .ok (.lreturn, 1) := by decide +kernel
theorem dX8_spreadYawn_0 : decode cX8_spreadYawn 0 = .ok (.iconst 0, 1) := by decide +kernel
theorem dX8_spreadYawn_1 : decode cX8_spreadYawn 1 = .ok (.istore_n 2, 1) := by decide +kernel
theorem dX8_spreadYawn_2 : decode cX8_spreadYawn 2 = .ok (.iload_n 2, 1) := by decide +kernel
theorem dX8_spreadYawn_3 : decode cX8_spreadYawn 3 = .ok (.aload_n 0, 1) := by decide +kernel
theorem dX8_spreadYawn_4 : decode cX8_spreadYawn 4 = .ok (.getfield 19, 3) := by decide +kernel
theorem dX8_spreadYawn_7 : decode cX8_spreadYawn 7 = .ok (.arraylength, 1) := by decide +kernel
theorem dX8_spreadYawn_8 : decode cX8_spreadYawn 8 = .ok (.if_icmp .ge 25, 3) := by decide +kernel
theorem dX8_spreadYawn_11 : decode cX8_spreadYawn 11 = .ok (.aload_n 0, 1) := by decide +kernel
theorem dX8_spreadYawn_12 : decode cX8_spreadYawn 12 = .ok (.getfield 19, 3) := by decide +kernel
theorem dX8_spreadYawn_15 : decode cX8_spreadYawn 15 = .ok (.iload_n 2, 1) := by decide +kernel
theorem dX8_spreadYawn_16 : decode cX8_spreadYawn 16 = .ok (.iload_n 2, 1) := by decide +kernel
theorem dX8_spreadYawn_17 : decode cX8_spreadYawn 17 = .ok (.iload_n 1, 1) := by decide +kernel
theorem dX8_spreadYawn_18 : decode cX8_spreadYawn 18 = .ok (.if_icmp .ne 7, 3) := by decide +kernel
theorem dX8_spreadYawn_21 : decode cX8_spreadYawn 21 = .ok (.iconst 0, 1) := by decide +kernel
theorem dX8_spreadYawn_22 : decode cX8_spreadYawn 22 = .ok (.goto 4, 3) := by decide +kernel
theorem dX8_spreadYawn_25 : decode cX8_spreadYawn 25 = .ok (.iconst (-1), 1) := by decide +kernel
theorem dX8_spreadYawn_26 : decode cX8_spreadYawn 26 = .ok (.iastore, 1) := by decide +kernel
theorem dX8_spreadYawn_27 : decode cX8_spreadYawn 27 = .ok (.iinc 2 1, 3) := by decide +kernel
theorem dX8_spreadYawn_30 : decode cX8_spreadYawn 30 = .ok (.goto (-28), 3) := by decide +kernel
theorem dX8_spreadYawn_33 : decode cX8_spreadYawn 33 = .ok (.iconst 0, 1) := by decide +kernel
theorem dX8_spreadYawn_34 : decode cX8_spreadYawn 34 = .ok (.istore_n 2, 1) := by decide +kernel
theorem dX8_spreadYawn_35 : decode cX8_spreadYawn 35 = .ok (.iload_n 2, 1) := by decide +kernel
theorem dX8_spreadYawn_36 : decode cX8_spreadYawn 36 = .ok (.aload_n 0, 1) := by decide +kernel
theorem dX8_spreadYawn_37 : decode cX8_spreadYawn 37 = .ok (.getfield 9, 3) := by decide +kernel
theorem dX8_spreadYawn_40 : decode cX8_spreadYawn 40 = .ok (.getfield 35, 3) := by decide +kernel
theorem dX8_spreadYawn_43 : decode cX8_spreadYawn 43 = .ok (.if_icmp .ge 122, 3) := by decide +kernel
theorem dX8_spreadYawn_46 : decode cX8_spreadYawn 46 = .ok (.iconst 0, 1) := by decide +kernel
theorem dX8_spreadYawn_47 : decode cX8_spreadYawn 47 = .ok (.istore_n 3, 1) := by decide +kernel
theorem dX8_spreadYawn_48 : decode cX8_spreadYawn 48 = .ok (.iload_n 3, 1) := by decide +kernel
theorem dX8_spreadYawn_49 : decode cX8_spreadYawn 49 = .ok (.aload_n 0, 1) := by decide +kernel
theorem dX8_spreadYawn_50 : decode cX8_spreadYawn 50 = .ok (.getfield 9, 3) := by decide +kernel
theorem dX8_spreadYawn_53 : decode cX8_spreadYawn 53 = .ok (.getfield 35, 3) := by decide +kernel
theorem dX8_spreadYawn_56 : decode cX8_spreadYawn 56 = .ok (.if_icmp .ge 103, 3) := by decide +kernel
theorem dX8_spreadYawn_59 : decode cX8_spreadYawn 59 = .ok (.iload_n 3, 1) := by decide +kernel
theorem dX8_spreadYawn_60 : decode cX8_spreadYawn 60 = .ok (.iload_n 1, 1) := by decide +kernel
theorem dX8_spreadYawn_61 : decode cX8_spreadYawn 61 = .ok (.if_icmp .eq 92, 3) := by decide +kernel
theorem dX8_spreadYawn_64 : decode cX8_spreadYawn 64 = .ok (.aload_n 0, 1) := by decide +kernel
theorem dX8_spreadYawn_65 : decode cX8_spreadYawn 65 = .ok (.getfield 9, 3) := by decide +kernel
theorem dX8_spreadYawn_68 : decode cX8_spreadYawn 68 = .ok (.iload_n 3, 1) := by decide +kernel
theorem dX8_spreadYawn_69 : decode cX8_spreadYawn 69 = .ok (.invokevirtual 23, 3) := by decide +kernel
theorem dX8_spreadYawn_72 : decode cX8_spreadYawn 72 = .ok (.ifCond .eq 81, 3) := by decide +kernel
theorem dX8_spreadYawn_75 : decode cX8_spreadYawn 75 = .ok (.aload_n 0, 1) := by decide +kernel
theorem dX8_spreadYawn_76 : decode cX8_spreadYawn 76 = .ok (.getfield 9, 3) := by decide +kernel
theorem dX8_spreadYawn_79 : decode cX8_spreadYawn 79 = .ok (.iconst 5, 1) := by decide +kernel
theorem dX8_spreadYawn_80 : decode cX8_spreadYawn 80 = .ok (.iload_n 3, 1) := by decide +kernel
theorem dX8_spreadYawn_81 : decode cX8_spreadYawn 81 = .ok (.invokevirtual 57, 3) := by decide +kernel
theorem dX8_spreadYawn_84 : decode cX8_spreadYawn 84 = .ok (.ifCond .le 69, 3) := by decide +kernel
theorem dX8_spreadYawn_87 : decode cX8_spreadYawn 87 = .ok (.aload_n 0, 1) := by decide +kernel
theorem dX8_spreadYawn_88 : decode cX8_spreadYawn 88 = .ok (.getfield 15, 3) := by decide +kernel
theorem dX8_spreadYawn_91 : decode cX8_spreadYawn 91 = .ok (.iload_n 3, 1) := by decide +kernel
theorem dX8_spreadYawn_92 : decode cX8_spreadYawn 92 = .ok (.invokevirtual 29, 3) := by decide +kernel
theorem dX8_spreadYawn_95 : decode cX8_spreadYawn 95 = .ok (.istore 4, 2) := by decide +kernel
theorem dX8_spreadYawn_97 : decode cX8_spreadYawn 97 = .ok (.aload_n 0, 1) := by decide +kernel
theorem dX8_spreadYawn_98 : decode cX8_spreadYawn 98 = .ok (.iload_n 3, 1) := by decide +kernel
theorem dX8_spreadYawn_99 : decode cX8_spreadYawn 99 = .ok (.aload_n 0, 1) := by decide +kernel
theorem dX8_spreadYawn_100 : decode cX8_spreadYawn 100 = .ok (.getfield 15, 3) := by decide +kernel
theorem dX8_spreadYawn_103 : decode cX8_spreadYawn 103 = .ok (.aload_n 0, 1) := by decide +kernel
theorem dX8_spreadYawn_104 : decode cX8_spreadYawn 104 = .ok (.getfield 15, 3) := by decide +kernel
theorem dX8_spreadYawn_107 : decode cX8_spreadYawn 107 = .ok (.iload 4, 2) := by decide +kernel
theorem dX8_spreadYawn_109 : decode cX8_spreadYawn 109 = .ok (.aload_n 0, 1) := by decide +kernel
theorem dX8_spreadYawn_110 : decode cX8_spreadYawn 110 = .ok (.getfield 9, 3) := by decide +kernel
theorem dX8_spreadYawn_113 : decode cX8_spreadYawn 113 = .ok (.getfield 39, 3) := by decide +kernel
theorem dX8_spreadYawn_116 : decode cX8_spreadYawn 116 = .ok (.invokevirtual 43, 3) := by decide +kernel
theorem dX8_spreadYawn_119 : decode cX8_spreadYawn 119 = .ok (.invokevirtual 47, 3) := by decide +kernel
theorem dX8_spreadYawn_122 : decode cX8_spreadYawn 122 = .ok (.invokevirtual 71, 3) := by decide +kernel
theorem dX8_spreadYawn_125 : decode cX8_spreadYawn 125 = .ok (.aload_n 0, 1) := by decide +kernel
theorem dX8_spreadYawn_126 : decode cX8_spreadYawn 126 = .ok (.iload_n 3, 1) := by decide +kernel
theorem dX8_spreadYawn_127 : decode cX8_spreadYawn 127 = .ok (.aload_n 0, 1) := by decide +kernel
theorem dX8_spreadYawn_128 : decode cX8_spreadYawn 128 = .ok (.getfield 15, 3) := by decide +kernel
theorem dX8_spreadYawn_131 : decode cX8_spreadYawn 131 = .ok (.aload_n 0, 1) := by decide +kernel
theorem dX8_spreadYawn_132 : decode cX8_spreadYawn 132 = .ok (.getfield 15, 3) := by decide +kernel
theorem dX8_spreadYawn_135 : decode cX8_spreadYawn 135 = .ok (.iload 4, 2) := by decide +kernel
theorem dX8_spreadYawn_137 : decode cX8_spreadYawn 137 = .ok (.aload_n 0, 1) := by decide +kernel
theorem dX8_spreadYawn_138 : decode cX8_spreadYawn 138 = .ok (.getfield 9, 3) := by decide +kernel
theorem dX8_spreadYawn_141 : decode cX8_spreadYawn 141 = .ok (.getfield 39, 3) := by decide +kernel
theorem dX8_spreadYawn_144 : decode cX8_spreadYawn 144 = .ok (.invokevirtual 75, 3) := by decide +kernel
theorem dX8_spreadYawn_147 : decode cX8_spreadYawn 147 = .ok (.invokevirtual 47, 3) := by decide +kernel
theorem dX8_spreadYawn_150 : decode cX8_spreadYawn 150 = .ok (.invokevirtual 71, 3) := by decide +kernel
theorem dX8_spreadYawn_153 : decode cX8_spreadYawn 153 = .ok (.iinc 3 1, 3) := by decide +kernel
theorem dX8_spreadYawn_156 : decode cX8_spreadYawn 156 = .ok (.goto (-108), 3) := by decide +kernel
theorem dX8_spreadYawn_159 : decode cX8_spreadYawn 159 = .ok (.iinc 2 1, 3) := by decide +kernel
theorem dX8_spreadYawn_162 : decode cX8_spreadYawn 162 = .ok (.goto (-127), 3) := by decide +kernel
theorem dX8_spreadYawn_165 : decode cX8_spreadYawn 165 = .ok (.return_, 1) := by decide +kernel
theorem dX8_catchYawn_0 : decode cX8_catchYawn 0 = .ok (.aload_n 0, 1) := by decide +kernel
theorem dX8_catchYawn_1 : decode cX8_catchYawn 1 = .ok (.iload_n 2, 1) := by decide +kernel
theorem dX8_catchYawn_2 : decode cX8_catchYawn 2 = .ok (.invokevirtual 78, 3) := by decide +kernel
theorem dX8_catchYawn_5 : decode cX8_catchYawn 5 = .ok (.istore_n 3, 1) := by decide +kernel
theorem dX8_catchYawn_6 : decode cX8_catchYawn 6 = .ok (.iload_n 3, 1) := by decide +kernel
theorem dX8_catchYawn_7 : decode cX8_catchYawn 7 = .ok (.iconst (-1), 1) := by decide +kernel
theorem dX8_catchYawn_8 : decode cX8_catchYawn 8 = .ok (.if_icmp .eq 14, 3) := by decide +kernel
theorem dX8_catchYawn_11 : decode cX8_catchYawn 11 = .ok (.aload_n 0, 1) := by decide +kernel
theorem dX8_catchYawn_12 : decode cX8_catchYawn 12 = .ok (.getfield 9, 3) := by decide +kernel
theorem dX8_catchYawn_15 : decode cX8_catchYawn 15 = .ok (.iload_n 1, 1) := by decide +kernel
theorem dX8_catchYawn_16 : decode cX8_catchYawn 16 = .ok (.invokevirtual 81, 3) := by decide +kernel
theorem dX8_catchYawn_19 : decode cX8_catchYawn 19 = .ok (.ifCond .ne 4, 3) := by decide +kernel
theorem dX8_catchYawn_22 : decode cX8_catchYawn 22 = .ok (.return_, 1) := by decide +kernel
theorem dX8_catchYawn_23 : decode cX8_catchYawn 23 = .ok (.iload_n 3, 1) := by decide +kernel
theorem dX8_catchYawn_24 : decode cX8_catchYawn 24 = .ok (.aload_n 0, 1) := by decide +kernel
theorem dX8_catchYawn_25 : decode cX8_catchYawn 25 = .ok (.getfield 9, 3) := by decide +kernel
theorem dX8_catchYawn_28 : decode cX8_catchYawn 28 = .ok (.iconst 5, 1) := by decide +kernel
theorem dX8_catchYawn_29 : decode cX8_catchYawn 29 = .ok (.iload_n 1, 1) := by decide +kernel
theorem dX8_catchYawn_30 : decode cX8_catchYawn 30 = .ok (.invokevirtual 57, 3) := by decide +kernel
theorem dX8_catchYawn_33 : decode cX8_catchYawn 33 = .ok (.iadd, 1) := by decide +kernel
theorem dX8_catchYawn_34 : decode cX8_catchYawn 34 = .ok (.istore 4, 2) := by decide +kernel
theorem dX8_catchYawn_36 : decode cX8_catchYawn 36 = .ok (.aload_n 0, 1) := by decide +kernel
theorem dX8_catchYawn_37 : decode cX8_catchYawn 37 = .ok (.getfield 19, 3) := by decide +kernel
theorem dX8_catchYawn_40 : decode cX8_catchYawn 40 = .ok (.iload_n 1, 1) := by decide +kernel
theorem dX8_catchYawn_41 : decode cX8_catchYawn 41 = .ok (.iaload, 1) := by decide +kernel
theorem dX8_catchYawn_42 : decode cX8_catchYawn 42 = .ok (.iconst (-1), 1) := by decide +kernel
theorem dX8_catchYawn_43 : decode cX8_catchYawn 43 = .ok (.if_icmp .eq 14, 3) := by decide +kernel
theorem dX8_catchYawn_46 : decode cX8_catchYawn 46 = .ok (.iload 4, 2) := by decide +kernel
theorem dX8_catchYawn_48 : decode cX8_catchYawn 48 = .ok (.aload_n 0, 1) := by decide +kernel
theorem dX8_catchYawn_49 : decode cX8_catchYawn 49 = .ok (.getfield 19, 3) := by decide +kernel
theorem dX8_catchYawn_52 : decode cX8_catchYawn 52 = .ok (.iload_n 1, 1) := by decide +kernel
theorem dX8_catchYawn_53 : decode cX8_catchYawn 53 = .ok (.iaload, 1) := by decide +kernel
theorem dX8_catchYawn_54 : decode cX8_catchYawn 54 = .ok (.if_icmp .ge 11, 3) := by decide +kernel
theorem dX8_catchYawn_57 : decode cX8_catchYawn 57 = .ok (.aload_n 0, 1) := by decide +kernel
theorem dX8_catchYawn_58 : decode cX8_catchYawn 58 = .ok (.getfield 19, 3) := by decide +kernel
theorem dX8_catchYawn_61 : decode cX8_catchYawn 61 = .ok (.iload_n 1, 1) := by decide +kernel
theorem dX8_catchYawn_62 : decode cX8_catchYawn 62 = .ok (.iload 4, 2) := by decide +kernel
theorem dX8_catchYawn_64 : decode cX8_catchYawn 64 = .ok (.iastore, 1) := by decide +kernel
theorem dX8_catchYawn_65 : decode cX8_catchYawn 65 = .ok (.return_, 1) := by decide +kernel
theorem dX8_yawnedAt_0 : decode cX8_yawnedAt 0 = .ok (.aload_n 0, 1) := by decide +kernel
theorem dX8_yawnedAt_1 : decode cX8_yawnedAt 1 = .ok (.getfield 9, 3) := by decide +kernel
theorem dX8_yawnedAt_4 : decode cX8_yawnedAt 4 = .ok (.iload_n 1, 1) := by decide +kernel
theorem dX8_yawnedAt_5 : decode cX8_yawnedAt 5 = .ok (.invokevirtual 81, 3) := by decide +kernel
theorem dX8_yawnedAt_8 : decode cX8_yawnedAt 8 = .ok (.ifCond .eq 12, 3) := by decide +kernel
theorem dX8_yawnedAt_11 : decode cX8_yawnedAt 11 = .ok (.aload_n 0, 1) := by decide +kernel
theorem dX8_yawnedAt_12 : decode cX8_yawnedAt 12 = .ok (.getfield 19, 3) := by decide +kernel
theorem dX8_yawnedAt_15 : decode cX8_yawnedAt 15 = .ok (.iload_n 1, 1) := by decide +kernel
theorem dX8_yawnedAt_16 : decode cX8_yawnedAt 16 = .ok (.iaload, 1) := by decide +kernel
theorem dX8_yawnedAt_17 : decode cX8_yawnedAt 17 = .ok (.goto 4, 3) := by decide +kernel
theorem dX8_yawnedAt_20 : decode cX8_yawnedAt 20 = .ok (.iconst (-1), 1) := by decide +kernel
theorem dX8_yawnedAt_21 : decode cX8_yawnedAt 21 = .ok (.ireturn, 1) := by decide +kernel
theorem dX8_lastYawn_0 : decode cX8_lastYawn 0 = .ok (.iconst 0, 1) := by decide +kernel
theorem dX8_lastYawn_1 : decode cX8_lastYawn 1 = .ok (.istore_n 1, 1) := by decide +kernel
theorem dX8_lastYawn_2 : decode cX8_lastYawn 2 = .ok (.iconst 0, 1) := by decide +kernel
theorem dX8_lastYawn_3 : decode cX8_lastYawn 3 = .ok (.istore_n 2, 1) := by decide +kernel
theorem dX8_lastYawn_4 : decode cX8_lastYawn 4 = .ok (.iload_n 2, 1) := by decide +kernel
theorem dX8_lastYawn_5 : decode cX8_lastYawn 5 = .ok (.aload_n 0, 1) := by decide +kernel
theorem dX8_lastYawn_6 : decode cX8_lastYawn 6 = .ok (.getfield 9, 3) := by decide +kernel
theorem dX8_lastYawn_9 : decode cX8_lastYawn 9 = .ok (.getfield 35, 3) := by decide +kernel
theorem dX8_lastYawn_12 : decode cX8_lastYawn 12 = .ok (.if_icmp .ge 19, 3) := by decide +kernel
theorem dX8_lastYawn_15 : decode cX8_lastYawn 15 = .ok (.iload_n 1, 1) := by decide +kernel
theorem dX8_lastYawn_16 : decode cX8_lastYawn 16 = .ok (.aload_n 0, 1) := by decide +kernel
theorem dX8_lastYawn_17 : decode cX8_lastYawn 17 = .ok (.iload_n 2, 1) := by decide +kernel
theorem dX8_lastYawn_18 : decode cX8_lastYawn 18 = .ok (.invokevirtual 78, 3) := by decide +kernel
theorem dX8_lastYawn_21 : decode cX8_lastYawn 21 = .ok (.invokestatic 84, 3) := by decide +kernel
theorem dX8_lastYawn_24 : decode cX8_lastYawn 24 = .ok (.istore_n 1, 1) := by decide +kernel
theorem dX8_lastYawn_25 : decode cX8_lastYawn 25 = .ok (.iinc 2 1, 3) := by decide +kernel
theorem dX8_lastYawn_28 : decode cX8_lastYawn 28 = .ok (.goto (-24), 3) := by decide +kernel
theorem dX8_lastYawn_31 : decode cX8_lastYawn 31 = .ok (.iload_n 1, 1) := by decide +kernel
theorem dX8_lastYawn_32 : decode cX8_lastYawn 32 = .ok (.ireturn, 1) := by decide +kernel
theorem dX8_sleepy_0 : decode cX8_sleepy 0 = .ok (.iconst 0, 1) := by decide +kernel
theorem dX8_sleepy_1 : decode cX8_sleepy 1 = .ok (.istore_n 1, 1) := by decide +kernel
theorem dX8_sleepy_2 : decode cX8_sleepy 2 = .ok (.iconst 0, 1) := by decide +kernel
theorem dX8_sleepy_3 : decode cX8_sleepy 3 = .ok (.istore_n 2, 1) := by decide +kernel
theorem dX8_sleepy_4 : decode cX8_sleepy 4 = .ok (.iload_n 2, 1) := by decide +kernel
theorem dX8_sleepy_5 : decode cX8_sleepy 5 = .ok (.aload_n 0, 1) := by decide +kernel
theorem dX8_sleepy_6 : decode cX8_sleepy 6 = .ok (.getfield 9, 3) := by decide +kernel
theorem dX8_sleepy_9 : decode cX8_sleepy 9 = .ok (.getfield 35, 3) := by decide +kernel
theorem dX8_sleepy_12 : decode cX8_sleepy 12 = .ok (.if_icmp .ge 28, 3) := by decide +kernel
theorem dX8_sleepy_15 : decode cX8_sleepy 15 = .ok (.iload_n 1, 1) := by decide +kernel
theorem dX8_sleepy_16 : decode cX8_sleepy 16 = .ok (.aload_n 0, 1) := by decide +kernel
theorem dX8_sleepy_17 : decode cX8_sleepy 17 = .ok (.iload_n 2, 1) := by decide +kernel
theorem dX8_sleepy_18 : decode cX8_sleepy 18 = .ok (.invokevirtual 78, 3) := by decide +kernel
theorem dX8_sleepy_21 : decode cX8_sleepy 21 = .ok (.iconst (-1), 1) := by decide +kernel
theorem dX8_sleepy_22 : decode cX8_sleepy 22 = .ok (.if_icmp .ne 9, 3) := by decide +kernel
theorem dX8_sleepy_25 : decode cX8_sleepy 25 = .ok (.iconst 1, 1) := by decide +kernel
theorem dX8_sleepy_26 : decode cX8_sleepy 26 = .ok (.iload_n 2, 1) := by decide +kernel
theorem dX8_sleepy_27 : decode cX8_sleepy 27 = .ok (.ishl, 1) := by decide +kernel
theorem dX8_sleepy_28 : decode cX8_sleepy 28 = .ok (.goto 4, 3) := by decide +kernel
theorem dX8_sleepy_31 : decode cX8_sleepy 31 = .ok (.iconst 0, 1) := by decide +kernel
theorem dX8_sleepy_32 : decode cX8_sleepy 32 = .ok (.ior, 1) := by decide +kernel
theorem dX8_sleepy_33 : decode cX8_sleepy 33 = .ok (.istore_n 1, 1) := by decide +kernel
theorem dX8_sleepy_34 : decode cX8_sleepy 34 = .ok (.iinc 2 1, 3) := by decide +kernel
theorem dX8_sleepy_37 : decode cX8_sleepy 37 = .ok (.goto (-33), 3) := by decide +kernel
theorem dX8_sleepy_40 : decode cX8_sleepy 40 = .ok (.iload_n 1, 1) := by decide +kernel
theorem dX8_sleepy_41 : decode cX8_sleepy 41 = .ok (.ireturn, 1) := by decide +kernel
theorem dX9_init_0 : decode cX9_init 0 = .ok (.aload_n 0, 1) := by decide +kernel
theorem dX9_init_1 : decode cX9_init 1 = .ok (.invokespecial 3, 3) := by decide +kernel
theorem dX9_init_4 : decode cX9_init 4 = .ok (.aload_n 0, 1) := by decide +kernel
theorem dX9_init_5 : decode cX9_init 5 = .ok (.sipush 160, 3) := by decide +kernel
theorem dX9_init_8 : decode cX9_init 8 = .ok (.newarray .int, 2) := by decide +kernel
theorem dX9_init_10 : decode cX9_init 10 = .ok (.putfield 11, 3) := by decide +kernel
theorem dX9_init_13 : decode cX9_init 13 = .ok (.aload_n 0, 1) := by decide +kernel
theorem dX9_init_14 : decode cX9_init 14 = .ok (.iconst 0, 1) := by decide +kernel
theorem dX9_init_15 : decode cX9_init 15 = .ok (.putfield 15, 3) := by decide +kernel
theorem dX9_init_18 : decode cX9_init 18 = .ok (.aload_n 0, 1) := by decide +kernel
theorem dX9_init_19 : decode cX9_init 19 = .ok (.iconst 0, 1) := by decide +kernel
theorem dX9_init_20 : decode cX9_init 20 = .ok (.putfield 19, 3) := by decide +kernel
theorem dX9_init_23 : decode cX9_init 23 = .ok (.return_, 1) := by decide +kernel
theorem dX9_signsIn_0 : decode cX9_signsIn 0 = .ok (.iconst 0, 1) := by decide +kernel
theorem dX9_signsIn_1 : decode cX9_signsIn 1 = .ok (.istore_n 1, 1) := by decide +kernel
theorem dX9_signsIn_2 : decode cX9_signsIn 2 = .ok (.bipush 24, 2) := by decide +kernel
theorem dX9_signsIn_4 : decode cX9_signsIn 4 = .ok (.istore_n 2, 1) := by decide +kernel
theorem dX9_signsIn_5 : decode cX9_signsIn 5 = .ok (.iload_n 2, 1) := by decide +kernel
theorem dX9_signsIn_6 : decode cX9_signsIn 6 = .ok (.ifCond .lt 22, 3) := by decide +kernel
theorem dX9_signsIn_9 : decode cX9_signsIn 9 = .ok (.iload_n 0, 1) := by decide +kernel
theorem dX9_signsIn_10 : decode cX9_signsIn 10 = .ok (.iload_n 2, 1) := by decide +kernel
theorem dX9_signsIn_11 : decode cX9_signsIn 11 = .ok (.iushr, 1) := by decide +kernel
theorem dX9_signsIn_12 : decode cX9_signsIn 12 = .ok (.sipush 255, 3) := by decide +kernel
theorem dX9_signsIn_15 : decode cX9_signsIn 15 = .ok (.iand, 1) := by decide +kernel
theorem dX9_signsIn_16 : decode cX9_signsIn 16 = .ok (.ifCond .eq 6, 3) := by decide +kernel
theorem dX9_signsIn_19 : decode cX9_signsIn 19 = .ok (.iinc 1 1, 3) := by decide +kernel
theorem dX9_signsIn_22 : decode cX9_signsIn 22 = .ok (.iinc 2 (-8), 3) := by decide +kernel
theorem dX9_signsIn_25 : decode cX9_signsIn 25 = .ok (.goto (-20), 3) := by decide +kernel
theorem dX9_signsIn_28 : decode cX9_signsIn 28 = .ok (.iload_n 1, 1) := by decide +kernel
theorem dX9_signsIn_29 : decode cX9_signsIn 29 = .ok (.ireturn, 1) := by decide +kernel
theorem dX9_hasRoom_0 : decode cX9_hasRoom 0 = .ok (.aload_n 0, 1) := by decide +kernel
theorem dX9_hasRoom_1 : decode cX9_hasRoom 1 = .ok (.getfield 15, 3) := by decide +kernel
theorem dX9_hasRoom_4 : decode cX9_hasRoom 4 = .ok (.iload_n 1, 1) := by decide +kernel
theorem dX9_hasRoom_5 : decode cX9_hasRoom 5 = .ok (.iadd, 1) := by decide +kernel
theorem dX9_hasRoom_6 : decode cX9_hasRoom 6 = .ok (.sipush 160, 3) := by decide +kernel
theorem dX9_hasRoom_9 : decode cX9_hasRoom 9 = .ok (.if_icmp .gt 7, 3) := by decide +kernel
theorem dX9_hasRoom_12 : decode cX9_hasRoom 12 = .ok (.iconst 1, 1) := by decide +kernel
theorem dX9_hasRoom_13 : decode cX9_hasRoom 13 = .ok (.goto 4, 3) := by decide +kernel
theorem dX9_hasRoom_16 : decode cX9_hasRoom 16 = .ok (.iconst 0, 1) := by decide +kernel
theorem dX9_hasRoom_17 : decode cX9_hasRoom 17 = .ok (.ireturn, 1) := by decide +kernel
theorem dX9_append_0 : decode cX9_append 0 = .ok (.bipush 24, 2) := by decide +kernel
theorem dX9_append_2 : decode cX9_append 2 = .ok (.istore_n 2, 1) := by decide +kernel
theorem dX9_append_3 : decode cX9_append 3 = .ok (.iload_n 2, 1) := by decide +kernel
theorem dX9_append_4 : decode cX9_append 4 = .ok (.ifCond .lt 51, 3) := by decide +kernel
theorem dX9_append_7 : decode cX9_append 7 = .ok (.iload_n 1, 1) := by decide +kernel
theorem dX9_append_8 : decode cX9_append 8 = .ok (.iload_n 2, 1) := by decide +kernel
theorem dX9_append_9 : decode cX9_append 9 = .ok (.iushr, 1) := by decide +kernel
theorem dX9_append_10 : decode cX9_append 10 = .ok (.sipush 255, 3) := by decide +kernel
theorem dX9_append_13 : decode cX9_append 13 = .ok (.iand, 1) := by decide +kernel
theorem dX9_append_14 : decode cX9_append 14 = .ok (.istore_n 3, 1) := by decide +kernel
theorem dX9_append_15 : decode cX9_append 15 = .ok (.iload_n 3, 1) := by decide +kernel
theorem dX9_append_16 : decode cX9_append 16 = .ok (.ifCond .eq 33, 3) := by decide +kernel
theorem dX9_append_19 : decode cX9_append 19 = .ok (.aload_n 0, 1) := by decide +kernel
theorem dX9_append_20 : decode cX9_append 20 = .ok (.getfield 15, 3) := by decide +kernel
theorem dX9_append_23 : decode cX9_append 23 = .ok (.sipush 160, 3) := by decide +kernel
theorem dX9_append_26 : decode cX9_append 26 = .ok (.if_icmp .ge 23, 3) := by decide +kernel
theorem dX9_append_29 : decode cX9_append 29 = .ok (.aload_n 0, 1) := by decide +kernel
theorem dX9_append_30 : decode cX9_append 30 = .ok (.getfield 11, 3) := by decide +kernel
theorem dX9_append_33 : decode cX9_append 33 = .ok (.aload_n 0, 1) := by decide +kernel
theorem dX9_append_34 : decode cX9_append 34 = .ok (.getfield 15, 3) := by decide +kernel
theorem dX9_append_37 : decode cX9_append 37 = .ok (.iload_n 3, 1) := by decide +kernel
theorem dX9_append_38 : decode cX9_append 38 = .ok (.iastore, 1) := by decide +kernel
theorem dX9_append_39 : decode cX9_append 39 = .ok (.aload_n 0, 1) := by decide +kernel
theorem dX9_append_40 : decode cX9_append 40 = .ok (.dup, 1) := by decide +kernel
theorem dX9_append_41 : decode cX9_append 41 = .ok (.getfield 15, 3) := by decide +kernel
theorem dX9_append_44 : decode cX9_append 44 = .ok (.iconst 1, 1) := by decide +kernel
theorem dX9_append_45 : decode cX9_append 45 = .ok (.iadd, 1) := by decide +kernel
theorem dX9_append_46 : decode cX9_append 46 = .ok (.putfield 15, 3) := by decide +kernel
theorem dX9_append_49 : decode cX9_append 49 = .ok (.iinc 2 (-8), 3) := by decide +kernel
theorem dX9_append_52 : decode cX9_append 52 = .ok (.goto (-49), 3) := by decide +kernel
theorem dX9_append_55 : decode cX9_append 55 = .ok (.return_, 1) := by decide +kernel
theorem dX9_rewind_0 : decode cX9_rewind 0 = .ok (.aload_n 0, 1) := by decide +kernel
theorem dX9_rewind_1 : decode cX9_rewind 1 = .ok (.iconst 0, 1) := by decide +kernel
theorem dX9_rewind_2 : decode cX9_rewind 2 = .ok (.putfield 19, 3) := by decide +kernel
theorem dX9_rewind_5 : decode cX9_rewind 5 = .ok (.return_, 1) := by decide +kernel
theorem dX9_step_0 : decode cX9_step 0 = .ok (.aload_n 0, 1) := by decide +kernel
theorem dX9_step_1 : decode cX9_step 1 = .ok (.dup, 1) := by decide +kernel
theorem dX9_step_2 : decode cX9_step 2 = .ok (.getfield 19, 3) := by decide +kernel
theorem dX9_step_5 : decode cX9_step 5 = .ok (.iconst 1, 1) := by decide +kernel
theorem dX9_step_6 : decode cX9_step 6 = .ok (.iadd, 1) := by decide +kernel
theorem dX9_step_7 : decode cX9_step 7 = .ok (.putfield 19, 3) := by decide +kernel
theorem dX9_step_10 : decode cX9_step 10 = .ok (.return_, 1) := by decide +kernel
theorem dX9_stepBack_0 : decode cX9_stepBack 0 = .ok (.aload_n 0, 1) := by decide +kernel
theorem dX9_stepBack_1 : decode cX9_stepBack 1 = .ok (.dup, 1) := by decide +kernel
theorem dX9_stepBack_2 : decode cX9_stepBack 2 = .ok (.getfield 19, 3) := by decide +kernel
theorem dX9_stepBack_5 : decode cX9_stepBack 5 = .ok (.iconst 1, 1) := by decide +kernel
theorem dX9_stepBack_6 : decode cX9_stepBack 6 = .ok (.isub, 1) := by decide +kernel
theorem dX9_stepBack_7 : decode cX9_stepBack 7 = .ok (.putfield 19, 3) := by decide +kernel
theorem dX9_stepBack_10 : decode cX9_stepBack 10 = .ok (.return_, 1) := by decide +kernel
theorem dX9_here_0 : decode cX9_here 0 = .ok (.aload_n 0, 1) := by decide +kernel
theorem dX9_here_1 : decode cX9_here 1 = .ok (.getfield 19, 3) := by decide +kernel
theorem dX9_here_4 : decode cX9_here 4 = .ok (.ifCond .lt 36, 3) := by decide +kernel
theorem dX9_here_7 : decode cX9_here 7 = .ok (.aload_n 0, 1) := by decide +kernel
theorem dX9_here_8 : decode cX9_here 8 = .ok (.getfield 19, 3) := by decide +kernel
theorem dX9_here_11 : decode cX9_here 11 = .ok (.aload_n 0, 1) := by decide +kernel
theorem dX9_here_12 : decode cX9_here 12 = .ok (.getfield 15, 3) := by decide +kernel
theorem dX9_here_15 : decode cX9_here 15 = .ok (.if_icmp .ge 25, 3) := by decide +kernel
theorem dX9_here_18 : decode cX9_here 18 = .ok (.aload_n 0, 1) := by decide +kernel
theorem dX9_here_19 : decode cX9_here 19 = .ok (.getfield 19, 3) := by decide +kernel
theorem dX9_here_22 : decode cX9_here 22 = .ok (.sipush 160, 3) := by decide +kernel
theorem dX9_here_25 : decode cX9_here 25 = .ok (.if_icmp .ge 15, 3) := by decide +kernel
theorem dX9_here_28 : decode cX9_here 28 = .ok (.aload_n 0, 1) := by decide +kernel
theorem dX9_here_29 : decode cX9_here 29 = .ok (.getfield 11, 3) := by decide +kernel
theorem dX9_here_32 : decode cX9_here 32 = .ok (.aload_n 0, 1) := by decide +kernel
theorem dX9_here_33 : decode cX9_here 33 = .ok (.getfield 19, 3) := by decide +kernel
theorem dX9_here_36 : decode cX9_here 36 = .ok (.iaload, 1) := by decide +kernel
theorem dX9_here_37 : decode cX9_here 37 = .ok (.goto 4, 3) := by decide +kernel
theorem dX9_here_40 : decode cX9_here 40 = .ok (.iconst (-1), 1) := by decide +kernel
theorem dX9_here_41 : decode cX9_here 41 = .ok (.ireturn, 1) := by decide +kernel
theorem dX9_next_0 : decode cX9_next 0 = .ok (.aload_n 0, 1) := by decide +kernel
theorem dX9_next_1 : decode cX9_next 1 = .ok (.getfield 19, 3) := by decide +kernel
theorem dX9_next_4 : decode cX9_next 4 = .ok (.ifCond .lt 61, 3) := by decide +kernel
theorem dX9_next_7 : decode cX9_next 7 = .ok (.aload_n 0, 1) := by decide +kernel
theorem dX9_next_8 : decode cX9_next 8 = .ok (.getfield 19, 3) := by decide +kernel
theorem dX9_next_11 : decode cX9_next 11 = .ok (.aload_n 0, 1) := by decide +kernel
theorem dX9_next_12 : decode cX9_next 12 = .ok (.getfield 15, 3) := by decide +kernel
theorem dX9_next_15 : decode cX9_next 15 = .ok (.if_icmp .ge 50, 3) := by decide +kernel
theorem dX9_next_18 : decode cX9_next 18 = .ok (.aload_n 0, 1) := by decide +kernel
theorem dX9_next_19 : decode cX9_next 19 = .ok (.getfield 19, 3) := by decide +kernel
theorem dX9_next_22 : decode cX9_next 22 = .ok (.sipush 160, 3) := by decide +kernel
theorem dX9_next_25 : decode cX9_next 25 = .ok (.if_icmp .ge 40, 3) := by decide +kernel
theorem dX9_next_28 : decode cX9_next 28 = .ok (.aload_n 0, 1) := by decide +kernel
theorem dX9_next_29 : decode cX9_next 29 = .ok (.getfield 11, 3) := by decide +kernel
theorem dX9_next_32 : decode cX9_next 32 = .ok (.aload_n 0, 1) := by decide +kernel
theorem dX9_next_33 : decode cX9_next 33 = .ok (.getfield 19, 3) := by decide +kernel
theorem dX9_next_36 : decode cX9_next 36 = .ok (.iaload, 1) := by decide +kernel
theorem dX9_next_37 : decode cX9_next 37 = .ok (.bipush 32, 2) := by decide +kernel
theorem dX9_next_39 : decode cX9_next 39 = .ok (.if_icmp .eq 13, 3) := by decide +kernel
theorem dX9_next_42 : decode cX9_next 42 = .ok (.aload_n 0, 1) := by decide +kernel
theorem dX9_next_43 : decode cX9_next 43 = .ok (.getfield 11, 3) := by decide +kernel
theorem dX9_next_46 : decode cX9_next 46 = .ok (.aload_n 0, 1) := by decide +kernel
theorem dX9_next_47 : decode cX9_next 47 = .ok (.getfield 19, 3) := by decide +kernel
theorem dX9_next_50 : decode cX9_next 50 = .ok (.iaload, 1) := by decide +kernel
theorem dX9_next_51 : decode cX9_next 51 = .ok (.ireturn, 1) := by decide +kernel
theorem dX9_next_52 : decode cX9_next 52 = .ok (.aload_n 0, 1) := by decide +kernel
theorem dX9_next_53 : decode cX9_next 53 = .ok (.dup, 1) := by decide +kernel
theorem dX9_next_54 : decode cX9_next 54 = .ok (.getfield 19, 3) := by decide +kernel
theorem dX9_next_57 : decode cX9_next 57 = .ok (.iconst 1, 1) := by decide +kernel
theorem dX9_next_58 : decode cX9_next 58 = .ok (.iadd, 1) := by decide +kernel
theorem dX9_next_59 : decode cX9_next 59 = .ok (.putfield 19, 3) := by decide +kernel
theorem dX9_next_62 : decode cX9_next 62 = .ok (.goto (-62), 3) := by decide +kernel
theorem dX9_next_65 : decode cX9_next 65 = .ok (.iconst (-1), 1) := by decide +kernel
theorem dX9_next_66 : decode cX9_next 66 = .ok (.ireturn, 1) := by decide +kernel
theorem dX9_pass_0 : decode cX9_pass 0 = .ok (.aload_n 0, 1) := by decide +kernel
theorem dX9_pass_1 : decode cX9_pass 1 = .ok (.invokevirtual 22, 3) := by decide +kernel
theorem dX9_pass_4 : decode cX9_pass 4 = .ok (.iload_n 1, 1) := by decide +kernel
theorem dX9_pass_5 : decode cX9_pass 5 = .ok (.if_icmp .eq 5, 3) := by decide +kernel
theorem dX9_pass_8 : decode cX9_pass 8 = .ok (.iconst 0, 1) := by decide +kernel
theorem dX9_pass_9 : decode cX9_pass 9 = .ok (.ireturn, 1) := by decide +kernel
theorem dX9_pass_10 : decode cX9_pass 10 = .ok (.aload_n 0, 1) := by decide +kernel
theorem dX9_pass_11 : decode cX9_pass 11 = .ok (.dup, 1) := by decide +kernel
theorem dX9_pass_12 : decode cX9_pass 12 = .ok (.getfield 19, 3) := by decide +kernel
theorem dX9_pass_15 : decode cX9_pass 15 = .ok (.iconst 1, 1) := by decide +kernel
theorem dX9_pass_16 : decode cX9_pass 16 = .ok (.iadd, 1) := by decide +kernel
theorem dX9_pass_17 : decode cX9_pass 17 = .ok (.putfield 19, 3) := by decide +kernel
theorem dX9_pass_20 : decode cX9_pass 20 = .ok (.iconst 1, 1) := by decide +kernel
theorem dX9_pass_21 : decode cX9_pass 21 = .ok (.ireturn, 1) := by decide +kernel
theorem dX9_isDigit_0 : decode cX9_isDigit 0 = .ok (.iload_n 0, 1) := by decide +kernel
theorem dX9_isDigit_1 : decode cX9_isDigit 1 = .ok (.bipush 48, 2) := by decide +kernel
theorem dX9_isDigit_3 : decode cX9_isDigit 3 = .ok (.if_icmp .lt 13, 3) := by decide +kernel
theorem dX9_isDigit_6 : decode cX9_isDigit 6 = .ok (.iload_n 0, 1) := by decide +kernel
theorem dX9_isDigit_7 : decode cX9_isDigit 7 = .ok (.bipush 57, 2) := by decide +kernel
theorem dX9_isDigit_9 : decode cX9_isDigit 9 = .ok (.if_icmp .gt 7, 3) := by decide +kernel
theorem dX9_isDigit_12 : decode cX9_isDigit 12 = .ok (.iconst 1, 1) := by decide +kernel
theorem dX9_isDigit_13 : decode cX9_isDigit 13 = .ok (.goto 4, 3) := by decide +kernel
theorem dX9_isDigit_16 : decode cX9_isDigit 16 = .ok (.iconst 0, 1) := by decide +kernel
theorem dX9_isDigit_17 : decode cX9_isDigit 17 = .ok (.ireturn, 1) := by decide +kernel
theorem dX9_number_0 : decode cX9_number 0 = .ok (.aload_n 0, 1) := by decide +kernel
theorem dX9_number_1 : decode cX9_number 1 = .ok (.invokevirtual 22, 3) := by decide +kernel
theorem dX9_number_4 : decode cX9_number 4 = .ok (.invokestatic 26, 3) := by decide +kernel
theorem dX9_number_7 : decode cX9_number 7 = .ok (.ifCond .ne 5, 3) := by decide +kernel
theorem dX9_number_10 : decode cX9_number 10 = .ok (.iconst (-1), 1) := by decide +kernel
theorem dX9_number_11 : decode cX9_number 11 = .ok (.ireturn, 1) := by decide +kernel
theorem dX9_number_12 : decode cX9_number 12 = .ok (.iconst 0, 1) := by decide +kernel
theorem dX9_number_13 : decode cX9_number 13 = .ok (.istore_n 2, 1) := by decide +kernel
theorem dX9_number_14 : decode cX9_number 14 = .ok (.iconst 0, 1) := by decide +kernel
theorem dX9_number_15 : decode cX9_number 15 = .ok (.istore_n 3, 1) := by decide +kernel
theorem dX9_number_16 : decode cX9_number 16 = .ok (.aload_n 0, 1) := by decide +kernel
theorem dX9_number_17 : decode cX9_number 17 = .ok (.getfield 19, 3) := by decide +kernel
theorem dX9_number_20 : decode cX9_number 20 = .ok (.aload_n 0, 1) := by decide +kernel
theorem dX9_number_21 : decode cX9_number 21 = .ok (.getfield 15, 3) := by decide +kernel
theorem dX9_number_24 : decode cX9_number 24 = .ok (.if_icmp .ge 49, 3) := by decide +kernel
theorem dX9_number_27 : decode cX9_number 27 = .ok (.aload_n 0, 1) := by decide +kernel
theorem dX9_number_28 : decode cX9_number 28 = .ok (.invokevirtual 30, 3) := by decide +kernel
theorem dX9_number_31 : decode cX9_number 31 = .ok (.invokestatic 26, 3) := by decide +kernel
theorem dX9_number_34 : decode cX9_number 34 = .ok (.ifCond .eq 39, 3) := by decide +kernel
theorem dX9_number_37 : decode cX9_number 37 = .ok (.iload_n 3, 1) := by decide +kernel
theorem dX9_number_38 : decode cX9_number 38 = .ok (.iload_n 1, 1) := by decide +kernel
theorem dX9_number_39 : decode cX9_number 39 = .ok (.if_icmp .lt 5, 3) := by decide +kernel
theorem dX9_number_42 : decode cX9_number 42 = .ok (.iconst (-1), 1) := by decide +kernel
theorem dX9_number_43 : decode cX9_number 43 = .ok (.ireturn, 1) := by decide +kernel
theorem dX9_number_44 : decode cX9_number 44 = .ok (.iload_n 2, 1) := by decide +kernel
theorem dX9_number_45 : decode cX9_number 45 = .ok (.bipush 10, 2) := by decide +kernel
theorem dX9_number_47 : decode cX9_number 47 = .ok (.imul, 1) := by decide +kernel
theorem dX9_number_48 : decode cX9_number 48 = .ok (.aload_n 0, 1) := by decide +kernel
theorem dX9_number_49 : decode cX9_number 49 = .ok (.invokevirtual 30, 3) := by decide +kernel
theorem dX9_number_52 : decode cX9_number 52 = .ok (.iadd, 1) := by decide +kernel
theorem dX9_number_53 : decode cX9_number 53 = .ok (.bipush 48, 2) := by decide +kernel
theorem dX9_number_55 : decode cX9_number 55 = .ok (.isub, 1) := by decide +kernel
theorem dX9_number_56 : decode cX9_number 56 = .ok (.istore_n 2, 1) := by decide +kernel
theorem dX9_number_57 : decode cX9_number 57 = .ok (.aload_n 0, 1) := by decide +kernel
theorem dX9_number_58 : decode cX9_number 58 = .ok (.dup, 1) := by decide +kernel
theorem dX9_number_59 : decode cX9_number 59 = .ok (.getfield 19, 3) := by decide +kernel
theorem dX9_number_62 : decode cX9_number 62 = .ok (.iconst 1, 1) := by decide +kernel
theorem dX9_number_63 : decode cX9_number 63 = .ok (.iadd, 1) := by decide +kernel
theorem dX9_number_64 : decode cX9_number 64 = .ok (.putfield 19, 3) := by decide +kernel
theorem dX9_number_67 : decode cX9_number 67 = .ok (.iinc 3 1, 3) := by decide +kernel
theorem dX9_number_70 : decode cX9_number 70 = .ok (.goto (-54), 3) := by decide +kernel
theorem dX9_number_73 : decode cX9_number 73 = .ok (.iload_n 2, 1) := by decide +kernel
theorem dX9_number_74 : decode cX9_number 74 = .ok (.ireturn, 1) := by decide +kernel
theorem dX10_init_0 : decode cX10_init 0 = .ok (.aload_n 0, 1) := by decide +kernel
theorem dX10_init_1 : decode cX10_init 1 = .ok (.invokespecial 3, 3) := by decide +kernel
theorem dX10_init_4 : decode cX10_init 4 = .ok (.aload_n 0, 1) := by decide +kernel
theorem dX10_init_5 : decode cX10_init 5 = .ok (.aload_n 1, 1) := by decide +kernel
theorem dX10_init_6 : decode cX10_init 6 = .ok (.putfield 9, 3) := by decide +kernel
theorem dX10_init_9 : decode cX10_init 9 = .ok (.aload_n 0, 1) := by decide +kernel
theorem dX10_init_10 : decode cX10_init 10 = .ok (.aload_n 1, 1) := by decide +kernel
theorem dX10_init_11 : decode cX10_init 11 = .ok (.getfield 15, 3) := by decide +kernel
theorem dX10_init_14 : decode cX10_init 14 = .ok (.putfield 21, 3) := by decide +kernel
theorem dX10_init_17 : decode cX10_init 17 = .ok (.aload_n 0, 1) := by decide +kernel
theorem dX10_init_18 : decode cX10_init 18 = .ok (.bipush 8, 2) := by decide +kernel
theorem dX10_init_20 : decode cX10_init 20 = .ok (.newarray .long, 2) := by decide +kernel
theorem dX10_init_22 : decode cX10_init 22 = .ok (.putfield 22, 3) := by decide +kernel
theorem dX10_init_25 : decode cX10_init 25 = .ok (.aload_n 0, 1) := by decide +kernel
theorem dX10_init_26 : decode cX10_init 26 = .ok (.iconst 0, 1) := by decide +kernel
theorem dX10_init_27 : decode cX10_init 27 = .ok (.putfield 26, 3) := by decide +kernel
theorem dX10_init_30 : decode cX10_init 30 = .ok (.aload_n 0, 1) := by decide +kernel
theorem dX10_init_31 : decode cX10_init 31 = .ok (.bipush 20, 2) := by decide +kernel
theorem dX10_init_33 : decode cX10_init 33 = .ok (.newarray .int, 2) := by decide +kernel
theorem dX10_init_35 : decode cX10_init 35 = .ok (.putfield 30, 3) := by decide +kernel
theorem dX10_init_38 : decode cX10_init 38 = .ok (.aload_n 0, 1) := by decide +kernel
theorem dX10_init_39 : decode cX10_init 39 = .ok (.bipush 20, 2) := by decide +kernel
theorem dX10_init_41 : decode cX10_init 41 = .ok (.newarray .boolean, 2) := by decide +kernel
theorem dX10_init_43 : decode cX10_init 43 = .ok (.putfield 34, 3) := by decide +kernel
theorem dX10_init_46 : decode cX10_init 46 = .ok (.aload_n 0, 1) := by decide +kernel
theorem dX10_init_47 : decode cX10_init 47 = .ok (.iconst 0, 1) := by decide +kernel
theorem dX10_init_48 : decode cX10_init 48 = .ok (.putfield 38, 3) := by decide +kernel
theorem dX10_init_51 : decode cX10_init 51 = .ok (.aload_n 0, 1) := by decide +kernel
theorem dX10_init_52 : decode cX10_init 52 = .ok (.iconst 0, 1) := by decide +kernel
theorem dX10_init_53 : decode cX10_init 53 = .ok (.putfield 41, 3) := by decide +kernel
theorem dX10_init_56 : decode cX10_init 56 = .ok (.return_, 1) := by decide +kernel
theorem dX10_passes_0 : decode cX10_passes 0 = .ok (.iload_n 0, 1) := by decide +kernel
theorem dX10_passes_1 : decode cX10_passes 1 = .ok (.iconst 2, 1) := by decide +kernel
theorem dX10_passes_2 : decode cX10_passes 2 = .ok (.imul, 1) := by decide +kernel
theorem dX10_passes_3 : decode cX10_passes 3 = .ok (.iload_n 1, 1) := by decide +kernel
theorem dX10_passes_4 : decode cX10_passes 4 = .ok (.if_icmp .le 7, 3) := by decide +kernel
theorem dX10_passes_7 : decode cX10_passes 7 = .ok (.iconst 1, 1) := by decide +kernel
theorem dX10_passes_8 : decode cX10_passes 8 = .ok (.goto 4, 3) := by decide +kernel
theorem dX10_passes_11 : decode cX10_passes 11 = .ok (.iconst 0, 1) := by decide +kernel
theorem dX10_passes_12 : decode cX10_passes 12 = .ok (.ireturn, 1) := by decide +kernel
theorem dX10_heardBits_0 : decode cX10_heardBits 0 = .ok (.iconst 0, 1) := by decide +kernel
theorem dX10_heardBits_1 : decode cX10_heardBits 1 = .ok (.istore_n 1, 1) := by decide +kernel
theorem dX10_heardBits_2 : decode cX10_heardBits 2 = .ok (.iconst 0, 1) := by decide +kernel
theorem dX10_heardBits_3 : decode cX10_heardBits 3 = .ok (.istore_n 2, 1) := by decide +kernel
theorem dX10_heardBits_4 : decode cX10_heardBits 4 = .ok (.iload_n 2, 1) := by decide +kernel
theorem dX10_heardBits_5 : decode cX10_heardBits 5 = .ok (.aload_n 0, 1) := by decide +kernel
theorem dX10_heardBits_6 : decode cX10_heardBits 6 = .ok (.getfield 21, 3) := by decide +kernel
theorem dX10_heardBits_9 : decode cX10_heardBits 9 = .ok (.getfield 44, 3) := by decide +kernel
theorem dX10_heardBits_12 : decode cX10_heardBits 12 = .ok (.if_icmp .ge 30, 3) := by decide +kernel
theorem dX10_heardBits_15 : decode cX10_heardBits 15 = .ok (.iload_n 1, 1) := by decide +kernel
theorem dX10_heardBits_16 : decode cX10_heardBits 16 = .ok (.aload_n 0, 1) := by decide +kernel
theorem dX10_heardBits_17 : decode cX10_heardBits 17 = .ok (.getfield 9, 3) := by decide +kernel
theorem dX10_heardBits_20 : decode cX10_heardBits 20 = .ok (.iload_n 2, 1) := by decide +kernel
theorem dX10_heardBits_21 : decode cX10_heardBits 21 = .ok (.invokevirtual 49, 3) := by decide +kernel
theorem dX10_heardBits_24 : decode cX10_heardBits 24 = .ok (.ifCond .eq 9, 3) := by decide +kernel
theorem dX10_heardBits_27 : decode cX10_heardBits 27 = .ok (.iconst 1, 1) := by decide +kernel
theorem dX10_heardBits_28 : decode cX10_heardBits 28 = .ok (.iload_n 2, 1) := by decide +kernel
theorem dX10_heardBits_29 : decode cX10_heardBits 29 = .ok (.ishl, 1) := by decide +kernel
theorem dX10_heardBits_30 : decode cX10_heardBits 30 = .ok (.goto 4, 3) := by decide +kernel
theorem dX10_heardBits_33 : decode cX10_heardBits 33 = .ok (.iconst 0, 1) := by decide +kernel
theorem dX10_heardBits_34 : decode cX10_heardBits 34 = .ok (.ior, 1) := by decide +kernel
theorem dX10_heardBits_35 : decode cX10_heardBits 35 = .ok (.istore_n 1, 1) := by decide +kernel
theorem dX10_heardBits_36 : decode cX10_heardBits 36 = .ok (.iinc 2 1, 3) := by decide +kernel
theorem dX10_heardBits_39 : decode cX10_heardBits 39 = .ok (.goto (-35), 3) := by decide +kernel
theorem dX10_heardBits_42 : decode cX10_heardBits 42 = .ok (.iload_n 1, 1) := by decide +kernel
theorem dX10_heardBits_43 : decode cX10_heardBits 43 = .ok (.ireturn, 1) := by decide +kernel
theorem dX10_yesBits_0 : decode cX10_yesBits 0 = .ok (.iconst 0, 1) := by decide +kernel
theorem dX10_yesBits_1 : decode cX10_yesBits 1 = .ok (.istore_n 1, 1) := by decide +kernel
theorem dX10_yesBits_2 : decode cX10_yesBits 2 = .ok (.iconst 0, 1) := by decide +kernel
theorem dX10_yesBits_3 : decode cX10_yesBits 3 = .ok (.istore_n 2, 1) := by decide +kernel
theorem dX10_yesBits_4 : decode cX10_yesBits 4 = .ok (.iload_n 2, 1) := by decide +kernel
theorem dX10_yesBits_5 : decode cX10_yesBits 5 = .ok (.aload_n 0, 1) := by decide +kernel
theorem dX10_yesBits_6 : decode cX10_yesBits 6 = .ok (.getfield 21, 3) := by decide +kernel
theorem dX10_yesBits_9 : decode cX10_yesBits 9 = .ok (.getfield 44, 3) := by decide +kernel
theorem dX10_yesBits_12 : decode cX10_yesBits 12 = .ok (.if_icmp .ge 32, 3) := by decide +kernel
theorem dX10_yesBits_15 : decode cX10_yesBits 15 = .ok (.iload_n 1, 1) := by decide +kernel
theorem dX10_yesBits_16 : decode cX10_yesBits 16 = .ok (.aload_n 0, 1) := by decide +kernel
theorem dX10_yesBits_17 : decode cX10_yesBits 17 = .ok (.getfield 21, 3) := by decide +kernel
theorem dX10_yesBits_20 : decode cX10_yesBits 20 = .ok (.iconst 0, 1) := by decide +kernel
theorem dX10_yesBits_21 : decode cX10_yesBits 21 = .ok (.iload_n 2, 1) := by decide +kernel
theorem dX10_yesBits_22 : decode cX10_yesBits 22 = .ok (.invokevirtual 53, 3) := by decide +kernel
theorem dX10_yesBits_25 : decode cX10_yesBits 25 = .ok (.iconst 1, 1) := by decide +kernel
theorem dX10_yesBits_26 : decode cX10_yesBits 26 = .ok (.if_icmp .ne 9, 3) := by decide +kernel
theorem dX10_yesBits_29 : decode cX10_yesBits 29 = .ok (.iconst 1, 1) := by decide +kernel
theorem dX10_yesBits_30 : decode cX10_yesBits 30 = .ok (.iload_n 2, 1) := by decide +kernel
theorem dX10_yesBits_31 : decode cX10_yesBits 31 = .ok (.ishl, 1) := by decide +kernel
theorem dX10_yesBits_32 : decode cX10_yesBits 32 = .ok (.goto 4, 3) := by decide +kernel
theorem dX10_yesBits_35 : decode cX10_yesBits 35 = .ok (.iconst 0, 1) := by decide +kernel
theorem dX10_yesBits_36 : decode cX10_yesBits 36 = .ok (.ior, 1) := by decide +kernel
theorem dX10_yesBits_37 : decode cX10_yesBits 37 = .ok (.istore_n 1, 1) := by decide +kernel
theorem dX10_yesBits_38 : decode cX10_yesBits 38 = .ok (.iinc 2 1, 3) := by decide +kernel
theorem dX10_yesBits_41 : decode cX10_yesBits 41 = .ok (.goto (-37), 3) := by decide +kernel
theorem dX10_yesBits_44 : decode cX10_yesBits 44 = .ok (.iload_n 1, 1) := by decide +kernel
theorem dX10_yesBits_45 : decode cX10_yesBits 45 = .ok (.ireturn, 1) := by decide +kernel
theorem dX10_heard_0 : decode cX10_heard 0 = .ok (.aload_n 0, 1) := by decide +kernel
theorem dX10_heard_1 : decode cX10_heard 1 = .ok (.invokevirtual 57, 3) := by decide +kernel
theorem dX10_heard_4 : decode cX10_heard 4 = .ok (.invokestatic 61, 3) := by decide +kernel
theorem dX10_heard_7 : decode cX10_heard 7 = .ok (.ireturn, 1) := by decide +kernel
theorem dX10_plainYes_0 : decode cX10_plainYes 0 = .ok (.aload_n 0, 1) := by decide +kernel
theorem dX10_plainYes_1 : decode cX10_plainYes 1 = .ok (.invokevirtual 57, 3) := by decide +kernel
theorem dX10_plainYes_4 : decode cX10_plainYes 4 = .ok (.aload_n 0, 1) := by decide +kernel
theorem dX10_plainYes_5 : decode cX10_plainYes 5 = .ok (.invokevirtual 67, 3) := by decide +kernel
theorem dX10_plainYes_8 : decode cX10_plainYes 8 = .ok (.iand, 1) := by decide +kernel
theorem dX10_plainYes_9 : decode cX10_plainYes 9 = .ok (.invokestatic 61, 3) := by decide +kernel
theorem dX10_plainYes_12 : decode cX10_plainYes 12 = .ok (.ireturn, 1) := by decide +kernel
theorem dX10_spread_0 : decode cX10_spread 0 = .ok (.iconst 0, 1) := by decide +kernel
theorem dX10_spread_1 : decode cX10_spread 1 = .ok (.istore_n 2, 1) := by decide +kernel
theorem dX10_spread_2 : decode cX10_spread 2 = .ok (.iload_n 2, 1) := by decide +kernel
theorem dX10_spread_3 : decode cX10_spread 3 = .ok (.aload_n 0, 1) := by decide +kernel
theorem dX10_spread_4 : decode cX10_spread 4 = .ok (.getfield 22, 3) := by decide +kernel
theorem dX10_spread_7 : decode cX10_spread 7 = .ok (.arraylength, 1) := by decide +kernel
theorem dX10_spread_8 : decode cX10_spread 8 = .ok (.if_icmp .ge 24, 3) := by decide +kernel
theorem dX10_spread_11 : decode cX10_spread 11 = .ok (.aload_n 0, 1) := by decide +kernel
theorem dX10_spread_12 : decode cX10_spread 12 = .ok (.getfield 22, 3) := by decide +kernel
theorem dX10_spread_15 : decode cX10_spread 15 = .ok (.iload_n 2, 1) := by decide +kernel
theorem dX10_spread_16 : decode cX10_spread 16 = .ok (.iload_n 2, 1) := by decide +kernel
theorem dX10_spread_17 : decode cX10_spread 17 = .ok (.ifCond .ne 7, 3) := by decide +kernel
theorem dX10_spread_20 : decode cX10_spread 20 = .ok (.lconst 1, 1) := by decide +kernel
theorem dX10_spread_21 : decode cX10_spread 21 = .ok (.goto 4, 3) := by decide +kernel
theorem dX10_spread_24 : decode cX10_spread 24 = .ok (.lconst 0, 1) := by decide +kernel
theorem dX10_spread_25 : decode cX10_spread 25 = .ok (.lastore, 1) := by decide +kernel
theorem dX10_spread_26 : decode cX10_spread 26 = .ok (.iinc 2 1, 3) := by decide +kernel
theorem dX10_spread_29 : decode cX10_spread 29 = .ok (.goto (-27), 3) := by decide +kernel
theorem dX10_spread_32 : decode cX10_spread 32 = .ok (.iconst 0, 1) := by decide +kernel
theorem dX10_spread_33 : decode cX10_spread 33 = .ok (.istore_n 2, 1) := by decide +kernel
theorem dX10_spread_34 : decode cX10_spread 34 = .ok (.iconst 0, 1) := by decide +kernel
theorem dX10_spread_35 : decode cX10_spread 35 = .ok (.istore_n 3, 1) := by decide +kernel
theorem dX10_spread_36 : decode cX10_spread 36 = .ok (.iload_n 3, 1) := by decide +kernel
theorem dX10_spread_37 : decode cX10_spread 37 = .ok (.aload_n 0, 1) := by decide +kernel
theorem dX10_spread_38 : decode cX10_spread 38 = .ok (.getfield 21, 3) := by decide +kernel
theorem dX10_spread_41 : decode cX10_spread 41 = .ok (.getfield 44, 3) := by decide +kernel
theorem dX10_spread_44 : decode cX10_spread 44 = .ok (.if_icmp .ge 76, 3) := by decide +kernel
theorem dX10_spread_47 : decode cX10_spread 47 = .ok (.aload_n 0, 1) := by decide +kernel
theorem dX10_spread_48 : decode cX10_spread 48 = .ok (.getfield 9, 3) := by decide +kernel
theorem dX10_spread_51 : decode cX10_spread 51 = .ok (.iload_n 3, 1) := by decide +kernel
theorem dX10_spread_52 : decode cX10_spread 52 = .ok (.invokevirtual 49, 3) := by decide +kernel
theorem dX10_spread_55 : decode cX10_spread 55 = .ok (.ifCond .eq 59, 3) := by decide +kernel
theorem dX10_spread_58 : decode cX10_spread 58 = .ok (.iload_n 3, 1) := by decide +kernel
theorem dX10_spread_59 : decode cX10_spread 59 = .ok (.iload_n 1, 1) := by decide +kernel
theorem dX10_spread_60 : decode cX10_spread 60 = .ok (.if_icmp .ne 7, 3) := by decide +kernel
theorem dX10_spread_63 : decode cX10_spread 63 = .ok (.iconst 0, 1) := by decide +kernel
theorem dX10_spread_64 : decode cX10_spread 64 = .ok (.goto 18, 3) := by decide +kernel
theorem dX10_spread_67 : decode cX10_spread 67 = .ok (.aload_n 0, 1) := by decide +kernel
theorem dX10_spread_68 : decode cX10_spread 68 = .ok (.getfield 9, 3) := by decide +kernel
theorem dX10_spread_71 : decode cX10_spread 71 = .ok (.aload_n 0, 1) := by decide +kernel
theorem dX10_spread_72 : decode cX10_spread 72 = .ok (.getfield 9, 3) := by decide +kernel
theorem dX10_spread_75 : decode cX10_spread 75 = .ok (.iload_n 3, 1) := by decide +kernel
theorem dX10_spread_76 : decode cX10_spread 76 = .ok (.invokevirtual 70, 3) := by decide +kernel
theorem dX10_spread_79 : decode cX10_spread 79 = .ok (.invokevirtual 73, 3) := by decide +kernel
theorem dX10_spread_82 : decode cX10_spread 82 = .ok (.istore 4, 2) := by decide +kernel
theorem dX10_spread_84 : decode cX10_spread 84 = .ok (.iinc 2 1, 3) := by decide +kernel
theorem dX10_spread_87 : decode cX10_spread 87 = .ok (.aload_n 0, 1) := by decide +kernel
theorem dX10_spread_88 : decode cX10_spread 88 = .ok (.aload_n 0, 1) := by decide +kernel
theorem dX10_spread_89 : decode cX10_spread 89 = .ok (.getfield 21, 3) := by decide +kernel
theorem dX10_spread_92 : decode cX10_spread 92 = .ok (.iconst 0, 1) := by decide +kernel
theorem dX10_spread_93 : decode cX10_spread 93 = .ok (.iload_n 3, 1) := by decide +kernel
theorem dX10_spread_94 : decode cX10_spread 94 = .ok (.invokevirtual 53, 3) := by decide +kernel
theorem dX10_spread_97 : decode cX10_spread 97 = .ok (.iconst 1, 1) := by decide +kernel
theorem dX10_spread_98 : decode cX10_spread 98 = .ok (.if_icmp .ne 11, 3) := by decide +kernel
theorem dX10_spread_101 : decode cX10_spread 101 = .ok (.bipush 100, 2) := by decide +kernel
theorem dX10_spread_103 : decode cX10_spread 103 = .ok (.iload 4, 2) := by decide +kernel
theorem dX10_spread_105 : decode cX10_spread 105 = .ok (.isub, 1) := by decide +kernel
theorem dX10_spread_106 : decode cX10_spread 106 = .ok (.goto 5, 3) := by decide +kernel
theorem dX10_spread_109 : decode cX10_spread 109 = .ok (.iload 4, 2) := by decide +kernel
theorem dX10_spread_111 : decode cX10_spread 111 = .ok (.invokevirtual 76, 3) := by decide +kernel
theorem dX10_spread_114 : decode cX10_spread 114 = .ok (.iinc 3 1, 3) := by decide +kernel
theorem dX10_spread_117 : decode cX10_spread 117 = .ok (.goto (-81), 3) := by decide +kernel
theorem dX10_spread_120 : decode cX10_spread 120 = .ok (.iload_n 2, 1) := by decide +kernel
theorem dX10_spread_121 : decode cX10_spread 121 = .ok (.ireturn, 1) := by decide +kernel
theorem dX10_hear_0 : decode cX10_hear 0 = .ok (.aload_n 0, 1) := by decide +kernel
theorem dX10_hear_1 : decode cX10_hear 1 = .ok (.getfield 22, 3) := by decide +kernel
theorem dX10_hear_4 : decode cX10_hear 4 = .ok (.arraylength, 1) := by decide +kernel
theorem dX10_hear_5 : decode cX10_hear 5 = .ok (.iconst 1, 1) := by decide +kernel
theorem dX10_hear_6 : decode cX10_hear 6 = .ok (.isub, 1) := by decide +kernel
theorem dX10_hear_7 : decode cX10_hear 7 = .ok (.istore_n 2, 1) := by decide +kernel
theorem dX10_hear_8 : decode cX10_hear 8 = .ok (.iload_n 2, 1) := by decide +kernel
theorem dX10_hear_9 : decode cX10_hear 9 = .ok (.ifCond .lt 49, 3) := by decide +kernel
theorem dX10_hear_12 : decode cX10_hear 12 = .ok (.iload_n 2, 1) := by decide +kernel
theorem dX10_hear_13 : decode cX10_hear 13 = .ok (.ifCond .le 17, 3) := by decide +kernel
theorem dX10_hear_16 : decode cX10_hear 16 = .ok (.aload_n 0, 1) := by decide +kernel
theorem dX10_hear_17 : decode cX10_hear 17 = .ok (.getfield 22, 3) := by decide +kernel
theorem dX10_hear_20 : decode cX10_hear 20 = .ok (.iload_n 2, 1) := by decide +kernel
theorem dX10_hear_21 : decode cX10_hear 21 = .ok (.iconst 1, 1) := by decide +kernel
theorem dX10_hear_22 : decode cX10_hear 22 = .ok (.isub, 1) := by decide +kernel
theorem dX10_hear_23 : decode cX10_hear 23 = .ok (.laload, 1) := by decide +kernel
theorem dX10_hear_24 : decode cX10_hear 24 = .ok (.iload_n 1, 1) := by decide +kernel
theorem dX10_hear_25 : decode cX10_hear 25 = .ok (.i2l, 1) := by decide +kernel
theorem dX10_hear_26 : decode cX10_hear 26 = .ok (.lmul, 1) := by decide +kernel
theorem dX10_hear_27 : decode cX10_hear 27 = .ok (.goto 4, 3) := by decide +kernel
theorem dX10_hear_30 : decode cX10_hear 30 = .ok (.lconst 0, 1) := by decide +kernel
theorem dX10_hear_31 : decode cX10_hear 31 = .ok (.lstore_n 3, 1) := by decide +kernel
theorem dX10_hear_32 : decode cX10_hear 32 = .ok (.aload_n 0, 1) := by decide +kernel
theorem dX10_hear_33 : decode cX10_hear 33 = .ok (.getfield 22, 3) := by decide +kernel
theorem dX10_hear_36 : decode cX10_hear 36 = .ok (.iload_n 2, 1) := by decide +kernel
theorem dX10_hear_37 : decode cX10_hear 37 = .ok (.aload_n 0, 1) := by decide +kernel
theorem dX10_hear_38 : decode cX10_hear 38 = .ok (.getfield 22, 3) := by decide +kernel
theorem dX10_hear_41 : decode cX10_hear 41 = .ok (.iload_n 2, 1) := by decide +kernel
theorem dX10_hear_42 : decode cX10_hear 42 = .ok (.laload, 1) := by decide +kernel
theorem dX10_hear_43 : decode cX10_hear 43 = .ok (.bipush 100, 2) := by decide +kernel
theorem dX10_hear_45 : decode cX10_hear 45 = .ok (.iload_n 1, 1) := by decide +kernel
theorem dX10_hear_46 : decode cX10_hear 46 = .ok (.isub, 1) := by decide +kernel
theorem dX10_hear_47 : decode cX10_hear 47 = .ok (.i2l, 1) := by decide +kernel
theorem dX10_hear_48 : decode cX10_hear 48 = .ok (.lmul, 1) := by decide +kernel
theorem dX10_hear_49 : decode cX10_hear 49 = .ok (.lload_n 3, 1) := by decide +kernel
theorem dX10_hear_50 : decode cX10_hear 50 = .ok (.ladd, 1) := by decide +kernel
theorem dX10_hear_51 : decode cX10_hear 51 = .ok (.lastore, 1) := by decide +kernel
theorem dX10_hear_52 : decode cX10_hear 52 = .ok (.iinc 2 (-1), 3) := by decide +kernel
theorem dX10_hear_55 : decode cX10_hear 55 = .ok (.goto (-47), 3) := by decide +kernel
theorem dX10_hear_58 : decode cX10_hear 58 = .ok (.return_, 1) := by decide +kernel
theorem dX10_partsOf_0 : decode cX10_partsOf 0 = .ok (.aload_n 0, 1) := by decide +kernel
theorem dX10_partsOf_1 : decode cX10_partsOf 1 = .ok (.iconst (-1), 1) := by decide +kernel
theorem dX10_partsOf_2 : decode cX10_partsOf 2 = .ok (.invokevirtual 80, 3) := by decide +kernel
theorem dX10_partsOf_5 : decode cX10_partsOf 5 = .ok (.pop, 1) := by decide +kernel
theorem dX10_partsOf_6 : decode cX10_partsOf 6 = .ok (.iload_n 1, 1) := by decide +kernel
theorem dX10_partsOf_7 : decode cX10_partsOf 7 = .ok (.ifCond .lt 21, 3) := by decide +kernel
theorem dX10_partsOf_10 : decode cX10_partsOf 10 = .ok (.iload_n 1, 1) := by decide +kernel
theorem dX10_partsOf_11 : decode cX10_partsOf 11 = .ok (.aload_n 0, 1) := by decide +kernel
theorem dX10_partsOf_12 : decode cX10_partsOf 12 = .ok (.getfield 22, 3) := by decide +kernel
theorem dX10_partsOf_15 : decode cX10_partsOf 15 = .ok (.arraylength, 1) := by decide +kernel
theorem dX10_partsOf_16 : decode cX10_partsOf 16 = .ok (.if_icmp .ge 12, 3) := by decide +kernel
theorem dX10_partsOf_19 : decode cX10_partsOf 19 = .ok (.aload_n 0, 1) := by decide +kernel
theorem dX10_partsOf_20 : decode cX10_partsOf 20 = .ok (.getfield 22, 3) := by decide +kernel
theorem dX10_partsOf_23 : decode cX10_partsOf 23 = .ok (.iload_n 1, 1) := by decide +kernel
theorem dX10_partsOf_24 : decode cX10_partsOf 24 = .ok (.laload, 1) := by decide +kernel
theorem dX10_partsOf_25 : decode cX10_partsOf 25 = .ok (.goto 4, 3) := by decide +kernel
theorem dX10_partsOf_28 : decode cX10_partsOf 28 = .ok (.lconst 0, 1) := by decide +kernel
theorem dX10_partsOf_29 : decode cX10_partsOf 29 = .ok (.lreturn, 1) := by decide +kernel
theorem dX10_passingParts_0 : decode cX10_passingParts 0 = .ok (.aload_n 0, 1) := by decide +kernel
theorem dX10_passingParts_1 : decode cX10_passingParts 1 = .ok (.iload_n 1, 1) := by decide +kernel
theorem dX10_passingParts_2 : decode cX10_passingParts 2 = .ok (.invokevirtual 80, 3) := by decide +kernel
theorem dX10_passingParts_5 : decode cX10_passingParts 5 = .ok (.istore_n 2, 1) := by decide +kernel
theorem dX10_passingParts_6 : decode cX10_passingParts 6 = .ok (.lconst 0, 1) := by decide +kernel
theorem dX10_passingParts_7 : decode cX10_passingParts 7 = .ok (.lstore_n 3, 1) := by decide +kernel
theorem dX10_passingParts_8 : decode cX10_passingParts 8 = .ok (.iconst 0, 1) := by decide +kernel
theorem dX10_passingParts_9 : decode cX10_passingParts 9 = .ok (.istore 5, 2) := by decide +kernel
theorem dX10_passingParts_11 : decode cX10_passingParts 11 = .ok (.iload 5, 2) := by decide +kernel
theorem dX10_passingParts_13 : decode cX10_passingParts 13 = .ok (.aload_n 0, 1) := by decide +kernel
theorem dX10_passingParts_14 : decode cX10_passingParts 14 = .ok (.getfield 22, 3) := by decide +kernel
theorem dX10_passingParts_17 : decode cX10_passingParts 17 = .ok (.arraylength, 1) := by decide +kernel
theorem dX10_passingParts_18 : decode cX10_passingParts 18 = .ok (.if_icmp .ge 32, 3) := by decide +kernel
theorem dX10_passingParts_21 : decode cX10_passingParts 21 = .ok (.lload_n 3, 1) := by decide +kernel
theorem dX10_passingParts_22 : decode cX10_passingParts 22 = .ok (.iload 5, 2) := by decide +kernel
theorem dX10_passingParts_24 : decode cX10_passingParts 24 = .ok (.iload_n 2, 1) := by decide +kernel
theorem dX10_passingParts_25 : decode cX10_passingParts 25 = .ok (.invokestatic 83, 3) := by decide +kernel
theorem dX10_passingParts_28 : decode cX10_passingParts 28 = .ok (.ifCond .eq 13, 3) := by decide +kernel
theorem dX10_passingParts_31 : decode cX10_passingParts 31 = .ok (.aload_n 0, 1) := by decide +kernel
theorem dX10_passingParts_32 : decode cX10_passingParts 32 = .ok (.getfield 22, 3) := by decide +kernel
theorem dX10_passingParts_35 : decode cX10_passingParts 35 = .ok (.iload 5, 2) := by decide +kernel
theorem dX10_passingParts_37 : decode cX10_passingParts 37 = .ok (.laload, 1) := by decide +kernel
theorem dX10_passingParts_38 : decode cX10_passingParts 38 = .ok (.goto 4, 3) := by decide +kernel
theorem dX10_passingParts_41 : decode cX10_passingParts 41 = .ok (.lconst 0, 1) := by decide +kernel
theorem dX10_passingParts_42 : decode cX10_passingParts 42 = .ok (.ladd, 1) := by decide +kernel
theorem dX10_passingParts_43 : decode cX10_passingParts 43 = .ok (.lstore_n 3, 1) := by decide +kernel
theorem dX10_passingParts_44 : decode cX10_passingParts 44 = .ok (.iinc 5 1, 3) := by decide +kernel
theorem dX10_passingParts_47 : decode cX10_passingParts 47 = .ok (.goto (-36), 3) := by decide +kernel
theorem dX10_passingParts_50 : decode cX10_passingParts 50 = .ok (.lload_n 3, 1) := by decide +kernel
theorem dX10_passingParts_51 : decode cX10_passingParts 51 = .ok (.lreturn, 1) := by decide +kernel
theorem dX10_whoTurns_0 : decode cX10_whoTurns 0 = .ok (.aload_n 0, 1) := by decide +kernel
theorem dX10_whoTurns_1 : decode cX10_whoTurns 1 = .ok (.invokevirtual 57, 3) := by decide +kernel
theorem dX10_whoTurns_4 : decode cX10_whoTurns 4 = .ok (.istore_n 1, 1) := by decide +kernel
theorem dX10_whoTurns_5 : decode cX10_whoTurns 5 = .ok (.aload_n 0, 1) := by decide +kernel
theorem dX10_whoTurns_6 : decode cX10_whoTurns 6 = .ok (.invokevirtual 87, 3) := by decide +kernel
theorem dX10_whoTurns_9 : decode cX10_whoTurns 9 = .ok (.aload_n 0, 1) := by decide +kernel
theorem dX10_whoTurns_10 : decode cX10_whoTurns 10 = .ok (.invokevirtual 90, 3) := by decide +kernel
theorem dX10_whoTurns_13 : decode cX10_whoTurns 13 = .ok (.invokestatic 83, 3) := by decide +kernel
theorem dX10_whoTurns_16 : decode cX10_whoTurns 16 = .ok (.istore_n 2, 1) := by decide +kernel
theorem dX10_whoTurns_17 : decode cX10_whoTurns 17 = .ok (.iconst (-1), 1) := by decide +kernel
theorem dX10_whoTurns_18 : decode cX10_whoTurns 18 = .ok (.istore_n 3, 1) := by decide +kernel
theorem dX10_whoTurns_19 : decode cX10_whoTurns 19 = .ok (.lconst 0, 1) := by decide +kernel
theorem dX10_whoTurns_20 : decode cX10_whoTurns 20 = .ok (.lstore 4, 2) := by decide +kernel
theorem dX10_whoTurns_22 : decode cX10_whoTurns 22 = .ok (.iconst 0, 1) := by decide +kernel
theorem dX10_whoTurns_23 : decode cX10_whoTurns 23 = .ok (.istore 6, 2) := by decide +kernel
theorem dX10_whoTurns_25 : decode cX10_whoTurns 25 = .ok (.iload 6, 2) := by decide +kernel
theorem dX10_whoTurns_27 : decode cX10_whoTurns 27 = .ok (.aload_n 0, 1) := by decide +kernel
theorem dX10_whoTurns_28 : decode cX10_whoTurns 28 = .ok (.getfield 21, 3) := by decide +kernel
theorem dX10_whoTurns_31 : decode cX10_whoTurns 31 = .ok (.getfield 44, 3) := by decide +kernel
theorem dX10_whoTurns_34 : decode cX10_whoTurns 34 = .ok (.if_icmp .ge 60, 3) := by decide +kernel
theorem dX10_whoTurns_37 : decode cX10_whoTurns 37 = .ok (.iload_n 1, 1) := by decide +kernel
theorem dX10_whoTurns_38 : decode cX10_whoTurns 38 = .ok (.iload 6, 2) := by decide +kernel
theorem dX10_whoTurns_40 : decode cX10_whoTurns 40 = .ok (.ishr, 1) := by decide +kernel
theorem dX10_whoTurns_41 : decode cX10_whoTurns 41 = .ok (.iconst 1, 1) := by decide +kernel
theorem dX10_whoTurns_42 : decode cX10_whoTurns 42 = .ok (.iand, 1) := by decide +kernel
theorem dX10_whoTurns_43 : decode cX10_whoTurns 43 = .ok (.ifCond .eq 45, 3) := by decide +kernel
theorem dX10_whoTurns_46 : decode cX10_whoTurns 46 = .ok (.aload_n 0, 1) := by decide +kernel
theorem dX10_whoTurns_47 : decode cX10_whoTurns 47 = .ok (.iload 6, 2) := by decide +kernel
theorem dX10_whoTurns_49 : decode cX10_whoTurns 49 = .ok (.invokevirtual 93, 3) := by decide +kernel
theorem dX10_whoTurns_52 : decode cX10_whoTurns 52 = .ok (.lstore 7, 2) := by decide +kernel
theorem dX10_whoTurns_54 : decode cX10_whoTurns 54 = .ok (.iload_n 2, 1) := by decide +kernel
theorem dX10_whoTurns_55 : decode cX10_whoTurns 55 = .ok (.ifCond .eq 8, 3) := by decide +kernel
theorem dX10_whoTurns_58 : decode cX10_whoTurns 58 = .ok (.lload 7, 2) := by decide +kernel
theorem dX10_whoTurns_60 : decode cX10_whoTurns 60 = .ok (.goto 6, 3) := by decide +kernel
theorem dX10_whoTurns_63 : decode cX10_whoTurns 63 = .ok (.lload 7, 2) := by decide +kernel
theorem dX10_whoTurns_65 : decode cX10_whoTurns 65 = .ok (.lneg, 1) := by decide +kernel
theorem dX10_whoTurns_66 : decode cX10_whoTurns 66 = .ok (.lstore 9, 2) := by decide +kernel
theorem dX10_whoTurns_68 : decode cX10_whoTurns 68 = .ok (.iload_n 3, 1) := by decide +kernel
theorem dX10_whoTurns_69 : decode cX10_whoTurns 69 = .ok (.iconst (-1), 1) := by decide +kernel
theorem dX10_whoTurns_70 : decode cX10_whoTurns 70 = .ok (.if_icmp .eq 11, 3) := by decide +kernel
theorem dX10_whoTurns_73 : decode cX10_whoTurns 73 = .ok (.lload 9, 2) := by decide +kernel
theorem dX10_whoTurns_75 : decode cX10_whoTurns 75 = .ok (.lload 4, 2) := by decide +kernel
theorem dX10_whoTurns_77 : decode cX10_whoTurns 77 = .ok (.lcmp, 1) := by decide +kernel
theorem dX10_whoTurns_78 : decode cX10_whoTurns 78 = .ok (.ifCond .le 10, 3) := by decide +kernel
theorem dX10_whoTurns_81 : decode cX10_whoTurns 81 = .ok (.iload 6, 2) := by decide +kernel
theorem dX10_whoTurns_83 : decode cX10_whoTurns 83 = .ok (.istore_n 3, 1) := by decide +kernel
theorem dX10_whoTurns_84 : decode cX10_whoTurns 84 = .ok (.lload 9, 2) := by decide +kernel
theorem dX10_whoTurns_86 : decode cX10_whoTurns 86 = .ok (.lstore 4, 2) := by decide +kernel
theorem dX10_whoTurns_88 : decode cX10_whoTurns 88 = .ok (.iinc 6 1, 3) := by decide +kernel
theorem dX10_whoTurns_91 : decode cX10_whoTurns 91 = .ok (.goto (-66), 3) := by decide +kernel
theorem dX10_whoTurns_94 : decode cX10_whoTurns 94 = .ok (.iload_n 3, 1) := by decide +kernel
theorem dX10_whoTurns_95 : decode cX10_whoTurns 95 = .ok (.ireturn, 1) := by decide +kernel
theorem dX10_cheapest_0 : decode cX10_cheapest 0 = .ok (.aload_n 0, 1) := by decide +kernel
theorem dX10_cheapest_1 : decode cX10_cheapest 1 = .ok (.invokevirtual 57, 3) := by decide +kernel
theorem dX10_cheapest_4 : decode cX10_cheapest 4 = .ok (.istore_n 1, 1) := by decide +kernel
theorem dX10_cheapest_5 : decode cX10_cheapest 5 = .ok (.aload_n 0, 1) := by decide +kernel
theorem dX10_cheapest_6 : decode cX10_cheapest 6 = .ok (.invokevirtual 67, 3) := by decide +kernel
theorem dX10_cheapest_9 : decode cX10_cheapest 9 = .ok (.istore_n 2, 1) := by decide +kernel
theorem dX10_cheapest_10 : decode cX10_cheapest 10 = .ok (.aload_n 0, 1) := by decide +kernel
theorem dX10_cheapest_11 : decode cX10_cheapest 11 = .ok (.getfield 21, 3) := by decide +kernel
theorem dX10_cheapest_14 : decode cX10_cheapest 14 = .ok (.invokevirtual 97, 3) := by decide +kernel
theorem dX10_cheapest_17 : decode cX10_cheapest 17 = .ok (.iload_n 2, 1) := by decide +kernel
theorem dX10_cheapest_18 : decode cX10_cheapest 18 = .ok (.iconst (-1), 1) := by decide +kernel
theorem dX10_cheapest_19 : decode cX10_cheapest 19 = .ok (.ixor, 1) := by decide +kernel
theorem dX10_cheapest_20 : decode cX10_cheapest 20 = .ok (.iand, 1) := by decide +kernel
theorem dX10_cheapest_21 : decode cX10_cheapest 21 = .ok (.istore_n 3, 1) := by decide +kernel
theorem dX10_cheapest_22 : decode cX10_cheapest 22 = .ok (.iload_n 1, 1) := by decide +kernel
theorem dX10_cheapest_23 : decode cX10_cheapest 23 = .ok (.invokestatic 61, 3) := by decide +kernel
theorem dX10_cheapest_26 : decode cX10_cheapest 26 = .ok (.istore 4, 2) := by decide +kernel
theorem dX10_cheapest_28 : decode cX10_cheapest 28 = .ok (.iconst (-1), 1) := by decide +kernel
theorem dX10_cheapest_29 : decode cX10_cheapest 29 = .ok (.istore 5, 2) := by decide +kernel
theorem dX10_cheapest_31 : decode cX10_cheapest 31 = .ok (.iconst 0, 1) := by decide +kernel
theorem dX10_cheapest_32 : decode cX10_cheapest 32 = .ok (.istore 6, 2) := by decide +kernel
theorem dX10_cheapest_34 : decode cX10_cheapest 34 = .ok (.iconst 0, 1) := by decide +kernel
theorem dX10_cheapest_35 : decode cX10_cheapest 35 = .ok (.istore 7, 2) := by decide +kernel
theorem dX10_cheapest_37 : decode cX10_cheapest 37 = .ok (.iload 7, 2) := by decide +kernel
theorem dX10_cheapest_39 : decode cX10_cheapest 39 = .ok (.iconst 1, 1) := by decide +kernel
theorem dX10_cheapest_40 : decode cX10_cheapest 40 = .ok (.aload_n 0, 1) := by decide +kernel
theorem dX10_cheapest_41 : decode cX10_cheapest 41 = .ok (.getfield 21, 3) := by decide +kernel
theorem dX10_cheapest_44 : decode cX10_cheapest 44 = .ok (.getfield 44, 3) := by decide +kernel
theorem dX10_cheapest_47 : decode cX10_cheapest 47 = .ok (.ishl, 1) := by decide +kernel
theorem dX10_cheapest_48 : decode cX10_cheapest 48 = .ok (.if_icmp .ge 76, 3) := by decide +kernel
theorem dX10_cheapest_51 : decode cX10_cheapest 51 = .ok (.iload 7, 2) := by decide +kernel
theorem dX10_cheapest_53 : decode cX10_cheapest 53 = .ok (.iload_n 3, 1) := by decide +kernel
theorem dX10_cheapest_54 : decode cX10_cheapest 54 = .ok (.iconst (-1), 1) := by decide +kernel
theorem dX10_cheapest_55 : decode cX10_cheapest 55 = .ok (.ixor, 1) := by decide +kernel
theorem dX10_cheapest_56 : decode cX10_cheapest 56 = .ok (.iand, 1) := by decide +kernel
theorem dX10_cheapest_57 : decode cX10_cheapest 57 = .ok (.ifCond .ne 7, 3) := by decide +kernel
theorem dX10_cheapest_60 : decode cX10_cheapest 60 = .ok (.iconst 1, 1) := by decide +kernel
theorem dX10_cheapest_61 : decode cX10_cheapest 61 = .ok (.goto 4, 3) := by decide +kernel
theorem dX10_cheapest_64 : decode cX10_cheapest 64 = .ok (.iconst 0, 1) := by decide +kernel
theorem dX10_cheapest_65 : decode cX10_cheapest 65 = .ok (.istore 8, 2) := by decide +kernel
