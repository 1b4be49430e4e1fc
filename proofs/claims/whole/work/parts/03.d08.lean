theorem dX12_manners_18 : decode cX12_manners 18 = .ok (.putfield 49, 3) := by decide +kernel
theorem dX12_manners_21 : decode cX12_manners 21 = .ok (.iconst 1, 1) := by decide +kernel
theorem dX12_manners_22 : decode cX12_manners 22 = .ok (.ireturn, 1) := by decide +kernel
theorem dX12_set_0 : decode cX12_set 0 = .ok (.aload_n 0, 1) := by decide +kernel
theorem dX12_set_1 : decode cX12_set 1 = .ok (.iload_n 1, 1) := by decide +kernel
theorem dX12_set_2 : decode cX12_set 2 = .ok (.invokevirtual 288, 3) := by decide +kernel
theorem dX12_set_5 : decode cX12_set 5 = .ok (.ifCond .eq 29, 3) := by decide +kernel
theorem dX12_set_8 : decode cX12_set 8 = .ok (.iload_n 2, 1) := by decide +kernel
theorem dX12_set_9 : decode cX12_set 9 = .ok (.iconst 0, 1) := by decide +kernel
theorem dX12_set_10 : decode cX12_set 10 = .ok (.iconst 1, 1) := by decide +kernel
theorem dX12_set_11 : decode cX12_set 11 = .ok (.invokestatic 215, 3) := by decide +kernel
theorem dX12_set_14 : decode cX12_set 14 = .ok (.ifCond .eq 20, 3) := by decide +kernel
theorem dX12_set_17 : decode cX12_set 17 = .ok (.iload_n 3, 1) := by decide +kernel
theorem dX12_set_18 : decode cX12_set 18 = .ok (.iconst 0, 1) := by decide +kernel
theorem dX12_set_19 : decode cX12_set 19 = .ok (.iload_n 2, 1) := by decide +kernel
theorem dX12_set_20 : decode cX12_set 20 = .ok (.ifCond .ne 7, 3) := by decide +kernel
theorem dX12_set_23 : decode cX12_set 23 = .ok (.iconst 1, 1) := by decide +kernel
theorem dX12_set_24 : decode cX12_set 24 = .ok (.goto 4, 3) := by decide +kernel
theorem dX12_set_27 : decode cX12_set 27 = .ok (.iconst 3, 1) := by decide +kernel
theorem dX12_set_28 : decode cX12_set 28 = .ok (.invokestatic 215, 3) := by decide +kernel
theorem dX12_set_31 : decode cX12_set 31 = .ok (.ifCond .ne 5, 3) := by decide +kernel
theorem dX12_set_34 : decode cX12_set 34 = .ok (.iconst 0, 1) := by decide +kernel
theorem dX12_set_35 : decode cX12_set 35 = .ok (.ireturn, 1) := by decide +kernel
theorem dX12_set_36 : decode cX12_set 36 = .ok (.iload_n 2, 1) := by decide +kernel
theorem dX12_set_37 : decode cX12_set 37 = .ok (.ifCond .ne 7, 3) := by decide +kernel
theorem dX12_set_40 : decode cX12_set 40 = .ok (.iconst 0, 1) := by decide +kernel
theorem dX12_set_41 : decode cX12_set 41 = .ok (.goto 4, 3) := by decide +kernel
theorem dX12_set_44 : decode cX12_set 44 = .ok (.iconst 3, 1) := by decide +kernel
theorem dX12_set_45 : decode cX12_set 45 = .ok (.istore 4, 2) := by decide +kernel
theorem dX12_set_47 : decode cX12_set 47 = .ok (.aload_n 0, 1) := by decide +kernel
theorem dX12_set_48 : decode cX12_set 48 = .ok (.iload_n 1, 1) := by decide +kernel
theorem dX12_set_49 : decode cX12_set 49 = .ok (.iload 4, 2) := by decide +kernel
theorem dX12_set_51 : decode cX12_set 51 = .ok (.invokevirtual 258, 3) := by decide +kernel
theorem dX12_set_54 : decode cX12_set 54 = .ok (.iload_n 3, 1) := by decide +kernel
theorem dX12_set_55 : decode cX12_set 55 = .ok (.if_icmp .ne 5, 3) := by decide +kernel
theorem dX12_set_58 : decode cX12_set 58 = .ok (.iconst 0, 1) := by decide +kernel
theorem dX12_set_59 : decode cX12_set 59 = .ok (.ireturn, 1) := by decide +kernel
theorem dX12_set_60 : decode cX12_set 60 = .ok (.aload_n 0, 1) := by decide +kernel
theorem dX12_set_61 : decode cX12_set 61 = .ok (.getfield 43, 3) := by decide +kernel
theorem dX12_set_64 : decode cX12_set 64 = .ok (.bipush 7, 2) := by decide +kernel
theorem dX12_set_66 : decode cX12_set 66 = .ok (.iload_n 1, 1) := by decide +kernel
theorem dX12_set_67 : decode cX12_set 67 = .ok (.imul, 1) := by decide +kernel
theorem dX12_set_68 : decode cX12_set 68 = .ok (.iload 4, 2) := by decide +kernel
theorem dX12_set_70 : decode cX12_set 70 = .ok (.iadd, 1) := by decide +kernel
theorem dX12_set_71 : decode cX12_set 71 = .ok (.iload_n 3, 1) := by decide +kernel
theorem dX12_set_72 : decode cX12_set 72 = .ok (.iastore, 1) := by decide +kernel
theorem dX12_set_73 : decode cX12_set 73 = .ok (.iconst 1, 1) := by decide +kernel
theorem dX12_set_74 : decode cX12_set 74 = .ok (.ireturn, 1) := by decide +kernel
theorem dX12_swap_0 : decode cX12_swap 0 = .ok (.aload_n 0, 1) := by decide +kernel
theorem dX12_swap_1 : decode cX12_swap 1 = .ok (.getfield 46, 3) := by decide +kernel
theorem dX12_swap_4 : decode cX12_swap 4 = .ok (.iload_n 1, 1) := by decide +kernel
theorem dX12_swap_5 : decode cX12_swap 5 = .ok (.iaload, 1) := by decide +kernel
theorem dX12_swap_6 : decode cX12_swap 6 = .ok (.istore_n 3, 1) := by decide +kernel
theorem dX12_swap_7 : decode cX12_swap 7 = .ok (.aload_n 0, 1) := by decide +kernel
theorem dX12_swap_8 : decode cX12_swap 8 = .ok (.getfield 46, 3) := by decide +kernel
theorem dX12_swap_11 : decode cX12_swap 11 = .ok (.iload_n 1, 1) := by decide +kernel
theorem dX12_swap_12 : decode cX12_swap 12 = .ok (.aload_n 0, 1) := by decide +kernel
theorem dX12_swap_13 : decode cX12_swap 13 = .ok (.getfield 46, 3) := by decide +kernel
theorem dX12_swap_16 : decode cX12_swap 16 = .ok (.iload_n 2, 1) := by decide +kernel
theorem dX12_swap_17 : decode cX12_swap 17 = .ok (.iaload, 1) := by decide +kernel
theorem dX12_swap_18 : decode cX12_swap 18 = .ok (.iastore, 1) := by decide +kernel
theorem dX12_swap_19 : decode cX12_swap 19 = .ok (.aload_n 0, 1) := by decide +kernel
theorem dX12_swap_20 : decode cX12_swap 20 = .ok (.getfield 46, 3) := by decide +kernel
theorem dX12_swap_23 : decode cX12_swap 23 = .ok (.iload_n 2, 1) := by decide +kernel
theorem dX12_swap_24 : decode cX12_swap 24 = .ok (.iload_n 3, 1) := by decide +kernel
theorem dX12_swap_25 : decode cX12_swap 25 = .ok (.iastore, 1) := by decide +kernel
theorem dX12_swap_26 : decode cX12_swap 26 = .ok (.return_, 1) := by decide +kernel
theorem dX12_change_0 : decode cX12_change 0 = .ok (.iload_n 1, 1) := by decide +kernel
theorem dX12_change_1 : decode cX12_change 1 = .ok (.iconst 0, 1) := by decide +kernel
theorem dX12_change_2 : decode cX12_change 2 = .ok (.aload_n 0, 1) := by decide +kernel
theorem dX12_change_3 : decode cX12_change 3 = .ok (.getfield 252, 3) := by decide +kernel
theorem dX12_change_6 : decode cX12_change 6 = .ok (.iconst 1, 1) := by decide +kernel
theorem dX12_change_7 : decode cX12_change 7 = .ok (.isub, 1) := by decide +kernel
theorem dX12_change_8 : decode cX12_change 8 = .ok (.invokestatic 215, 3) := by decide +kernel
theorem dX12_change_11 : decode cX12_change 11 = .ok (.ifCond .eq 22, 3) := by decide +kernel
theorem dX12_change_14 : decode cX12_change 14 = .ok (.iload_n 2, 1) := by decide +kernel
theorem dX12_change_15 : decode cX12_change 15 = .ok (.iconst 0, 1) := by decide +kernel
theorem dX12_change_16 : decode cX12_change 16 = .ok (.aload_n 0, 1) := by decide +kernel
theorem dX12_change_17 : decode cX12_change 17 = .ok (.getfield 252, 3) := by decide +kernel
theorem dX12_change_20 : decode cX12_change 20 = .ok (.iconst 1, 1) := by decide +kernel
theorem dX12_change_21 : decode cX12_change 21 = .ok (.isub, 1) := by decide +kernel
theorem dX12_change_22 : decode cX12_change 22 = .ok (.invokestatic 215, 3) := by decide +kernel
theorem dX12_change_25 : decode cX12_change 25 = .ok (.ifCond .eq 8, 3) := by decide +kernel
theorem dX12_change_28 : decode cX12_change 28 = .ok (.iload_n 1, 1) := by decide +kernel
theorem dX12_change_29 : decode cX12_change 29 = .ok (.iload_n 2, 1) := by decide +kernel
theorem dX12_change_30 : decode cX12_change 30 = .ok (.if_icmp .ne 5, 3) := by decide +kernel
theorem dX12_change_33 : decode cX12_change 33 = .ok (.iconst 0, 1) := by decide +kernel
theorem dX12_change_34 : decode cX12_change 34 = .ok (.ireturn, 1) := by decide +kernel
theorem dX12_change_35 : decode cX12_change 35 = .ok (.aload_n 0, 1) := by decide +kernel
theorem dX12_change_36 : decode cX12_change 36 = .ok (.iload_n 1, 1) := by decide +kernel
theorem dX12_change_37 : decode cX12_change 37 = .ok (.iload_n 2, 1) := by decide +kernel
theorem dX12_change_38 : decode cX12_change 38 = .ok (.invokevirtual 294, 3) := by decide +kernel
theorem dX12_change_41 : decode cX12_change 41 = .ok (.iconst 1, 1) := by decide +kernel
theorem dX12_change_42 : decode cX12_change 42 = .ok (.ireturn, 1) := by decide +kernel
theorem dX12_ten_0 : decode cX12_ten 0 = .ok (.iconst 1, 1) := by decide +kernel
theorem dX12_ten_1 : decode cX12_ten 1 = .ok (.istore_n 1, 1) := by decide +kernel
theorem dX12_ten_2 : decode cX12_ten 2 = .ok (.iconst 0, 1) := by decide +kernel
theorem dX12_ten_3 : decode cX12_ten 3 = .ok (.istore_n 2, 1) := by decide +kernel
theorem dX12_ten_4 : decode cX12_ten 4 = .ok (.iload_n 2, 1) := by decide +kernel
theorem dX12_ten_5 : decode cX12_ten 5 = .ok (.iload_n 0, 1) := by decide +kernel
theorem dX12_ten_6 : decode cX12_ten 6 = .ok (.if_icmp .ge 14, 3) := by decide +kernel
theorem dX12_ten_9 : decode cX12_ten 9 = .ok (.iload_n 1, 1) := by decide +kernel
theorem dX12_ten_10 : decode cX12_ten 10 = .ok (.bipush 10, 2) := by decide +kernel
theorem dX12_ten_12 : decode cX12_ten 12 = .ok (.imul, 1) := by decide +kernel
theorem dX12_ten_13 : decode cX12_ten 13 = .ok (.istore_n 1, 1) := by decide +kernel
theorem dX12_ten_14 : decode cX12_ten 14 = .ok (.iinc 2 1, 3) := by decide +kernel
theorem dX12_ten_17 : decode cX12_ten 17 = .ok (.goto (-13), 3) := by decide +kernel
theorem dX12_ten_20 : decode cX12_ten 20 = .ok (.iload_n 1, 1) := by decide +kernel
theorem dX12_ten_21 : decode cX12_ten 21 = .ok (.ireturn, 1) := by decide +kernel
theorem dX12_write_0 : decode cX12_write 0 = .ok (.iconst 0, 1) := by decide +kernel
theorem dX12_write_1 : decode cX12_write 1 = .ok (.istore_n 2, 1) := by decide +kernel
theorem dX12_write_2 : decode cX12_write 2 = .ok (.iload_n 2, 1) := by decide +kernel
theorem dX12_write_3 : decode cX12_write 3 = .ok (.aload_n 0, 1) := by decide +kernel
theorem dX12_write_4 : decode cX12_write 4 = .ok (.getfield 252, 3) := by decide +kernel
theorem dX12_write_7 : decode cX12_write 7 = .ok (.if_icmp .ge 31, 3) := by decide +kernel
theorem dX12_write_10 : decode cX12_write 10 = .ok (.aload_n 0, 1) := by decide +kernel
theorem dX12_write_11 : decode cX12_write 11 = .ok (.getfield 46, 3) := by decide +kernel
theorem dX12_write_14 : decode cX12_write 14 = .ok (.iload_n 2, 1) := by decide +kernel
theorem dX12_write_15 : decode cX12_write 15 = .ok (.iload_n 1, 1) := by decide +kernel
theorem dX12_write_16 : decode cX12_write 16 = .ok (.aload_n 0, 1) := by decide +kernel
theorem dX12_write_17 : decode cX12_write 17 = .ok (.getfield 252, 3) := by decide +kernel
theorem dX12_write_20 : decode cX12_write 20 = .ok (.iconst 1, 1) := by decide +kernel
theorem dX12_write_21 : decode cX12_write 21 = .ok (.isub, 1) := by decide +kernel
theorem dX12_write_22 : decode cX12_write 22 = .ok (.iload_n 2, 1) := by decide +kernel
theorem dX12_write_23 : decode cX12_write 23 = .ok (.isub, 1) := by decide +kernel
theorem dX12_write_24 : decode cX12_write 24 = .ok (.invokestatic 297, 3) := by decide +kernel
theorem dX12_write_27 : decode cX12_write 27 = .ok (.idiv, 1) := by decide +kernel
theorem dX12_write_28 : decode cX12_write 28 = .ok (.bipush 10, 2) := by decide +kernel
theorem dX12_write_30 : decode cX12_write 30 = .ok (.irem, 1) := by decide +kernel
theorem dX12_write_31 : decode cX12_write 31 = .ok (.iastore, 1) := by decide +kernel
theorem dX12_write_32 : decode cX12_write 32 = .ok (.iinc 2 1, 3) := by decide +kernel
theorem dX12_write_35 : decode cX12_write 35 = .ok (.goto (-33), 3) := by decide +kernel
theorem dX12_write_38 : decode cX12_write 38 = .ok (.return_, 1) := by decide +kernel
theorem dX12_digits_0 : decode cX12_digits 0 = .ok (.iconst 0, 1) := by decide +kernel
theorem dX12_digits_1 : decode cX12_digits 1 = .ok (.istore_n 1, 1) := by decide +kernel
theorem dX12_digits_2 : decode cX12_digits 2 = .ok (.iconst 0, 1) := by decide +kernel
theorem dX12_digits_3 : decode cX12_digits 3 = .ok (.istore_n 2, 1) := by decide +kernel
theorem dX12_digits_4 : decode cX12_digits 4 = .ok (.iload_n 2, 1) := by decide +kernel
theorem dX12_digits_5 : decode cX12_digits 5 = .ok (.aload_n 0, 1) := by decide +kernel
theorem dX12_digits_6 : decode cX12_digits 6 = .ok (.getfield 252, 3) := by decide +kernel
theorem dX12_digits_9 : decode cX12_digits 9 = .ok (.if_icmp .ge 21, 3) := by decide +kernel
theorem dX12_digits_12 : decode cX12_digits 12 = .ok (.bipush 10, 2) := by decide +kernel
theorem dX12_digits_14 : decode cX12_digits 14 = .ok (.iload_n 1, 1) := by decide +kernel
theorem dX12_digits_15 : decode cX12_digits 15 = .ok (.imul, 1) := by decide +kernel
theorem dX12_digits_16 : decode cX12_digits 16 = .ok (.aload_n 0, 1) := by decide +kernel
theorem dX12_digits_17 : decode cX12_digits 17 = .ok (.getfield 46, 3) := by decide +kernel
theorem dX12_digits_20 : decode cX12_digits 20 = .ok (.iload_n 2, 1) := by decide +kernel
theorem dX12_digits_21 : decode cX12_digits 21 = .ok (.iaload, 1) := by decide +kernel
theorem dX12_digits_22 : decode cX12_digits 22 = .ok (.iadd, 1) := by decide +kernel
theorem dX12_digits_23 : decode cX12_digits 23 = .ok (.istore_n 1, 1) := by decide +kernel
theorem dX12_digits_24 : decode cX12_digits 24 = .ok (.iinc 2 1, 3) := by decide +kernel
theorem dX12_digits_27 : decode cX12_digits 27 = .ok (.goto (-23), 3) := by decide +kernel
theorem dX12_digits_30 : decode cX12_digits 30 = .ok (.iload_n 1, 1) := by decide +kernel
theorem dX12_digits_31 : decode cX12_digits 31 = .ok (.ireturn, 1) := by decide +kernel
theorem dX12_sit_0 : decode cX12_sit 0 = .ok (.iconst 0, 1) := by decide +kernel
theorem dX12_sit_1 : decode cX12_sit 1 = .ok (.istore_n 2, 1) := by decide +kernel
theorem dX12_sit_2 : decode cX12_sit 2 = .ok (.iconst 0, 1) := by decide +kernel
theorem dX12_sit_3 : decode cX12_sit 3 = .ok (.istore_n 3, 1) := by decide +kernel
theorem dX12_sit_4 : decode cX12_sit 4 = .ok (.iload_n 3, 1) := by decide +kernel
theorem dX12_sit_5 : decode cX12_sit 5 = .ok (.aload_n 0, 1) := by decide +kernel
theorem dX12_sit_6 : decode cX12_sit 6 = .ok (.getfield 252, 3) := by decide +kernel
theorem dX12_sit_9 : decode cX12_sit 9 = .ok (.if_icmp .ge 23, 3) := by decide +kernel
theorem dX12_sit_12 : decode cX12_sit 12 = .ok (.iload_n 2, 1) := by decide +kernel
theorem dX12_sit_13 : decode cX12_sit 13 = .ok (.iconst 1, 1) := by decide +kernel
theorem dX12_sit_14 : decode cX12_sit 14 = .ok (.iload_n 1, 1) := by decide +kernel
theorem dX12_sit_15 : decode cX12_sit 15 = .ok (.iload_n 3, 1) := by decide +kernel
theorem dX12_sit_16 : decode cX12_sit 16 = .ok (.invokestatic 297, 3) := by decide +kernel
theorem dX12_sit_19 : decode cX12_sit 19 = .ok (.idiv, 1) := by decide +kernel
theorem dX12_sit_20 : decode cX12_sit 20 = .ok (.bipush 10, 2) := by decide +kernel
theorem dX12_sit_22 : decode cX12_sit 22 = .ok (.irem, 1) := by decide +kernel
theorem dX12_sit_23 : decode cX12_sit 23 = .ok (.ishl, 1) := by decide +kernel
theorem dX12_sit_24 : decode cX12_sit 24 = .ok (.ior, 1) := by decide +kernel
theorem dX12_sit_25 : decode cX12_sit 25 = .ok (.istore_n 2, 1) := by decide +kernel
theorem dX12_sit_26 : decode cX12_sit 26 = .ok (.iinc 3 1, 3) := by decide +kernel
theorem dX12_sit_29 : decode cX12_sit 29 = .ok (.goto (-25), 3) := by decide +kernel
theorem dX12_sit_32 : decode cX12_sit 32 = .ok (.aload_n 0, 1) := by decide +kernel
theorem dX12_sit_33 : decode cX12_sit 33 = .ok (.getfield 252, 3) := by decide +kernel
theorem dX12_sit_36 : decode cX12_sit 36 = .ok (.ifCond .eq 32, 3) := by decide +kernel
theorem dX12_sit_39 : decode cX12_sit 39 = .ok (.iload_n 1, 1) := by decide +kernel
theorem dX12_sit_40 : decode cX12_sit 40 = .ok (.iconst 0, 1) := by decide +kernel
theorem dX12_sit_41 : decode cX12_sit 41 = .ok (.aload_n 0, 1) := by decide +kernel
theorem dX12_sit_42 : decode cX12_sit 42 = .ok (.getfield 252, 3) := by decide +kernel
theorem dX12_sit_45 : decode cX12_sit 45 = .ok (.invokestatic 297, 3) := by decide +kernel
theorem dX12_sit_48 : decode cX12_sit 48 = .ok (.iconst 1, 1) := by decide +kernel
theorem dX12_sit_49 : decode cX12_sit 49 = .ok (.isub, 1) := by decide +kernel
theorem dX12_sit_50 : decode cX12_sit 50 = .ok (.invokestatic 215, 3) := by decide +kernel
theorem dX12_sit_53 : decode cX12_sit 53 = .ok (.ifCond .eq 15, 3) := by decide +kernel
theorem dX12_sit_56 : decode cX12_sit 56 = .ok (.iload_n 2, 1) := by decide +kernel
theorem dX12_sit_57 : decode cX12_sit 57 = .ok (.iconst 1, 1) := by decide +kernel
theorem dX12_sit_58 : decode cX12_sit 58 = .ok (.aload_n 0, 1) := by decide +kernel
theorem dX12_sit_59 : decode cX12_sit 59 = .ok (.getfield 252, 3) := by decide +kernel
theorem dX12_sit_62 : decode cX12_sit 62 = .ok (.ishl, 1) := by decide +kernel
theorem dX12_sit_63 : decode cX12_sit 63 = .ok (.iconst 1, 1) := by decide +kernel
theorem dX12_sit_64 : decode cX12_sit 64 = .ok (.isub, 1) := by decide +kernel
theorem dX12_sit_65 : decode cX12_sit 65 = .ok (.if_icmp .eq 5, 3) := by decide +kernel
theorem dX12_sit_68 : decode cX12_sit 68 = .ok (.iconst 0, 1) := by decide +kernel
theorem dX12_sit_69 : decode cX12_sit 69 = .ok (.ireturn, 1) := by decide +kernel
theorem dX12_sit_70 : decode cX12_sit 70 = .ok (.aload_n 0, 1) := by decide +kernel
theorem dX12_sit_71 : decode cX12_sit 71 = .ok (.iload_n 1, 1) := by decide +kernel
theorem dX12_sit_72 : decode cX12_sit 72 = .ok (.invokevirtual 300, 3) := by decide +kernel
theorem dX12_sit_75 : decode cX12_sit 75 = .ok (.iconst 1, 1) := by decide +kernel
theorem dX12_sit_76 : decode cX12_sit 76 = .ok (.ireturn, 1) := by decide +kernel
theorem dX12_goRound_0 : decode cX12_goRound 0 = .ok (.aload_n 0, 1) := by decide +kernel
theorem dX12_goRound_1 : decode cX12_goRound 1 = .ok (.iconst 0, 1) := by decide +kernel
theorem dX12_goRound_2 : decode cX12_goRound 2 = .ok (.putfield 303, 3) := by decide +kernel
theorem dX12_goRound_5 : decode cX12_goRound 5 = .ok (.aload_n 0, 1) := by decide +kernel
theorem dX12_goRound_6 : decode cX12_goRound 6 = .ok (.iconst 0, 1) := by decide +kernel
theorem dX12_goRound_7 : decode cX12_goRound 7 = .ok (.putfield 306, 3) := by decide +kernel
theorem dX12_goRound_10 : decode cX12_goRound 10 = .ok (.aload_n 0, 1) := by decide +kernel
theorem dX12_goRound_11 : decode cX12_goRound 11 = .ok (.iload_n 1, 1) := by decide +kernel
theorem dX12_goRound_12 : decode cX12_goRound 12 = .ok (.putfield 309, 3) := by decide +kernel
theorem dX12_goRound_15 : decode cX12_goRound 15 = .ok (.aload_n 0, 1) := by decide +kernel
theorem dX12_goRound_16 : decode cX12_goRound 16 = .ok (.lconst 1, 1) := by decide +kernel
theorem dX12_goRound_17 : decode cX12_goRound 17 = .ok (.putfield 312, 3) := by decide +kernel
theorem dX12_goRound_20 : decode cX12_goRound 20 = .ok (.lconst 1, 1) := by decide +kernel
theorem dX12_goRound_21 : decode cX12_goRound 21 = .ok (.lstore_n 3, 1) := by decide +kernel
theorem dX12_goRound_22 : decode cX12_goRound 22 = .ok (.aload_n 0, 1) := by decide +kernel
theorem dX12_goRound_23 : decode cX12_goRound 23 = .ok (.iload_n 1, 1) := by decide +kernel
theorem dX12_goRound_24 : decode cX12_goRound 24 = .ok (.invokevirtual 282, 3) := by decide +kernel
theorem dX12_goRound_27 : decode cX12_goRound 27 = .ok (.istore 5, 2) := by decide +kernel
theorem dX12_goRound_29 : decode cX12_goRound 29 = .ok (.aload_n 0, 1) := by decide +kernel
theorem dX12_goRound_30 : decode cX12_goRound 30 = .ok (.getfield 303, 3) := by decide +kernel
theorem dX12_goRound_33 : decode cX12_goRound 33 = .ok (.iload_n 2, 1) := by decide +kernel
theorem dX12_goRound_34 : decode cX12_goRound 34 = .ok (.if_icmp .ge 107, 3) := by decide +kernel
theorem dX12_goRound_37 : decode cX12_goRound 37 = .ok (.iload 5, 2) := by decide +kernel
theorem dX12_goRound_39 : decode cX12_goRound 39 = .ok (.iconst (-1), 1) := by decide +kernel
theorem dX12_goRound_40 : decode cX12_goRound 40 = .ok (.if_icmp .eq 101, 3) := by decide +kernel
theorem dX12_goRound_43 : decode cX12_goRound 43 = .ok (.aload_n 0, 1) := by decide +kernel
theorem dX12_goRound_44 : decode cX12_goRound 44 = .ok (.aload_n 0, 1) := by decide +kernel
theorem dX12_goRound_45 : decode cX12_goRound 45 = .ok (.getfield 309, 3) := by decide +kernel
theorem dX12_goRound_48 : decode cX12_goRound 48 = .ok (.iload 5, 2) := by decide +kernel
theorem dX12_goRound_50 : decode cX12_goRound 50 = .ok (.invokevirtual 285, 3) := by decide +kernel
theorem dX12_goRound_53 : decode cX12_goRound 53 = .ok (.ifCond .ne 88, 3) := by decide +kernel
theorem dX12_goRound_56 : decode cX12_goRound 56 = .ok (.aload_n 0, 1) := by decide +kernel
theorem dX12_goRound_57 : decode cX12_goRound 57 = .ok (.iload 5, 2) := by decide +kernel
theorem dX12_goRound_59 : decode cX12_goRound 59 = .ok (.invokevirtual 316, 3) := by decide +kernel
theorem dX12_goRound_62 : decode cX12_goRound 62 = .ok (.istore 6, 2) := by decide +kernel
theorem dX12_goRound_64 : decode cX12_goRound 64 = .ok (.aload_n 0, 1) := by decide +kernel
theorem dX12_goRound_65 : decode cX12_goRound 65 = .ok (.aload_n 0, 1) := by decide +kernel
theorem dX12_goRound_66 : decode cX12_goRound 66 = .ok (.getfield 312, 3) := by decide +kernel
theorem dX12_goRound_69 : decode cX12_goRound 69 = .ok (.bipush 100, 2) := by decide +kernel
theorem dX12_goRound_71 : decode cX12_goRound 71 = .ok (.iload 6, 2) := by decide +kernel
theorem dX12_goRound_73 : decode cX12_goRound 73 = .ok (.isub, 1) := by decide +kernel
theorem dX12_goRound_74 : decode cX12_goRound 74 = .ok (.i2l, 1) := by decide +kernel
theorem dX12_goRound_75 : decode cX12_goRound 75 = .ok (.lmul, 1) := by decide +kernel
theorem dX12_goRound_76 : decode cX12_goRound 76 = .ok (.lload_n 3, 1) := by decide +kernel
theorem dX12_goRound_77 : decode cX12_goRound 77 = .ok (.aload_n 0, 1) := by decide +kernel
theorem dX12_goRound_78 : decode cX12_goRound 78 = .ok (.getfield 312, 3) := by decide +kernel
theorem dX12_goRound_81 : decode cX12_goRound 81 = .ok (.lsub, 1) := by decide +kernel
theorem dX12_goRound_82 : decode cX12_goRound 82 = .ok (.iload 6, 2) := by decide +kernel
theorem dX12_goRound_84 : decode cX12_goRound 84 = .ok (.i2l, 1) := by decide +kernel
theorem dX12_goRound_85 : decode cX12_goRound 85 = .ok (.lmul, 1) := by decide +kernel
theorem dX12_goRound_86 : decode cX12_goRound 86 = .ok (.ladd, 1) := by decide +kernel
theorem dX12_goRound_87 : decode cX12_goRound 87 = .ok (.putfield 312, 3) := by decide +kernel
theorem dX12_goRound_90 : decode cX12_goRound 90 = .ok (.lload_n 3, 1) := by decide +kernel
theorem dX12_goRound_91 : decode cX12_goRound 91 = .ok (.ldc2_w 319, 3) := by decide +kernel
theorem dX12_goRound_94 : decode cX12_goRound 94 = .ok (.lmul, 1) := by decide +kernel
theorem dX12_goRound_95 : decode cX12_goRound 95 = .ok (.lstore_n 3, 1) := by decide +kernel
theorem dX12_goRound_96 : decode cX12_goRound 96 = .ok (.aload_n 0, 1) := by decide +kernel
theorem dX12_goRound_97 : decode cX12_goRound 97 = .ok (.dup, 1) := by decide +kernel
theorem dX12_goRound_98 : decode cX12_goRound 98 = .ok (.getfield 306, 3) := by decide +kernel
theorem dX12_goRound_101 : decode cX12_goRound 101 = .ok (.aload_n 0, 1) := by decide +kernel
theorem dX12_goRound_102 : decode cX12_goRound 102 = .ok (.iload 5, 2) := by decide +kernel
theorem dX12_goRound_104 : decode cX12_goRound 104 = .ok (.iconst 1, 1) := by decide +kernel
theorem dX12_goRound_105 : decode cX12_goRound 105 = .ok (.invokevirtual 258, 3) := by decide +kernel
theorem dX12_goRound_108 : decode cX12_goRound 108 = .ok (.iadd, 1) := by decide +kernel
theorem dX12_goRound_109 : decode cX12_goRound 109 = .ok (.putfield 306, 3) := by decide +kernel
theorem dX12_goRound_112 : decode cX12_goRound 112 = .ok (.aload_n 0, 1) := by decide +kernel
theorem dX12_goRound_113 : decode cX12_goRound 113 = .ok (.iload 5, 2) := by decide +kernel
theorem dX12_goRound_115 : decode cX12_goRound 115 = .ok (.putfield 309, 3) := by decide +kernel
theorem dX12_goRound_118 : decode cX12_goRound 118 = .ok (.aload_n 0, 1) := by decide +kernel
theorem dX12_goRound_119 : decode cX12_goRound 119 = .ok (.dup, 1) := by decide +kernel
theorem dX12_goRound_120 : decode cX12_goRound 120 = .ok (.getfield 303, 3) := by decide +kernel
theorem dX12_goRound_123 : decode cX12_goRound 123 = .ok (.iconst 1, 1) := by decide +kernel
theorem dX12_goRound_124 : decode cX12_goRound 124 = .ok (.iadd, 1) := by decide +kernel
theorem dX12_goRound_125 : decode cX12_goRound 125 = .ok (.putfield 303, 3) := by decide +kernel
theorem dX12_goRound_128 : decode cX12_goRound 128 = .ok (.aload_n 0, 1) := by decide +kernel
theorem dX12_goRound_129 : decode cX12_goRound 129 = .ok (.aload_n 0, 1) := by decide +kernel
theorem dX12_goRound_130 : decode cX12_goRound 130 = .ok (.getfield 309, 3) := by decide +kernel
theorem dX12_goRound_133 : decode cX12_goRound 133 = .ok (.invokevirtual 282, 3) := by decide +kernel
theorem dX12_goRound_136 : decode cX12_goRound 136 = .ok (.istore 5, 2) := by decide +kernel
theorem dX12_goRound_138 : decode cX12_goRound 138 = .ok (.goto (-109), 3) := by decide +kernel
theorem dX12_goRound_141 : decode cX12_goRound 141 = .ok (.return_, 1) := by decide +kernel
theorem dX12_round_0 : decode cX12_round 0 = .ok (.aload_n 0, 1) := by decide +kernel
theorem dX12_round_1 : decode cX12_round 1 = .ok (.iload_n 1, 1) := by decide +kernel
theorem dX12_round_2 : decode cX12_round 2 = .ok (.invokevirtual 288, 3) := by decide +kernel
theorem dX12_round_5 : decode cX12_round 5 = .ok (.ifCond .eq 32, 3) := by decide +kernel
theorem dX12_round_8 : decode cX12_round 8 = .ok (.aload_n 0, 1) := by decide +kernel
theorem dX12_round_9 : decode cX12_round 9 = .ok (.iload_n 1, 1) := by decide +kernel
theorem dX12_round_10 : decode cX12_round 10 = .ok (.iconst 3, 1) := by decide +kernel
theorem dX12_round_11 : decode cX12_round 11 = .ok (.invokevirtual 258, 3) := by decide +kernel
theorem dX12_round_14 : decode cX12_round 14 = .ok (.iconst 1, 1) := by decide +kernel
theorem dX12_round_15 : decode cX12_round 15 = .ok (.if_icmp .eq 22, 3) := by decide +kernel
theorem dX12_round_18 : decode cX12_round 18 = .ok (.iload_n 2, 1) := by decide +kernel
theorem dX12_round_19 : decode cX12_round 19 = .ok (.iconst 0, 1) := by decide +kernel
theorem dX12_round_20 : decode cX12_round 20 = .ok (.bipush 7, 2) := by decide +kernel
theorem dX12_round_22 : decode cX12_round 22 = .ok (.invokestatic 215, 3) := by decide +kernel
theorem dX12_round_25 : decode cX12_round 25 = .ok (.ifCond .eq 12, 3) := by decide +kernel
theorem dX12_round_28 : decode cX12_round 28 = .ok (.iload_n 3, 1) := by decide +kernel
theorem dX12_round_29 : decode cX12_round 29 = .ok (.iconst 0, 1) := by decide +kernel
theorem dX12_round_30 : decode cX12_round 30 = .ok (.iconst 2, 1) := by decide +kernel
theorem dX12_round_31 : decode cX12_round 31 = .ok (.invokestatic 215, 3) := by decide +kernel
theorem dX12_round_34 : decode cX12_round 34 = .ok (.ifCond .ne 7, 3) := by decide +kernel
theorem dX12_round_37 : decode cX12_round 37 = .ok (.ldc2_w 321, 3) := by decide +kernel
theorem dX12_round_40 : decode cX12_round 40 = .ok (.lreturn, 1) := by decide +kernel
theorem dX12_round_41 : decode cX12_round 41 = .ok (.aload_n 0, 1) := by decide +kernel
theorem dX12_round_42 : decode cX12_round 42 = .ok (.iload_n 1, 1) := by decide +kernel
theorem dX12_round_43 : decode cX12_round 43 = .ok (.iload_n 2, 1) := by decide +kernel
theorem dX12_round_44 : decode cX12_round 44 = .ok (.invokevirtual 323, 3) := by decide +kernel
theorem dX12_round_47 : decode cX12_round 47 = .ok (.aload_n 0, 1) := by decide +kernel
theorem dX12_round_48 : decode cX12_round 48 = .ok (.getfield 303, 3) := by decide +kernel
theorem dX12_round_51 : decode cX12_round 51 = .ok (.iload_n 2, 1) := by decide +kernel
theorem dX12_round_52 : decode cX12_round 52 = .ok (.if_icmp .ge 9, 3) := by decide +kernel
theorem dX12_round_55 : decode cX12_round 55 = .ok (.ldc2_w 321, 3) := by decide +kernel
theorem dX12_round_58 : decode cX12_round 58 = .ok (.goto 36, 3) := by decide +kernel
theorem dX12_round_61 : decode cX12_round 61 = .ok (.iload_n 3, 1) := by decide +kernel
theorem dX12_round_62 : decode cX12_round 62 = .ok (.ifCond .ne 15, 3) := by decide +kernel
theorem dX12_round_65 : decode cX12_round 65 = .ok (.aload_n 0, 1) := by decide +kernel
theorem dX12_round_66 : decode cX12_round 66 = .ok (.aload_n 0, 1) := by decide +kernel
theorem dX12_round_67 : decode cX12_round 67 = .ok (.getfield 309, 3) := by decide +kernel
theorem dX12_round_70 : decode cX12_round 70 = .ok (.invokevirtual 276, 3) := by decide +kernel
theorem dX12_round_73 : decode cX12_round 73 = .ok (.i2l, 1) := by decide +kernel
theorem dX12_round_74 : decode cX12_round 74 = .ok (.goto 20, 3) := by decide +kernel
theorem dX12_round_77 : decode cX12_round 77 = .ok (.iload_n 3, 1) := by decide +kernel
theorem dX12_round_78 : decode cX12_round 78 = .ok (.iconst 1, 1) := by decide +kernel
theorem dX12_round_79 : decode cX12_round 79 = .ok (.if_icmp .ne 11, 3) := by decide +kernel
theorem dX12_round_82 : decode cX12_round 82 = .ok (.aload_n 0, 1) := by decide +kernel
theorem dX12_round_83 : decode cX12_round 83 = .ok (.getfield 306, 3) := by decide +kernel
theorem dX12_round_86 : decode cX12_round 86 = .ok (.i2l, 1) := by decide +kernel
theorem dX12_round_87 : decode cX12_round 87 = .ok (.goto 7, 3) := by decide +kernel
theorem dX12_round_90 : decode cX12_round 90 = .ok (.aload_n 0, 1) := by decide +kernel
theorem dX12_round_91 : decode cX12_round 91 = .ok (.getfield 312, 3) := by decide +kernel
theorem dX12_round_94 : decode cX12_round 94 = .ok (.lreturn, 1) := by decide +kernel
theorem dX12_heardMany_0 : decode cX12_heardMany 0 = .ok (.iconst 0, 1) := by decide +kernel
theorem dX12_heardMany_1 : decode cX12_heardMany 1 = .ok (.istore_n 1, 1) := by decide +kernel
theorem dX12_heardMany_2 : decode cX12_heardMany 2 = .ok (.iconst 0, 1) := by decide +kernel
theorem dX12_heardMany_3 : decode cX12_heardMany 3 = .ok (.istore_n 2, 1) := by decide +kernel
theorem dX12_heardMany_4 : decode cX12_heardMany 4 = .ok (.iload_n 2, 1) := by decide +kernel
theorem dX12_heardMany_5 : decode cX12_heardMany 5 = .ok (.aload_n 0, 1) := by decide +kernel
theorem dX12_heardMany_6 : decode cX12_heardMany 6 = .ok (.getfield 252, 3) := by decide +kernel
theorem dX12_heardMany_9 : decode cX12_heardMany 9 = .ok (.if_icmp .ge 25, 3) := by decide +kernel
theorem dX12_heardMany_12 : decode cX12_heardMany 12 = .ok (.iload_n 1, 1) := by decide +kernel
theorem dX12_heardMany_13 : decode cX12_heardMany 13 = .ok (.aload_n 0, 1) := by decide +kernel
theorem dX12_heardMany_14 : decode cX12_heardMany 14 = .ok (.iload_n 2, 1) := by decide +kernel
theorem dX12_heardMany_15 : decode cX12_heardMany 15 = .ok (.invokevirtual 291, 3) := by decide +kernel
theorem dX12_heardMany_18 : decode cX12_heardMany 18 = .ok (.ifCond .eq 7, 3) := by decide +kernel
theorem dX12_heardMany_21 : decode cX12_heardMany 21 = .ok (.iconst 1, 1) := by decide +kernel
theorem dX12_heardMany_22 : decode cX12_heardMany 22 = .ok (.goto 4, 3) := by decide +kernel
theorem dX12_heardMany_25 : decode cX12_heardMany 25 = .ok (.iconst 0, 1) := by decide +kernel
theorem dX12_heardMany_26 : decode cX12_heardMany 26 = .ok (.iadd, 1) := by decide +kernel
theorem dX12_heardMany_27 : decode cX12_heardMany 27 = .ok (.istore_n 1, 1) := by decide +kernel
theorem dX12_heardMany_28 : decode cX12_heardMany 28 = .ok (.iinc 2 1, 3) := by decide +kernel
theorem dX12_heardMany_31 : decode cX12_heardMany 31 = .ok (.goto (-27), 3) := by decide +kernel
theorem dX12_heardMany_34 : decode cX12_heardMany 34 = .ok (.iload_n 1, 1) := by decide +kernel
theorem dX12_heardMany_35 : decode cX12_heardMany 35 = .ok (.ireturn, 1) := by decide +kernel
theorem dX12_yesMany_0 : decode cX12_yesMany 0 = .ok (.iconst 0, 1) := by decide +kernel
theorem dX12_yesMany_1 : decode cX12_yesMany 1 = .ok (.istore_n 2, 1) := by decide +kernel
theorem dX12_yesMany_2 : decode cX12_yesMany 2 = .ok (.iconst 0, 1) := by decide +kernel
theorem dX12_yesMany_3 : decode cX12_yesMany 3 = .ok (.istore_n 3, 1) := by decide +kernel
theorem dX12_yesMany_4 : decode cX12_yesMany 4 = .ok (.iload_n 3, 1) := by decide +kernel
theorem dX12_yesMany_5 : decode cX12_yesMany 5 = .ok (.aload_n 0, 1) := by decide +kernel
theorem dX12_yesMany_6 : decode cX12_yesMany 6 = .ok (.getfield 252, 3) := by decide +kernel
theorem dX12_yesMany_9 : decode cX12_yesMany 9 = .ok (.if_icmp .ge 43, 3) := by decide +kernel
theorem dX12_yesMany_12 : decode cX12_yesMany 12 = .ok (.iload_n 2, 1) := by decide +kernel
theorem dX12_yesMany_13 : decode cX12_yesMany 13 = .ok (.aload_n 0, 1) := by decide +kernel
theorem dX12_yesMany_14 : decode cX12_yesMany 14 = .ok (.iload_n 3, 1) := by decide +kernel
theorem dX12_yesMany_15 : decode cX12_yesMany 15 = .ok (.invokevirtual 291, 3) := by decide +kernel
theorem dX12_yesMany_18 : decode cX12_yesMany 18 = .ok (.ifCond .eq 25, 3) := by decide +kernel
theorem dX12_yesMany_21 : decode cX12_yesMany 21 = .ok (.aload_n 0, 1) := by decide +kernel
theorem dX12_yesMany_22 : decode cX12_yesMany 22 = .ok (.iload_n 3, 1) := by decide +kernel
theorem dX12_yesMany_23 : decode cX12_yesMany 23 = .ok (.iconst 0, 1) := by decide +kernel
theorem dX12_yesMany_24 : decode cX12_yesMany 24 = .ok (.invokevirtual 258, 3) := by decide +kernel
theorem dX12_yesMany_27 : decode cX12_yesMany 27 = .ok (.iconst 1, 1) := by decide +kernel
theorem dX12_yesMany_28 : decode cX12_yesMany 28 = .ok (.if_icmp .eq 11, 3) := by decide +kernel
theorem dX12_yesMany_31 : decode cX12_yesMany 31 = .ok (.iload_n 1, 1) := by decide +kernel
theorem dX12_yesMany_32 : decode cX12_yesMany 32 = .ok (.iload_n 3, 1) := by decide +kernel
theorem dX12_yesMany_33 : decode cX12_yesMany 33 = .ok (.invokestatic 228, 3) := by decide +kernel
theorem dX12_yesMany_36 : decode cX12_yesMany 36 = .ok (.ifCond .eq 7, 3) := by decide +kernel
theorem dX12_yesMany_39 : decode cX12_yesMany 39 = .ok (.iconst 1, 1) := by decide +kernel
theorem dX12_yesMany_40 : decode cX12_yesMany 40 = .ok (.goto 4, 3) := by decide +kernel
theorem dX12_yesMany_43 : decode cX12_yesMany 43 = .ok (.iconst 0, 1) := by decide +kernel
theorem dX12_yesMany_44 : decode cX12_yesMany 44 = .ok (.iadd, 1) := by decide +kernel
theorem dX12_yesMany_45 : decode cX12_yesMany 45 = .ok (.istore_n 2, 1) := by decide +kernel
theorem dX12_yesMany_46 : decode cX12_yesMany 46 = .ok (.iinc 3 1, 3) := by decide +kernel
theorem dX12_yesMany_49 : decode cX12_yesMany 49 = .ok (.goto (-45), 3) := by decide +kernel
theorem dX12_yesMany_52 : decode cX12_yesMany 52 = .ok (.iload_n 2, 1) := by decide +kernel
theorem dX12_yesMany_53 : decode cX12_yesMany 53 = .ok (.ireturn, 1) := by decide +kernel
theorem dX12_tally_0 : decode cX12_tally 0 = .ok (.aload_n 0, 1) := by decide +kernel
theorem dX12_tally_1 : decode cX12_tally 1 = .ok (.getfield 252, 3) := by decide +kernel
theorem dX12_tally_4 : decode cX12_tally 4 = .ok (.ifCond .eq 12, 3) := by decide +kernel
theorem dX12_tally_7 : decode cX12_tally 7 = .ok (.iload_n 1, 1) := by decide +kernel
theorem dX12_tally_8 : decode cX12_tally 8 = .ok (.iconst 0, 1) := by decide +kernel
theorem dX12_tally_9 : decode cX12_tally 9 = .ok (.iconst 1, 1) := by decide +kernel
theorem dX12_tally_10 : decode cX12_tally 10 = .ok (.invokestatic 215, 3) := by decide +kernel
theorem dX12_tally_13 : decode cX12_tally 13 = .ok (.ifCond .ne 7, 3) := by decide +kernel
theorem dX12_tally_16 : decode cX12_tally 16 = .ok (.iconst (-1), 1) := by decide +kernel
theorem dX12_tally_17 : decode cX12_tally 17 = .ok (.goto 19, 3) := by decide +kernel
theorem dX12_tally_20 : decode cX12_tally 20 = .ok (.iload_n 1, 1) := by decide +kernel
theorem dX12_tally_21 : decode cX12_tally 21 = .ok (.ifCond .ne 10, 3) := by decide +kernel
theorem dX12_tally_24 : decode cX12_tally 24 = .ok (.aload_n 0, 1) := by decide +kernel
theorem dX12_tally_25 : decode cX12_tally 25 = .ok (.invokevirtual 326, 3) := by decide +kernel
theorem dX12_tally_28 : decode cX12_tally 28 = .ok (.goto 8, 3) := by decide +kernel
theorem dX12_tally_31 : decode cX12_tally 31 = .ok (.aload_n 0, 1) := by decide +kernel
theorem dX12_tally_32 : decode cX12_tally 32 = .ok (.iconst 0, 1) := by decide +kernel
theorem dX12_tally_33 : decode cX12_tally 33 = .ok (.invokevirtual 329, 3) := by decide +kernel
theorem dX12_tally_36 : decode cX12_tally 36 = .ok (.ireturn, 1) := by decide +kernel
theorem dX12_layParts_0 : decode cX12_layParts 0 = .ok (.iconst 0, 1) := by decide +kernel
theorem dX12_layParts_1 : decode cX12_layParts 1 = .ok (.istore_n 2, 1) := by decide +kernel
theorem dX12_layParts_2 : decode cX12_layParts 2 = .ok (.iload_n 2, 1) := by decide +kernel
theorem dX12_layParts_3 : decode cX12_layParts 3 = .ok (.bipush 7, 2) := by decide +kernel
theorem dX12_layParts_5 : decode cX12_layParts 5 = .ok (.if_icmp .gt 24, 3) := by decide +kernel
theorem dX12_layParts_8 : decode cX12_layParts 8 = .ok (.aload_n 0, 1) := by decide +kernel
theorem dX12_layParts_9 : decode cX12_layParts 9 = .ok (.getfield 53, 3) := by decide +kernel
theorem dX12_layParts_12 : decode cX12_layParts 12 = .ok (.iload_n 2, 1) := by decide +kernel
theorem dX12_layParts_13 : decode cX12_layParts 13 = .ok (.iload_n 2, 1) := by decide +kernel
theorem dX12_layParts_14 : decode cX12_layParts 14 = .ok (.ifCond .ne 7, 3) := by decide +kernel
theorem dX12_layParts_17 : decode cX12_layParts 17 = .ok (.lconst 1, 1) := by decide +kernel
theorem dX12_layParts_18 : decode cX12_layParts 18 = .ok (.goto 4, 3) := by decide +kernel
theorem dX12_layParts_21 : decode cX12_layParts 21 = .ok (.lconst 0, 1) := by decide +kernel
theorem dX12_layParts_22 : decode cX12_layParts 22 = .ok (.lastore, 1) := by decide +kernel
theorem dX12_layParts_23 : decode cX12_layParts 23 = .ok (.iinc 2 1, 3) := by decide +kernel
theorem dX12_layParts_26 : decode cX12_layParts 26 = .ok (.goto (-24), 3) := by decide +kernel
theorem dX12_layParts_29 : decode cX12_layParts 29 = .ok (.iconst 0, 1) := by decide +kernel
theorem dX12_layParts_30 : decode cX12_layParts 30 = .ok (.istore_n 2, 1) := by decide +kernel
theorem dX12_layParts_31 : decode cX12_layParts 31 = .ok (.iload_n 2, 1) := by decide +kernel
theorem dX12_layParts_32 : decode cX12_layParts 32 = .ok (.aload_n 0, 1) := by decide +kernel
theorem dX12_layParts_33 : decode cX12_layParts 33 = .ok (.getfield 252, 3) := by decide +kernel
theorem dX12_layParts_36 : decode cX12_layParts 36 = .ok (.if_icmp .ge 115, 3) := by decide +kernel
theorem dX12_layParts_39 : decode cX12_layParts 39 = .ok (.aload_n 0, 1) := by decide +kernel
theorem dX12_layParts_40 : decode cX12_layParts 40 = .ok (.iload_n 2, 1) := by decide +kernel
theorem dX12_layParts_41 : decode cX12_layParts 41 = .ok (.invokevirtual 291, 3) := by decide +kernel
theorem dX12_layParts_44 : decode cX12_layParts 44 = .ok (.ifCond .eq 101, 3) := by decide +kernel
theorem dX12_layParts_47 : decode cX12_layParts 47 = .ok (.iload_n 2, 1) := by decide +kernel
theorem dX12_layParts_48 : decode cX12_layParts 48 = .ok (.iload_n 1, 1) := by decide +kernel
theorem dX12_layParts_49 : decode cX12_layParts 49 = .ok (.if_icmp .ne 7, 3) := by decide +kernel
theorem dX12_layParts_52 : decode cX12_layParts 52 = .ok (.iconst 0, 1) := by decide +kernel
theorem dX12_layParts_53 : decode cX12_layParts 53 = .ok (.goto 12, 3) := by decide +kernel
theorem dX12_layParts_56 : decode cX12_layParts 56 = .ok (.aload_n 0, 1) := by decide +kernel
theorem dX12_layParts_57 : decode cX12_layParts 57 = .ok (.aload_n 0, 1) := by decide +kernel
theorem dX12_layParts_58 : decode cX12_layParts 58 = .ok (.iload_n 2, 1) := by decide +kernel
theorem dX12_layParts_59 : decode cX12_layParts 59 = .ok (.invokevirtual 282, 3) := by decide +kernel
theorem dX12_layParts_62 : decode cX12_layParts 62 = .ok (.invokevirtual 316, 3) := by decide +kernel
theorem dX12_layParts_65 : decode cX12_layParts 65 = .ok (.istore_n 3, 1) := by decide +kernel
theorem dX12_layParts_66 : decode cX12_layParts 66 = .ok (.aload_n 0, 1) := by decide +kernel
theorem dX12_layParts_67 : decode cX12_layParts 67 = .ok (.iload_n 2, 1) := by decide +kernel
theorem dX12_layParts_68 : decode cX12_layParts 68 = .ok (.iconst 0, 1) := by decide +kernel
theorem dX12_layParts_69 : decode cX12_layParts 69 = .ok (.invokevirtual 258, 3) := by decide +kernel
theorem dX12_layParts_72 : decode cX12_layParts 72 = .ok (.iconst 1, 1) := by decide +kernel
theorem dX12_layParts_73 : decode cX12_layParts 73 = .ok (.if_icmp .ne 10, 3) := by decide +kernel
theorem dX12_layParts_76 : decode cX12_layParts 76 = .ok (.bipush 100, 2) := by decide +kernel
theorem dX12_layParts_78 : decode cX12_layParts 78 = .ok (.iload_n 3, 1) := by decide +kernel
theorem dX12_layParts_79 : decode cX12_layParts 79 = .ok (.isub, 1) := by decide +kernel
theorem dX12_layParts_80 : decode cX12_layParts 80 = .ok (.goto 4, 3) := by decide +kernel
theorem dX12_layParts_83 : decode cX12_layParts 83 = .ok (.iload_n 3, 1) := by decide +kernel
theorem dX12_layParts_84 : decode cX12_layParts 84 = .ok (.istore 4, 2) := by decide +kernel
theorem dX12_layParts_86 : decode cX12_layParts 86 = .ok (.bipush 7, 2) := by decide +kernel
theorem dX12_layParts_88 : decode cX12_layParts 88 = .ok (.istore 5, 2) := by decide +kernel
theorem dX12_layParts_90 : decode cX12_layParts 90 = .ok (.iload 5, 2) := by decide +kernel
theorem dX12_layParts_92 : decode cX12_layParts 92 = .ok (.ifCond .lt 53, 3) := by decide +kernel
theorem dX12_layParts_95 : decode cX12_layParts 95 = .ok (.aload_n 0, 1) := by decide +kernel
theorem dX12_layParts_96 : decode cX12_layParts 96 = .ok (.getfield 53, 3) := by decide +kernel
theorem dX12_layParts_99 : decode cX12_layParts 99 = .ok (.iload 5, 2) := by decide +kernel
theorem dX12_layParts_101 : decode cX12_layParts 101 = .ok (.aload_n 0, 1) := by decide +kernel
theorem dX12_layParts_102 : decode cX12_layParts 102 = .ok (.getfield 53, 3) := by decide +kernel
theorem dX12_layParts_105 : decode cX12_layParts 105 = .ok (.iload 5, 2) := by decide +kernel
theorem dX12_layParts_107 : decode cX12_layParts 107 = .ok (.laload, 1) := by decide +kernel
theorem dX12_layParts_108 : decode cX12_layParts 108 = .ok (.bipush 100, 2) := by decide +kernel
theorem dX12_layParts_110 : decode cX12_layParts 110 = .ok (.iload 4, 2) := by decide +kernel
theorem dX12_layParts_112 : decode cX12_layParts 112 = .ok (.isub, 1) := by decide +kernel
theorem dX12_layParts_113 : decode cX12_layParts 113 = .ok (.i2l, 1) := by decide +kernel
theorem dX12_layParts_114 : decode cX12_layParts 114 = .ok (.lmul, 1) := by decide +kernel
theorem dX12_layParts_115 : decode cX12_layParts 115 = .ok (.iload 5, 2) := by decide +kernel
theorem dX12_layParts_117 : decode cX12_layParts 117 = .ok (.ifCond .le 19, 3) := by decide +kernel
theorem dX12_layParts_120 : decode cX12_layParts 120 = .ok (.aload_n 0, 1) := by decide +kernel
theorem dX12_layParts_121 : decode cX12_layParts 121 = .ok (.getfield 53, 3) := by decide +kernel
theorem dX12_layParts_124 : decode cX12_layParts 124 = .ok (.iload 5, 2) := by decide +kernel
theorem dX12_layParts_126 : decode cX12_layParts 126 = .ok (.iconst 1, 1) := by decide +kernel
theorem dX12_layParts_127 : decode cX12_layParts 127 = .ok (.isub, 1) := by decide +kernel
theorem dX12_layParts_128 : decode cX12_layParts 128 = .ok (.laload, 1) := by decide +kernel
theorem dX12_layParts_129 : decode cX12_layParts 129 = .ok (.iload 4, 2) := by decide +kernel
theorem dX12_layParts_131 : decode cX12_layParts 131 = .ok (.i2l, 1) := by decide +kernel
theorem dX12_layParts_132 : decode cX12_layParts 132 = .ok (.lmul, 1) := by decide +kernel
theorem dX12_layParts_133 : decode cX12_layParts 133 = .ok (.goto 4, 3) := by decide +kernel
theorem dX12_layParts_136 : decode cX12_layParts 136 = .ok (.lconst 0, 1) := by decide +kernel
theorem dX12_layParts_137 : decode cX12_layParts 137 = .ok (.ladd, 1) := by decide +kernel
theorem dX12_layParts_138 : decode cX12_layParts 138 = .ok (.lastore, 1) := by decide +kernel
theorem dX12_layParts_139 : decode cX12_layParts 139 = .ok (.iinc 5 (-1), 3) := by decide +kernel
theorem dX12_layParts_142 : decode cX12_layParts 142 = .ok (.goto (-52), 3) := by decide +kernel
theorem dX12_layParts_145 : decode cX12_layParts 145 = .ok (.iinc 2 1, 3) := by decide +kernel
theorem dX12_layParts_148 : decode cX12_layParts 148 = .ok (.goto (-117), 3) := by decide +kernel
theorem dX12_layParts_151 : decode cX12_layParts 151 = .ok (.return_, 1) := by decide +kernel
theorem dX12_odds_0 : decode cX12_odds 0 = .ok (.aload_n 0, 1) := by decide +kernel
theorem dX12_odds_1 : decode cX12_odds 1 = .ok (.getfield 252, 3) := by decide +kernel
theorem dX12_odds_4 : decode cX12_odds 4 = .ok (.ifCond .eq 7, 3) := by decide +kernel
theorem dX12_odds_7 : decode cX12_odds 7 = .ok (.iload_n 1, 1) := by decide +kernel
theorem dX12_odds_8 : decode cX12_odds 8 = .ok (.ifCond .ge 7, 3) := by decide +kernel
theorem dX12_odds_11 : decode cX12_odds 11 = .ok (.ldc2_w 321, 3) := by decide +kernel
theorem dX12_odds_14 : decode cX12_odds 14 = .ok (.lreturn, 1) := by decide +kernel
theorem dX12_odds_15 : decode cX12_odds 15 = .ok (.aload_n 0, 1) := by decide +kernel
theorem dX12_odds_16 : decode cX12_odds 16 = .ok (.iconst (-1), 1) := by decide +kernel
theorem dX12_odds_17 : decode cX12_odds 17 = .ok (.invokevirtual 332, 3) := by decide +kernel
theorem dX12_odds_20 : decode cX12_odds 20 = .ok (.iload_n 1, 1) := by decide +kernel
theorem dX12_odds_21 : decode cX12_odds 21 = .ok (.bipush 7, 2) := by decide +kernel
theorem dX12_odds_23 : decode cX12_odds 23 = .ok (.if_icmp .le 7, 3) := by decide +kernel
theorem dX12_odds_26 : decode cX12_odds 26 = .ok (.lconst 0, 1) := by decide +kernel
theorem dX12_odds_27 : decode cX12_odds 27 = .ok (.goto 9, 3) := by decide +kernel
theorem dX12_odds_30 : decode cX12_odds 30 = .ok (.aload_n 0, 1) := by decide +kernel
theorem dX12_odds_31 : decode cX12_odds 31 = .ok (.getfield 53, 3) := by decide +kernel
theorem dX12_odds_34 : decode cX12_odds 34 = .ok (.iload_n 1, 1) := by decide +kernel
theorem dX12_odds_35 : decode cX12_odds 35 = .ok (.laload, 1) := by decide +kernel
theorem dX12_odds_36 : decode cX12_odds 36 = .ok (.lreturn, 1) := by decide +kernel
theorem dX12_passedParts_0 : decode cX12_passedParts 0 = .ok (.lconst 0, 1) := by decide +kernel
theorem dX12_passedParts_1 : decode cX12_passedParts 1 = .ok (.lstore_n 2, 1) := by decide +kernel
theorem dX12_passedParts_2 : decode cX12_passedParts 2 = .ok (.aload_n 0, 1) := by decide +kernel
theorem dX12_passedParts_3 : decode cX12_passedParts 3 = .ok (.invokevirtual 326, 3) := by decide +kernel
theorem dX12_passedParts_6 : decode cX12_passedParts 6 = .ok (.istore 4, 2) := by decide +kernel
theorem dX12_passedParts_8 : decode cX12_passedParts 8 = .ok (.iconst 0, 1) := by decide +kernel
theorem dX12_passedParts_9 : decode cX12_passedParts 9 = .ok (.istore 5, 2) := by decide +kernel
theorem dX12_passedParts_11 : decode cX12_passedParts 11 = .ok (.iload 5, 2) := by decide +kernel
theorem dX12_passedParts_13 : decode cX12_passedParts 13 = .ok (.iload 4, 2) := by decide +kernel
theorem dX12_passedParts_15 : decode cX12_passedParts 15 = .ok (.if_icmp .gt 41, 3) := by decide +kernel
theorem dX12_passedParts_18 : decode cX12_passedParts 18 = .ok (.lload_n 2, 1) := by decide +kernel
theorem dX12_passedParts_19 : decode cX12_passedParts 19 = .ok (.iconst 2, 1) := by decide +kernel
theorem dX12_passedParts_20 : decode cX12_passedParts 20 = .ok (.iload 5, 2) := by decide +kernel
theorem dX12_passedParts_22 : decode cX12_passedParts 22 = .ok (.imul, 1) := by decide +kernel
theorem dX12_passedParts_23 : decode cX12_passedParts 23 = .ok (.iload 4, 2) := by decide +kernel
theorem dX12_passedParts_25 : decode cX12_passedParts 25 = .ok (.if_icmp .le 7, 3) := by decide +kernel
theorem dX12_passedParts_28 : decode cX12_passedParts 28 = .ok (.iconst 1, 1) := by decide +kernel
theorem dX12_passedParts_29 : decode cX12_passedParts 29 = .ok (.goto 4, 3) := by decide +kernel
theorem dX12_passedParts_32 : decode cX12_passedParts 32 = .ok (.iconst 0, 1) := by decide +kernel
theorem dX12_passedParts_33 : decode cX12_passedParts 33 = .ok (.iload_n 1, 1) := by decide +kernel
theorem dX12_passedParts_34 : decode cX12_passedParts 34 = .ok (.if_icmp .ne 13, 3) := by decide +kernel
theorem dX12_passedParts_37 : decode cX12_passedParts 37 = .ok (.aload_n 0, 1) := by decide +kernel
theorem dX12_passedParts_38 : decode cX12_passedParts 38 = .ok (.getfield 53, 3) := by decide +kernel
theorem dX12_passedParts_41 : decode cX12_passedParts 41 = .ok (.iload 5, 2) := by decide +kernel
theorem dX12_passedParts_43 : decode cX12_passedParts 43 = .ok (.laload, 1) := by decide +kernel
theorem dX12_passedParts_44 : decode cX12_passedParts 44 = .ok (.goto 4, 3) := by decide +kernel
theorem dX12_passedParts_47 : decode cX12_passedParts 47 = .ok (.lconst 0, 1) := by decide +kernel
theorem dX12_passedParts_48 : decode cX12_passedParts 48 = .ok (.ladd, 1) := by decide +kernel
theorem dX12_passedParts_49 : decode cX12_passedParts 49 = .ok (.lstore_n 2, 1) := by decide +kernel
theorem dX12_passedParts_50 : decode cX12_passedParts 50 = .ok (.iinc 5 1, 3) := by decide +kernel
theorem dX12_passedParts_53 : decode cX12_passedParts 53 = .ok (.goto (-42), 3) := by decide +kernel
theorem dX12_passedParts_56 : decode cX12_passedParts 56 = .ok (.lload_n 2, 1) := by decide +kernel
theorem dX12_passedParts_57 : decode cX12_passedParts 57 = .ok (.lreturn, 1) := by decide +kernel
theorem dX12_passed_0 : decode cX12_passed 0 = .ok (.aload_n 0, 1) := by decide +kernel
theorem dX12_passed_1 : decode cX12_passed 1 = .ok (.getfield 252, 3) := by decide +kernel
theorem dX12_passed_4 : decode cX12_passed 4 = .ok (.ifCond .ne 7, 3) := by decide +kernel
theorem dX12_passed_7 : decode cX12_passed 7 = .ok (.ldc2_w 321, 3) := by decide +kernel
theorem dX12_passed_10 : decode cX12_passed 10 = .ok (.lreturn, 1) := by decide +kernel
theorem dX12_passed_11 : decode cX12_passed 11 = .ok (.aload_n 0, 1) := by decide +kernel
theorem dX12_passed_12 : decode cX12_passed 12 = .ok (.iconst (-1), 1) := by decide +kernel
theorem dX12_passed_13 : decode cX12_passed 13 = .ok (.invokevirtual 332, 3) := by decide +kernel
theorem dX12_passed_16 : decode cX12_passed 16 = .ok (.aload_n 0, 1) := by decide +kernel
theorem dX12_passed_17 : decode cX12_passed 17 = .ok (.iconst 1, 1) := by decide +kernel
theorem dX12_passed_18 : decode cX12_passed 18 = .ok (.invokevirtual 335, 3) := by decide +kernel
theorem dX12_passed_21 : decode cX12_passed 21 = .ok (.lreturn, 1) := by decide +kernel
theorem dX12_doesPass_0 : decode cX12_doesPass 0 = .ok (.iconst 2, 1) := by decide +kernel
theorem dX12_doesPass_1 : decode cX12_doesPass 1 = .ok (.aload_n 0, 1) := by decide +kernel
theorem dX12_doesPass_2 : decode cX12_doesPass 2 = .ok (.iload_n 1, 1) := by decide +kernel
theorem dX12_doesPass_3 : decode cX12_doesPass 3 = .ok (.invokevirtual 329, 3) := by decide +kernel
theorem dX12_doesPass_6 : decode cX12_doesPass 6 = .ok (.imul, 1) := by decide +kernel
theorem dX12_doesPass_7 : decode cX12_doesPass 7 = .ok (.aload_n 0, 1) := by decide +kernel
theorem dX12_doesPass_8 : decode cX12_doesPass 8 = .ok (.invokevirtual 326, 3) := by decide +kernel
theorem dX12_doesPass_11 : decode cX12_doesPass 11 = .ok (.if_icmp .le 7, 3) := by decide +kernel
theorem dX12_doesPass_14 : decode cX12_doesPass 14 = .ok (.iconst 1, 1) := by decide +kernel
theorem dX12_doesPass_15 : decode cX12_doesPass 15 = .ok (.goto 4, 3) := by decide +kernel
theorem dX12_doesPass_18 : decode cX12_doesPass 18 = .ok (.iconst 0, 1) := by decide +kernel
theorem dX12_doesPass_19 : decode cX12_doesPass 19 = .ok (.ireturn, 1) := by decide +kernel
theorem dX12_turner_0 : decode cX12_turner 0 = .ok (.iconst (-1), 1) := by decide +kernel
theorem dX12_turner_1 : decode cX12_turner 1 = .ok (.istore_n 1, 1) := by decide +kernel
theorem dX12_turner_2 : decode cX12_turner 2 = .ok (.lconst 0, 1) := by decide +kernel
theorem dX12_turner_3 : decode cX12_turner 3 = .ok (.lstore_n 2, 1) := by decide +kernel
theorem dX12_turner_4 : decode cX12_turner 4 = .ok (.iconst 0, 1) := by decide +kernel
theorem dX12_turner_5 : decode cX12_turner 5 = .ok (.istore 4, 2) := by decide +kernel
theorem dX12_turner_7 : decode cX12_turner 7 = .ok (.iload 4, 2) := by decide +kernel
theorem dX12_turner_9 : decode cX12_turner 9 = .ok (.aload_n 0, 1) := by decide +kernel
theorem dX12_turner_10 : decode cX12_turner 10 = .ok (.getfield 252, 3) := by decide +kernel
theorem dX12_turner_13 : decode cX12_turner 13 = .ok (.if_icmp .ge 53, 3) := by decide +kernel
theorem dX12_turner_16 : decode cX12_turner 16 = .ok (.aload_n 0, 1) := by decide +kernel
theorem dX12_turner_17 : decode cX12_turner 17 = .ok (.iload 4, 2) := by decide +kernel
theorem dX12_turner_19 : decode cX12_turner 19 = .ok (.invokevirtual 291, 3) := by decide +kernel
theorem dX12_turner_22 : decode cX12_turner 22 = .ok (.ifCond .eq 38, 3) := by decide +kernel
theorem dX12_turner_25 : decode cX12_turner 25 = .ok (.aload_n 0, 1) := by decide +kernel
theorem dX12_turner_26 : decode cX12_turner 26 = .ok (.iload 4, 2) := by decide +kernel
theorem dX12_turner_28 : decode cX12_turner 28 = .ok (.invokevirtual 332, 3) := by decide +kernel
theorem dX12_turner_31 : decode cX12_turner 31 = .ok (.aload_n 0, 1) := by decide +kernel
theorem dX12_turner_32 : decode cX12_turner 32 = .ok (.aload_n 0, 1) := by decide +kernel
theorem dX12_turner_33 : decode cX12_turner 33 = .ok (.iconst 0, 1) := by decide +kernel
theorem dX12_turner_34 : decode cX12_turner 34 = .ok (.invokevirtual 339, 3) := by decide +kernel
theorem dX12_turner_37 : decode cX12_turner 37 = .ok (.invokevirtual 335, 3) := by decide +kernel
theorem dX12_turner_40 : decode cX12_turner 40 = .ok (.lstore 5, 2) := by decide +kernel
theorem dX12_turner_42 : decode cX12_turner 42 = .ok (.iload_n 1, 1) := by decide +kernel
theorem dX12_turner_43 : decode cX12_turner 43 = .ok (.iconst (-1), 1) := by decide +kernel
theorem dX12_turner_44 : decode cX12_turner 44 = .ok (.if_icmp .eq 10, 3) := by decide +kernel
theorem dX12_turner_47 : decode cX12_turner 47 = .ok (.lload 5, 2) := by decide +kernel
theorem dX12_turner_49 : decode cX12_turner 49 = .ok (.lload_n 2, 1) := by decide +kernel
theorem dX12_turner_50 : decode cX12_turner 50 = .ok (.lcmp, 1) := by decide +kernel
theorem dX12_turner_51 : decode cX12_turner 51 = .ok (.ifCond .le 9, 3) := by decide +kernel
theorem dX12_turner_54 : decode cX12_turner 54 = .ok (.iload 4, 2) := by decide +kernel
theorem dX12_turner_56 : decode cX12_turner 56 = .ok (.istore_n 1, 1) := by decide +kernel
theorem dX12_turner_57 : decode cX12_turner 57 = .ok (.lload 5, 2) := by decide +kernel
theorem dX12_turner_59 : decode cX12_turner 59 = .ok (.lstore_n 2, 1) := by decide +kernel
theorem dX12_turner_60 : decode cX12_turner 60 = .ok (.iinc 4 1, 3) := by decide +kernel
theorem dX12_turner_63 : decode cX12_turner 63 = .ok (.goto (-56), 3) := by decide +kernel
theorem dX12_turner_66 : decode cX12_turner 66 = .ok (.iload_n 1, 1) := by decide +kernel
theorem dX12_turner_67 : decode cX12_turner 67 = .ok (.ireturn, 1) := by decide +kernel
theorem dX12_bribe_0 : decode cX12_bribe 0 = .ok (.aload_n 0, 1) := by decide +kernel
theorem dX12_bribe_1 : decode cX12_bribe 1 = .ok (.getfield 252, 3) := by decide +kernel
theorem dX12_bribe_4 : decode cX12_bribe 4 = .ok (.ifCond .eq 12, 3) := by decide +kernel
theorem dX12_bribe_7 : decode cX12_bribe 7 = .ok (.iload_n 1, 1) := by decide +kernel
theorem dX12_bribe_8 : decode cX12_bribe 8 = .ok (.iconst 0, 1) := by decide +kernel
theorem dX12_bribe_9 : decode cX12_bribe 9 = .ok (.iconst 1, 1) := by decide +kernel
theorem dX12_bribe_10 : decode cX12_bribe 10 = .ok (.invokestatic 215, 3) := by decide +kernel
theorem dX12_bribe_13 : decode cX12_bribe 13 = .ok (.ifCond .ne 5, 3) := by decide +kernel
theorem dX12_bribe_16 : decode cX12_bribe 16 = .ok (.iconst (-1), 1) := by decide +kernel
theorem dX12_bribe_17 : decode cX12_bribe 17 = .ok (.ireturn, 1) := by decide +kernel
theorem dX12_bribe_18 : decode cX12_bribe 18 = .ok (.iconst (-1), 1) := by decide +kernel
theorem dX12_bribe_19 : decode cX12_bribe 19 = .ok (.istore_n 2, 1) := by decide +kernel
theorem dX12_bribe_20 : decode cX12_bribe 20 = .ok (.iconst 0, 1) := by decide +kernel
theorem dX12_bribe_21 : decode cX12_bribe 21 = .ok (.istore_n 3, 1) := by decide +kernel
theorem dX12_bribe_22 : decode cX12_bribe 22 = .ok (.iconst 0, 1) := by decide +kernel
theorem dX12_bribe_23 : decode cX12_bribe 23 = .ok (.istore 4, 2) := by decide +kernel
theorem dX12_bribe_25 : decode cX12_bribe 25 = .ok (.iload 4, 2) := by decide +kernel
theorem dX12_bribe_27 : decode cX12_bribe 27 = .ok (.iconst 1, 1) := by decide +kernel
theorem dX12_bribe_28 : decode cX12_bribe 28 = .ok (.aload_n 0, 1) := by decide +kernel
theorem dX12_bribe_29 : decode cX12_bribe 29 = .ok (.getfield 252, 3) := by decide +kernel
theorem dX12_bribe_32 : decode cX12_bribe 32 = .ok (.ishl, 1) := by decide +kernel
theorem dX12_bribe_33 : decode cX12_bribe 33 = .ok (.if_icmp .ge 120, 3) := by decide +kernel
theorem dX12_bribe_36 : decode cX12_bribe 36 = .ok (.iconst 0, 1) := by decide +kernel
theorem dX12_bribe_37 : decode cX12_bribe 37 = .ok (.istore 5, 2) := by decide +kernel
theorem dX12_bribe_39 : decode cX12_bribe 39 = .ok (.iconst 1, 1) := by decide +kernel
theorem dX12_bribe_40 : decode cX12_bribe 40 = .ok (.istore 6, 2) := by decide +kernel
theorem dX12_bribe_42 : decode cX12_bribe 42 = .ok (.iconst 0, 1) := by decide +kernel
theorem dX12_bribe_43 : decode cX12_bribe 43 = .ok (.istore 7, 2) := by decide +kernel
theorem dX12_bribe_45 : decode cX12_bribe 45 = .ok (.iload 7, 2) := by decide +kernel
theorem dX12_bribe_47 : decode cX12_bribe 47 = .ok (.aload_n 0, 1) := by decide +kernel
theorem dX12_bribe_48 : decode cX12_bribe 48 = .ok (.getfield 252, 3) := by decide +kernel
theorem dX12_bribe_51 : decode cX12_bribe 51 = .ok (.if_icmp .ge 65, 3) := by decide +kernel
theorem dX12_bribe_54 : decode cX12_bribe 54 = .ok (.iload 4, 2) := by decide +kernel
theorem dX12_bribe_56 : decode cX12_bribe 56 = .ok (.iload 7, 2) := by decide +kernel
theorem dX12_bribe_58 : decode cX12_bribe 58 = .ok (.invokestatic 228, 3) := by decide +kernel
theorem dX12_bribe_61 : decode cX12_bribe 61 = .ok (.ifCond .eq 49, 3) := by decide +kernel
theorem dX12_bribe_64 : decode cX12_bribe 64 = .ok (.iload 5, 2) := by decide +kernel
theorem dX12_bribe_66 : decode cX12_bribe 66 = .ok (.aload_n 0, 1) := by decide +kernel
theorem dX12_bribe_67 : decode cX12_bribe 67 = .ok (.iload 7, 2) := by decide +kernel
theorem dX12_bribe_69 : decode cX12_bribe 69 = .ok (.bipush 6, 2) := by decide +kernel
theorem dX12_bribe_71 : decode cX12_bribe 71 = .ok (.invokevirtual 258, 3) := by decide +kernel
theorem dX12_bribe_74 : decode cX12_bribe 74 = .ok (.iadd, 1) := by decide +kernel
theorem dX12_bribe_75 : decode cX12_bribe 75 = .ok (.istore 5, 2) := by decide +kernel
theorem dX12_bribe_77 : decode cX12_bribe 77 = .ok (.iload 6, 2) := by decide +kernel
theorem dX12_bribe_79 : decode cX12_bribe 79 = .ok (.ifCond .eq 28, 3) := by decide +kernel
theorem dX12_bribe_82 : decode cX12_bribe 82 = .ok (.aload_n 0, 1) := by decide +kernel
theorem dX12_bribe_83 : decode cX12_bribe 83 = .ok (.iload 7, 2) := by decide +kernel
theorem dX12_bribe_85 : decode cX12_bribe 85 = .ok (.iconst 3, 1) := by decide +kernel
theorem dX12_bribe_86 : decode cX12_bribe 86 = .ok (.invokevirtual 258, 3) := by decide +kernel
theorem dX12_bribe_89 : decode cX12_bribe 89 = .ok (.iconst 1, 1) := by decide +kernel
theorem dX12_bribe_90 : decode cX12_bribe 90 = .ok (.if_icmp .eq 17, 3) := by decide +kernel
theorem dX12_bribe_93 : decode cX12_bribe 93 = .ok (.aload_n 0, 1) := by decide +kernel
theorem dX12_bribe_94 : decode cX12_bribe 94 = .ok (.iload 7, 2) := by decide +kernel
theorem dX12_bribe_96 : decode cX12_bribe 96 = .ok (.iconst 0, 1) := by decide +kernel
theorem dX12_bribe_97 : decode cX12_bribe 97 = .ok (.invokevirtual 258, 3) := by decide +kernel
theorem dX12_bribe_100 : decode cX12_bribe 100 = .ok (.ifCond .ne 7, 3) := by decide +kernel
theorem dX12_bribe_103 : decode cX12_bribe 103 = .ok (.iconst 1, 1) := by decide +kernel
theorem dX12_bribe_104 : decode cX12_bribe 104 = .ok (.goto 4, 3) := by decide +kernel
theorem dX12_bribe_107 : decode cX12_bribe 107 = .ok (.iconst 0, 1) := by decide +kernel
theorem dX12_bribe_108 : decode cX12_bribe 108 = .ok (.istore 6, 2) := by decide +kernel
theorem dX12_bribe_110 : decode cX12_bribe 110 = .ok (.iinc 7 1, 3) := by decide +kernel
theorem dX12_bribe_113 : decode cX12_bribe 113 = .ok (.goto (-68), 3) := by decide +kernel
theorem dX12_bribe_116 : decode cX12_bribe 116 = .ok (.iload 6, 2) := by decide +kernel
theorem dX12_bribe_118 : decode cX12_bribe 118 = .ok (.ifCond .eq 29, 3) := by decide +kernel
theorem dX12_bribe_121 : decode cX12_bribe 121 = .ok (.iload_n 2, 1) := by decide +kernel
theorem dX12_bribe_122 : decode cX12_bribe 122 = .ok (.iconst (-1), 1) := by decide +kernel
theorem dX12_bribe_123 : decode cX12_bribe 123 = .ok (.if_icmp .eq 9, 3) := by decide +kernel
theorem dX12_bribe_126 : decode cX12_bribe 126 = .ok (.iload 5, 2) := by decide +kernel
theorem dX12_bribe_128 : decode cX12_bribe 128 = .ok (.iload_n 3, 1) := by decide +kernel
theorem dX12_bribe_129 : decode cX12_bribe 129 = .ok (.if_icmp .ge 18, 3) := by decide +kernel
theorem dX12_bribe_132 : decode cX12_bribe 132 = .ok (.aload_n 0, 1) := by decide +kernel
theorem dX12_bribe_133 : decode cX12_bribe 133 = .ok (.iload 4, 2) := by decide +kernel
theorem dX12_bribe_135 : decode cX12_bribe 135 = .ok (.invokevirtual 339, 3) := by decide +kernel
theorem dX12_bribe_138 : decode cX12_bribe 138 = .ok (.ifCond .eq 9, 3) := by decide +kernel
theorem dX12_bribe_141 : decode cX12_bribe 141 = .ok (.iload 4, 2) := by decide +kernel
theorem dX12_bribe_143 : decode cX12_bribe 143 = .ok (.istore_n 2, 1) := by decide +kernel
theorem dX12_bribe_144 : decode cX12_bribe 144 = .ok (.iload 5, 2) := by decide +kernel
theorem dX12_bribe_146 : decode cX12_bribe 146 = .ok (.istore_n 3, 1) := by decide +kernel
theorem dX12_bribe_147 : decode cX12_bribe 147 = .ok (.iinc 4 1, 3) := by decide +kernel
theorem dX12_bribe_150 : decode cX12_bribe 150 = .ok (.goto (-125), 3) := by decide +kernel
theorem dX12_bribe_153 : decode cX12_bribe 153 = .ok (.iload_n 2, 1) := by decide +kernel
theorem dX12_bribe_154 : decode cX12_bribe 154 = .ok (.iconst (-1), 1) := by decide +kernel
theorem dX12_bribe_155 : decode cX12_bribe 155 = .ok (.if_icmp .eq 8, 3) := by decide +kernel
theorem dX12_bribe_158 : decode cX12_bribe 158 = .ok (.iload_n 1, 1) := by decide +kernel
theorem dX12_bribe_159 : decode cX12_bribe 159 = .ok (.iconst 1, 1) := by decide +kernel
theorem dX12_bribe_160 : decode cX12_bribe 160 = .ok (.if_icmp .ne 7, 3) := by decide +kernel
theorem dX12_bribe_163 : decode cX12_bribe 163 = .ok (.iload_n 2, 1) := by decide +kernel
theorem dX12_bribe_164 : decode cX12_bribe 164 = .ok (.goto 4, 3) := by decide +kernel
theorem dX12_bribe_167 : decode cX12_bribe 167 = .ok (.iload_n 3, 1) := by decide +kernel
theorem dX12_bribe_168 : decode cX12_bribe 168 = .ok (.ireturn, 1) := by decide +kernel
theorem dX12_layYawns_0 : decode cX12_layYawns 0 = .ok (.iconst 0, 1) := by decide +kernel
theorem dX12_layYawns_1 : decode cX12_layYawns 1 = .ok (.istore_n 2, 1) := by decide +kernel
theorem dX12_layYawns_2 : decode cX12_layYawns 2 = .ok (.iload_n 2, 1) := by decide +kernel
theorem dX12_layYawns_3 : decode cX12_layYawns 3 = .ok (.bipush 7, 2) := by decide +kernel
theorem dX12_layYawns_5 : decode cX12_layYawns 5 = .ok (.if_icmp .ge 25, 3) := by decide +kernel
theorem dX12_layYawns_8 : decode cX12_layYawns 8 = .ok (.aload_n 0, 1) := by decide +kernel
theorem dX12_layYawns_9 : decode cX12_layYawns 9 = .ok (.getfield 57, 3) := by decide +kernel
theorem dX12_layYawns_12 : decode cX12_layYawns 12 = .ok (.iload_n 2, 1) := by decide +kernel
theorem dX12_layYawns_13 : decode cX12_layYawns 13 = .ok (.iload_n 2, 1) := by decide +kernel
theorem dX12_layYawns_14 : decode cX12_layYawns 14 = .ok (.iload_n 1, 1) := by decide +kernel
theorem dX12_layYawns_15 : decode cX12_layYawns 15 = .ok (.if_icmp .ne 7, 3) := by decide +kernel
theorem dX12_layYawns_18 : decode cX12_layYawns 18 = .ok (.iconst 0, 1) := by decide +kernel
theorem dX12_layYawns_19 : decode cX12_layYawns 19 = .ok (.goto 4, 3) := by decide +kernel
theorem dX12_layYawns_22 : decode cX12_layYawns 22 = .ok (.iconst (-1), 1) := by decide +kernel
theorem dX12_layYawns_23 : decode cX12_layYawns 23 = .ok (.iastore, 1) := by decide +kernel
theorem dX12_layYawns_24 : decode cX12_layYawns 24 = .ok (.iinc 2 1, 3) := by decide +kernel
theorem dX12_layYawns_27 : decode cX12_layYawns 27 = .ok (.goto (-25), 3) := by decide +kernel
theorem dX12_layYawns_30 : decode cX12_layYawns 30 = .ok (.iconst 0, 1) := by decide +kernel
theorem dX12_layYawns_31 : decode cX12_layYawns 31 = .ok (.istore_n 2, 1) := by decide +kernel
theorem dX12_layYawns_32 : decode cX12_layYawns 32 = .ok (.iload_n 2, 1) := by decide +kernel
theorem dX12_layYawns_33 : decode cX12_layYawns 33 = .ok (.aload_n 0, 1) := by decide +kernel
theorem dX12_layYawns_34 : decode cX12_layYawns 34 = .ok (.getfield 252, 3) := by decide +kernel
theorem dX12_layYawns_37 : decode cX12_layYawns 37 = .ok (.if_icmp .ge 72, 3) := by decide +kernel
theorem dX12_layYawns_40 : decode cX12_layYawns 40 = .ok (.iconst 0, 1) := by decide +kernel
theorem dX12_layYawns_41 : decode cX12_layYawns 41 = .ok (.istore_n 3, 1) := by decide +kernel
theorem dX12_layYawns_42 : decode cX12_layYawns 42 = .ok (.iload_n 3, 1) := by decide +kernel
theorem dX12_layYawns_43 : decode cX12_layYawns 43 = .ok (.aload_n 0, 1) := by decide +kernel
theorem dX12_layYawns_44 : decode cX12_layYawns 44 = .ok (.getfield 252, 3) := by decide +kernel
theorem dX12_layYawns_47 : decode cX12_layYawns 47 = .ok (.if_icmp .ge 56, 3) := by decide +kernel
theorem dX12_layYawns_50 : decode cX12_layYawns 50 = .ok (.aload_n 0, 1) := by decide +kernel
theorem dX12_layYawns_51 : decode cX12_layYawns 51 = .ok (.iload_n 3, 1) := by decide +kernel
theorem dX12_layYawns_52 : decode cX12_layYawns 52 = .ok (.invokevirtual 279, 3) := by decide +kernel
theorem dX12_layYawns_55 : decode cX12_layYawns 55 = .ok (.istore 4, 2) := by decide +kernel
theorem dX12_layYawns_57 : decode cX12_layYawns 57 = .ok (.iload 4, 2) := by decide +kernel
theorem dX12_layYawns_59 : decode cX12_layYawns 59 = .ok (.iconst (-1), 1) := by decide +kernel
theorem dX12_layYawns_60 : decode cX12_layYawns 60 = .ok (.if_icmp .eq 37, 3) := by decide +kernel
theorem dX12_layYawns_63 : decode cX12_layYawns 63 = .ok (.aload_n 0, 1) := by decide +kernel
theorem dX12_layYawns_64 : decode cX12_layYawns 64 = .ok (.aload_n 0, 1) := by decide +kernel
theorem dX12_layYawns_65 : decode cX12_layYawns 65 = .ok (.getfield 46, 3) := by decide +kernel
theorem dX12_layYawns_68 : decode cX12_layYawns 68 = .ok (.iload_n 3, 1) := by decide +kernel
theorem dX12_layYawns_69 : decode cX12_layYawns 69 = .ok (.iaload, 1) := by decide +kernel
theorem dX12_layYawns_70 : decode cX12_layYawns 70 = .ok (.aload_n 0, 1) := by decide +kernel
theorem dX12_layYawns_71 : decode cX12_layYawns 71 = .ok (.getfield 46, 3) := by decide +kernel
theorem dX12_layYawns_74 : decode cX12_layYawns 74 = .ok (.iload 4, 2) := by decide +kernel
theorem dX12_layYawns_76 : decode cX12_layYawns 76 = .ok (.iaload, 1) := by decide +kernel
theorem dX12_layYawns_77 : decode cX12_layYawns 77 = .ok (.invokevirtual 342, 3) := by decide +kernel
theorem dX12_layYawns_80 : decode cX12_layYawns 80 = .ok (.aload_n 0, 1) := by decide +kernel
theorem dX12_layYawns_81 : decode cX12_layYawns 81 = .ok (.aload_n 0, 1) := by decide +kernel
theorem dX12_layYawns_82 : decode cX12_layYawns 82 = .ok (.getfield 46, 3) := by decide +kernel
theorem dX12_layYawns_85 : decode cX12_layYawns 85 = .ok (.iload 4, 2) := by decide +kernel
theorem dX12_layYawns_87 : decode cX12_layYawns 87 = .ok (.iaload, 1) := by decide +kernel
theorem dX12_layYawns_88 : decode cX12_layYawns 88 = .ok (.aload_n 0, 1) := by decide +kernel
theorem dX12_layYawns_89 : decode cX12_layYawns 89 = .ok (.getfield 46, 3) := by decide +kernel
theorem dX12_layYawns_92 : decode cX12_layYawns 92 = .ok (.iload_n 3, 1) := by decide +kernel
theorem dX12_layYawns_93 : decode cX12_layYawns 93 = .ok (.iaload, 1) := by decide +kernel
theorem dX12_layYawns_94 : decode cX12_layYawns 94 = .ok (.invokevirtual 342, 3) := by decide +kernel
theorem dX12_layYawns_97 : decode cX12_layYawns 97 = .ok (.iinc 3 1, 3) := by decide +kernel
theorem dX12_layYawns_100 : decode cX12_layYawns 100 = .ok (.goto (-58), 3) := by decide +kernel
theorem dX12_layYawns_103 : decode cX12_layYawns 103 = .ok (.iinc 2 1, 3) := by decide +kernel
theorem dX12_layYawns_106 : decode cX12_layYawns 106 = .ok (.goto (-74), 3) := by decide +kernel
theorem dX12_layYawns_109 : decode cX12_layYawns 109 = .ok (.return_, 1) := by decide +kernel
theorem dX12_catchYawn_0 : decode cX12_catchYawn 0 = .ok (.aload_n 0, 1) := by decide +kernel
theorem dX12_catchYawn_1 : decode cX12_catchYawn 1 = .ok (.getfield 57, 3) := by decide +kernel
theorem dX12_catchYawn_4 : decode cX12_catchYawn 4 = .ok (.iload_n 2, 1) := by decide +kernel
theorem dX12_catchYawn_5 : decode cX12_catchYawn 5 = .ok (.iaload, 1) := by decide +kernel
theorem dX12_catchYawn_6 : decode cX12_catchYawn 6 = .ok (.iconst (-1), 1) := by decide +kernel
theorem dX12_catchYawn_7 : decode cX12_catchYawn 7 = .ok (.if_icmp .eq 22, 3) := by decide +kernel
theorem dX12_catchYawn_10 : decode cX12_catchYawn 10 = .ok (.aload_n 0, 1) := by decide +kernel
theorem dX12_catchYawn_11 : decode cX12_catchYawn 11 = .ok (.iload_n 1, 1) := by decide +kernel
theorem dX12_catchYawn_12 : decode cX12_catchYawn 12 = .ok (.iconst 3, 1) := by decide +kernel
theorem dX12_catchYawn_13 : decode cX12_catchYawn 13 = .ok (.invokevirtual 258, 3) := by decide +kernel
theorem dX12_catchYawn_16 : decode cX12_catchYawn 16 = .ok (.iconst 1, 1) := by decide +kernel
theorem dX12_catchYawn_17 : decode cX12_catchYawn 17 = .ok (.if_icmp .eq 12, 3) := by decide +kernel
theorem dX12_catchYawn_20 : decode cX12_catchYawn 20 = .ok (.aload_n 0, 1) := by decide +kernel
theorem dX12_catchYawn_21 : decode cX12_catchYawn 21 = .ok (.iload_n 1, 1) := by decide +kernel
theorem dX12_catchYawn_22 : decode cX12_catchYawn 22 = .ok (.iconst 5, 1) := by decide +kernel
theorem dX12_catchYawn_23 : decode cX12_catchYawn 23 = .ok (.invokevirtual 258, 3) := by decide +kernel
theorem dX12_catchYawn_26 : decode cX12_catchYawn 26 = .ok (.ifCond .ne 4, 3) := by decide +kernel
theorem dX12_catchYawn_29 : decode cX12_catchYawn 29 = .ok (.return_, 1) := by decide +kernel
theorem dX12_catchYawn_30 : decode cX12_catchYawn 30 = .ok (.aload_n 0, 1) := by decide +kernel
theorem dX12_catchYawn_31 : decode cX12_catchYawn 31 = .ok (.getfield 57, 3) := by decide +kernel
theorem dX12_catchYawn_34 : decode cX12_catchYawn 34 = .ok (.iload_n 2, 1) := by decide +kernel
theorem dX12_catchYawn_35 : decode cX12_catchYawn 35 = .ok (.iaload, 1) := by decide +kernel
theorem dX12_catchYawn_36 : decode cX12_catchYawn 36 = .ok (.aload_n 0, 1) := by decide +kernel
theorem dX12_catchYawn_37 : decode cX12_catchYawn 37 = .ok (.iload_n 1, 1) := by decide +kernel
theorem dX12_catchYawn_38 : decode cX12_catchYawn 38 = .ok (.iconst 5, 1) := by decide +kernel
theorem dX12_catchYawn_39 : decode cX12_catchYawn 39 = .ok (.invokevirtual 258, 3) := by decide +kernel
theorem dX12_catchYawn_42 : decode cX12_catchYawn 42 = .ok (.iadd, 1) := by decide +kernel
theorem dX12_catchYawn_43 : decode cX12_catchYawn 43 = .ok (.istore_n 3, 1) := by decide +kernel
theorem dX12_catchYawn_44 : decode cX12_catchYawn 44 = .ok (.aload_n 0, 1) := by decide +kernel
theorem dX12_catchYawn_45 : decode cX12_catchYawn 45 = .ok (.getfield 57, 3) := by decide +kernel
theorem dX12_catchYawn_48 : decode cX12_catchYawn 48 = .ok (.iload_n 1, 1) := by decide +kernel
theorem dX12_catchYawn_49 : decode cX12_catchYawn 49 = .ok (.aload_n 0, 1) := by decide +kernel
theorem dX12_catchYawn_50 : decode cX12_catchYawn 50 = .ok (.getfield 57, 3) := by decide +kernel
theorem dX12_catchYawn_53 : decode cX12_catchYawn 53 = .ok (.iload_n 1, 1) := by decide +kernel
theorem dX12_catchYawn_54 : decode cX12_catchYawn 54 = .ok (.iaload, 1) := by decide +kernel
theorem dX12_catchYawn_55 : decode cX12_catchYawn 55 = .ok (.iconst (-1), 1) := by decide +kernel
theorem dX12_catchYawn_56 : decode cX12_catchYawn 56 = .ok (.if_icmp .ne 7, 3) := by decide +kernel
theorem dX12_catchYawn_59 : decode cX12_catchYawn 59 = .ok (.iload_n 3, 1) := by decide +kernel
theorem dX12_catchYawn_60 : decode cX12_catchYawn 60 = .ok (.goto 13, 3) := by decide +kernel
theorem dX12_catchYawn_63 : decode cX12_catchYawn 63 = .ok (.aload_n 0, 1) := by decide +kernel
theorem dX12_catchYawn_64 : decode cX12_catchYawn 64 = .ok (.getfield 57, 3) := by decide +kernel
theorem dX12_catchYawn_67 : decode cX12_catchYawn 67 = .ok (.iload_n 1, 1) := by decide +kernel
theorem dX12_catchYawn_68 : decode cX12_catchYawn 68 = .ok (.iaload, 1) := by decide +kernel
theorem dX12_catchYawn_69 : decode cX12_catchYawn 69 = .ok (.iload_n 3, 1) := by decide +kernel
theorem dX12_catchYawn_70 : decode cX12_catchYawn 70 = .ok (.invokestatic 345, 3) := by decide +kernel
theorem dX12_catchYawn_73 : decode cX12_catchYawn 73 = .ok (.iastore, 1) := by decide +kernel
theorem dX12_catchYawn_74 : decode cX12_catchYawn 74 = .ok (.return_, 1) := by decide +kernel
theorem dX12_yawn_0 : decode cX12_yawn 0 = .ok (.aload_n 0, 1) := by decide +kernel
theorem dX12_yawn_1 : decode cX12_yawn 1 = .ok (.iload_n 1, 1) := by decide +kernel
theorem dX12_yawn_2 : decode cX12_yawn 2 = .ok (.invokevirtual 288, 3) := by decide +kernel
theorem dX12_yawn_5 : decode cX12_yawn 5 = .ok (.ifCond .eq 21, 3) := by decide +kernel
theorem dX12_yawn_8 : decode cX12_yawn 8 = .ok (.aload_n 0, 1) := by decide +kernel
theorem dX12_yawn_9 : decode cX12_yawn 9 = .ok (.iload_n 2, 1) := by decide +kernel
theorem dX12_yawn_10 : decode cX12_yawn 10 = .ok (.invokevirtual 288, 3) := by decide +kernel
theorem dX12_yawn_13 : decode cX12_yawn 13 = .ok (.ifCond .eq 13, 3) := by decide +kernel
theorem dX12_yawn_16 : decode cX12_yawn 16 = .ok (.aload_n 0, 1) := by decide +kernel
theorem dX12_yawn_17 : decode cX12_yawn 17 = .ok (.iload_n 1, 1) := by decide +kernel
theorem dX12_yawn_18 : decode cX12_yawn 18 = .ok (.iconst 3, 1) := by decide +kernel
theorem dX12_yawn_19 : decode cX12_yawn 19 = .ok (.invokevirtual 258, 3) := by decide +kernel
theorem dX12_yawn_22 : decode cX12_yawn 22 = .ok (.iconst 1, 1) := by decide +kernel
theorem dX12_yawn_23 : decode cX12_yawn 23 = .ok (.if_icmp .ne 5, 3) := by decide +kernel
theorem dX12_yawn_26 : decode cX12_yawn 26 = .ok (.iconst (-1), 1) := by decide +kernel
theorem dX12_yawn_27 : decode cX12_yawn 27 = .ok (.ireturn, 1) := by decide +kernel
theorem dX12_yawn_28 : decode cX12_yawn 28 = .ok (.aload_n 0, 1) := by decide +kernel
theorem dX12_yawn_29 : decode cX12_yawn 29 = .ok (.iload_n 1, 1) := by decide +kernel
theorem dX12_yawn_30 : decode cX12_yawn 30 = .ok (.invokevirtual 347, 3) := by decide +kernel
theorem dX12_yawn_33 : decode cX12_yawn 33 = .ok (.aload_n 0, 1) := by decide +kernel
theorem dX12_yawn_34 : decode cX12_yawn 34 = .ok (.getfield 57, 3) := by decide +kernel
theorem dX12_yawn_37 : decode cX12_yawn 37 = .ok (.iload_n 2, 1) := by decide +kernel
theorem dX12_yawn_38 : decode cX12_yawn 38 = .ok (.iaload, 1) := by decide +kernel
theorem dX12_yawn_39 : decode cX12_yawn 39 = .ok (.ireturn, 1) := by decide +kernel
theorem dX12_yawns_0 : decode cX12_yawns 0 = .ok (.aload_n 0, 1) := by decide +kernel
theorem dX12_yawns_1 : decode cX12_yawns 1 = .ok (.iload_n 1, 1) := by decide +kernel
theorem dX12_yawns_2 : decode cX12_yawns 2 = .ok (.invokevirtual 288, 3) := by decide +kernel
theorem dX12_yawns_5 : decode cX12_yawns 5 = .ok (.ifCond .eq 22, 3) := by decide +kernel
theorem dX12_yawns_8 : decode cX12_yawns 8 = .ok (.aload_n 0, 1) := by decide +kernel
theorem dX12_yawns_9 : decode cX12_yawns 9 = .ok (.iload_n 1, 1) := by decide +kernel
theorem dX12_yawns_10 : decode cX12_yawns 10 = .ok (.iconst 3, 1) := by decide +kernel
theorem dX12_yawns_11 : decode cX12_yawns 11 = .ok (.invokevirtual 258, 3) := by decide +kernel
theorem dX12_yawns_14 : decode cX12_yawns 14 = .ok (.iconst 1, 1) := by decide +kernel
theorem dX12_yawns_15 : decode cX12_yawns 15 = .ok (.if_icmp .eq 12, 3) := by decide +kernel
theorem dX12_yawns_18 : decode cX12_yawns 18 = .ok (.iload_n 2, 1) := by decide +kernel
theorem dX12_yawns_19 : decode cX12_yawns 19 = .ok (.iconst 0, 1) := by decide +kernel
theorem dX12_yawns_20 : decode cX12_yawns 20 = .ok (.iconst 1, 1) := by decide +kernel
theorem dX12_yawns_21 : decode cX12_yawns 21 = .ok (.invokestatic 215, 3) := by decide +kernel
theorem dX12_yawns_24 : decode cX12_yawns 24 = .ok (.ifCond .ne 5, 3) := by decide +kernel
theorem dX12_yawns_27 : decode cX12_yawns 27 = .ok (.iconst (-1), 1) := by decide +kernel
theorem dX12_yawns_28 : decode cX12_yawns 28 = .ok (.ireturn, 1) := by decide +kernel
theorem dX12_yawns_29 : decode cX12_yawns 29 = .ok (.aload_n 0, 1) := by decide +kernel
theorem dX12_yawns_30 : decode cX12_yawns 30 = .ok (.iload_n 1, 1) := by decide +kernel
theorem dX12_yawns_31 : decode cX12_yawns 31 = .ok (.invokevirtual 347, 3) := by decide +kernel
theorem dX12_yawns_34 : decode cX12_yawns 34 = .ok (.iconst 0, 1) := by decide +kernel
theorem dX12_yawns_35 : decode cX12_yawns 35 = .ok (.istore_n 3, 1) := by decide +kernel
theorem dX12_yawns_36 : decode cX12_yawns 36 = .ok (.iconst 0, 1) := by decide +kernel
theorem dX12_yawns_37 : decode cX12_yawns 37 = .ok (.istore 4, 2) := by decide +kernel
theorem dX12_yawns_39 : decode cX12_yawns 39 = .ok (.iconst 0, 1) := by decide +kernel
theorem dX12_yawns_40 : decode cX12_yawns 40 = .ok (.istore 5, 2) := by decide +kernel
theorem dX12_yawns_42 : decode cX12_yawns 42 = .ok (.iload 5, 2) := by decide +kernel
theorem dX12_yawns_44 : decode cX12_yawns 44 = .ok (.aload_n 0, 1) := by decide +kernel
theorem dX12_yawns_45 : decode cX12_yawns 45 = .ok (.getfield 252, 3) := by decide +kernel
theorem dX12_yawns_48 : decode cX12_yawns 48 = .ok (.if_icmp .ge 45, 3) := by decide +kernel
theorem dX12_yawns_51 : decode cX12_yawns 51 = .ok (.iload_n 3, 1) := by decide +kernel
theorem dX12_yawns_52 : decode cX12_yawns 52 = .ok (.aload_n 0, 1) := by decide +kernel
theorem dX12_yawns_53 : decode cX12_yawns 53 = .ok (.getfield 57, 3) := by decide +kernel
theorem dX12_yawns_56 : decode cX12_yawns 56 = .ok (.iload 5, 2) := by decide +kernel
theorem dX12_yawns_58 : decode cX12_yawns 58 = .ok (.iaload, 1) := by decide +kernel
theorem dX12_yawns_59 : decode cX12_yawns 59 = .ok (.invokestatic 350, 3) := by decide +kernel
theorem dX12_yawns_62 : decode cX12_yawns 62 = .ok (.istore_n 3, 1) := by decide +kernel
theorem dX12_yawns_63 : decode cX12_yawns 63 = .ok (.iload 4, 2) := by decide +kernel
theorem dX12_yawns_65 : decode cX12_yawns 65 = .ok (.aload_n 0, 1) := by decide +kernel
theorem dX12_yawns_66 : decode cX12_yawns 66 = .ok (.getfield 57, 3) := by decide +kernel
theorem dX12_yawns_69 : decode cX12_yawns 69 = .ok (.iload 5, 2) := by decide +kernel
theorem dX12_yawns_71 : decode cX12_yawns 71 = .ok (.iaload, 1) := by decide +kernel
theorem dX12_yawns_72 : decode cX12_yawns 72 = .ok (.iconst (-1), 1) := by decide +kernel
theorem dX12_yawns_73 : decode cX12_yawns 73 = .ok (.if_icmp .ne 10, 3) := by decide +kernel
theorem dX12_yawns_76 : decode cX12_yawns 76 = .ok (.iconst 1, 1) := by decide +kernel
theorem dX12_yawns_77 : decode cX12_yawns 77 = .ok (.iload 5, 2) := by decide +kernel
theorem dX12_yawns_79 : decode cX12_yawns 79 = .ok (.ishl, 1) := by decide +kernel
theorem dX12_yawns_80 : decode cX12_yawns 80 = .ok (.goto 4, 3) := by decide +kernel
theorem dX12_yawns_83 : decode cX12_yawns 83 = .ok (.iconst 0, 1) := by decide +kernel
theorem dX12_yawns_84 : decode cX12_yawns 84 = .ok (.ior, 1) := by decide +kernel
theorem dX12_yawns_85 : decode cX12_yawns 85 = .ok (.istore 4, 2) := by decide +kernel
theorem dX12_yawns_87 : decode cX12_yawns 87 = .ok (.iinc 5 1, 3) := by decide +kernel
theorem dX12_yawns_90 : decode cX12_yawns 90 = .ok (.goto (-48), 3) := by decide +kernel
theorem dX12_yawns_93 : decode cX12_yawns 93 = .ok (.iload_n 2, 1) := by decide +kernel
theorem dX12_yawns_94 : decode cX12_yawns 94 = .ok (.ifCond .ne 7, 3) := by decide +kernel
theorem dX12_yawns_97 : decode cX12_yawns 97 = .ok (.iload_n 3, 1) := by decide +kernel
theorem dX12_yawns_98 : decode cX12_yawns 98 = .ok (.goto 5, 3) := by decide +kernel
theorem dX12_yawns_101 : decode cX12_yawns 101 = .ok (.iload 4, 2) := by decide +kernel
theorem dX12_yawns_103 : decode cX12_yawns 103 = .ok (.ireturn, 1) := by decide +kernel
theorem dX12_illOf_0 : decode cX12_illOf 0 = .ok (.iconst 0, 1) := by decide +kernel
theorem dX12_illOf_1 : decode cX12_illOf 1 = .ok (.istore_n 1, 1) := by decide +kernel
theorem dX12_illOf_2 : decode cX12_illOf 2 = .ok (.iconst 0, 1) := by decide +kernel
theorem dX12_illOf_3 : decode cX12_illOf 3 = .ok (.istore_n 2, 1) := by decide +kernel
theorem dX12_illOf_4 : decode cX12_illOf 4 = .ok (.iload_n 2, 1) := by decide +kernel
theorem dX12_illOf_5 : decode cX12_illOf 5 = .ok (.aload_n 0, 1) := by decide +kernel
theorem dX12_illOf_6 : decode cX12_illOf 6 = .ok (.getfield 252, 3) := by decide +kernel
theorem dX12_illOf_9 : decode cX12_illOf 9 = .ok (.if_icmp .ge 40, 3) := by decide +kernel
theorem dX12_illOf_12 : decode cX12_illOf 12 = .ok (.aload_n 0, 1) := by decide +kernel
theorem dX12_illOf_13 : decode cX12_illOf 13 = .ok (.iload_n 2, 1) := by decide +kernel
theorem dX12_illOf_14 : decode cX12_illOf 14 = .ok (.invokevirtual 279, 3) := by decide +kernel
theorem dX12_illOf_17 : decode cX12_illOf 17 = .ok (.istore_n 3, 1) := by decide +kernel
theorem dX12_illOf_18 : decode cX12_illOf 18 = .ok (.iload_n 3, 1) := by decide +kernel
theorem dX12_illOf_19 : decode cX12_illOf 19 = .ok (.iconst (-1), 1) := by decide +kernel
theorem dX12_illOf_20 : decode cX12_illOf 20 = .ok (.if_icmp .eq 23, 3) := by decide +kernel
theorem dX12_illOf_23 : decode cX12_illOf 23 = .ok (.iload_n 1, 1) := by decide +kernel
theorem dX12_illOf_24 : decode cX12_illOf 24 = .ok (.aload_n 0, 1) := by decide +kernel
theorem dX12_illOf_25 : decode cX12_illOf 25 = .ok (.aload_n 0, 1) := by decide +kernel
theorem dX12_illOf_26 : decode cX12_illOf 26 = .ok (.getfield 46, 3) := by decide +kernel
theorem dX12_illOf_29 : decode cX12_illOf 29 = .ok (.iload_n 3, 1) := by decide +kernel
theorem dX12_illOf_30 : decode cX12_illOf 30 = .ok (.iaload, 1) := by decide +kernel
theorem dX12_illOf_31 : decode cX12_illOf 31 = .ok (.aload_n 0, 1) := by decide +kernel
theorem dX12_illOf_32 : decode cX12_illOf 32 = .ok (.getfield 46, 3) := by decide +kernel
theorem dX12_illOf_35 : decode cX12_illOf 35 = .ok (.iload_n 2, 1) := by decide +kernel
theorem dX12_illOf_36 : decode cX12_illOf 36 = .ok (.iaload, 1) := by decide +kernel
theorem dX12_illOf_37 : decode cX12_illOf 37 = .ok (.iload_n 2, 1) := by decide +kernel
theorem dX12_illOf_38 : decode cX12_illOf 38 = .ok (.invokevirtual 352, 3) := by decide +kernel
theorem dX12_illOf_41 : decode cX12_illOf 41 = .ok (.iadd, 1) := by decide +kernel
theorem dX12_illOf_42 : decode cX12_illOf 42 = .ok (.istore_n 1, 1) := by decide +kernel
theorem dX12_illOf_43 : decode cX12_illOf 43 = .ok (.iinc 2 1, 3) := by decide +kernel
theorem dX12_illOf_46 : decode cX12_illOf 46 = .ok (.goto (-42), 3) := by decide +kernel
theorem dX12_illOf_49 : decode cX12_illOf 49 = .ok (.iload_n 1, 1) := by decide +kernel
theorem dX12_illOf_50 : decode cX12_illOf 50 = .ok (.ireturn, 1) := by decide +kernel
theorem dX12_illBeside_0 : decode cX12_illBeside 0 = .ok (.aload_n 0, 1) := by decide +kernel
theorem dX12_illBeside_1 : decode cX12_illBeside 1 = .ok (.iload_n 1, 1) := by decide +kernel
theorem dX12_illBeside_2 : decode cX12_illBeside 2 = .ok (.iconst 4, 1) := by decide +kernel
theorem dX12_illBeside_3 : decode cX12_illBeside 3 = .ok (.invokevirtual 258, 3) := by decide +kernel
theorem dX12_illBeside_6 : decode cX12_illBeside 6 = .ok (.iload_n 2, 1) := by decide +kernel
theorem dX12_illBeside_7 : decode cX12_illBeside 7 = .ok (.if_icmp .eq 13, 3) := by decide +kernel
theorem dX12_illBeside_10 : decode cX12_illBeside 10 = .ok (.aload_n 0, 1) := by decide +kernel
theorem dX12_illBeside_11 : decode cX12_illBeside 11 = .ok (.iload_n 2, 1) := by decide +kernel
theorem dX12_illBeside_12 : decode cX12_illBeside 12 = .ok (.iconst 4, 1) := by decide +kernel
theorem dX12_illBeside_13 : decode cX12_illBeside 13 = .ok (.invokevirtual 258, 3) := by decide +kernel
theorem dX12_illBeside_16 : decode cX12_illBeside 16 = .ok (.iload_n 1, 1) := by decide +kernel
theorem dX12_illBeside_17 : decode cX12_illBeside 17 = .ok (.if_icmp .ne 7, 3) := by decide +kernel
theorem dX12_illBeside_20 : decode cX12_illBeside 20 = .ok (.iconst 1, 1) := by decide +kernel
theorem dX12_illBeside_21 : decode cX12_illBeside 21 = .ok (.goto 4, 3) := by decide +kernel
theorem dX12_illBeside_24 : decode cX12_illBeside 24 = .ok (.iconst 0, 1) := by decide +kernel
theorem dX12_illBeside_25 : decode cX12_illBeside 25 = .ok (.istore 4, 2) := by decide +kernel
theorem dX12_illBeside_27 : decode cX12_illBeside 27 = .ok (.aload_n 0, 1) := by decide +kernel
theorem dX12_illBeside_28 : decode cX12_illBeside 28 = .ok (.getfield 49, 3) := by decide +kernel
theorem dX12_illBeside_31 : decode cX12_illBeside 31 = .ok (.iconst (-1), 1) := by decide +kernel
theorem dX12_illBeside_32 : decode cX12_illBeside 32 = .ok (.if_icmp .ne 6, 3) := by decide +kernel
theorem dX12_illBeside_35 : decode cX12_illBeside 35 = .ok (.iload 4, 2) := by decide +kernel
theorem dX12_illBeside_37 : decode cX12_illBeside 37 = .ok (.ireturn, 1) := by decide +kernel
theorem dX12_illBeside_38 : decode cX12_illBeside 38 = .ok (.aload_n 0, 1) := by decide +kernel
theorem dX12_illBeside_39 : decode cX12_illBeside 39 = .ok (.getfield 34, 3) := by decide +kernel
theorem dX12_illBeside_42 : decode cX12_illBeside 42 = .ok (.iconst 0, 1) := by decide +kernel
theorem dX12_illBeside_43 : decode cX12_illBeside 43 = .ok (.aload_n 0, 1) := by decide +kernel
theorem dX12_illBeside_44 : decode cX12_illBeside 44 = .ok (.iload_n 1, 1) := by decide +kernel
theorem dX12_illBeside_45 : decode cX12_illBeside 45 = .ok (.iconst 0, 1) := by decide +kernel
theorem dX12_illBeside_46 : decode cX12_illBeside 46 = .ok (.invokevirtual 258, 3) := by decide +kernel
theorem dX12_illBeside_49 : decode cX12_illBeside 49 = .ok (.iastore, 1) := by decide +kernel
theorem dX12_illBeside_50 : decode cX12_illBeside 50 = .ok (.aload_n 0, 1) := by decide +kernel
theorem dX12_illBeside_51 : decode cX12_illBeside 51 = .ok (.getfield 34, 3) := by decide +kernel
theorem dX12_illBeside_54 : decode cX12_illBeside 54 = .ok (.iconst 1, 1) := by decide +kernel
theorem dX12_illBeside_55 : decode cX12_illBeside 55 = .ok (.aload_n 0, 1) := by decide +kernel
theorem dX12_illBeside_56 : decode cX12_illBeside 56 = .ok (.iload_n 2, 1) := by decide +kernel
theorem dX12_illBeside_57 : decode cX12_illBeside 57 = .ok (.iconst 0, 1) := by decide +kernel
theorem dX12_illBeside_58 : decode cX12_illBeside 58 = .ok (.invokevirtual 258, 3) := by decide +kernel
theorem dX12_illBeside_61 : decode cX12_illBeside 61 = .ok (.iastore, 1) := by decide +kernel
theorem dX12_illBeside_62 : decode cX12_illBeside 62 = .ok (.aload_n 0, 1) := by decide +kernel
theorem dX12_illBeside_63 : decode cX12_illBeside 63 = .ok (.getfield 34, 3) := by decide +kernel
theorem dX12_illBeside_66 : decode cX12_illBeside 66 = .ok (.iconst 2, 1) := by decide +kernel
theorem dX12_illBeside_67 : decode cX12_illBeside 67 = .ok (.aload_n 0, 1) := by decide +kernel
theorem dX12_illBeside_68 : decode cX12_illBeside 68 = .ok (.iload_n 1, 1) := by decide +kernel
theorem dX12_illBeside_69 : decode cX12_illBeside 69 = .ok (.iconst 1, 1) := by decide +kernel
theorem dX12_illBeside_70 : decode cX12_illBeside 70 = .ok (.invokevirtual 258, 3) := by decide +kernel
theorem dX12_illBeside_73 : decode cX12_illBeside 73 = .ok (.iastore, 1) := by decide +kernel
theorem dX12_illBeside_74 : decode cX12_illBeside 74 = .ok (.aload_n 0, 1) := by decide +kernel
theorem dX12_illBeside_75 : decode cX12_illBeside 75 = .ok (.getfield 34, 3) := by decide +kernel
theorem dX12_illBeside_78 : decode cX12_illBeside 78 = .ok (.iconst 3, 1) := by decide +kernel
theorem dX12_illBeside_79 : decode cX12_illBeside 79 = .ok (.aload_n 0, 1) := by decide +kernel
theorem dX12_illBeside_80 : decode cX12_illBeside 80 = .ok (.iload_n 1, 1) := by decide +kernel
theorem dX12_illBeside_81 : decode cX12_illBeside 81 = .ok (.invokevirtual 316, 3) := by decide +kernel
theorem dX12_illBeside_84 : decode cX12_illBeside 84 = .ok (.iastore, 1) := by decide +kernel
theorem dX12_illBeside_85 : decode cX12_illBeside 85 = .ok (.aload_n 0, 1) := by decide +kernel
theorem dX12_illBeside_86 : decode cX12_illBeside 86 = .ok (.getfield 34, 3) := by decide +kernel
theorem dX12_illBeside_89 : decode cX12_illBeside 89 = .ok (.iconst 4, 1) := by decide +kernel
theorem dX12_illBeside_90 : decode cX12_illBeside 90 = .ok (.iload 4, 2) := by decide +kernel
theorem dX12_illBeside_92 : decode cX12_illBeside 92 = .ok (.iastore, 1) := by decide +kernel
theorem dX12_illBeside_93 : decode cX12_illBeside 93 = .ok (.aload_n 0, 1) := by decide +kernel
theorem dX12_illBeside_94 : decode cX12_illBeside 94 = .ok (.getfield 34, 3) := by decide +kernel
theorem dX12_illBeside_97 : decode cX12_illBeside 97 = .ok (.iconst 5, 1) := by decide +kernel
theorem dX12_illBeside_98 : decode cX12_illBeside 98 = .ok (.iload_n 3, 1) := by decide +kernel
theorem dX12_illBeside_99 : decode cX12_illBeside 99 = .ok (.iastore, 1) := by decide +kernel
theorem dX12_illBeside_100 : decode cX12_illBeside 100 = .ok (.aload_n 0, 1) := by decide +kernel
theorem dX12_illBeside_101 : decode cX12_illBeside 101 = .ok (.aload_n 0, 1) := by decide +kernel
theorem dX12_illBeside_102 : decode cX12_illBeside 102 = .ok (.getfield 49, 3) := by decide +kernel
theorem dX12_illBeside_105 : decode cX12_illBeside 105 = .ok (.invokevirtual 355, 3) := by decide +kernel
theorem dX12_illBeside_108 : decode cX12_illBeside 108 = .ok (.ireturn, 1) := by decide +kernel
theorem dX12_ill_0 : decode cX12_ill 0 = .ok (.aload_n 0, 1) := by decide +kernel
theorem dX12_ill_1 : decode cX12_ill 1 = .ok (.getfield 252, 3) := by decide +kernel
theorem dX12_ill_4 : decode cX12_ill 4 = .ok (.ifCond .ne 9, 3) := by decide +kernel
theorem dX12_ill_7 : decode cX12_ill 7 = .ok (.ldc_w 358, 3) := by decide +kernel
theorem dX12_ill_10 : decode cX12_ill 10 = .ok (.goto 7, 3) := by decide +kernel
theorem dX12_ill_13 : decode cX12_ill 13 = .ok (.aload_n 0, 1) := by decide +kernel
theorem dX12_ill_14 : decode cX12_ill 14 = .ok (.invokevirtual 359, 3) := by decide +kernel
theorem dX12_ill_17 : decode cX12_ill 17 = .ok (.ireturn, 1) := by decide +kernel
theorem dX12_wished_0 : decode cX12_wished 0 = .ok (.iload_n 1, 1) := by decide +kernel
theorem dX12_wished_1 : decode cX12_wished 1 = .ok (.ifCond .ne 9, 3) := by decide +kernel
theorem dX12_wished_4 : decode cX12_wished 4 = .ok (.aload_n 0, 1) := by decide +kernel
theorem dX12_wished_5 : decode cX12_wished 5 = .ok (.invokevirtual 359, 3) := by decide +kernel
