theorem dX12_clause_227 : decode cX12_clause 227 = .ok (.iadd, 1) := by decide +kernel
theorem dX12_clause_228 : decode cX12_clause 228 = .ok (.putfield 110, 3) := by decide +kernel
theorem dX12_clause_231 : decode cX12_clause 231 = .ok (.aload_n 0, 1) := by decide +kernel
theorem dX12_clause_232 : decode cX12_clause 232 = .ok (.getfield 28, 3) := by decide +kernel
theorem dX12_clause_235 : decode cX12_clause 235 = .ok (.iload_n 1, 1) := by decide +kernel
theorem dX12_clause_236 : decode cX12_clause 236 = .ok (.aload_n 0, 1) := by decide +kernel
theorem dX12_clause_237 : decode cX12_clause 237 = .ok (.getfield 19, 3) := by decide +kernel
theorem dX12_clause_240 : decode cX12_clause 240 = .ok (.aload_n 0, 1) := by decide +kernel
theorem dX12_clause_241 : decode cX12_clause 241 = .ok (.getfield 120, 3) := by decide +kernel
theorem dX12_clause_244 : decode cX12_clause 244 = .ok (.iaload, 1) := by decide +kernel
theorem dX12_clause_245 : decode cX12_clause 245 = .ok (.iastore, 1) := by decide +kernel
theorem dX12_clause_246 : decode cX12_clause 246 = .ok (.aload_n 0, 1) := by decide +kernel
theorem dX12_clause_247 : decode cX12_clause 247 = .ok (.invokevirtual 150, 3) := by decide +kernel
theorem dX12_clause_250 : decode cX12_clause 250 = .ok (.aload_n 0, 1) := by decide +kernel
theorem dX12_clause_251 : decode cX12_clause 251 = .ok (.getfield 31, 3) := by decide +kernel
theorem dX12_clause_254 : decode cX12_clause 254 = .ok (.iload_n 1, 1) := by decide +kernel
theorem dX12_clause_255 : decode cX12_clause 255 = .ok (.aload_n 0, 1) := by decide +kernel
theorem dX12_clause_256 : decode cX12_clause 256 = .ok (.getfield 19, 3) := by decide +kernel
theorem dX12_clause_259 : decode cX12_clause 259 = .ok (.aload_n 0, 1) := by decide +kernel
theorem dX12_clause_260 : decode cX12_clause 260 = .ok (.getfield 120, 3) := by decide +kernel
theorem dX12_clause_263 : decode cX12_clause 263 = .ok (.iaload, 1) := by decide +kernel
theorem dX12_clause_264 : decode cX12_clause 264 = .ok (.iastore, 1) := by decide +kernel
theorem dX12_clause_265 : decode cX12_clause 265 = .ok (.aload_n 0, 1) := by decide +kernel
theorem dX12_clause_266 : decode cX12_clause 266 = .ok (.getfield 22, 3) := by decide +kernel
theorem dX12_clause_269 : decode cX12_clause 269 = .ok (.aload_n 0, 1) := by decide +kernel
theorem dX12_clause_270 : decode cX12_clause 270 = .ok (.getfield 120, 3) := by decide +kernel
theorem dX12_clause_273 : decode cX12_clause 273 = .ok (.dup2, 1) := by decide +kernel
theorem dX12_clause_274 : decode cX12_clause 274 = .ok (.iaload, 1) := by decide +kernel
theorem dX12_clause_275 : decode cX12_clause 275 = .ok (.iconst 1, 1) := by decide +kernel
theorem dX12_clause_276 : decode cX12_clause 276 = .ok (.iadd, 1) := by decide +kernel
theorem dX12_clause_277 : decode cX12_clause 277 = .ok (.iastore, 1) := by decide +kernel
theorem dX12_clause_278 : decode cX12_clause 278 = .ok (.return_, 1) := by decide +kernel
theorem dX12_open_0 : decode cX12_open 0 = .ok (.aload_n 0, 1) := by decide +kernel
theorem dX12_open_1 : decode cX12_open 1 = .ok (.iload_n 1, 1) := by decide +kernel
theorem dX12_open_2 : decode cX12_open 2 = .ok (.putfield 120, 3) := by decide +kernel
theorem dX12_open_5 : decode cX12_open 5 = .ok (.aload_n 0, 1) := by decide +kernel
theorem dX12_open_6 : decode cX12_open 6 = .ok (.iconst 0, 1) := by decide +kernel
theorem dX12_open_7 : decode cX12_open 7 = .ok (.putfield 110, 3) := by decide +kernel
theorem dX12_open_10 : decode cX12_open 10 = .ok (.aload_n 0, 1) := by decide +kernel
theorem dX12_open_11 : decode cX12_open 11 = .ok (.iconst (-1), 1) := by decide +kernel
theorem dX12_open_12 : decode cX12_open 12 = .ok (.putfield 117, 3) := by decide +kernel
theorem dX12_open_15 : decode cX12_open 15 = .ok (.aload_n 0, 1) := by decide +kernel
theorem dX12_open_16 : decode cX12_open 16 = .ok (.iconst 0, 1) := by decide +kernel
theorem dX12_open_17 : decode cX12_open 17 = .ok (.putfield 123, 3) := by decide +kernel
theorem dX12_open_20 : decode cX12_open 20 = .ok (.aload_n 0, 1) := by decide +kernel
theorem dX12_open_21 : decode cX12_open 21 = .ok (.getfield 19, 3) := by decide +kernel
theorem dX12_open_24 : decode cX12_open 24 = .ok (.iload_n 1, 1) := by decide +kernel
theorem dX12_open_25 : decode cX12_open 25 = .ok (.iconst 0, 1) := by decide +kernel
theorem dX12_open_26 : decode cX12_open 26 = .ok (.iastore, 1) := by decide +kernel
theorem dX12_open_27 : decode cX12_open 27 = .ok (.aload_n 0, 1) := by decide +kernel
theorem dX12_open_28 : decode cX12_open 28 = .ok (.getfield 22, 3) := by decide +kernel
theorem dX12_open_31 : decode cX12_open 31 = .ok (.iload_n 1, 1) := by decide +kernel
theorem dX12_open_32 : decode cX12_open 32 = .ok (.iconst 0, 1) := by decide +kernel
theorem dX12_open_33 : decode cX12_open 33 = .ok (.iastore, 1) := by decide +kernel
theorem dX12_open_34 : decode cX12_open 34 = .ok (.return_, 1) := by decide +kernel
theorem dX12_atEnd_0 : decode cX12_atEnd 0 = .ok (.aload_n 0, 1) := by decide +kernel
theorem dX12_atEnd_1 : decode cX12_atEnd 1 = .ok (.getfield 117, 3) := by decide +kernel
theorem dX12_atEnd_4 : decode cX12_atEnd 4 = .ok (.iconst (-1), 1) := by decide +kernel
theorem dX12_atEnd_5 : decode cX12_atEnd 5 = .ok (.if_icmp .ne 15, 3) := by decide +kernel
theorem dX12_atEnd_8 : decode cX12_atEnd 8 = .ok (.aload_n 0, 1) := by decide +kernel
theorem dX12_atEnd_9 : decode cX12_atEnd 9 = .ok (.invokevirtual 129, 3) := by decide +kernel
theorem dX12_atEnd_12 : decode cX12_atEnd 12 = .ok (.iconst (-1), 1) := by decide +kernel
theorem dX12_atEnd_13 : decode cX12_atEnd 13 = .ok (.if_icmp .eq 7, 3) := by decide +kernel
theorem dX12_atEnd_16 : decode cX12_atEnd 16 = .ok (.aload_n 0, 1) := by decide +kernel
theorem dX12_atEnd_17 : decode cX12_atEnd 17 = .ok (.invokevirtual 126, 3) := by decide +kernel
theorem dX12_atEnd_20 : decode cX12_atEnd 20 = .ok (.aload_n 0, 1) := by decide +kernel
theorem dX12_atEnd_21 : decode cX12_atEnd 21 = .ok (.getfield 117, 3) := by decide +kernel
theorem dX12_atEnd_24 : decode cX12_atEnd 24 = .ok (.ireturn, 1) := by decide +kernel
theorem dX12_readLaw_0 : decode cX12_readLaw 0 = .ok (.aload_n 0, 1) := by decide +kernel
theorem dX12_readLaw_1 : decode cX12_readLaw 1 = .ok (.iload_n 1, 1) := by decide +kernel
theorem dX12_readLaw_2 : decode cX12_readLaw 2 = .ok (.invokevirtual 181, 3) := by decide +kernel
theorem dX12_readLaw_5 : decode cX12_readLaw 5 = .ok (.aload_n 0, 1) := by decide +kernel
theorem dX12_readLaw_6 : decode cX12_readLaw 6 = .ok (.invokevirtual 184, 3) := by decide +kernel
theorem dX12_readLaw_9 : decode cX12_readLaw 9 = .ok (.aload_n 0, 1) := by decide +kernel
theorem dX12_readLaw_10 : decode cX12_readLaw 10 = .ok (.getfield 117, 3) := by decide +kernel
theorem dX12_readLaw_13 : decode cX12_readLaw 13 = .ok (.iconst (-1), 1) := by decide +kernel
theorem dX12_readLaw_14 : decode cX12_readLaw 14 = .ok (.if_icmp .ne 29, 3) := by decide +kernel
theorem dX12_readLaw_17 : decode cX12_readLaw 17 = .ok (.aload_n 0, 1) := by decide +kernel
theorem dX12_readLaw_18 : decode cX12_readLaw 18 = .ok (.invokevirtual 129, 3) := by decide +kernel
theorem dX12_readLaw_21 : decode cX12_readLaw 21 = .ok (.bipush 59, 2) := by decide +kernel
theorem dX12_readLaw_23 : decode cX12_readLaw 23 = .ok (.if_icmp .ne 20, 3) := by decide +kernel
theorem dX12_readLaw_26 : decode cX12_readLaw 26 = .ok (.aload_n 0, 1) := by decide +kernel
theorem dX12_readLaw_27 : decode cX12_readLaw 27 = .ok (.dup, 1) := by decide +kernel
theorem dX12_readLaw_28 : decode cX12_readLaw 28 = .ok (.getfield 110, 3) := by decide +kernel
theorem dX12_readLaw_31 : decode cX12_readLaw 31 = .ok (.iconst 1, 1) := by decide +kernel
theorem dX12_readLaw_32 : decode cX12_readLaw 32 = .ok (.iadd, 1) := by decide +kernel
theorem dX12_readLaw_33 : decode cX12_readLaw 33 = .ok (.putfield 110, 3) := by decide +kernel
theorem dX12_readLaw_36 : decode cX12_readLaw 36 = .ok (.aload_n 0, 1) := by decide +kernel
theorem dX12_readLaw_37 : decode cX12_readLaw 37 = .ok (.invokevirtual 184, 3) := by decide +kernel
theorem dX12_readLaw_40 : decode cX12_readLaw 40 = .ok (.goto (-31), 3) := by decide +kernel
theorem dX12_readLaw_43 : decode cX12_readLaw 43 = .ok (.aload_n 0, 1) := by decide +kernel
theorem dX12_readLaw_44 : decode cX12_readLaw 44 = .ok (.invokevirtual 187, 3) := by decide +kernel
theorem dX12_readLaw_47 : decode cX12_readLaw 47 = .ok (.ireturn, 1) := by decide +kernel
theorem dX12_bounded_0 : decode cX12_bounded 0 = .ok (.ldc2_w 190, 3) := by decide +kernel
theorem dX12_bounded_3 : decode cX12_bounded 3 = .ok (.ldc2_w 192, 3) := by decide +kernel
theorem dX12_bounded_6 : decode cX12_bounded 6 = .ok (.lload_n 0, 1) := by decide +kernel
theorem dX12_bounded_7 : decode cX12_bounded 7 = .ok (.invokestatic 194, 3) := by decide +kernel
theorem dX12_bounded_10 : decode cX12_bounded 10 = .ok (.invokestatic 200, 3) := by decide +kernel
theorem dX12_bounded_13 : decode cX12_bounded 13 = .ok (.l2i, 1) := by decide +kernel
theorem dX12_bounded_14 : decode cX12_bounded 14 = .ok (.ireturn, 1) := by decide +kernel
theorem dX12_worked_0 : decode cX12_worked 0 = .ok (.iload_n 0, 1) := by decide +kernel
theorem dX12_worked_1 : decode cX12_worked 1 = .ok (.tableswitch 143 2 10 #[51, 58, 65, 72, 89, 101, 113, 143, 125], 51) := by decide +kernel
theorem dX12_worked_52 : decode cX12_worked 52 = .ok (.lload_n 1, 1) := by decide +kernel
theorem dX12_worked_53 : decode cX12_worked 53 = .ok (.lload_n 3, 1) := by decide +kernel
theorem dX12_worked_54 : decode cX12_worked 54 = .ok (.ladd, 1) := by decide +kernel
theorem dX12_worked_55 : decode cX12_worked 55 = .ok (.invokestatic 203, 3) := by decide +kernel
theorem dX12_worked_58 : decode cX12_worked 58 = .ok (.ireturn, 1) := by decide +kernel
theorem dX12_worked_59 : decode cX12_worked 59 = .ok (.lload_n 1, 1) := by decide +kernel
theorem dX12_worked_60 : decode cX12_worked 60 = .ok (.lload_n 3, 1) := by decide +kernel
theorem dX12_worked_61 : decode cX12_worked 61 = .ok (.lsub, 1) := by decide +kernel
theorem dX12_worked_62 : decode cX12_worked 62 = .ok (.invokestatic 203, 3) := by decide +kernel
theorem dX12_worked_65 : decode cX12_worked 65 = .ok (.ireturn, 1) := by decide +kernel
theorem dX12_worked_66 : decode cX12_worked 66 = .ok (.lload_n 1, 1) := by decide +kernel
theorem dX12_worked_67 : decode cX12_worked 67 = .ok (.lload_n 3, 1) := by decide +kernel
theorem dX12_worked_68 : decode cX12_worked 68 = .ok (.lmul, 1) := by decide +kernel
theorem dX12_worked_69 : decode cX12_worked 69 = .ok (.invokestatic 203, 3) := by decide +kernel
theorem dX12_worked_72 : decode cX12_worked 72 = .ok (.ireturn, 1) := by decide +kernel
theorem dX12_worked_73 : decode cX12_worked 73 = .ok (.lload_n 3, 1) := by decide +kernel
theorem dX12_worked_74 : decode cX12_worked 74 = .ok (.lconst 0, 1) := by decide +kernel
theorem dX12_worked_75 : decode cX12_worked 75 = .ok (.lcmp, 1) := by decide +kernel
theorem dX12_worked_76 : decode cX12_worked 76 = .ok (.ifCond .ne 7, 3) := by decide +kernel
theorem dX12_worked_79 : decode cX12_worked 79 = .ok (.iconst 0, 1) := by decide +kernel
theorem dX12_worked_80 : decode cX12_worked 80 = .ok (.goto 9, 3) := by decide +kernel
theorem dX12_worked_83 : decode cX12_worked 83 = .ok (.lload_n 1, 1) := by decide +kernel
theorem dX12_worked_84 : decode cX12_worked 84 = .ok (.lload_n 3, 1) := by decide +kernel
theorem dX12_worked_85 : decode cX12_worked 85 = .ok (.ldiv, 1) := by decide +kernel
theorem dX12_worked_86 : decode cX12_worked 86 = .ok (.invokestatic 203, 3) := by decide +kernel
theorem dX12_worked_89 : decode cX12_worked 89 = .ok (.ireturn, 1) := by decide +kernel
theorem dX12_worked_90 : decode cX12_worked 90 = .ok (.lload_n 1, 1) := by decide +kernel
theorem dX12_worked_91 : decode cX12_worked 91 = .ok (.lload_n 3, 1) := by decide +kernel
theorem dX12_worked_92 : decode cX12_worked 92 = .ok (.lcmp, 1) := by decide +kernel
theorem dX12_worked_93 : decode cX12_worked 93 = .ok (.ifCond .ne 7, 3) := by decide +kernel
theorem dX12_worked_96 : decode cX12_worked 96 = .ok (.iconst 1, 1) := by decide +kernel
theorem dX12_worked_97 : decode cX12_worked 97 = .ok (.goto 4, 3) := by decide +kernel
theorem dX12_worked_100 : decode cX12_worked 100 = .ok (.iconst 0, 1) := by decide +kernel
theorem dX12_worked_101 : decode cX12_worked 101 = .ok (.ireturn, 1) := by decide +kernel
theorem dX12_worked_102 : decode cX12_worked 102 = .ok (.lload_n 1, 1) := by decide +kernel
theorem dX12_worked_103 : decode cX12_worked 103 = .ok (.lload_n 3, 1) := by decide +kernel
theorem dX12_worked_104 : decode cX12_worked 104 = .ok (.lcmp, 1) := by decide +kernel
theorem dX12_worked_105 : decode cX12_worked 105 = .ok (.ifCond .ge 7, 3) := by decide +kernel
theorem dX12_worked_108 : decode cX12_worked 108 = .ok (.iconst 1, 1) := by decide +kernel
theorem dX12_worked_109 : decode cX12_worked 109 = .ok (.goto 4, 3) := by decide +kernel
theorem dX12_worked_112 : decode cX12_worked 112 = .ok (.iconst 0, 1) := by decide +kernel
theorem dX12_worked_113 : decode cX12_worked 113 = .ok (.ireturn, 1) := by decide +kernel
theorem dX12_worked_114 : decode cX12_worked 114 = .ok (.lload_n 1, 1) := by decide +kernel
theorem dX12_worked_115 : decode cX12_worked 115 = .ok (.lload_n 3, 1) := by decide +kernel
theorem dX12_worked_116 : decode cX12_worked 116 = .ok (.lcmp, 1) := by decide +kernel
theorem dX12_worked_117 : decode cX12_worked 117 = .ok (.ifCond .le 7, 3) := by decide +kernel
theorem dX12_worked_120 : decode cX12_worked 120 = .ok (.iconst 1, 1) := by decide +kernel
theorem dX12_worked_121 : decode cX12_worked 121 = .ok (.goto 4, 3) := by decide +kernel
theorem dX12_worked_124 : decode cX12_worked 124 = .ok (.iconst 0, 1) := by decide +kernel
theorem dX12_worked_125 : decode cX12_worked 125 = .ok (.ireturn, 1) := by decide +kernel
theorem dX12_worked_126 : decode cX12_worked 126 = .ok (.lload_n 1, 1) := by decide +kernel
theorem dX12_worked_127 : decode cX12_worked 127 = .ok (.lconst 0, 1) := by decide +kernel
theorem dX12_worked_128 : decode cX12_worked 128 = .ok (.lcmp, 1) := by decide +kernel
theorem dX12_worked_129 : decode cX12_worked 129 = .ok (.ifCond .eq 13, 3) := by decide +kernel
theorem dX12_worked_132 : decode cX12_worked 132 = .ok (.lload_n 3, 1) := by decide +kernel
theorem dX12_worked_133 : decode cX12_worked 133 = .ok (.lconst 0, 1) := by decide +kernel
theorem dX12_worked_134 : decode cX12_worked 134 = .ok (.lcmp, 1) := by decide +kernel
theorem dX12_worked_135 : decode cX12_worked 135 = .ok (.ifCond .eq 7, 3) := by decide +kernel
theorem dX12_worked_138 : decode cX12_worked 138 = .ok (.iconst 1, 1) := by decide +kernel
theorem dX12_worked_139 : decode cX12_worked 139 = .ok (.goto 4, 3) := by decide +kernel
theorem dX12_worked_142 : decode cX12_worked 142 = .ok (.iconst 0, 1) := by decide +kernel
theorem dX12_worked_143 : decode cX12_worked 143 = .ok (.ireturn, 1) := by decide +kernel
theorem dX12_worked_144 : decode cX12_worked 144 = .ok (.lload_n 1, 1) := by decide +kernel
theorem dX12_worked_145 : decode cX12_worked 145 = .ok (.lconst 0, 1) := by decide +kernel
theorem dX12_worked_146 : decode cX12_worked 146 = .ok (.lcmp, 1) := by decide +kernel
theorem dX12_worked_147 : decode cX12_worked 147 = .ok (.ifCond .ne 9, 3) := by decide +kernel
theorem dX12_worked_150 : decode cX12_worked 150 = .ok (.lload_n 3, 1) := by decide +kernel
theorem dX12_worked_151 : decode cX12_worked 151 = .ok (.lconst 0, 1) := by decide +kernel
theorem dX12_worked_152 : decode cX12_worked 152 = .ok (.lcmp, 1) := by decide +kernel
theorem dX12_worked_153 : decode cX12_worked 153 = .ok (.ifCond .eq 7, 3) := by decide +kernel
theorem dX12_worked_156 : decode cX12_worked 156 = .ok (.iconst 1, 1) := by decide +kernel
theorem dX12_worked_157 : decode cX12_worked 157 = .ok (.goto 4, 3) := by decide +kernel
theorem dX12_worked_160 : decode cX12_worked 160 = .ok (.iconst 0, 1) := by decide +kernel
theorem dX12_worked_161 : decode cX12_worked 161 = .ok (.ireturn, 1) := by decide +kernel
theorem dX12_workOut_0 : decode cX12_workOut 0 = .ok (.iconst 0, 1) := by decide +kernel
theorem dX12_workOut_1 : decode cX12_workOut 1 = .ok (.istore 4, 2) := by decide +kernel
theorem dX12_workOut_3 : decode cX12_workOut 3 = .ok (.sipush 340, 3) := by decide +kernel
theorem dX12_workOut_6 : decode cX12_workOut 6 = .ok (.iload_n 1, 1) := by decide +kernel
theorem dX12_workOut_7 : decode cX12_workOut 7 = .ok (.imul, 1) := by decide +kernel
theorem dX12_workOut_8 : decode cX12_workOut 8 = .ok (.iload_n 2, 1) := by decide +kernel
theorem dX12_workOut_9 : decode cX12_workOut 9 = .ok (.iadd, 1) := by decide +kernel
theorem dX12_workOut_10 : decode cX12_workOut 10 = .ok (.istore 5, 2) := by decide +kernel
theorem dX12_workOut_12 : decode cX12_workOut 12 = .ok (.iload 5, 2) := by decide +kernel
theorem dX12_workOut_14 : decode cX12_workOut 14 = .ok (.sipush 340, 3) := by decide +kernel
theorem dX12_workOut_17 : decode cX12_workOut 17 = .ok (.iload_n 1, 1) := by decide +kernel
theorem dX12_workOut_18 : decode cX12_workOut 18 = .ok (.imul, 1) := by decide +kernel
theorem dX12_workOut_19 : decode cX12_workOut 19 = .ok (.iload_n 3, 1) := by decide +kernel
theorem dX12_workOut_20 : decode cX12_workOut 20 = .ok (.iadd, 1) := by decide +kernel
theorem dX12_workOut_21 : decode cX12_workOut 21 = .ok (.if_icmp .ge 150, 3) := by decide +kernel
theorem dX12_workOut_24 : decode cX12_workOut 24 = .ok (.aload_n 0, 1) := by decide +kernel
theorem dX12_workOut_25 : decode cX12_workOut 25 = .ok (.getfield 13, 3) := by decide +kernel
theorem dX12_workOut_28 : decode cX12_workOut 28 = .ok (.iload 5, 2) := by decide +kernel
theorem dX12_workOut_30 : decode cX12_workOut 30 = .ok (.iaload, 1) := by decide +kernel
theorem dX12_workOut_31 : decode cX12_workOut 31 = .ok (.ifCond .eq 14, 3) := by decide +kernel
theorem dX12_workOut_34 : decode cX12_workOut 34 = .ok (.aload_n 0, 1) := by decide +kernel
theorem dX12_workOut_35 : decode cX12_workOut 35 = .ok (.getfield 13, 3) := by decide +kernel
theorem dX12_workOut_38 : decode cX12_workOut 38 = .ok (.iload 5, 2) := by decide +kernel
theorem dX12_workOut_40 : decode cX12_workOut 40 = .ok (.iaload, 1) := by decide +kernel
theorem dX12_workOut_41 : decode cX12_workOut 41 = .ok (.iconst 1, 1) := by decide +kernel
theorem dX12_workOut_42 : decode cX12_workOut 42 = .ok (.if_icmp .ne 48, 3) := by decide +kernel
theorem dX12_workOut_45 : decode cX12_workOut 45 = .ok (.aload_n 0, 1) := by decide +kernel
theorem dX12_workOut_46 : decode cX12_workOut 46 = .ok (.getfield 37, 3) := by decide +kernel
theorem dX12_workOut_49 : decode cX12_workOut 49 = .ok (.iload 4, 2) := by decide +kernel
theorem dX12_workOut_51 : decode cX12_workOut 51 = .ok (.aload_n 0, 1) := by decide +kernel
theorem dX12_workOut_52 : decode cX12_workOut 52 = .ok (.getfield 13, 3) := by decide +kernel
theorem dX12_workOut_55 : decode cX12_workOut 55 = .ok (.iload 5, 2) := by decide +kernel
theorem dX12_workOut_57 : decode cX12_workOut 57 = .ok (.iaload, 1) := by decide +kernel
theorem dX12_workOut_58 : decode cX12_workOut 58 = .ok (.ifCond .ne 13, 3) := by decide +kernel
theorem dX12_workOut_61 : decode cX12_workOut 61 = .ok (.aload_n 0, 1) := by decide +kernel
theorem dX12_workOut_62 : decode cX12_workOut 62 = .ok (.getfield 16, 3) := by decide +kernel
theorem dX12_workOut_65 : decode cX12_workOut 65 = .ok (.iload 5, 2) := by decide +kernel
theorem dX12_workOut_67 : decode cX12_workOut 67 = .ok (.iaload, 1) := by decide +kernel
theorem dX12_workOut_68 : decode cX12_workOut 68 = .ok (.goto 15, 3) := by decide +kernel
theorem dX12_workOut_71 : decode cX12_workOut 71 = .ok (.aload_n 0, 1) := by decide +kernel
theorem dX12_workOut_72 : decode cX12_workOut 72 = .ok (.getfield 34, 3) := by decide +kernel
theorem dX12_workOut_75 : decode cX12_workOut 75 = .ok (.aload_n 0, 1) := by decide +kernel
theorem dX12_workOut_76 : decode cX12_workOut 76 = .ok (.getfield 16, 3) := by decide +kernel
theorem dX12_workOut_79 : decode cX12_workOut 79 = .ok (.iload 5, 2) := by decide +kernel
theorem dX12_workOut_81 : decode cX12_workOut 81 = .ok (.iaload, 1) := by decide +kernel
theorem dX12_workOut_82 : decode cX12_workOut 82 = .ok (.iaload, 1) := by decide +kernel
theorem dX12_workOut_83 : decode cX12_workOut 83 = .ok (.iastore, 1) := by decide +kernel
theorem dX12_workOut_84 : decode cX12_workOut 84 = .ok (.iinc 4 1, 3) := by decide +kernel
theorem dX12_workOut_87 : decode cX12_workOut 87 = .ok (.goto 78, 3) := by decide +kernel
theorem dX12_workOut_90 : decode cX12_workOut 90 = .ok (.aload_n 0, 1) := by decide +kernel
theorem dX12_workOut_91 : decode cX12_workOut 91 = .ok (.getfield 13, 3) := by decide +kernel
theorem dX12_workOut_94 : decode cX12_workOut 94 = .ok (.iload 5, 2) := by decide +kernel
theorem dX12_workOut_96 : decode cX12_workOut 96 = .ok (.iaload, 1) := by decide +kernel
theorem dX12_workOut_97 : decode cX12_workOut 97 = .ok (.bipush 9, 2) := by decide +kernel
theorem dX12_workOut_99 : decode cX12_workOut 99 = .ok (.if_icmp .ne 26, 3) := by decide +kernel
theorem dX12_workOut_102 : decode cX12_workOut 102 = .ok (.aload_n 0, 1) := by decide +kernel
theorem dX12_workOut_103 : decode cX12_workOut 103 = .ok (.getfield 37, 3) := by decide +kernel
theorem dX12_workOut_106 : decode cX12_workOut 106 = .ok (.iload 4, 2) := by decide +kernel
theorem dX12_workOut_108 : decode cX12_workOut 108 = .ok (.iconst 1, 1) := by decide +kernel
theorem dX12_workOut_109 : decode cX12_workOut 109 = .ok (.isub, 1) := by decide +kernel
theorem dX12_workOut_110 : decode cX12_workOut 110 = .ok (.iconst 1, 1) := by decide +kernel
theorem dX12_workOut_111 : decode cX12_workOut 111 = .ok (.aload_n 0, 1) := by decide +kernel
theorem dX12_workOut_112 : decode cX12_workOut 112 = .ok (.getfield 37, 3) := by decide +kernel
theorem dX12_workOut_115 : decode cX12_workOut 115 = .ok (.iload 4, 2) := by decide +kernel
theorem dX12_workOut_117 : decode cX12_workOut 117 = .ok (.iconst 1, 1) := by decide +kernel
theorem dX12_workOut_118 : decode cX12_workOut 118 = .ok (.isub, 1) := by decide +kernel
theorem dX12_workOut_119 : decode cX12_workOut 119 = .ok (.iaload, 1) := by decide +kernel
theorem dX12_workOut_120 : decode cX12_workOut 120 = .ok (.isub, 1) := by decide +kernel
theorem dX12_workOut_121 : decode cX12_workOut 121 = .ok (.iastore, 1) := by decide +kernel
theorem dX12_workOut_122 : decode cX12_workOut 122 = .ok (.goto 43, 3) := by decide +kernel
theorem dX12_workOut_125 : decode cX12_workOut 125 = .ok (.iinc 4 (-1), 3) := by decide +kernel
theorem dX12_workOut_128 : decode cX12_workOut 128 = .ok (.aload_n 0, 1) := by decide +kernel
theorem dX12_workOut_129 : decode cX12_workOut 129 = .ok (.getfield 37, 3) := by decide +kernel
theorem dX12_workOut_132 : decode cX12_workOut 132 = .ok (.iload 4, 2) := by decide +kernel
theorem dX12_workOut_134 : decode cX12_workOut 134 = .ok (.iconst 1, 1) := by decide +kernel
theorem dX12_workOut_135 : decode cX12_workOut 135 = .ok (.isub, 1) := by decide +kernel
theorem dX12_workOut_136 : decode cX12_workOut 136 = .ok (.aload_n 0, 1) := by decide +kernel
theorem dX12_workOut_137 : decode cX12_workOut 137 = .ok (.getfield 13, 3) := by decide +kernel
theorem dX12_workOut_140 : decode cX12_workOut 140 = .ok (.iload 5, 2) := by decide +kernel
theorem dX12_workOut_142 : decode cX12_workOut 142 = .ok (.iaload, 1) := by decide +kernel
theorem dX12_workOut_143 : decode cX12_workOut 143 = .ok (.aload_n 0, 1) := by decide +kernel
theorem dX12_workOut_144 : decode cX12_workOut 144 = .ok (.getfield 37, 3) := by decide +kernel
theorem dX12_workOut_147 : decode cX12_workOut 147 = .ok (.iload 4, 2) := by decide +kernel
theorem dX12_workOut_149 : decode cX12_workOut 149 = .ok (.iconst 1, 1) := by decide +kernel
theorem dX12_workOut_150 : decode cX12_workOut 150 = .ok (.isub, 1) := by decide +kernel
theorem dX12_workOut_151 : decode cX12_workOut 151 = .ok (.iaload, 1) := by decide +kernel
theorem dX12_workOut_152 : decode cX12_workOut 152 = .ok (.i2l, 1) := by decide +kernel
theorem dX12_workOut_153 : decode cX12_workOut 153 = .ok (.aload_n 0, 1) := by decide +kernel
theorem dX12_workOut_154 : decode cX12_workOut 154 = .ok (.getfield 37, 3) := by decide +kernel
theorem dX12_workOut_157 : decode cX12_workOut 157 = .ok (.iload 4, 2) := by decide +kernel
theorem dX12_workOut_159 : decode cX12_workOut 159 = .ok (.iaload, 1) := by decide +kernel
theorem dX12_workOut_160 : decode cX12_workOut 160 = .ok (.i2l, 1) := by decide +kernel
theorem dX12_workOut_161 : decode cX12_workOut 161 = .ok (.invokestatic 207, 3) := by decide +kernel
theorem dX12_workOut_164 : decode cX12_workOut 164 = .ok (.iastore, 1) := by decide +kernel
theorem dX12_workOut_165 : decode cX12_workOut 165 = .ok (.iinc 5 1, 3) := by decide +kernel
theorem dX12_workOut_168 : decode cX12_workOut 168 = .ok (.goto (-156), 3) := by decide +kernel
theorem dX12_workOut_171 : decode cX12_workOut 171 = .ok (.aload_n 0, 1) := by decide +kernel
theorem dX12_workOut_172 : decode cX12_workOut 172 = .ok (.getfield 37, 3) := by decide +kernel
theorem dX12_workOut_175 : decode cX12_workOut 175 = .ok (.iconst 0, 1) := by decide +kernel
theorem dX12_workOut_176 : decode cX12_workOut 176 = .ok (.iaload, 1) := by decide +kernel
theorem dX12_workOut_177 : decode cX12_workOut 177 = .ok (.ireturn, 1) := by decide +kernel
theorem dX12_worthOf_0 : decode cX12_worthOf 0 = .ok (.bipush 90, 2) := by decide +kernel
theorem dX12_worthOf_2 : decode cX12_worthOf 2 = .ok (.iload_n 1, 1) := by decide +kernel
theorem dX12_worthOf_3 : decode cX12_worthOf 3 = .ok (.imul, 1) := by decide +kernel
theorem dX12_worthOf_4 : decode cX12_worthOf 4 = .ok (.istore_n 2, 1) := by decide +kernel
theorem dX12_worthOf_5 : decode cX12_worthOf 5 = .ok (.iload_n 2, 1) := by decide +kernel
theorem dX12_worthOf_6 : decode cX12_worthOf 6 = .ok (.bipush 90, 2) := by decide +kernel
theorem dX12_worthOf_8 : decode cX12_worthOf 8 = .ok (.iload_n 1, 1) := by decide +kernel
theorem dX12_worthOf_9 : decode cX12_worthOf 9 = .ok (.imul, 1) := by decide +kernel
theorem dX12_worthOf_10 : decode cX12_worthOf 10 = .ok (.aload_n 0, 1) := by decide +kernel
theorem dX12_worthOf_11 : decode cX12_worthOf 11 = .ok (.getfield 22, 3) := by decide +kernel
theorem dX12_worthOf_14 : decode cX12_worthOf 14 = .ok (.iload_n 1, 1) := by decide +kernel
theorem dX12_worthOf_15 : decode cX12_worthOf 15 = .ok (.iaload, 1) := by decide +kernel
theorem dX12_worthOf_16 : decode cX12_worthOf 16 = .ok (.iadd, 1) := by decide +kernel
theorem dX12_worthOf_17 : decode cX12_worthOf 17 = .ok (.if_icmp .ge 62, 3) := by decide +kernel
theorem dX12_worthOf_20 : decode cX12_worthOf 20 = .ok (.aload_n 0, 1) := by decide +kernel
theorem dX12_worthOf_21 : decode cX12_worthOf 21 = .ok (.getfield 25, 3) := by decide +kernel
theorem dX12_worthOf_24 : decode cX12_worthOf 24 = .ok (.iload_n 2, 1) := by decide +kernel
theorem dX12_worthOf_25 : decode cX12_worthOf 25 = .ok (.iaload, 1) := by decide +kernel
theorem dX12_worthOf_26 : decode cX12_worthOf 26 = .ok (.aload_n 0, 1) := by decide +kernel
theorem dX12_worthOf_27 : decode cX12_worthOf 27 = .ok (.getfield 28, 3) := by decide +kernel
theorem dX12_worthOf_30 : decode cX12_worthOf 30 = .ok (.iload_n 2, 1) := by decide +kernel
theorem dX12_worthOf_31 : decode cX12_worthOf 31 = .ok (.iaload, 1) := by decide +kernel
theorem dX12_worthOf_32 : decode cX12_worthOf 32 = .ok (.if_icmp .eq 23, 3) := by decide +kernel
theorem dX12_worthOf_35 : decode cX12_worthOf 35 = .ok (.aload_n 0, 1) := by decide +kernel
theorem dX12_worthOf_36 : decode cX12_worthOf 36 = .ok (.iload_n 1, 1) := by decide +kernel
theorem dX12_worthOf_37 : decode cX12_worthOf 37 = .ok (.aload_n 0, 1) := by decide +kernel
theorem dX12_worthOf_38 : decode cX12_worthOf 38 = .ok (.getfield 25, 3) := by decide +kernel
theorem dX12_worthOf_41 : decode cX12_worthOf 41 = .ok (.iload_n 2, 1) := by decide +kernel
theorem dX12_worthOf_42 : decode cX12_worthOf 42 = .ok (.iaload, 1) := by decide +kernel
theorem dX12_worthOf_43 : decode cX12_worthOf 43 = .ok (.aload_n 0, 1) := by decide +kernel
theorem dX12_worthOf_44 : decode cX12_worthOf 44 = .ok (.getfield 28, 3) := by decide +kernel
theorem dX12_worthOf_47 : decode cX12_worthOf 47 = .ok (.iload_n 2, 1) := by decide +kernel
theorem dX12_worthOf_48 : decode cX12_worthOf 48 = .ok (.iaload, 1) := by decide +kernel
theorem dX12_worthOf_49 : decode cX12_worthOf 49 = .ok (.invokevirtual 211, 3) := by decide +kernel
theorem dX12_worthOf_52 : decode cX12_worthOf 52 = .ok (.ifCond .eq 21, 3) := by decide +kernel
theorem dX12_worthOf_55 : decode cX12_worthOf 55 = .ok (.aload_n 0, 1) := by decide +kernel
theorem dX12_worthOf_56 : decode cX12_worthOf 56 = .ok (.iload_n 1, 1) := by decide +kernel
theorem dX12_worthOf_57 : decode cX12_worthOf 57 = .ok (.aload_n 0, 1) := by decide +kernel
theorem dX12_worthOf_58 : decode cX12_worthOf 58 = .ok (.getfield 28, 3) := by decide +kernel
theorem dX12_worthOf_61 : decode cX12_worthOf 61 = .ok (.iload_n 2, 1) := by decide +kernel
theorem dX12_worthOf_62 : decode cX12_worthOf 62 = .ok (.iaload, 1) := by decide +kernel
theorem dX12_worthOf_63 : decode cX12_worthOf 63 = .ok (.aload_n 0, 1) := by decide +kernel
theorem dX12_worthOf_64 : decode cX12_worthOf 64 = .ok (.getfield 31, 3) := by decide +kernel
theorem dX12_worthOf_67 : decode cX12_worthOf 67 = .ok (.iload_n 2, 1) := by decide +kernel
theorem dX12_worthOf_68 : decode cX12_worthOf 68 = .ok (.iaload, 1) := by decide +kernel
theorem dX12_worthOf_69 : decode cX12_worthOf 69 = .ok (.invokevirtual 211, 3) := by decide +kernel
theorem dX12_worthOf_72 : decode cX12_worthOf 72 = .ok (.ireturn, 1) := by decide +kernel
theorem dX12_worthOf_73 : decode cX12_worthOf 73 = .ok (.iinc 2 1, 3) := by decide +kernel
theorem dX12_worthOf_76 : decode cX12_worthOf 76 = .ok (.goto (-71), 3) := by decide +kernel
theorem dX12_worthOf_79 : decode cX12_worthOf 79 = .ok (.iconst 0, 1) := by decide +kernel
theorem dX12_worthOf_80 : decode cX12_worthOf 80 = .ok (.ireturn, 1) := by decide +kernel
theorem dX12_number_0 : decode cX12_number 0 = .ok (.aload_n 0, 1) := by decide +kernel
theorem dX12_number_1 : decode cX12_number 1 = .ok (.invokevirtual 129, 3) := by decide +kernel
theorem dX12_number_4 : decode cX12_number 4 = .ok (.invokestatic 132, 3) := by decide +kernel
theorem dX12_number_7 : decode cX12_number 7 = .ok (.ifCond .ne 9, 3) := by decide +kernel
theorem dX12_number_10 : decode cX12_number 10 = .ok (.aload_n 0, 1) := by decide +kernel
theorem dX12_number_11 : decode cX12_number 11 = .ok (.invokevirtual 126, 3) := by decide +kernel
theorem dX12_number_14 : decode cX12_number 14 = .ok (.iload_n 1, 1) := by decide +kernel
theorem dX12_number_15 : decode cX12_number 15 = .ok (.ireturn, 1) := by decide +kernel
theorem dX12_number_16 : decode cX12_number 16 = .ok (.aload_n 0, 1) := by decide +kernel
theorem dX12_number_17 : decode cX12_number 17 = .ok (.invokevirtual 113, 3) := by decide +kernel
theorem dX12_number_20 : decode cX12_number 20 = .ok (.bipush 48, 2) := by decide +kernel
theorem dX12_number_22 : decode cX12_number 22 = .ok (.isub, 1) := by decide +kernel
theorem dX12_number_23 : decode cX12_number 23 = .ok (.istore_n 3, 1) := by decide +kernel
theorem dX12_number_24 : decode cX12_number 24 = .ok (.aload_n 0, 1) := by decide +kernel
theorem dX12_number_25 : decode cX12_number 25 = .ok (.dup, 1) := by decide +kernel
theorem dX12_number_26 : decode cX12_number 26 = .ok (.getfield 110, 3) := by decide +kernel
theorem dX12_number_29 : decode cX12_number 29 = .ok (.iconst 1, 1) := by decide +kernel
theorem dX12_number_30 : decode cX12_number 30 = .ok (.iadd, 1) := by decide +kernel
theorem dX12_number_31 : decode cX12_number 31 = .ok (.putfield 110, 3) := by decide +kernel
theorem dX12_number_34 : decode cX12_number 34 = .ok (.aload_n 0, 1) := by decide +kernel
theorem dX12_number_35 : decode cX12_number 35 = .ok (.invokevirtual 113, 3) := by decide +kernel
theorem dX12_number_38 : decode cX12_number 38 = .ok (.invokestatic 132, 3) := by decide +kernel
theorem dX12_number_41 : decode cX12_number 41 = .ok (.ifCond .eq 26, 3) := by decide +kernel
theorem dX12_number_44 : decode cX12_number 44 = .ok (.bipush 10, 2) := by decide +kernel
theorem dX12_number_46 : decode cX12_number 46 = .ok (.iload_n 3, 1) := by decide +kernel
theorem dX12_number_47 : decode cX12_number 47 = .ok (.imul, 1) := by decide +kernel
theorem dX12_number_48 : decode cX12_number 48 = .ok (.aload_n 0, 1) := by decide +kernel
theorem dX12_number_49 : decode cX12_number 49 = .ok (.invokevirtual 113, 3) := by decide +kernel
theorem dX12_number_52 : decode cX12_number 52 = .ok (.iadd, 1) := by decide +kernel
theorem dX12_number_53 : decode cX12_number 53 = .ok (.bipush 48, 2) := by decide +kernel
theorem dX12_number_55 : decode cX12_number 55 = .ok (.isub, 1) := by decide +kernel
theorem dX12_number_56 : decode cX12_number 56 = .ok (.istore_n 3, 1) := by decide +kernel
theorem dX12_number_57 : decode cX12_number 57 = .ok (.aload_n 0, 1) := by decide +kernel
theorem dX12_number_58 : decode cX12_number 58 = .ok (.dup, 1) := by decide +kernel
theorem dX12_number_59 : decode cX12_number 59 = .ok (.getfield 110, 3) := by decide +kernel
theorem dX12_number_62 : decode cX12_number 62 = .ok (.iconst 1, 1) := by decide +kernel
theorem dX12_number_63 : decode cX12_number 63 = .ok (.iadd, 1) := by decide +kernel
theorem dX12_number_64 : decode cX12_number 64 = .ok (.putfield 110, 3) := by decide +kernel
theorem dX12_number_67 : decode cX12_number 67 = .ok (.aload_n 0, 1) := by decide +kernel
theorem dX12_number_68 : decode cX12_number 68 = .ok (.invokevirtual 113, 3) := by decide +kernel
theorem dX12_number_71 : decode cX12_number 71 = .ok (.invokestatic 132, 3) := by decide +kernel
theorem dX12_number_74 : decode cX12_number 74 = .ok (.ifCond .eq 10, 3) := by decide +kernel
theorem dX12_number_77 : decode cX12_number 77 = .ok (.aload_n 0, 1) := by decide +kernel
theorem dX12_number_78 : decode cX12_number 78 = .ok (.invokevirtual 126, 3) := by decide +kernel
theorem dX12_number_81 : decode cX12_number 81 = .ok (.goto 26, 3) := by decide +kernel
theorem dX12_number_84 : decode cX12_number 84 = .ok (.iload_n 3, 1) := by decide +kernel
theorem dX12_number_85 : decode cX12_number 85 = .ok (.iload_n 1, 1) := by decide +kernel
theorem dX12_number_86 : decode cX12_number 86 = .ok (.iload_n 2, 1) := by decide +kernel
theorem dX12_number_87 : decode cX12_number 87 = .ok (.invokestatic 215, 3) := by decide +kernel
theorem dX12_number_90 : decode cX12_number 90 = .ok (.ifCond .ne 17, 3) := by decide +kernel
theorem dX12_number_93 : decode cX12_number 93 = .ok (.aload_n 0, 1) := by decide +kernel
theorem dX12_number_94 : decode cX12_number 94 = .ok (.dup, 1) := by decide +kernel
theorem dX12_number_95 : decode cX12_number 95 = .ok (.getfield 110, 3) := by decide +kernel
theorem dX12_number_98 : decode cX12_number 98 = .ok (.iconst 1, 1) := by decide +kernel
theorem dX12_number_99 : decode cX12_number 99 = .ok (.isub, 1) := by decide +kernel
theorem dX12_number_100 : decode cX12_number 100 = .ok (.putfield 110, 3) := by decide +kernel
theorem dX12_number_103 : decode cX12_number 103 = .ok (.aload_n 0, 1) := by decide +kernel
theorem dX12_number_104 : decode cX12_number 104 = .ok (.invokevirtual 126, 3) := by decide +kernel
theorem dX12_number_107 : decode cX12_number 107 = .ok (.iload_n 3, 1) := by decide +kernel
theorem dX12_number_108 : decode cX12_number 108 = .ok (.ireturn, 1) := by decide +kernel
theorem dX12_itemOf_0 : decode cX12_itemOf 0 = .ok (.iload_n 0, 1) := by decide +kernel
theorem dX12_itemOf_1 : decode cX12_itemOf 1 = .ok (.bipush 118, 2) := by decide +kernel
theorem dX12_itemOf_3 : decode cX12_itemOf 3 = .ok (.if_icmp .ne 7, 3) := by decide +kernel
theorem dX12_itemOf_6 : decode cX12_itemOf 6 = .ok (.iconst 0, 1) := by decide +kernel
theorem dX12_itemOf_7 : decode cX12_itemOf 7 = .ok (.goto 65, 3) := by decide +kernel
theorem dX12_itemOf_10 : decode cX12_itemOf 10 = .ok (.iload_n 0, 1) := by decide +kernel
theorem dX12_itemOf_11 : decode cX12_itemOf 11 = .ok (.bipush 100, 2) := by decide +kernel
theorem dX12_itemOf_13 : decode cX12_itemOf 13 = .ok (.if_icmp .ne 7, 3) := by decide +kernel
theorem dX12_itemOf_16 : decode cX12_itemOf 16 = .ok (.iconst 1, 1) := by decide +kernel
theorem dX12_itemOf_17 : decode cX12_itemOf 17 = .ok (.goto 55, 3) := by decide +kernel
theorem dX12_itemOf_20 : decode cX12_itemOf 20 = .ok (.iload_n 0, 1) := by decide +kernel
theorem dX12_itemOf_21 : decode cX12_itemOf 21 = .ok (.bipush 101, 2) := by decide +kernel
theorem dX12_itemOf_23 : decode cX12_itemOf 23 = .ok (.if_icmp .ne 7, 3) := by decide +kernel
theorem dX12_itemOf_26 : decode cX12_itemOf 26 = .ok (.iconst 2, 1) := by decide +kernel
theorem dX12_itemOf_27 : decode cX12_itemOf 27 = .ok (.goto 45, 3) := by decide +kernel
theorem dX12_itemOf_30 : decode cX12_itemOf 30 = .ok (.iload_n 0, 1) := by decide +kernel
theorem dX12_itemOf_31 : decode cX12_itemOf 31 = .ok (.bipush 107, 2) := by decide +kernel
theorem dX12_itemOf_33 : decode cX12_itemOf 33 = .ok (.if_icmp .ne 7, 3) := by decide +kernel
theorem dX12_itemOf_36 : decode cX12_itemOf 36 = .ok (.iconst 3, 1) := by decide +kernel
theorem dX12_itemOf_37 : decode cX12_itemOf 37 = .ok (.goto 35, 3) := by decide +kernel
theorem dX12_itemOf_40 : decode cX12_itemOf 40 = .ok (.iload_n 0, 1) := by decide +kernel
theorem dX12_itemOf_41 : decode cX12_itemOf 41 = .ok (.bipush 110, 2) := by decide +kernel
theorem dX12_itemOf_43 : decode cX12_itemOf 43 = .ok (.if_icmp .ne 7, 3) := by decide +kernel
theorem dX12_itemOf_46 : decode cX12_itemOf 46 = .ok (.iconst 4, 1) := by decide +kernel
theorem dX12_itemOf_47 : decode cX12_itemOf 47 = .ok (.goto 25, 3) := by decide +kernel
theorem dX12_itemOf_50 : decode cX12_itemOf 50 = .ok (.iload_n 0, 1) := by decide +kernel
theorem dX12_itemOf_51 : decode cX12_itemOf 51 = .ok (.bipush 121, 2) := by decide +kernel
theorem dX12_itemOf_53 : decode cX12_itemOf 53 = .ok (.if_icmp .ne 7, 3) := by decide +kernel
theorem dX12_itemOf_56 : decode cX12_itemOf 56 = .ok (.iconst 5, 1) := by decide +kernel
theorem dX12_itemOf_57 : decode cX12_itemOf 57 = .ok (.goto 15, 3) := by decide +kernel
theorem dX12_itemOf_60 : decode cX12_itemOf 60 = .ok (.iload_n 0, 1) := by decide +kernel
theorem dX12_itemOf_61 : decode cX12_itemOf 61 = .ok (.bipush 98, 2) := by decide +kernel
theorem dX12_itemOf_63 : decode cX12_itemOf 63 = .ok (.if_icmp .ne 8, 3) := by decide +kernel
theorem dX12_itemOf_66 : decode cX12_itemOf 66 = .ok (.bipush 6, 2) := by decide +kernel
theorem dX12_itemOf_68 : decode cX12_itemOf 68 = .ok (.goto 4, 3) := by decide +kernel
theorem dX12_itemOf_71 : decode cX12_itemOf 71 = .ok (.iconst (-1), 1) := by decide +kernel
theorem dX12_itemOf_72 : decode cX12_itemOf 72 = .ok (.ireturn, 1) := by decide +kernel
theorem dX12_highest_0 : decode cX12_highest 0 = .ok (.iload_n 0, 1) := by decide +kernel
theorem dX12_highest_1 : decode cX12_highest 1 = .ok (.ifCond .ne 7, 3) := by decide +kernel
theorem dX12_highest_4 : decode cX12_highest 4 = .ok (.iconst 1, 1) := by decide +kernel
theorem dX12_highest_5 : decode cX12_highest 5 = .ok (.goto 39, 3) := by decide +kernel
theorem dX12_highest_8 : decode cX12_highest 8 = .ok (.iload_n 0, 1) := by decide +kernel
theorem dX12_highest_9 : decode cX12_highest 9 = .ok (.iconst 3, 1) := by decide +kernel
theorem dX12_highest_10 : decode cX12_highest 10 = .ok (.if_icmp .ne 7, 3) := by decide +kernel
theorem dX12_highest_13 : decode cX12_highest 13 = .ok (.iconst 3, 1) := by decide +kernel
theorem dX12_highest_14 : decode cX12_highest 14 = .ok (.goto 30, 3) := by decide +kernel
theorem dX12_highest_17 : decode cX12_highest 17 = .ok (.iload_n 0, 1) := by decide +kernel
theorem dX12_highest_18 : decode cX12_highest 18 = .ok (.iconst 4, 1) := by decide +kernel
theorem dX12_highest_19 : decode cX12_highest 19 = .ok (.if_icmp .ne 8, 3) := by decide +kernel
theorem dX12_highest_22 : decode cX12_highest 22 = .ok (.bipush 7, 2) := by decide +kernel
theorem dX12_highest_24 : decode cX12_highest 24 = .ok (.goto 20, 3) := by decide +kernel
theorem dX12_highest_27 : decode cX12_highest 27 = .ok (.iload_n 0, 1) := by decide +kernel
theorem dX12_highest_28 : decode cX12_highest 28 = .ok (.iconst 1, 1) := by decide +kernel
theorem dX12_highest_29 : decode cX12_highest 29 = .ok (.if_icmp .eq 8, 3) := by decide +kernel
theorem dX12_highest_32 : decode cX12_highest 32 = .ok (.iload_n 0, 1) := by decide +kernel
theorem dX12_highest_33 : decode cX12_highest 33 = .ok (.iconst 5, 1) := by decide +kernel
theorem dX12_highest_34 : decode cX12_highest 34 = .ok (.if_icmp .ne 8, 3) := by decide +kernel
theorem dX12_highest_37 : decode cX12_highest 37 = .ok (.bipush 20, 2) := by decide +kernel
theorem dX12_highest_39 : decode cX12_highest 39 = .ok (.goto 5, 3) := by decide +kernel
theorem dX12_highest_42 : decode cX12_highest 42 = .ok (.bipush 99, 2) := by decide +kernel
theorem dX12_highest_44 : decode cX12_highest 44 = .ok (.ireturn, 1) := by decide +kernel
theorem dX12_usual_0 : decode cX12_usual 0 = .ok (.iload_n 0, 1) := by decide +kernel
theorem dX12_usual_1 : decode cX12_usual 1 = .ok (.ifCond .eq 8, 3) := by decide +kernel
theorem dX12_usual_4 : decode cX12_usual 4 = .ok (.iload_n 0, 1) := by decide +kernel
theorem dX12_usual_5 : decode cX12_usual 5 = .ok (.iconst 1, 1) := by decide +kernel
theorem dX12_usual_6 : decode cX12_usual 6 = .ok (.if_icmp .ne 7, 3) := by decide +kernel
theorem dX12_usual_9 : decode cX12_usual 9 = .ok (.iconst 1, 1) := by decide +kernel
theorem dX12_usual_10 : decode cX12_usual 10 = .ok (.goto 34, 3) := by decide +kernel
theorem dX12_usual_13 : decode cX12_usual 13 = .ok (.iload_n 0, 1) := by decide +kernel
theorem dX12_usual_14 : decode cX12_usual 14 = .ok (.iconst 4, 1) := by decide +kernel
theorem dX12_usual_15 : decode cX12_usual 15 = .ok (.if_icmp .ne 8, 3) := by decide +kernel
theorem dX12_usual_18 : decode cX12_usual 18 = .ok (.bipush 7, 2) := by decide +kernel
theorem dX12_usual_20 : decode cX12_usual 20 = .ok (.goto 24, 3) := by decide +kernel
theorem dX12_usual_23 : decode cX12_usual 23 = .ok (.iload_n 0, 1) := by decide +kernel
theorem dX12_usual_24 : decode cX12_usual 24 = .ok (.iconst 5, 1) := by decide +kernel
theorem dX12_usual_25 : decode cX12_usual 25 = .ok (.if_icmp .ne 7, 3) := by decide +kernel
theorem dX12_usual_28 : decode cX12_usual 28 = .ok (.iconst 3, 1) := by decide +kernel
theorem dX12_usual_29 : decode cX12_usual 29 = .ok (.goto 15, 3) := by decide +kernel
theorem dX12_usual_32 : decode cX12_usual 32 = .ok (.iload_n 0, 1) := by decide +kernel
theorem dX12_usual_33 : decode cX12_usual 33 = .ok (.bipush 6, 2) := by decide +kernel
theorem dX12_usual_35 : decode cX12_usual 35 = .ok (.if_icmp .ne 8, 3) := by decide +kernel
theorem dX12_usual_38 : decode cX12_usual 38 = .ok (.bipush 10, 2) := by decide +kernel
theorem dX12_usual_40 : decode cX12_usual 40 = .ok (.goto 4, 3) := by decide +kernel
theorem dX12_usual_43 : decode cX12_usual 43 = .ok (.iconst 0, 1) := by decide +kernel
theorem dX12_usual_44 : decode cX12_usual 44 = .ok (.ireturn, 1) := by decide +kernel
theorem dX12_memberText_0 : decode cX12_memberText 0 = .ok (.aload_n 0, 1) := by decide +kernel
theorem dX12_memberText_1 : decode cX12_memberText 1 = .ok (.dup, 1) := by decide +kernel
theorem dX12_memberText_2 : decode cX12_memberText 2 = .ok (.getfield 110, 3) := by decide +kernel
theorem dX12_memberText_5 : decode cX12_memberText 5 = .ok (.iconst 1, 1) := by decide +kernel
theorem dX12_memberText_6 : decode cX12_memberText 6 = .ok (.iadd, 1) := by decide +kernel
theorem dX12_memberText_7 : decode cX12_memberText 7 = .ok (.putfield 110, 3) := by decide +kernel
theorem dX12_memberText_10 : decode cX12_memberText 10 = .ok (.bipush 7, 2) := by decide +kernel
theorem dX12_memberText_12 : decode cX12_memberText 12 = .ok (.aload_n 0, 1) := by decide +kernel
theorem dX12_memberText_13 : decode cX12_memberText 13 = .ok (.getfield 219, 3) := by decide +kernel
theorem dX12_memberText_16 : decode cX12_memberText 16 = .ok (.imul, 1) := by decide +kernel
theorem dX12_memberText_17 : decode cX12_memberText 17 = .ok (.istore_n 1, 1) := by decide +kernel
theorem dX12_memberText_18 : decode cX12_memberText 18 = .ok (.iconst 0, 1) := by decide +kernel
theorem dX12_memberText_19 : decode cX12_memberText 19 = .ok (.istore_n 2, 1) := by decide +kernel
theorem dX12_memberText_20 : decode cX12_memberText 20 = .ok (.iload_n 2, 1) := by decide +kernel
theorem dX12_memberText_21 : decode cX12_memberText 21 = .ok (.bipush 7, 2) := by decide +kernel
theorem dX12_memberText_23 : decode cX12_memberText 23 = .ok (.if_icmp .ge 21, 3) := by decide +kernel
theorem dX12_memberText_26 : decode cX12_memberText 26 = .ok (.aload_n 0, 1) := by decide +kernel
theorem dX12_memberText_27 : decode cX12_memberText 27 = .ok (.getfield 40, 3) := by decide +kernel
theorem dX12_memberText_30 : decode cX12_memberText 30 = .ok (.iload_n 1, 1) := by decide +kernel
theorem dX12_memberText_31 : decode cX12_memberText 31 = .ok (.iload_n 2, 1) := by decide +kernel
theorem dX12_memberText_32 : decode cX12_memberText 32 = .ok (.iadd, 1) := by decide +kernel
theorem dX12_memberText_33 : decode cX12_memberText 33 = .ok (.iload_n 2, 1) := by decide +kernel
theorem dX12_memberText_34 : decode cX12_memberText 34 = .ok (.invokestatic 222, 3) := by decide +kernel
theorem dX12_memberText_37 : decode cX12_memberText 37 = .ok (.iastore, 1) := by decide +kernel
theorem dX12_memberText_38 : decode cX12_memberText 38 = .ok (.iinc 2 1, 3) := by decide +kernel
theorem dX12_memberText_41 : decode cX12_memberText 41 = .ok (.goto (-21), 3) := by decide +kernel
theorem dX12_memberText_44 : decode cX12_memberText 44 = .ok (.iconst 0, 1) := by decide +kernel
theorem dX12_memberText_45 : decode cX12_memberText 45 = .ok (.istore_n 2, 1) := by decide +kernel
theorem dX12_memberText_46 : decode cX12_memberText 46 = .ok (.aload_n 0, 1) := by decide +kernel
theorem dX12_memberText_47 : decode cX12_memberText 47 = .ok (.invokevirtual 129, 3) := by decide +kernel
theorem dX12_memberText_50 : decode cX12_memberText 50 = .ok (.invokestatic 225, 3) := by decide +kernel
theorem dX12_memberText_53 : decode cX12_memberText 53 = .ok (.istore_n 3, 1) := by decide +kernel
theorem dX12_memberText_54 : decode cX12_memberText 54 = .ok (.aload_n 0, 1) := by decide +kernel
theorem dX12_memberText_55 : decode cX12_memberText 55 = .ok (.getfield 117, 3) := by decide +kernel
theorem dX12_memberText_58 : decode cX12_memberText 58 = .ok (.iconst (-1), 1) := by decide +kernel
theorem dX12_memberText_59 : decode cX12_memberText 59 = .ok (.if_icmp .ne 72, 3) := by decide +kernel
theorem dX12_memberText_62 : decode cX12_memberText 62 = .ok (.iload_n 3, 1) := by decide +kernel
theorem dX12_memberText_63 : decode cX12_memberText 63 = .ok (.iconst (-1), 1) := by decide +kernel
theorem dX12_memberText_64 : decode cX12_memberText 64 = .ok (.if_icmp .eq 67, 3) := by decide +kernel
theorem dX12_memberText_67 : decode cX12_memberText 67 = .ok (.iload_n 2, 1) := by decide +kernel
theorem dX12_memberText_68 : decode cX12_memberText 68 = .ok (.iload_n 3, 1) := by decide +kernel
theorem dX12_memberText_69 : decode cX12_memberText 69 = .ok (.invokestatic 228, 3) := by decide +kernel
theorem dX12_memberText_72 : decode cX12_memberText 72 = .ok (.ifCond .ne 59, 3) := by decide +kernel
theorem dX12_memberText_75 : decode cX12_memberText 75 = .ok (.iload_n 2, 1) := by decide +kernel
theorem dX12_memberText_76 : decode cX12_memberText 76 = .ok (.iconst 1, 1) := by decide +kernel
theorem dX12_memberText_77 : decode cX12_memberText 77 = .ok (.iload_n 3, 1) := by decide +kernel
theorem dX12_memberText_78 : decode cX12_memberText 78 = .ok (.ishl, 1) := by decide +kernel
theorem dX12_memberText_79 : decode cX12_memberText 79 = .ok (.ior, 1) := by decide +kernel
theorem dX12_memberText_80 : decode cX12_memberText 80 = .ok (.istore_n 2, 1) := by decide +kernel
theorem dX12_memberText_81 : decode cX12_memberText 81 = .ok (.aload_n 0, 1) := by decide +kernel
theorem dX12_memberText_82 : decode cX12_memberText 82 = .ok (.dup, 1) := by decide +kernel
theorem dX12_memberText_83 : decode cX12_memberText 83 = .ok (.getfield 110, 3) := by decide +kernel
theorem dX12_memberText_86 : decode cX12_memberText 86 = .ok (.iconst 1, 1) := by decide +kernel
theorem dX12_memberText_87 : decode cX12_memberText 87 = .ok (.iadd, 1) := by decide +kernel
theorem dX12_memberText_88 : decode cX12_memberText 88 = .ok (.putfield 110, 3) := by decide +kernel
theorem dX12_memberText_91 : decode cX12_memberText 91 = .ok (.aload_n 0, 1) := by decide +kernel
theorem dX12_memberText_92 : decode cX12_memberText 92 = .ok (.getfield 40, 3) := by decide +kernel
theorem dX12_memberText_95 : decode cX12_memberText 95 = .ok (.iload_n 1, 1) := by decide +kernel
theorem dX12_memberText_96 : decode cX12_memberText 96 = .ok (.iload_n 3, 1) := by decide +kernel
theorem dX12_memberText_97 : decode cX12_memberText 97 = .ok (.iadd, 1) := by decide +kernel
theorem dX12_memberText_98 : decode cX12_memberText 98 = .ok (.aload_n 0, 1) := by decide +kernel
theorem dX12_memberText_99 : decode cX12_memberText 99 = .ok (.iconst 0, 1) := by decide +kernel
theorem dX12_memberText_100 : decode cX12_memberText 100 = .ok (.iload_n 3, 1) := by decide +kernel
theorem dX12_memberText_101 : decode cX12_memberText 101 = .ok (.invokestatic 232, 3) := by decide +kernel
theorem dX12_memberText_104 : decode cX12_memberText 104 = .ok (.invokevirtual 235, 3) := by decide +kernel
theorem dX12_memberText_107 : decode cX12_memberText 107 = .ok (.iastore, 1) := by decide +kernel
theorem dX12_memberText_108 : decode cX12_memberText 108 = .ok (.aload_n 0, 1) := by decide +kernel
theorem dX12_memberText_109 : decode cX12_memberText 109 = .ok (.getfield 117, 3) := by decide +kernel
theorem dX12_memberText_112 : decode cX12_memberText 112 = .ok (.iconst (-1), 1) := by decide +kernel
theorem dX12_memberText_113 : decode cX12_memberText 113 = .ok (.if_icmp .ne 13, 3) := by decide +kernel
theorem dX12_memberText_116 : decode cX12_memberText 116 = .ok (.aload_n 0, 1) := by decide +kernel
theorem dX12_memberText_117 : decode cX12_memberText 117 = .ok (.invokevirtual 129, 3) := by decide +kernel
theorem dX12_memberText_120 : decode cX12_memberText 120 = .ok (.invokestatic 225, 3) := by decide +kernel
theorem dX12_memberText_123 : decode cX12_memberText 123 = .ok (.goto 4, 3) := by decide +kernel
theorem dX12_memberText_126 : decode cX12_memberText 126 = .ok (.iconst (-1), 1) := by decide +kernel
theorem dX12_memberText_127 : decode cX12_memberText 127 = .ok (.istore_n 3, 1) := by decide +kernel
theorem dX12_memberText_128 : decode cX12_memberText 128 = .ok (.goto (-74), 3) := by decide +kernel
theorem dX12_memberText_131 : decode cX12_memberText 131 = .ok (.aload_n 0, 1) := by decide +kernel
theorem dX12_memberText_132 : decode cX12_memberText 132 = .ok (.dup, 1) := by decide +kernel
theorem dX12_memberText_133 : decode cX12_memberText 133 = .ok (.getfield 219, 3) := by decide +kernel
theorem dX12_memberText_136 : decode cX12_memberText 136 = .ok (.iconst 1, 1) := by decide +kernel
theorem dX12_memberText_137 : decode cX12_memberText 137 = .ok (.iadd, 1) := by decide +kernel
theorem dX12_memberText_138 : decode cX12_memberText 138 = .ok (.putfield 219, 3) := by decide +kernel
theorem dX12_memberText_141 : decode cX12_memberText 141 = .ok (.return_, 1) := by decide +kernel
theorem dX12_readHouse_0 : decode cX12_readHouse 0 = .ok (.aload_n 0, 1) := by decide +kernel
theorem dX12_readHouse_1 : decode cX12_readHouse 1 = .ok (.iconst 0, 1) := by decide +kernel
theorem dX12_readHouse_2 : decode cX12_readHouse 2 = .ok (.putfield 110, 3) := by decide +kernel
theorem dX12_readHouse_5 : decode cX12_readHouse 5 = .ok (.aload_n 0, 1) := by decide +kernel
theorem dX12_readHouse_6 : decode cX12_readHouse 6 = .ok (.iconst (-1), 1) := by decide +kernel
theorem dX12_readHouse_7 : decode cX12_readHouse 7 = .ok (.putfield 117, 3) := by decide +kernel
theorem dX12_readHouse_10 : decode cX12_readHouse 10 = .ok (.aload_n 0, 1) := by decide +kernel
theorem dX12_readHouse_11 : decode cX12_readHouse 11 = .ok (.iconst 0, 1) := by decide +kernel
theorem dX12_readHouse_12 : decode cX12_readHouse 12 = .ok (.putfield 219, 3) := by decide +kernel
theorem dX12_readHouse_15 : decode cX12_readHouse 15 = .ok (.aload_n 0, 1) := by decide +kernel
theorem dX12_readHouse_16 : decode cX12_readHouse 16 = .ok (.iconst 0, 1) := by decide +kernel
theorem dX12_readHouse_17 : decode cX12_readHouse 17 = .ok (.putfield 239, 3) := by decide +kernel
theorem dX12_readHouse_20 : decode cX12_readHouse 20 = .ok (.iconst 1, 1) := by decide +kernel
theorem dX12_readHouse_21 : decode cX12_readHouse 21 = .ok (.istore_n 1, 1) := by decide +kernel
theorem dX12_readHouse_22 : decode cX12_readHouse 22 = .ok (.iload_n 1, 1) := by decide +kernel
theorem dX12_readHouse_23 : decode cX12_readHouse 23 = .ok (.ifCond .eq 117, 3) := by decide +kernel
theorem dX12_readHouse_26 : decode cX12_readHouse 26 = .ok (.aload_n 0, 1) := by decide +kernel
theorem dX12_readHouse_27 : decode cX12_readHouse 27 = .ok (.getfield 117, 3) := by decide +kernel
theorem dX12_readHouse_30 : decode cX12_readHouse 30 = .ok (.iconst (-1), 1) := by decide +kernel
theorem dX12_readHouse_31 : decode cX12_readHouse 31 = .ok (.if_icmp .ne 109, 3) := by decide +kernel
theorem dX12_readHouse_34 : decode cX12_readHouse 34 = .ok (.aload_n 0, 1) := by decide +kernel
theorem dX12_readHouse_35 : decode cX12_readHouse 35 = .ok (.invokevirtual 129, 3) := by decide +kernel
theorem dX12_readHouse_38 : decode cX12_readHouse 38 = .ok (.istore_n 2, 1) := by decide +kernel
theorem dX12_readHouse_39 : decode cX12_readHouse 39 = .ok (.iload_n 2, 1) := by decide +kernel
theorem dX12_readHouse_40 : decode cX12_readHouse 40 = .ok (.bipush 114, 2) := by decide +kernel
theorem dX12_readHouse_42 : decode cX12_readHouse 42 = .ok (.if_icmp .ne 28, 3) := by decide +kernel
theorem dX12_readHouse_45 : decode cX12_readHouse 45 = .ok (.aload_n 0, 1) := by decide +kernel
theorem dX12_readHouse_46 : decode cX12_readHouse 46 = .ok (.getfield 239, 3) := by decide +kernel
theorem dX12_readHouse_49 : decode cX12_readHouse 49 = .ok (.ifCond .ne 21, 3) := by decide +kernel
theorem dX12_readHouse_52 : decode cX12_readHouse 52 = .ok (.aload_n 0, 1) := by decide +kernel
theorem dX12_readHouse_53 : decode cX12_readHouse 53 = .ok (.iconst 1, 1) := by decide +kernel
theorem dX12_readHouse_54 : decode cX12_readHouse 54 = .ok (.putfield 239, 3) := by decide +kernel
theorem dX12_readHouse_57 : decode cX12_readHouse 57 = .ok (.aload_n 0, 1) := by decide +kernel
theorem dX12_readHouse_58 : decode cX12_readHouse 58 = .ok (.dup, 1) := by decide +kernel
theorem dX12_readHouse_59 : decode cX12_readHouse 59 = .ok (.getfield 110, 3) := by decide +kernel
theorem dX12_readHouse_62 : decode cX12_readHouse 62 = .ok (.iconst 1, 1) := by decide +kernel
theorem dX12_readHouse_63 : decode cX12_readHouse 63 = .ok (.iadd, 1) := by decide +kernel
theorem dX12_readHouse_64 : decode cX12_readHouse 64 = .ok (.putfield 110, 3) := by decide +kernel
theorem dX12_readHouse_67 : decode cX12_readHouse 67 = .ok (.goto 29, 3) := by decide +kernel
theorem dX12_readHouse_70 : decode cX12_readHouse 70 = .ok (.iload_n 2, 1) := by decide +kernel
theorem dX12_readHouse_71 : decode cX12_readHouse 71 = .ok (.bipush 109, 2) := by decide +kernel
theorem dX12_readHouse_73 : decode cX12_readHouse 73 = .ok (.if_icmp .ne 19, 3) := by decide +kernel
theorem dX12_readHouse_76 : decode cX12_readHouse 76 = .ok (.aload_n 0, 1) := by decide +kernel
theorem dX12_readHouse_77 : decode cX12_readHouse 77 = .ok (.getfield 219, 3) := by decide +kernel
theorem dX12_readHouse_80 : decode cX12_readHouse 80 = .ok (.bipush 7, 2) := by decide +kernel
theorem dX12_readHouse_82 : decode cX12_readHouse 82 = .ok (.if_icmp .ge 10, 3) := by decide +kernel
theorem dX12_readHouse_85 : decode cX12_readHouse 85 = .ok (.aload_n 0, 1) := by decide +kernel
theorem dX12_readHouse_86 : decode cX12_readHouse 86 = .ok (.invokevirtual 243, 3) := by decide +kernel
theorem dX12_readHouse_89 : decode cX12_readHouse 89 = .ok (.goto 7, 3) := by decide +kernel
theorem dX12_readHouse_92 : decode cX12_readHouse 92 = .ok (.aload_n 0, 1) := by decide +kernel
theorem dX12_readHouse_93 : decode cX12_readHouse 93 = .ok (.invokevirtual 126, 3) := by decide +kernel
theorem dX12_readHouse_96 : decode cX12_readHouse 96 = .ok (.aload_n 0, 1) := by decide +kernel
theorem dX12_readHouse_97 : decode cX12_readHouse 97 = .ok (.getfield 117, 3) := by decide +kernel
theorem dX12_readHouse_100 : decode cX12_readHouse 100 = .ok (.iconst (-1), 1) := by decide +kernel
theorem dX12_readHouse_101 : decode cX12_readHouse 101 = .ok (.if_icmp .ne 16, 3) := by decide +kernel
theorem dX12_readHouse_104 : decode cX12_readHouse 104 = .ok (.aload_n 0, 1) := by decide +kernel
theorem dX12_readHouse_105 : decode cX12_readHouse 105 = .ok (.invokevirtual 129, 3) := by decide +kernel
theorem dX12_readHouse_108 : decode cX12_readHouse 108 = .ok (.bipush 59, 2) := by decide +kernel
theorem dX12_readHouse_110 : decode cX12_readHouse 110 = .ok (.if_icmp .ne 7, 3) := by decide +kernel
theorem dX12_readHouse_113 : decode cX12_readHouse 113 = .ok (.iconst 1, 1) := by decide +kernel
theorem dX12_readHouse_114 : decode cX12_readHouse 114 = .ok (.goto 4, 3) := by decide +kernel
theorem dX12_readHouse_117 : decode cX12_readHouse 117 = .ok (.iconst 0, 1) := by decide +kernel
theorem dX12_readHouse_118 : decode cX12_readHouse 118 = .ok (.istore_n 1, 1) := by decide +kernel
theorem dX12_readHouse_119 : decode cX12_readHouse 119 = .ok (.aload_n 0, 1) := by decide +kernel
theorem dX12_readHouse_120 : decode cX12_readHouse 120 = .ok (.dup, 1) := by decide +kernel
theorem dX12_readHouse_121 : decode cX12_readHouse 121 = .ok (.getfield 110, 3) := by decide +kernel
theorem dX12_readHouse_124 : decode cX12_readHouse 124 = .ok (.iload_n 1, 1) := by decide +kernel
theorem dX12_readHouse_125 : decode cX12_readHouse 125 = .ok (.ifCond .eq 7, 3) := by decide +kernel
theorem dX12_readHouse_128 : decode cX12_readHouse 128 = .ok (.iconst 1, 1) := by decide +kernel
theorem dX12_readHouse_129 : decode cX12_readHouse 129 = .ok (.goto 4, 3) := by decide +kernel
theorem dX12_readHouse_132 : decode cX12_readHouse 132 = .ok (.iconst 0, 1) := by decide +kernel
theorem dX12_readHouse_133 : decode cX12_readHouse 133 = .ok (.iadd, 1) := by decide +kernel
theorem dX12_readHouse_134 : decode cX12_readHouse 134 = .ok (.putfield 110, 3) := by decide +kernel
theorem dX12_readHouse_137 : decode cX12_readHouse 137 = .ok (.goto (-115), 3) := by decide +kernel
theorem dX12_readHouse_140 : decode cX12_readHouse 140 = .ok (.aload_n 0, 1) := by decide +kernel
theorem dX12_readHouse_141 : decode cX12_readHouse 141 = .ok (.getfield 117, 3) := by decide +kernel
theorem dX12_readHouse_144 : decode cX12_readHouse 144 = .ok (.iconst (-1), 1) := by decide +kernel
theorem dX12_readHouse_145 : decode cX12_readHouse 145 = .ok (.if_icmp .ne 23, 3) := by decide +kernel
theorem dX12_readHouse_148 : decode cX12_readHouse 148 = .ok (.aload_n 0, 1) := by decide +kernel
theorem dX12_readHouse_149 : decode cX12_readHouse 149 = .ok (.invokevirtual 129, 3) := by decide +kernel
theorem dX12_readHouse_152 : decode cX12_readHouse 152 = .ok (.iconst (-1), 1) := by decide +kernel
theorem dX12_readHouse_153 : decode cX12_readHouse 153 = .ok (.if_icmp .ne 11, 3) := by decide +kernel
theorem dX12_readHouse_156 : decode cX12_readHouse 156 = .ok (.aload_n 0, 1) := by decide +kernel
theorem dX12_readHouse_157 : decode cX12_readHouse 157 = .ok (.getfield 219, 3) := by decide +kernel
theorem dX12_readHouse_160 : decode cX12_readHouse 160 = .ok (.iconst 2, 1) := by decide +kernel
theorem dX12_readHouse_161 : decode cX12_readHouse 161 = .ok (.if_icmp .ge 7, 3) := by decide +kernel
theorem dX12_readHouse_164 : decode cX12_readHouse 164 = .ok (.aload_n 0, 1) := by decide +kernel
theorem dX12_readHouse_165 : decode cX12_readHouse 165 = .ok (.invokevirtual 126, 3) := by decide +kernel
theorem dX12_readHouse_168 : decode cX12_readHouse 168 = .ok (.aload_n 0, 1) := by decide +kernel
theorem dX12_readHouse_169 : decode cX12_readHouse 169 = .ok (.getfield 117, 3) := by decide +kernel
theorem dX12_readHouse_172 : decode cX12_readHouse 172 = .ok (.ireturn, 1) := by decide +kernel
theorem dX12_fault_0 : decode cX12_fault 0 = .ok (.iload_n 1, 1) := by decide +kernel
theorem dX12_fault_1 : decode cX12_fault 1 = .ok (.ifCond .ne 10, 3) := by decide +kernel
theorem dX12_fault_4 : decode cX12_fault 4 = .ok (.aload_n 0, 1) := by decide +kernel
theorem dX12_fault_5 : decode cX12_fault 5 = .ok (.invokevirtual 246, 3) := by decide +kernel
theorem dX12_fault_8 : decode cX12_fault 8 = .ok (.goto 18, 3) := by decide +kernel
theorem dX12_fault_11 : decode cX12_fault 11 = .ok (.iload_n 1, 1) := by decide +kernel
theorem dX12_fault_12 : decode cX12_fault 12 = .ok (.iconst 1, 1) := by decide +kernel
theorem dX12_fault_13 : decode cX12_fault 13 = .ok (.if_icmp .ne 11, 3) := by decide +kernel
theorem dX12_fault_16 : decode cX12_fault 16 = .ok (.aload_n 0, 1) := by decide +kernel
theorem dX12_fault_17 : decode cX12_fault 17 = .ok (.iconst 4, 1) := by decide +kernel
theorem dX12_fault_18 : decode cX12_fault 18 = .ok (.invokevirtual 249, 3) := by decide +kernel
theorem dX12_fault_21 : decode cX12_fault 21 = .ok (.goto 5, 3) := by decide +kernel
theorem dX12_fault_24 : decode cX12_fault 24 = .ok (.bipush (-2), 2) := by decide +kernel
theorem dX12_fault_26 : decode cX12_fault 26 = .ok (.ireturn, 1) := by decide +kernel
theorem dX12_takeHouse_0 : decode cX12_takeHouse 0 = .ok (.aload_n 0, 1) := by decide +kernel
theorem dX12_takeHouse_1 : decode cX12_takeHouse 1 = .ok (.aload_n 0, 1) := by decide +kernel
theorem dX12_takeHouse_2 : decode cX12_takeHouse 2 = .ok (.getfield 219, 3) := by decide +kernel
theorem dX12_takeHouse_5 : decode cX12_takeHouse 5 = .ok (.putfield 252, 3) := by decide +kernel
theorem dX12_takeHouse_8 : decode cX12_takeHouse 8 = .ok (.aload_n 0, 1) := by decide +kernel
theorem dX12_takeHouse_9 : decode cX12_takeHouse 9 = .ok (.aload_n 0, 1) := by decide +kernel
theorem dX12_takeHouse_10 : decode cX12_takeHouse 10 = .ok (.getfield 239, 3) := by decide +kernel
theorem dX12_takeHouse_13 : decode cX12_takeHouse 13 = .ok (.putfield 255, 3) := by decide +kernel
theorem dX12_takeHouse_16 : decode cX12_takeHouse 16 = .ok (.iconst 0, 1) := by decide +kernel
theorem dX12_takeHouse_17 : decode cX12_takeHouse 17 = .ok (.istore_n 1, 1) := by decide +kernel
theorem dX12_takeHouse_18 : decode cX12_takeHouse 18 = .ok (.iload_n 1, 1) := by decide +kernel
theorem dX12_takeHouse_19 : decode cX12_takeHouse 19 = .ok (.bipush 49, 2) := by decide +kernel
theorem dX12_takeHouse_21 : decode cX12_takeHouse 21 = .ok (.if_icmp .ge 21, 3) := by decide +kernel
theorem dX12_takeHouse_24 : decode cX12_takeHouse 24 = .ok (.aload_n 0, 1) := by decide +kernel
theorem dX12_takeHouse_25 : decode cX12_takeHouse 25 = .ok (.getfield 43, 3) := by decide +kernel
theorem dX12_takeHouse_28 : decode cX12_takeHouse 28 = .ok (.iload_n 1, 1) := by decide +kernel
theorem dX12_takeHouse_29 : decode cX12_takeHouse 29 = .ok (.aload_n 0, 1) := by decide +kernel
theorem dX12_takeHouse_30 : decode cX12_takeHouse 30 = .ok (.getfield 40, 3) := by decide +kernel
theorem dX12_takeHouse_33 : decode cX12_takeHouse 33 = .ok (.iload_n 1, 1) := by decide +kernel
theorem dX12_takeHouse_34 : decode cX12_takeHouse 34 = .ok (.iaload, 1) := by decide +kernel
theorem dX12_takeHouse_35 : decode cX12_takeHouse 35 = .ok (.iastore, 1) := by decide +kernel
theorem dX12_takeHouse_36 : decode cX12_takeHouse 36 = .ok (.iinc 1 1, 3) := by decide +kernel
theorem dX12_takeHouse_39 : decode cX12_takeHouse 39 = .ok (.goto (-21), 3) := by decide +kernel
theorem dX12_takeHouse_42 : decode cX12_takeHouse 42 = .ok (.iconst 0, 1) := by decide +kernel
theorem dX12_takeHouse_43 : decode cX12_takeHouse 43 = .ok (.istore_n 1, 1) := by decide +kernel
theorem dX12_takeHouse_44 : decode cX12_takeHouse 44 = .ok (.iload_n 1, 1) := by decide +kernel
theorem dX12_takeHouse_45 : decode cX12_takeHouse 45 = .ok (.aload_n 0, 1) := by decide +kernel
theorem dX12_takeHouse_46 : decode cX12_takeHouse 46 = .ok (.getfield 252, 3) := by decide +kernel
theorem dX12_takeHouse_49 : decode cX12_takeHouse 49 = .ok (.if_icmp .ge 44, 3) := by decide +kernel
theorem dX12_takeHouse_52 : decode cX12_takeHouse 52 = .ok (.aload_n 0, 1) := by decide +kernel
theorem dX12_takeHouse_53 : decode cX12_takeHouse 53 = .ok (.getfield 43, 3) := by decide +kernel
theorem dX12_takeHouse_56 : decode cX12_takeHouse 56 = .ok (.bipush 7, 2) := by decide +kernel
theorem dX12_takeHouse_58 : decode cX12_takeHouse 58 = .ok (.iload_n 1, 1) := by decide +kernel
theorem dX12_takeHouse_59 : decode cX12_takeHouse 59 = .ok (.imul, 1) := by decide +kernel
theorem dX12_takeHouse_60 : decode cX12_takeHouse 60 = .ok (.iconst 4, 1) := by decide +kernel
theorem dX12_takeHouse_61 : decode cX12_takeHouse 61 = .ok (.iadd, 1) := by decide +kernel
theorem dX12_takeHouse_62 : decode cX12_takeHouse 62 = .ok (.aload_n 0, 1) := by decide +kernel
theorem dX12_takeHouse_63 : decode cX12_takeHouse 63 = .ok (.iload_n 1, 1) := by decide +kernel
theorem dX12_takeHouse_64 : decode cX12_takeHouse 64 = .ok (.iconst 4, 1) := by decide +kernel
theorem dX12_takeHouse_65 : decode cX12_takeHouse 65 = .ok (.invokevirtual 258, 3) := by decide +kernel
theorem dX12_takeHouse_68 : decode cX12_takeHouse 68 = .ok (.aload_n 0, 1) := by decide +kernel
theorem dX12_takeHouse_69 : decode cX12_takeHouse 69 = .ok (.getfield 252, 3) := by decide +kernel
theorem dX12_takeHouse_72 : decode cX12_takeHouse 72 = .ok (.if_icmp .ge 12, 3) := by decide +kernel
theorem dX12_takeHouse_75 : decode cX12_takeHouse 75 = .ok (.aload_n 0, 1) := by decide +kernel
theorem dX12_takeHouse_76 : decode cX12_takeHouse 76 = .ok (.iload_n 1, 1) := by decide +kernel
theorem dX12_takeHouse_77 : decode cX12_takeHouse 77 = .ok (.iconst 4, 1) := by decide +kernel
theorem dX12_takeHouse_78 : decode cX12_takeHouse 78 = .ok (.invokevirtual 258, 3) := by decide +kernel
theorem dX12_takeHouse_81 : decode cX12_takeHouse 81 = .ok (.goto 5, 3) := by decide +kernel
theorem dX12_takeHouse_84 : decode cX12_takeHouse 84 = .ok (.bipush 7, 2) := by decide +kernel
theorem dX12_takeHouse_86 : decode cX12_takeHouse 86 = .ok (.iastore, 1) := by decide +kernel
theorem dX12_takeHouse_87 : decode cX12_takeHouse 87 = .ok (.iinc 1 1, 3) := by decide +kernel
theorem dX12_takeHouse_90 : decode cX12_takeHouse 90 = .ok (.goto (-46), 3) := by decide +kernel
theorem dX12_takeHouse_93 : decode cX12_takeHouse 93 = .ok (.iconst 0, 1) := by decide +kernel
theorem dX12_takeHouse_94 : decode cX12_takeHouse 94 = .ok (.istore_n 1, 1) := by decide +kernel
theorem dX12_takeHouse_95 : decode cX12_takeHouse 95 = .ok (.iload_n 1, 1) := by decide +kernel
theorem dX12_takeHouse_96 : decode cX12_takeHouse 96 = .ok (.bipush 7, 2) := by decide +kernel
theorem dX12_takeHouse_98 : decode cX12_takeHouse 98 = .ok (.if_icmp .ge 16, 3) := by decide +kernel
theorem dX12_takeHouse_101 : decode cX12_takeHouse 101 = .ok (.aload_n 0, 1) := by decide +kernel
theorem dX12_takeHouse_102 : decode cX12_takeHouse 102 = .ok (.getfield 46, 3) := by decide +kernel
theorem dX12_takeHouse_105 : decode cX12_takeHouse 105 = .ok (.iload_n 1, 1) := by decide +kernel
theorem dX12_takeHouse_106 : decode cX12_takeHouse 106 = .ok (.iload_n 1, 1) := by decide +kernel
theorem dX12_takeHouse_107 : decode cX12_takeHouse 107 = .ok (.iastore, 1) := by decide +kernel
theorem dX12_takeHouse_108 : decode cX12_takeHouse 108 = .ok (.iinc 1 1, 3) := by decide +kernel
theorem dX12_takeHouse_111 : decode cX12_takeHouse 111 = .ok (.goto (-16), 3) := by decide +kernel
theorem dX12_takeHouse_114 : decode cX12_takeHouse 114 = .ok (.aload_n 0, 1) := by decide +kernel
theorem dX12_takeHouse_115 : decode cX12_takeHouse 115 = .ok (.iconst 0, 1) := by decide +kernel
theorem dX12_takeHouse_116 : decode cX12_takeHouse 116 = .ok (.putfield 261, 3) := by decide +kernel
theorem dX12_takeHouse_119 : decode cX12_takeHouse 119 = .ok (.aload_n 0, 1) := by decide +kernel
theorem dX12_takeHouse_120 : decode cX12_takeHouse 120 = .ok (.iconst 0, 1) := by decide +kernel
theorem dX12_takeHouse_121 : decode cX12_takeHouse 121 = .ok (.putfield 264, 3) := by decide +kernel
theorem dX12_takeHouse_124 : decode cX12_takeHouse 124 = .ok (.aload_n 0, 1) := by decide +kernel
theorem dX12_takeHouse_125 : decode cX12_takeHouse 125 = .ok (.iconst 0, 1) := by decide +kernel
theorem dX12_takeHouse_126 : decode cX12_takeHouse 126 = .ok (.putfield 267, 3) := by decide +kernel
theorem dX12_takeHouse_129 : decode cX12_takeHouse 129 = .ok (.aload_n 0, 1) := by decide +kernel
theorem dX12_takeHouse_130 : decode cX12_takeHouse 130 = .ok (.getfield 252, 3) := by decide +kernel
theorem dX12_takeHouse_133 : decode cX12_takeHouse 133 = .ok (.ireturn, 1) := by decide +kernel
theorem dX12_text_0 : decode cX12_text 0 = .ok (.iload_n 1, 1) := by decide +kernel
theorem dX12_text_1 : decode cX12_text 1 = .ok (.ifCond .ne 21, 3) := by decide +kernel
theorem dX12_text_4 : decode cX12_text 4 = .ok (.aload_n 0, 1) := by decide +kernel
theorem dX12_text_5 : decode cX12_text 5 = .ok (.invokevirtual 246, 3) := by decide +kernel
theorem dX12_text_8 : decode cX12_text 8 = .ok (.iconst (-1), 1) := by decide +kernel
theorem dX12_text_9 : decode cX12_text 9 = .ok (.if_icmp .ne 13, 3) := by decide +kernel
theorem dX12_text_12 : decode cX12_text 12 = .ok (.aload_n 0, 1) := by decide +kernel
theorem dX12_text_13 : decode cX12_text 13 = .ok (.iconst 0, 1) := by decide +kernel
theorem dX12_text_14 : decode cX12_text 14 = .ok (.putfield 107, 3) := by decide +kernel
theorem dX12_text_17 : decode cX12_text 17 = .ok (.aload_n 0, 1) := by decide +kernel
theorem dX12_text_18 : decode cX12_text 18 = .ok (.invokevirtual 270, 3) := by decide +kernel
theorem dX12_text_21 : decode cX12_text 21 = .ok (.ireturn, 1) := by decide +kernel
theorem dX12_text_22 : decode cX12_text 22 = .ok (.iload_n 1, 1) := by decide +kernel
theorem dX12_text_23 : decode cX12_text 23 = .ok (.iconst 1, 1) := by decide +kernel
theorem dX12_text_24 : decode cX12_text 24 = .ok (.if_icmp .ne 45, 3) := by decide +kernel
theorem dX12_text_27 : decode cX12_text 27 = .ok (.aload_n 0, 1) := by decide +kernel
theorem dX12_text_28 : decode cX12_text 28 = .ok (.getfield 273, 3) := by decide +kernel
theorem dX12_text_31 : decode cX12_text 31 = .ok (.iconst 4, 1) := by decide +kernel
theorem dX12_text_32 : decode cX12_text 32 = .ok (.if_icmp .ge 37, 3) := by decide +kernel
theorem dX12_text_35 : decode cX12_text 35 = .ok (.aload_n 0, 1) := by decide +kernel
theorem dX12_text_36 : decode cX12_text 36 = .ok (.aload_n 0, 1) := by decide +kernel
theorem dX12_text_37 : decode cX12_text 37 = .ok (.getfield 273, 3) := by decide +kernel
theorem dX12_text_40 : decode cX12_text 40 = .ok (.invokevirtual 249, 3) := by decide +kernel
theorem dX12_text_43 : decode cX12_text 43 = .ok (.iconst (-1), 1) := by decide +kernel
theorem dX12_text_44 : decode cX12_text 44 = .ok (.if_icmp .ne 25, 3) := by decide +kernel
theorem dX12_text_47 : decode cX12_text 47 = .ok (.aload_n 0, 1) := by decide +kernel
theorem dX12_text_48 : decode cX12_text 48 = .ok (.iconst 0, 1) := by decide +kernel
theorem dX12_text_49 : decode cX12_text 49 = .ok (.putfield 107, 3) := by decide +kernel
theorem dX12_text_52 : decode cX12_text 52 = .ok (.aload_n 0, 1) := by decide +kernel
theorem dX12_text_53 : decode cX12_text 53 = .ok (.dup, 1) := by decide +kernel
theorem dX12_text_54 : decode cX12_text 54 = .ok (.getfield 273, 3) := by decide +kernel
theorem dX12_text_57 : decode cX12_text 57 = .ok (.iconst 1, 1) := by decide +kernel
theorem dX12_text_58 : decode cX12_text 58 = .ok (.iadd, 1) := by decide +kernel
theorem dX12_text_59 : decode cX12_text 59 = .ok (.putfield 273, 3) := by decide +kernel
theorem dX12_text_62 : decode cX12_text 62 = .ok (.aload_n 0, 1) := by decide +kernel
theorem dX12_text_63 : decode cX12_text 63 = .ok (.getfield 273, 3) := by decide +kernel
theorem dX12_text_66 : decode cX12_text 66 = .ok (.iconst 1, 1) := by decide +kernel
theorem dX12_text_67 : decode cX12_text 67 = .ok (.isub, 1) := by decide +kernel
theorem dX12_text_68 : decode cX12_text 68 = .ok (.ireturn, 1) := by decide +kernel
theorem dX12_text_69 : decode cX12_text 69 = .ok (.iconst (-1), 1) := by decide +kernel
theorem dX12_text_70 : decode cX12_text 70 = .ok (.ireturn, 1) := by decide +kernel
theorem dX12_of_0 : decode cX12_of 0 = .ok (.aload_n 0, 1) := by decide +kernel
theorem dX12_of_1 : decode cX12_of 1 = .ok (.getfield 43, 3) := by decide +kernel
theorem dX12_of_4 : decode cX12_of 4 = .ok (.bipush 7, 2) := by decide +kernel
theorem dX12_of_6 : decode cX12_of 6 = .ok (.iload_n 1, 1) := by decide +kernel
theorem dX12_of_7 : decode cX12_of 7 = .ok (.imul, 1) := by decide +kernel
theorem dX12_of_8 : decode cX12_of 8 = .ok (.iload_n 2, 1) := by decide +kernel
theorem dX12_of_9 : decode cX12_of 9 = .ok (.iadd, 1) := by decide +kernel
theorem dX12_of_10 : decode cX12_of 10 = .ok (.iaload, 1) := by decide +kernel
theorem dX12_of_11 : decode cX12_of 11 = .ok (.ireturn, 1) := by decide +kernel
theorem dX12_isMember_0 : decode cX12_isMember 0 = .ok (.iload_n 1, 1) := by decide +kernel
theorem dX12_isMember_1 : decode cX12_isMember 1 = .ok (.iconst 0, 1) := by decide +kernel
theorem dX12_isMember_2 : decode cX12_isMember 2 = .ok (.aload_n 0, 1) := by decide +kernel
theorem dX12_isMember_3 : decode cX12_isMember 3 = .ok (.getfield 252, 3) := by decide +kernel
theorem dX12_isMember_6 : decode cX12_isMember 6 = .ok (.iconst 1, 1) := by decide +kernel
theorem dX12_isMember_7 : decode cX12_isMember 7 = .ok (.isub, 1) := by decide +kernel
theorem dX12_isMember_8 : decode cX12_isMember 8 = .ok (.invokestatic 215, 3) := by decide +kernel
theorem dX12_isMember_11 : decode cX12_isMember 11 = .ok (.ireturn, 1) := by decide +kernel
theorem dX12_seatOf_0 : decode cX12_seatOf 0 = .ok (.iconst (-1), 1) := by decide +kernel
theorem dX12_seatOf_1 : decode cX12_seatOf 1 = .ok (.istore_n 2, 1) := by decide +kernel
theorem dX12_seatOf_2 : decode cX12_seatOf 2 = .ok (.iconst 0, 1) := by decide +kernel
theorem dX12_seatOf_3 : decode cX12_seatOf 3 = .ok (.istore_n 3, 1) := by decide +kernel
theorem dX12_seatOf_4 : decode cX12_seatOf 4 = .ok (.iload_n 3, 1) := by decide +kernel
theorem dX12_seatOf_5 : decode cX12_seatOf 5 = .ok (.aload_n 0, 1) := by decide +kernel
theorem dX12_seatOf_6 : decode cX12_seatOf 6 = .ok (.getfield 252, 3) := by decide +kernel
theorem dX12_seatOf_9 : decode cX12_seatOf 9 = .ok (.if_icmp .ge 25, 3) := by decide +kernel
theorem dX12_seatOf_12 : decode cX12_seatOf 12 = .ok (.aload_n 0, 1) := by decide +kernel
theorem dX12_seatOf_13 : decode cX12_seatOf 13 = .ok (.getfield 46, 3) := by decide +kernel
theorem dX12_seatOf_16 : decode cX12_seatOf 16 = .ok (.iload_n 3, 1) := by decide +kernel
theorem dX12_seatOf_17 : decode cX12_seatOf 17 = .ok (.iaload, 1) := by decide +kernel
theorem dX12_seatOf_18 : decode cX12_seatOf 18 = .ok (.iload_n 1, 1) := by decide +kernel
theorem dX12_seatOf_19 : decode cX12_seatOf 19 = .ok (.if_icmp .ne 7, 3) := by decide +kernel
theorem dX12_seatOf_22 : decode cX12_seatOf 22 = .ok (.iload_n 3, 1) := by decide +kernel
theorem dX12_seatOf_23 : decode cX12_seatOf 23 = .ok (.goto 4, 3) := by decide +kernel
theorem dX12_seatOf_26 : decode cX12_seatOf 26 = .ok (.iload_n 2, 1) := by decide +kernel
theorem dX12_seatOf_27 : decode cX12_seatOf 27 = .ok (.istore_n 2, 1) := by decide +kernel
theorem dX12_seatOf_28 : decode cX12_seatOf 28 = .ok (.iinc 3 1, 3) := by decide +kernel
theorem dX12_seatOf_31 : decode cX12_seatOf 31 = .ok (.goto (-27), 3) := by decide +kernel
theorem dX12_seatOf_34 : decode cX12_seatOf 34 = .ok (.iload_n 2, 1) := by decide +kernel
theorem dX12_seatOf_35 : decode cX12_seatOf 35 = .ok (.ireturn, 1) := by decide +kernel
theorem dX12_leftOf_0 : decode cX12_leftOf 0 = .ok (.iload_n 1, 1) := by decide +kernel
theorem dX12_leftOf_1 : decode cX12_leftOf 1 = .ok (.ifCond .le 9, 3) := by decide +kernel
theorem dX12_leftOf_4 : decode cX12_leftOf 4 = .ok (.iload_n 1, 1) := by decide +kernel
theorem dX12_leftOf_5 : decode cX12_leftOf 5 = .ok (.iconst 1, 1) := by decide +kernel
theorem dX12_leftOf_6 : decode cX12_leftOf 6 = .ok (.isub, 1) := by decide +kernel
theorem dX12_leftOf_7 : decode cX12_leftOf 7 = .ok (.goto 20, 3) := by decide +kernel
theorem dX12_leftOf_10 : decode cX12_leftOf 10 = .ok (.aload_n 0, 1) := by decide +kernel
theorem dX12_leftOf_11 : decode cX12_leftOf 11 = .ok (.getfield 255, 3) := by decide +kernel
theorem dX12_leftOf_14 : decode cX12_leftOf 14 = .ok (.ifCond .eq 12, 3) := by decide +kernel
theorem dX12_leftOf_17 : decode cX12_leftOf 17 = .ok (.aload_n 0, 1) := by decide +kernel
theorem dX12_leftOf_18 : decode cX12_leftOf 18 = .ok (.getfield 252, 3) := by decide +kernel
theorem dX12_leftOf_21 : decode cX12_leftOf 21 = .ok (.iconst 1, 1) := by decide +kernel
theorem dX12_leftOf_22 : decode cX12_leftOf 22 = .ok (.isub, 1) := by decide +kernel
theorem dX12_leftOf_23 : decode cX12_leftOf 23 = .ok (.goto 4, 3) := by decide +kernel
theorem dX12_leftOf_26 : decode cX12_leftOf 26 = .ok (.iconst (-1), 1) := by decide +kernel
theorem dX12_leftOf_27 : decode cX12_leftOf 27 = .ok (.ireturn, 1) := by decide +kernel
theorem dX12_mouthOf_0 : decode cX12_mouthOf 0 = .ok (.aload_n 0, 1) := by decide +kernel
theorem dX12_mouthOf_1 : decode cX12_mouthOf 1 = .ok (.iload_n 1, 1) := by decide +kernel
theorem dX12_mouthOf_2 : decode cX12_mouthOf 2 = .ok (.iconst 3, 1) := by decide +kernel
theorem dX12_mouthOf_3 : decode cX12_mouthOf 3 = .ok (.invokevirtual 258, 3) := by decide +kernel
theorem dX12_mouthOf_6 : decode cX12_mouthOf 6 = .ok (.iconst 1, 1) := by decide +kernel
theorem dX12_mouthOf_7 : decode cX12_mouthOf 7 = .ok (.if_icmp .ne 5, 3) := by decide +kernel
theorem dX12_mouthOf_10 : decode cX12_mouthOf 10 = .ok (.iconst (-1), 1) := by decide +kernel
theorem dX12_mouthOf_11 : decode cX12_mouthOf 11 = .ok (.ireturn, 1) := by decide +kernel
theorem dX12_mouthOf_12 : decode cX12_mouthOf 12 = .ok (.aload_n 0, 1) := by decide +kernel
theorem dX12_mouthOf_13 : decode cX12_mouthOf 13 = .ok (.aload_n 0, 1) := by decide +kernel
theorem dX12_mouthOf_14 : decode cX12_mouthOf 14 = .ok (.iload_n 1, 1) := by decide +kernel
theorem dX12_mouthOf_15 : decode cX12_mouthOf 15 = .ok (.invokevirtual 276, 3) := by decide +kernel
theorem dX12_mouthOf_18 : decode cX12_mouthOf 18 = .ok (.invokevirtual 279, 3) := by decide +kernel
theorem dX12_mouthOf_21 : decode cX12_mouthOf 21 = .ok (.istore_n 2, 1) := by decide +kernel
theorem dX12_mouthOf_22 : decode cX12_mouthOf 22 = .ok (.iload_n 2, 1) := by decide +kernel
theorem dX12_mouthOf_23 : decode cX12_mouthOf 23 = .ok (.iconst (-1), 1) := by decide +kernel
theorem dX12_mouthOf_24 : decode cX12_mouthOf 24 = .ok (.if_icmp .eq 44, 3) := by decide +kernel
theorem dX12_mouthOf_27 : decode cX12_mouthOf 27 = .ok (.aload_n 0, 1) := by decide +kernel
theorem dX12_mouthOf_28 : decode cX12_mouthOf 28 = .ok (.getfield 46, 3) := by decide +kernel
theorem dX12_mouthOf_31 : decode cX12_mouthOf 31 = .ok (.iload_n 2, 1) := by decide +kernel
theorem dX12_mouthOf_32 : decode cX12_mouthOf 32 = .ok (.iaload, 1) := by decide +kernel
theorem dX12_mouthOf_33 : decode cX12_mouthOf 33 = .ok (.iload_n 1, 1) := by decide +kernel
theorem dX12_mouthOf_34 : decode cX12_mouthOf 34 = .ok (.if_icmp .eq 34, 3) := by decide +kernel
theorem dX12_mouthOf_37 : decode cX12_mouthOf 37 = .ok (.aload_n 0, 1) := by decide +kernel
theorem dX12_mouthOf_38 : decode cX12_mouthOf 38 = .ok (.aload_n 0, 1) := by decide +kernel
theorem dX12_mouthOf_39 : decode cX12_mouthOf 39 = .ok (.getfield 46, 3) := by decide +kernel
theorem dX12_mouthOf_42 : decode cX12_mouthOf 42 = .ok (.iload_n 2, 1) := by decide +kernel
theorem dX12_mouthOf_43 : decode cX12_mouthOf 43 = .ok (.iaload, 1) := by decide +kernel
theorem dX12_mouthOf_44 : decode cX12_mouthOf 44 = .ok (.iconst 3, 1) := by decide +kernel
theorem dX12_mouthOf_45 : decode cX12_mouthOf 45 = .ok (.invokevirtual 258, 3) := by decide +kernel
theorem dX12_mouthOf_48 : decode cX12_mouthOf 48 = .ok (.iconst 1, 1) := by decide +kernel
theorem dX12_mouthOf_49 : decode cX12_mouthOf 49 = .ok (.if_icmp .eq 10, 3) := by decide +kernel
theorem dX12_mouthOf_52 : decode cX12_mouthOf 52 = .ok (.aload_n 0, 1) := by decide +kernel
theorem dX12_mouthOf_53 : decode cX12_mouthOf 53 = .ok (.getfield 46, 3) := by decide +kernel
theorem dX12_mouthOf_56 : decode cX12_mouthOf 56 = .ok (.iload_n 2, 1) := by decide +kernel
theorem dX12_mouthOf_57 : decode cX12_mouthOf 57 = .ok (.iaload, 1) := by decide +kernel
theorem dX12_mouthOf_58 : decode cX12_mouthOf 58 = .ok (.ireturn, 1) := by decide +kernel
theorem dX12_mouthOf_59 : decode cX12_mouthOf 59 = .ok (.aload_n 0, 1) := by decide +kernel
theorem dX12_mouthOf_60 : decode cX12_mouthOf 60 = .ok (.iload_n 2, 1) := by decide +kernel
theorem dX12_mouthOf_61 : decode cX12_mouthOf 61 = .ok (.invokevirtual 279, 3) := by decide +kernel
theorem dX12_mouthOf_64 : decode cX12_mouthOf 64 = .ok (.istore_n 2, 1) := by decide +kernel
theorem dX12_mouthOf_65 : decode cX12_mouthOf 65 = .ok (.goto (-43), 3) := by decide +kernel
theorem dX12_mouthOf_68 : decode cX12_mouthOf 68 = .ok (.iconst (-1), 1) := by decide +kernel
theorem dX12_mouthOf_69 : decode cX12_mouthOf 69 = .ok (.ireturn, 1) := by decide +kernel
theorem dX12_isSwallowed_0 : decode cX12_isSwallowed 0 = .ok (.aload_n 0, 1) := by decide +kernel
theorem dX12_isSwallowed_1 : decode cX12_isSwallowed 1 = .ok (.iload_n 2, 1) := by decide +kernel
theorem dX12_isSwallowed_2 : decode cX12_isSwallowed 2 = .ok (.iconst 3, 1) := by decide +kernel
theorem dX12_isSwallowed_3 : decode cX12_isSwallowed 3 = .ok (.invokevirtual 258, 3) := by decide +kernel
theorem dX12_isSwallowed_6 : decode cX12_isSwallowed 6 = .ok (.iconst 3, 1) := by decide +kernel
theorem dX12_isSwallowed_7 : decode cX12_isSwallowed 7 = .ok (.if_icmp .eq 13, 3) := by decide +kernel
theorem dX12_isSwallowed_10 : decode cX12_isSwallowed 10 = .ok (.aload_n 0, 1) := by decide +kernel
theorem dX12_isSwallowed_11 : decode cX12_isSwallowed 11 = .ok (.iload_n 2, 1) := by decide +kernel
theorem dX12_isSwallowed_12 : decode cX12_isSwallowed 12 = .ok (.iconst 4, 1) := by decide +kernel
theorem dX12_isSwallowed_13 : decode cX12_isSwallowed 13 = .ok (.invokevirtual 258, 3) := by decide +kernel
theorem dX12_isSwallowed_16 : decode cX12_isSwallowed 16 = .ok (.iload_n 1, 1) := by decide +kernel
theorem dX12_isSwallowed_17 : decode cX12_isSwallowed 17 = .ok (.if_icmp .ne 7, 3) := by decide +kernel
theorem dX12_isSwallowed_20 : decode cX12_isSwallowed 20 = .ok (.iconst 1, 1) := by decide +kernel
theorem dX12_isSwallowed_21 : decode cX12_isSwallowed 21 = .ok (.goto 4, 3) := by decide +kernel
theorem dX12_isSwallowed_24 : decode cX12_isSwallowed 24 = .ok (.iconst 0, 1) := by decide +kernel
theorem dX12_isSwallowed_25 : decode cX12_isSwallowed 25 = .ok (.ireturn, 1) := by decide +kernel
theorem dX12_isHeard_0 : decode cX12_isHeard 0 = .ok (.aload_n 0, 1) := by decide +kernel
theorem dX12_isHeard_1 : decode cX12_isHeard 1 = .ok (.iload_n 1, 1) := by decide +kernel
theorem dX12_isHeard_2 : decode cX12_isHeard 2 = .ok (.invokevirtual 282, 3) := by decide +kernel
theorem dX12_isHeard_5 : decode cX12_isHeard 5 = .ok (.istore_n 2, 1) := by decide +kernel
theorem dX12_isHeard_6 : decode cX12_isHeard 6 = .ok (.iload_n 2, 1) := by decide +kernel
theorem dX12_isHeard_7 : decode cX12_isHeard 7 = .ok (.iconst (-1), 1) := by decide +kernel
theorem dX12_isHeard_8 : decode cX12_isHeard 8 = .ok (.if_icmp .eq 16, 3) := by decide +kernel
theorem dX12_isHeard_11 : decode cX12_isHeard 11 = .ok (.aload_n 0, 1) := by decide +kernel
theorem dX12_isHeard_12 : decode cX12_isHeard 12 = .ok (.iload_n 1, 1) := by decide +kernel
theorem dX12_isHeard_13 : decode cX12_isHeard 13 = .ok (.iload_n 2, 1) := by decide +kernel
theorem dX12_isHeard_14 : decode cX12_isHeard 14 = .ok (.invokevirtual 285, 3) := by decide +kernel
theorem dX12_isHeard_17 : decode cX12_isHeard 17 = .ok (.ifCond .ne 7, 3) := by decide +kernel
theorem dX12_isHeard_20 : decode cX12_isHeard 20 = .ok (.iconst 1, 1) := by decide +kernel
theorem dX12_isHeard_21 : decode cX12_isHeard 21 = .ok (.goto 4, 3) := by decide +kernel
theorem dX12_isHeard_24 : decode cX12_isHeard 24 = .ok (.iconst 0, 1) := by decide +kernel
theorem dX12_isHeard_25 : decode cX12_isHeard 25 = .ok (.ireturn, 1) := by decide +kernel
theorem dX12_errorOf_0 : decode cX12_errorOf 0 = .ok (.aload_n 0, 1) := by decide +kernel
theorem dX12_errorOf_1 : decode cX12_errorOf 1 = .ok (.iload_n 1, 1) := by decide +kernel
theorem dX12_errorOf_2 : decode cX12_errorOf 2 = .ok (.iconst 3, 1) := by decide +kernel
theorem dX12_errorOf_3 : decode cX12_errorOf 3 = .ok (.invokevirtual 258, 3) := by decide +kernel
theorem dX12_errorOf_6 : decode cX12_errorOf 6 = .ok (.iconst 2, 1) := by decide +kernel
theorem dX12_errorOf_7 : decode cX12_errorOf 7 = .ok (.if_icmp .ne 7, 3) := by decide +kernel
theorem dX12_errorOf_10 : decode cX12_errorOf 10 = .ok (.iconst 0, 1) := by decide +kernel
theorem dX12_errorOf_11 : decode cX12_errorOf 11 = .ok (.goto 9, 3) := by decide +kernel
theorem dX12_errorOf_14 : decode cX12_errorOf 14 = .ok (.aload_n 0, 1) := by decide +kernel
theorem dX12_errorOf_15 : decode cX12_errorOf 15 = .ok (.iload_n 1, 1) := by decide +kernel
theorem dX12_errorOf_16 : decode cX12_errorOf 16 = .ok (.iconst 2, 1) := by decide +kernel
theorem dX12_errorOf_17 : decode cX12_errorOf 17 = .ok (.invokevirtual 258, 3) := by decide +kernel
theorem dX12_errorOf_20 : decode cX12_errorOf 20 = .ok (.ireturn, 1) := by decide +kernel
theorem dX12_member_0 : decode cX12_member 0 = .ok (.aload_n 0, 1) := by decide +kernel
theorem dX12_member_1 : decode cX12_member 1 = .ok (.aload_n 0, 1) := by decide +kernel
theorem dX12_member_2 : decode cX12_member 2 = .ok (.iload_n 1, 1) := by decide +kernel
theorem dX12_member_3 : decode cX12_member 3 = .ok (.invokevirtual 288, 3) := by decide +kernel
theorem dX12_member_6 : decode cX12_member 6 = .ok (.ifCond .eq 17, 3) := by decide +kernel
theorem dX12_member_9 : decode cX12_member 9 = .ok (.iload_n 2, 1) := by decide +kernel
theorem dX12_member_10 : decode cX12_member 10 = .ok (.iconst 0, 1) := by decide +kernel
theorem dX12_member_11 : decode cX12_member 11 = .ok (.bipush 9, 2) := by decide +kernel
theorem dX12_member_13 : decode cX12_member 13 = .ok (.invokestatic 215, 3) := by decide +kernel
theorem dX12_member_16 : decode cX12_member 16 = .ok (.ifCond .eq 7, 3) := by decide +kernel
theorem dX12_member_19 : decode cX12_member 19 = .ok (.iconst 0, 1) := by decide +kernel
theorem dX12_member_20 : decode cX12_member 20 = .ok (.goto 4, 3) := by decide +kernel
theorem dX12_member_23 : decode cX12_member 23 = .ok (.iconst 1, 1) := by decide +kernel
theorem dX12_member_24 : decode cX12_member 24 = .ok (.putfield 100, 3) := by decide +kernel
theorem dX12_member_27 : decode cX12_member 27 = .ok (.aload_n 0, 1) := by decide +kernel
theorem dX12_member_28 : decode cX12_member 28 = .ok (.getfield 100, 3) := by decide +kernel
theorem dX12_member_31 : decode cX12_member 31 = .ok (.iconst 1, 1) := by decide +kernel
theorem dX12_member_32 : decode cX12_member 32 = .ok (.if_icmp .ne 5, 3) := by decide +kernel
theorem dX12_member_35 : decode cX12_member 35 = .ok (.iconst 0, 1) := by decide +kernel
theorem dX12_member_36 : decode cX12_member 36 = .ok (.ireturn, 1) := by decide +kernel
theorem dX12_member_37 : decode cX12_member 37 = .ok (.iload_n 2, 1) := by decide +kernel
theorem dX12_member_38 : decode cX12_member 38 = .ok (.bipush 7, 2) := by decide +kernel
theorem dX12_member_40 : decode cX12_member 40 = .ok (.if_icmp .ge 12, 3) := by decide +kernel
theorem dX12_member_43 : decode cX12_member 43 = .ok (.aload_n 0, 1) := by decide +kernel
theorem dX12_member_44 : decode cX12_member 44 = .ok (.iload_n 1, 1) := by decide +kernel
theorem dX12_member_45 : decode cX12_member 45 = .ok (.iload_n 2, 1) := by decide +kernel
theorem dX12_member_46 : decode cX12_member 46 = .ok (.invokevirtual 258, 3) := by decide +kernel
theorem dX12_member_49 : decode cX12_member 49 = .ok (.goto 44, 3) := by decide +kernel
theorem dX12_member_52 : decode cX12_member 52 = .ok (.iload_n 2, 1) := by decide +kernel
theorem dX12_member_53 : decode cX12_member 53 = .ok (.bipush 7, 2) := by decide +kernel
theorem dX12_member_55 : decode cX12_member 55 = .ok (.if_icmp .ne 11, 3) := by decide +kernel
theorem dX12_member_58 : decode cX12_member 58 = .ok (.aload_n 0, 1) := by decide +kernel
theorem dX12_member_59 : decode cX12_member 59 = .ok (.iload_n 1, 1) := by decide +kernel
theorem dX12_member_60 : decode cX12_member 60 = .ok (.invokevirtual 276, 3) := by decide +kernel
theorem dX12_member_63 : decode cX12_member 63 = .ok (.goto 30, 3) := by decide +kernel
theorem dX12_member_66 : decode cX12_member 66 = .ok (.iload_n 2, 1) := by decide +kernel
theorem dX12_member_67 : decode cX12_member 67 = .ok (.bipush 8, 2) := by decide +kernel
theorem dX12_member_69 : decode cX12_member 69 = .ok (.if_icmp .ne 11, 3) := by decide +kernel
theorem dX12_member_72 : decode cX12_member 72 = .ok (.aload_n 0, 1) := by decide +kernel
theorem dX12_member_73 : decode cX12_member 73 = .ok (.iload_n 1, 1) := by decide +kernel
theorem dX12_member_74 : decode cX12_member 74 = .ok (.invokevirtual 282, 3) := by decide +kernel
theorem dX12_member_77 : decode cX12_member 77 = .ok (.goto 16, 3) := by decide +kernel
theorem dX12_member_80 : decode cX12_member 80 = .ok (.aload_n 0, 1) := by decide +kernel
theorem dX12_member_81 : decode cX12_member 81 = .ok (.iload_n 1, 1) := by decide +kernel
theorem dX12_member_82 : decode cX12_member 82 = .ok (.invokevirtual 291, 3) := by decide +kernel
theorem dX12_member_85 : decode cX12_member 85 = .ok (.ifCond .eq 7, 3) := by decide +kernel
theorem dX12_member_88 : decode cX12_member 88 = .ok (.iconst 1, 1) := by decide +kernel
theorem dX12_member_89 : decode cX12_member 89 = .ok (.goto 4, 3) := by decide +kernel
theorem dX12_member_92 : decode cX12_member 92 = .ok (.iconst 0, 1) := by decide +kernel
theorem dX12_member_93 : decode cX12_member 93 = .ok (.ireturn, 1) := by decide +kernel
theorem dX12_seat_0 : decode cX12_seat 0 = .ok (.iload_n 1, 1) := by decide +kernel
theorem dX12_seat_1 : decode cX12_seat 1 = .ok (.iconst 0, 1) := by decide +kernel
theorem dX12_seat_2 : decode cX12_seat 2 = .ok (.aload_n 0, 1) := by decide +kernel
theorem dX12_seat_3 : decode cX12_seat 3 = .ok (.getfield 252, 3) := by decide +kernel
theorem dX12_seat_6 : decode cX12_seat 6 = .ok (.iconst 1, 1) := by decide +kernel
theorem dX12_seat_7 : decode cX12_seat 7 = .ok (.isub, 1) := by decide +kernel
theorem dX12_seat_8 : decode cX12_seat 8 = .ok (.invokestatic 215, 3) := by decide +kernel
theorem dX12_seat_11 : decode cX12_seat 11 = .ok (.ifCond .eq 12, 3) := by decide +kernel
theorem dX12_seat_14 : decode cX12_seat 14 = .ok (.aload_n 0, 1) := by decide +kernel
theorem dX12_seat_15 : decode cX12_seat 15 = .ok (.getfield 46, 3) := by decide +kernel
theorem dX12_seat_18 : decode cX12_seat 18 = .ok (.iload_n 1, 1) := by decide +kernel
theorem dX12_seat_19 : decode cX12_seat 19 = .ok (.iaload, 1) := by decide +kernel
theorem dX12_seat_20 : decode cX12_seat 20 = .ok (.goto 4, 3) := by decide +kernel
theorem dX12_seat_23 : decode cX12_seat 23 = .ok (.iconst (-1), 1) := by decide +kernel
theorem dX12_seat_24 : decode cX12_seat 24 = .ok (.ireturn, 1) := by decide +kernel
theorem dX12_manners_0 : decode cX12_manners 0 = .ok (.iload_n 1, 1) := by decide +kernel
theorem dX12_manners_1 : decode cX12_manners 1 = .ok (.iconst (-1), 1) := by decide +kernel
theorem dX12_manners_2 : decode cX12_manners 2 = .ok (.aload_n 0, 1) := by decide +kernel
theorem dX12_manners_3 : decode cX12_manners 3 = .ok (.getfield 273, 3) := by decide +kernel
theorem dX12_manners_6 : decode cX12_manners 6 = .ok (.iconst 1, 1) := by decide +kernel
theorem dX12_manners_7 : decode cX12_manners 7 = .ok (.isub, 1) := by decide +kernel
theorem dX12_manners_8 : decode cX12_manners 8 = .ok (.invokestatic 215, 3) := by decide +kernel
theorem dX12_manners_11 : decode cX12_manners 11 = .ok (.ifCond .ne 5, 3) := by decide +kernel
theorem dX12_manners_14 : decode cX12_manners 14 = .ok (.iconst 0, 1) := by decide +kernel
theorem dX12_manners_15 : decode cX12_manners 15 = .ok (.ireturn, 1) := by decide +kernel
theorem dX12_manners_16 : decode cX12_manners 16 = .ok (.aload_n 0, 1) := by decide +kernel
theorem dX12_manners_17 : decode cX12_manners 17 = .ok (.iload_n 1, 1) := by decide +kernel
