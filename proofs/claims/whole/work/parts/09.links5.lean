theorem tw_93 : (Jvm.Cond.classLink "MouthHouse" (25 : Nat) "MouthHouse$MannersReader") ∈ lw_tbl := List.mem_of_getElem? (l := lw_tbl) (i := 266) (by decide +kernel)
theorem cl_X11_25 : Cond.classLink RX11 25 RX4 ∈ lw_tbl := tw_93
theorem tw_94 : (Jvm.Cond.instantiable "MouthHouse$MannersReader" (3 : Nat)) ∈ lw_tbl := List.mem_of_getElem? (l := lw_tbl) (i := 267) (by decide +kernel)
theorem it_X4 : Cond.instantiable RX4 (am_nf 4) ∈ lw_tbl := tw_94
theorem tw_109 : (Jvm.Cond.classLink "MouthHouse" (32 : Nat) "MouthHouse$Manners") ∈ lw_tbl := List.mem_of_getElem? (l := lw_tbl) (i := 282) (by decide +kernel)
theorem cl_X11_32 : Cond.classLink RX11 32 RX3 ∈ lw_tbl := tw_109
theorem tw_111 : (Jvm.Cond.classLink "MouthHouse" (45 : Nat) "MouthHouse$Members") ∈ lw_tbl := List.mem_of_getElem? (l := lw_tbl) (i := 284) (by decide +kernel)
theorem cl_X11_45 : Cond.classLink RX11 45 RX5 ∈ lw_tbl := tw_111
theorem tw_113 : (Jvm.Cond.classLink "MouthHouse" (52 : Nat) "MouthHouse$Seating") ∈ lw_tbl := List.mem_of_getElem? (l := lw_tbl) (i := 286) (by decide +kernel)
theorem cl_X11_52 : Cond.classLink RX11 52 RX6 ∈ lw_tbl := tw_113
theorem tw_114 : (Jvm.Cond.instantiable "MouthHouse$Seating" (3 : Nat)) ∈ lw_tbl := List.mem_of_getElem? (l := lw_tbl) (i := 287) (by decide +kernel)
theorem it_X6 : Cond.instantiable RX6 (am_nf 6) ∈ lw_tbl := tw_114
theorem tw_129 : (Jvm.Cond.classLink "MouthHouse" (59 : Nat) "MouthHouse$Talk") ∈ lw_tbl := List.mem_of_getElem? (l := lw_tbl) (i := 302) (by decide +kernel)
theorem cl_X11_59 : Cond.classLink RX11 59 RX8 ∈ lw_tbl := tw_129
theorem tw_130 : (Jvm.Cond.instantiable "MouthHouse$Talk" (3 : Nat)) ∈ lw_tbl := List.mem_of_getElem? (l := lw_tbl) (i := 303) (by decide +kernel)
theorem it_X8 : Cond.instantiable RX8 (am_nf 8) ∈ lw_tbl := tw_130
theorem tw_146 : (Jvm.Cond.classLink "MouthHouse" (68 : Nat) "MouthHouse$Votes") ∈ lw_tbl := List.mem_of_getElem? (l := lw_tbl) (i := 319) (by decide +kernel)
theorem cl_X11_68 : Cond.classLink RX11 68 RX10 ∈ lw_tbl := tw_146
theorem tw_147 : (Jvm.Cond.instantiable "MouthHouse$Votes" (8 : Nat)) ∈ lw_tbl := List.mem_of_getElem? (l := lw_tbl) (i := 320) (by decide +kernel)
theorem it_X10 : Cond.instantiable RX10 (am_nf 10) ∈ lw_tbl := tw_147
theorem tw_180 : (Jvm.Cond.classLink "MouthHouse" (77 : Nat) "MouthHouse$Best") ∈ lw_tbl := List.mem_of_getElem? (l := lw_tbl) (i := 353) (by decide +kernel)
theorem cl_X11_77 : Cond.classLink RX11 77 RX0 ∈ lw_tbl := tw_180
theorem tw_181 : (Jvm.Cond.instantiable "MouthHouse$Best" (15 : Nat)) ∈ lw_tbl := List.mem_of_getElem? (l := lw_tbl) (i := 354) (by decide +kernel)
theorem it_X0 : Cond.instantiable RX0 (am_nf 0) ∈ lw_tbl := tw_181
theorem tw_234 : (Jvm.Cond.classLink "MouthHouse" (86 : Nat) "MouthHouse$Changes") ∈ lw_tbl := List.mem_of_getElem? (l := lw_tbl) (i := 407) (by decide +kernel)
theorem cl_X11_86 : Cond.classLink RX11 86 RX1 ∈ lw_tbl := tw_234
theorem tw_235 : (Jvm.Cond.instantiable "MouthHouse$Changes" (10 : Nat)) ∈ lw_tbl := List.mem_of_getElem? (l := lw_tbl) (i := 408) (by decide +kernel)
theorem it_X1 : Cond.instantiable RX1 (am_nf 1) ∈ lw_tbl := tw_235
theorem tw_240 : (Jvm.Cond.classLink "MouthHouse$Changes" (19 : Nat) "MouthHouse$Seating") ∈ lw_tbl := List.mem_of_getElem? (l := lw_tbl) (i := 413) (by decide +kernel)
theorem cl_X1_19 : Cond.classLink RX1 19 RX6 ∈ lw_tbl := tw_240
theorem tw_242 : (Jvm.Cond.classLink "MouthHouse$Changes" (25 : Nat) "MouthHouse$Talk") ∈ lw_tbl := List.mem_of_getElem? (l := lw_tbl) (i := 415) (by decide +kernel)
theorem cl_X1_25 : Cond.classLink RX1 25 RX8 ∈ lw_tbl := tw_242
theorem tw_277 : (Jvm.Cond.classLink "MouthHouse" (93 : Nat) "MouthHouse$Sittings") ∈ lw_tbl := List.mem_of_getElem? (l := lw_tbl) (i := 450) (by decide +kernel)
theorem cl_X11_93 : Cond.classLink RX11 93 RX7 ∈ lw_tbl := tw_277
theorem tw_278 : (Jvm.Cond.instantiable "MouthHouse$Sittings" (5 : Nat)) ∈ lw_tbl := List.mem_of_getElem? (l := lw_tbl) (i := 451) (by decide +kernel)
theorem it_X7 : Cond.instantiable RX7 (am_nf 7) ∈ lw_tbl := tw_278
theorem tw_571 : (Jvm.Cond.classLink "MouthHouse$MannersReader" (46 : Nat) "MouthHouse$Manners") ∈ lw_tbl := List.mem_of_getElem? (l := lw_tbl) (i := 744) (by decide +kernel)
theorem cl_X4_46 : Cond.classLink RX4 46 RX3 ∈ lw_tbl := tw_571
theorem tw_572 : (Jvm.Cond.instantiable "MouthHouse$Manners" (3 : Nat)) ∈ lw_tbl := List.mem_of_getElem? (l := lw_tbl) (i := 745) (by decide +kernel)
theorem it_X3 : Cond.instantiable RX3 (am_nf 3) ∈ lw_tbl := tw_572
theorem tw_645 : (Jvm.Cond.constantLong "MouthHouse" (212 : Nat) (-1 : Int64)) ∈ lw_tbl := List.mem_of_getElem? (l := lw_tbl) (i := 818) (by decide +kernel)
theorem kc_X11_212 : Jvm.Cond.constantLong RX11 212 (-1) ∈ lw_tbl := tw_645
theorem tw_672 : (Jvm.Cond.constantLong "MouthHouse$Talk" (64 : Nat) (-1 : Int64)) ∈ lw_tbl := List.mem_of_getElem? (l := lw_tbl) (i := 845) (by decide +kernel)
theorem kc_X8_64 : Jvm.Cond.constantLong RX8 64 (-1) ∈ lw_tbl := tw_672
theorem tw_678 : (Jvm.Cond.constantLong "MouthHouse$Talk" (69 : Nat) (100 : Int64)) ∈ lw_tbl := List.mem_of_getElem? (l := lw_tbl) (i := 851) (by decide +kernel)
theorem kc_X8_69 : Jvm.Cond.constantLong RX8 69 (100) ∈ lw_tbl := tw_678
theorem tw_695 : (Jvm.Cond.constant "java/lang/Integer" (265 : Nat) (1431655765 : Int32)) ∈ lw_tbl := List.mem_of_getElem? (l := lw_tbl) (i := 868) (by decide +kernel)
theorem kc_J6_265 : Jvm.Cond.constant RJ6 265 (1431655765) ∈ lw_tbl := tw_695
theorem tw_696 : (Jvm.Cond.constant "java/lang/Integer" (266 : Nat) (858993459 : Int32)) ∈ lw_tbl := List.mem_of_getElem? (l := lw_tbl) (i := 869) (by decide +kernel)
theorem kc_J6_266 : Jvm.Cond.constant RJ6 266 (858993459) ∈ lw_tbl := tw_696
theorem tw_697 : (Jvm.Cond.constant "java/lang/Integer" (267 : Nat) (252645135 : Int32)) ∈ lw_tbl := List.mem_of_getElem? (l := lw_tbl) (i := 870) (by decide +kernel)
theorem kc_J6_267 : Jvm.Cond.constant RJ6 267 (252645135) ∈ lw_tbl := tw_697
theorem tw_804 : (Jvm.Cond.constant "MouthHouse" (252 : Nat) (-100000000 : Int32)) ∈ lw_tbl := List.mem_of_getElem? (l := lw_tbl) (i := 977) (by decide +kernel)
theorem kc_X11_252 : Jvm.Cond.constant RX11 252 (-100000000) ∈ lw_tbl := tw_804
theorem tw_846 : (Jvm.Cond.constantLong "MouthHouse$Manners" (68 : Nat) (1000000 : Int64)) ∈ lw_tbl := List.mem_of_getElem? (l := lw_tbl) (i := 1019) (by decide +kernel)
theorem kc_X3_68 : Jvm.Cond.constantLong RX3 68 (1000000) ∈ lw_tbl := tw_846
theorem tw_847 : (Jvm.Cond.constant "MouthHouse$Manners" (70 : Nat) (1000000 : Int32)) ∈ lw_tbl := List.mem_of_getElem? (l := lw_tbl) (i := 1020) (by decide +kernel)
theorem kc_X3_70 : Jvm.Cond.constant RX3 70 (1000000) ∈ lw_tbl := tw_847
theorem tw_848 : (Jvm.Cond.constantLong "MouthHouse$Manners" (71 : Nat) (-1000000 : Int64)) ∈ lw_tbl := List.mem_of_getElem? (l := lw_tbl) (i := 1021) (by decide +kernel)
theorem kc_X3_71 : Jvm.Cond.constantLong RX3 71 (-1000000) ∈ lw_tbl := tw_848
theorem tw_849 : (Jvm.Cond.constant "MouthHouse$Manners" (73 : Nat) (-1000000 : Int32)) ∈ lw_tbl := List.mem_of_getElem? (l := lw_tbl) (i := 1022) (by decide +kernel)
theorem kc_X3_73 : Jvm.Cond.constant RX3 73 (-1000000) ∈ lw_tbl := tw_849
theorem tw_914 : (Jvm.Cond.constant "MouthHouse$Best" (89 : Nat) (-100000000 : Int32)) ∈ lw_tbl := List.mem_of_getElem? (l := lw_tbl) (i := 1087) (by decide +kernel)
theorem kc_X0_89 : Jvm.Cond.constant RX0 89 (-100000000) ∈ lw_tbl := tw_914
theorem tw_1033 : (Jvm.Cond.constantLong "MouthHouse$Sittings" (30 : Nat) (6364136223846793005 : Int64)) ∈ lw_tbl := List.mem_of_getElem? (l := lw_tbl) (i := 1206) (by decide +kernel)
theorem kc_X7_30 : Jvm.Cond.constantLong RX7 30 (6364136223846793005) ∈ lw_tbl := tw_1033
theorem tw_1034 : (Jvm.Cond.constantLong "MouthHouse$Sittings" (32 : Nat) (1442695040888963407 : Int64)) ∈ lw_tbl := List.mem_of_getElem? (l := lw_tbl) (i := 1207) (by decide +kernel)
theorem kc_X7_32 : Jvm.Cond.constantLong RX7 32 (1442695040888963407) ∈ lw_tbl := tw_1034
theorem tw_1089 : (Jvm.Cond.classLink "MouthHouseLaw" (13 : Nat) "java/util/NoSuchElementException") ∈ lw_tbl := List.mem_of_getElem? (l := lw_tbl) (i := 1262) (by decide +kernel)
theorem cl_L_13 : Cond.classLink RL 13 "java/util/NoSuchElementException" ∈ lw_tbl := tw_1089
theorem tw_1094 : (Jvm.Cond.classLink "MouthHouse" (168 : Nat) "java/util/NoSuchElementException") ∈ lw_tbl := List.mem_of_getElem? (l := lw_tbl) (i := 1267) (by decide +kernel)
theorem cl_X11_168 : Cond.classLink RX11 168 "java/util/NoSuchElementException" ∈ lw_tbl := tw_1094
theorem tw_1156 : (Jvm.Cond.classLink "MouthHouseLaw" (16 : Nat) "MouthHouseModel") ∈ lw_tbl := List.mem_of_getElem? (l := lw_tbl) (i := 1329) (by decide +kernel)
theorem cl_L_16 : Cond.classLink RL 16 RX12 ∈ lw_tbl := tw_1156
theorem tw_1157 : (Jvm.Cond.instantiable "MouthHouseModel" (51 : Nat)) ∈ lw_tbl := List.mem_of_getElem? (l := lw_tbl) (i := 1330) (by decide +kernel)
theorem it_X12 : Cond.instantiable RX12 (am_nf 12) ∈ lw_tbl := tw_1157
theorem tw_1522 : (Jvm.Cond.constantLong "MouthHouseModel" (321 : Nat) (-1 : Int64)) ∈ lw_tbl := List.mem_of_getElem? (l := lw_tbl) (i := 1695) (by decide +kernel)
theorem kc_X12_321 : Jvm.Cond.constantLong RX12 321 (-1) ∈ lw_tbl := tw_1522
theorem tw_1531 : (Jvm.Cond.constantLong "MouthHouseModel" (319 : Nat) (100 : Int64)) ∈ lw_tbl := List.mem_of_getElem? (l := lw_tbl) (i := 1704) (by decide +kernel)
theorem kc_X12_319 : Jvm.Cond.constantLong RX12 319 (100) ∈ lw_tbl := tw_1531
theorem tw_1594 : (Jvm.Cond.constant "MouthHouseModel" (358 : Nat) (-100000000 : Int32)) ∈ lw_tbl := List.mem_of_getElem? (l := lw_tbl) (i := 1767) (by decide +kernel)
theorem kc_X12_358 : Jvm.Cond.constant RX12 358 (-100000000) ∈ lw_tbl := tw_1594
theorem tw_1617 : (Jvm.Cond.constantLong "MouthHouseModel" (190 : Nat) (-1000000 : Int64)) ∈ lw_tbl := List.mem_of_getElem? (l := lw_tbl) (i := 1790) (by decide +kernel)
theorem kc_X12_190 : Jvm.Cond.constantLong RX12 190 (-1000000) ∈ lw_tbl := tw_1617
theorem tw_1618 : (Jvm.Cond.constantLong "MouthHouseModel" (192 : Nat) (1000000 : Int64)) ∈ lw_tbl := List.mem_of_getElem? (l := lw_tbl) (i := 1791) (by decide +kernel)
theorem kc_X12_192 : Jvm.Cond.constantLong RX12 192 (1000000) ∈ lw_tbl := tw_1618
theorem tw_1689 : (Jvm.Cond.constantLong "MouthHouseModel" (396 : Nat) (6364136223846793005 : Int64)) ∈ lw_tbl := List.mem_of_getElem? (l := lw_tbl) (i := 1862) (by decide +kernel)
theorem kc_X12_396 : Jvm.Cond.constantLong RX12 396 (6364136223846793005) ∈ lw_tbl := tw_1689
theorem tw_1690 : (Jvm.Cond.constantLong "MouthHouseModel" (398 : Nat) (1442695040888963407 : Int64)) ∈ lw_tbl := List.mem_of_getElem? (l := lw_tbl) (i := 1863) (by decide +kernel)
theorem kc_X12_398 : Jvm.Cond.constantLong RX12 398 (1442695040888963407) ∈ lw_tbl := tw_1690
theorem tw_1715 : (Jvm.Cond.constantLong "MouthHouseLaw" (131 : Nat) (4294967295 : Int64)) ∈ lw_tbl := List.mem_of_getElem? (l := lw_tbl) (i := 1888) (by decide +kernel)
theorem kc_L_131 : Jvm.Cond.constantLong RL 131 (4294967295) ∈ lw_tbl := tw_1715
abbrev m_X11_init : am_M := (yX11_init, cX11_init, 1, none)
theorem tw_26 : (Jvm.Cond.code ({ cls := "MouthHouse", name := "<init>", desc := "()V" } : Jvm.MethodName) prog_1_method_1_code (1 : Nat) (Option.none : Option Jvm.ClassFile.FieldType)) ∈ lw_tbl := List.mem_of_getElem? (l := lw_tbl) (i := 199) (by decide +kernel)
theorem tw_25 : (Jvm.Cond.instanceMethod ({ cls := "MouthHouse", name := "<init>", desc := "()V" } : Jvm.MethodName)) ∈ lw_tbl := List.mem_of_getElem? (l := lw_tbl) (i := 198) (by decide +kernel)
theorem mI_X11_init : am_mI m_X11_init 0 := ⟨⟨tw_26, tw_1, by decide +kernel, ⟨by decide +kernel, by decide +kernel, by decide +kernel⟩, by decide⟩, rfl, tw_25, rfl⟩
abbrev m_X9_init : am_M := (yX9_init, cX9_init, 1, none)
theorem tw_34 : (Jvm.Cond.code ({ cls := "MouthHouse$Tape", name := "<init>", desc := "()V" } : Jvm.MethodName) prog_11_method_1_code (1 : Nat) (Option.none : Option Jvm.ClassFile.FieldType)) ∈ lw_tbl := List.mem_of_getElem? (l := lw_tbl) (i := 207) (by decide +kernel)
theorem tw_33 : (Jvm.Cond.instanceMethod ({ cls := "MouthHouse$Tape", name := "<init>", desc := "()V" } : Jvm.MethodName)) ∈ lw_tbl := List.mem_of_getElem? (l := lw_tbl) (i := 206) (by decide +kernel)
theorem mI_X9_init : am_mI m_X9_init 0 := ⟨⟨tw_34, tw_2, by decide +kernel, ⟨by decide +kernel, by decide +kernel, by decide +kernel⟩, by decide⟩, rfl, tw_33, rfl⟩
abbrev m_X2_init : am_M := (yX2_init, cX2_init, 2, none)
theorem tw_56 : (Jvm.Cond.code ({ cls := "MouthHouse$HouseReader", name := "<init>", desc := "(LMouthHouse$Tape;)V" } : Jvm.MethodName) prog_4_method_1_code (2 : Nat) (Option.none : Option Jvm.ClassFile.FieldType)) ∈ lw_tbl := List.mem_of_getElem? (l := lw_tbl) (i := 229) (by decide +kernel)
theorem tw_55 : (Jvm.Cond.instanceMethod ({ cls := "MouthHouse$HouseReader", name := "<init>", desc := "(LMouthHouse$Tape;)V" } : Jvm.MethodName)) ∈ lw_tbl := List.mem_of_getElem? (l := lw_tbl) (i := 228) (by decide +kernel)
theorem mI_X2_init : am_mI m_X2_init 1 := ⟨⟨tw_56, tw_3, by decide +kernel, ⟨by decide +kernel, by decide +kernel, by decide +kernel⟩, by decide⟩, rfl, tw_55, rfl⟩
abbrev m_X5_init : am_M := (yX5_init, cX5_init, 1, none)
theorem tw_62 : (Jvm.Cond.code ({ cls := "MouthHouse$Members", name := "<init>", desc := "()V" } : Jvm.MethodName) prog_7_method_1_code (1 : Nat) (Option.none : Option Jvm.ClassFile.FieldType)) ∈ lw_tbl := List.mem_of_getElem? (l := lw_tbl) (i := 235) (by decide +kernel)
theorem tw_61 : (Jvm.Cond.instanceMethod ({ cls := "MouthHouse$Members", name := "<init>", desc := "()V" } : Jvm.MethodName)) ∈ lw_tbl := List.mem_of_getElem? (l := lw_tbl) (i := 234) (by decide +kernel)
theorem mI_X5_init : am_mI m_X5_init 0 := ⟨⟨tw_62, tw_4, by decide +kernel, ⟨by decide +kernel, by decide +kernel, by decide +kernel⟩, by decide⟩, rfl, tw_61, rfl⟩
abbrev m_X4_init : am_M := (yX4_init, cX4_init, 2, none)
theorem tw_97 : (Jvm.Cond.code ({ cls := "MouthHouse$MannersReader", name := "<init>", desc := "(LMouthHouse$Tape;)V" } : Jvm.MethodName) prog_6_method_1_code (2 : Nat) (Option.none : Option Jvm.ClassFile.FieldType)) ∈ lw_tbl := List.mem_of_getElem? (l := lw_tbl) (i := 270) (by decide +kernel)
theorem tw_96 : (Jvm.Cond.instanceMethod ({ cls := "MouthHouse$MannersReader", name := "<init>", desc := "(LMouthHouse$Tape;)V" } : Jvm.MethodName)) ∈ lw_tbl := List.mem_of_getElem? (l := lw_tbl) (i := 269) (by decide +kernel)
theorem mI_X4_init : am_mI m_X4_init 1 := ⟨⟨tw_97, tw_5, by decide +kernel, ⟨by decide +kernel, by decide +kernel, by decide +kernel⟩, by decide⟩, rfl, tw_96, rfl⟩
abbrev m_X6_init : am_M := (yX6_init, cX6_init, 1, none)
theorem tw_117 : (Jvm.Cond.code ({ cls := "MouthHouse$Seating", name := "<init>", desc := "()V" } : Jvm.MethodName) prog_8_method_1_code (1 : Nat) (Option.none : Option Jvm.ClassFile.FieldType)) ∈ lw_tbl := List.mem_of_getElem? (l := lw_tbl) (i := 290) (by decide +kernel)
theorem tw_116 : (Jvm.Cond.instanceMethod ({ cls := "MouthHouse$Seating", name := "<init>", desc := "()V" } : Jvm.MethodName)) ∈ lw_tbl := List.mem_of_getElem? (l := lw_tbl) (i := 289) (by decide +kernel)
theorem mI_X6_init : am_mI m_X6_init 0 := ⟨⟨tw_117, tw_6, by decide +kernel, ⟨by decide +kernel, by decide +kernel, by decide +kernel⟩, by decide⟩, rfl, tw_116, rfl⟩
abbrev m_X8_init : am_M := (yX8_init, cX8_init, 3, none)
theorem tw_133 : (Jvm.Cond.code ({ cls := "MouthHouse$Talk", name := "<init>", desc := "(LMouthHouse$Members;LMouthHouse$Seating;)V" } : Jvm.MethodName) prog_10_method_1_code (3 : Nat) (Option.none : Option Jvm.ClassFile.FieldType)) ∈ lw_tbl := List.mem_of_getElem? (l := lw_tbl) (i := 306) (by decide +kernel)
theorem tw_132 : (Jvm.Cond.instanceMethod ({ cls := "MouthHouse$Talk", name := "<init>", desc := "(LMouthHouse$Members;LMouthHouse$Seating;)V" } : Jvm.MethodName)) ∈ lw_tbl := List.mem_of_getElem? (l := lw_tbl) (i := 305) (by decide +kernel)
theorem mI_X8_init : am_mI m_X8_init 2 := ⟨⟨tw_133, tw_7, by decide +kernel, ⟨by decide +kernel, by decide +kernel, by decide +kernel⟩, by decide⟩, rfl, tw_132, rfl⟩
abbrev m_X10_init : am_M := (yX10_init, cX10_init, 2, none)
theorem tw_150 : (Jvm.Cond.code ({ cls := "MouthHouse$Votes", name := "<init>", desc := "(LMouthHouse$Talk;)V" } : Jvm.MethodName) prog_12_method_1_code (2 : Nat) (Option.none : Option Jvm.ClassFile.FieldType)) ∈ lw_tbl := List.mem_of_getElem? (l := lw_tbl) (i := 323) (by decide +kernel)
theorem tw_149 : (Jvm.Cond.instanceMethod ({ cls := "MouthHouse$Votes", name := "<init>", desc := "(LMouthHouse$Talk;)V" } : Jvm.MethodName)) ∈ lw_tbl := List.mem_of_getElem? (l := lw_tbl) (i := 322) (by decide +kernel)
theorem mI_X10_init : am_mI m_X10_init 1 := ⟨⟨tw_150, tw_8, by decide +kernel, ⟨by decide +kernel, by decide +kernel, by decide +kernel⟩, by decide⟩, rfl, tw_149, rfl⟩
abbrev m_X0_init : am_M := (yX0_init, cX0_init, 2, none)
theorem tw_184 : (Jvm.Cond.code ({ cls := "MouthHouse$Best", name := "<init>", desc := "(LMouthHouse$Members;)V" } : Jvm.MethodName) prog_2_method_1_code (2 : Nat) (Option.none : Option Jvm.ClassFile.FieldType)) ∈ lw_tbl := List.mem_of_getElem? (l := lw_tbl) (i := 357) (by decide +kernel)
theorem tw_183 : (Jvm.Cond.instanceMethod ({ cls := "MouthHouse$Best", name := "<init>", desc := "(LMouthHouse$Members;)V" } : Jvm.MethodName)) ∈ lw_tbl := List.mem_of_getElem? (l := lw_tbl) (i := 356) (by decide +kernel)
theorem mI_X0_init : am_mI m_X0_init 1 := ⟨⟨tw_184, tw_9, by decide +kernel, ⟨by decide +kernel, by decide +kernel, by decide +kernel⟩, by decide⟩, rfl, tw_183, rfl⟩
abbrev m_X1_init : am_M := (yX1_init, cX1_init, 3, none)
theorem tw_238 : (Jvm.Cond.code ({ cls := "MouthHouse$Changes", name := "<init>", desc := "(LMouthHouse$Members;LMouthHouse$Seating;)V" } : Jvm.MethodName) prog_3_method_1_code (3 : Nat) (Option.none : Option Jvm.ClassFile.FieldType)) ∈ lw_tbl := List.mem_of_getElem? (l := lw_tbl) (i := 411) (by decide +kernel)
theorem tw_237 : (Jvm.Cond.instanceMethod ({ cls := "MouthHouse$Changes", name := "<init>", desc := "(LMouthHouse$Members;LMouthHouse$Seating;)V" } : Jvm.MethodName)) ∈ lw_tbl := List.mem_of_getElem? (l := lw_tbl) (i := 410) (by decide +kernel)
theorem mI_X1_init : am_mI m_X1_init 2 := ⟨⟨tw_238, tw_11, by decide +kernel, ⟨by decide +kernel, by decide +kernel, by decide +kernel⟩, by decide⟩, rfl, tw_237, rfl⟩
abbrev m_X7_init : am_M := (yX7_init, cX7_init, 1, none)
theorem tw_281 : (Jvm.Cond.code ({ cls := "MouthHouse$Sittings", name := "<init>", desc := "()V" } : Jvm.MethodName) prog_9_method_1_code (1 : Nat) (Option.none : Option Jvm.ClassFile.FieldType)) ∈ lw_tbl := List.mem_of_getElem? (l := lw_tbl) (i := 454) (by decide +kernel)
theorem tw_280 : (Jvm.Cond.instanceMethod ({ cls := "MouthHouse$Sittings", name := "<init>", desc := "()V" } : Jvm.MethodName)) ∈ lw_tbl := List.mem_of_getElem? (l := lw_tbl) (i := 453) (by decide +kernel)
theorem mI_X7_init : am_mI m_X7_init 0 := ⟨⟨tw_281, tw_12, by decide +kernel, ⟨by decide +kernel, by decide +kernel, by decide +kernel⟩, by decide⟩, rfl, tw_280, rfl⟩
abbrev m_X11_feed : am_M := (yX11_feed, cX11_feed, 7, some .int)
theorem tw_356 : (Jvm.Cond.code ({ cls := "MouthHouse", name := "feed", desc := "(IIIII)I" } : Jvm.MethodName) prog_1_method_2_code (7 : Nat) (Option.some Jvm.ClassFile.FieldType.int)) ∈ lw_tbl := List.mem_of_getElem? (l := lw_tbl) (i := 529) (by decide +kernel)
theorem tw_355 : (Jvm.Cond.selects "MouthHouse" ({ cls := "MouthHouse", name := "feed", desc := "(IIIII)I" } : Jvm.MethodName) ({ cls := "MouthHouse", name := "feed", desc := "(IIIII)I" } : Jvm.MethodName)) ∈ lw_tbl := List.mem_of_getElem? (l := lw_tbl) (i := 528) (by decide +kernel)
theorem tw_354 : (Jvm.Cond.instanceMethod ({ cls := "MouthHouse", name := "feed", desc := "(IIIII)I" } : Jvm.MethodName)) ∈ lw_tbl := List.mem_of_getElem? (l := lw_tbl) (i := 527) (by decide +kernel)
theorem mV_X11_feed : am_mV m_X11_feed 5 := ⟨⟨tw_356, tw_1, by decide +kernel, ⟨by decide +kernel, by decide +kernel, by decide +kernel⟩, by decide⟩, tw_354, tw_355⟩
abbrev m_X9_signsIn : am_M := (yX9_signsIn, cX9_signsIn, 3, some .int)
theorem tw_359 : (Jvm.Cond.code ({ cls := "MouthHouse$Tape", name := "signsIn", desc := "(I)I" } : Jvm.MethodName) prog_11_method_2_code (3 : Nat) (Option.some Jvm.ClassFile.FieldType.int)) ∈ lw_tbl := List.mem_of_getElem? (l := lw_tbl) (i := 532) (by decide +kernel)
theorem tw_358 : (Jvm.Cond.static ({ cls := "MouthHouse$Tape", name := "signsIn", desc := "(I)I" } : Jvm.MethodName)) ∈ lw_tbl := List.mem_of_getElem? (l := lw_tbl) (i := 531) (by decide +kernel)
theorem mS_X9_signsIn : am_mS m_X9_signsIn 1 := ⟨⟨tw_359, tw_2, by decide +kernel, ⟨by decide +kernel, by decide +kernel, by decide +kernel⟩, by decide⟩, tw_358⟩
abbrev m_X9_hasRoom : am_M := (yX9_hasRoom, cX9_hasRoom, 2, some .boolean)
theorem tw_363 : (Jvm.Cond.code ({ cls := "MouthHouse$Tape", name := "hasRoom", desc := "(I)Z" } : Jvm.MethodName) prog_11_method_3_code (2 : Nat) (Option.some Jvm.ClassFile.FieldType.boolean)) ∈ lw_tbl := List.mem_of_getElem? (l := lw_tbl) (i := 536) (by decide +kernel)
theorem tw_362 : (Jvm.Cond.instanceMethod ({ cls := "MouthHouse$Tape", name := "hasRoom", desc := "(I)Z" } : Jvm.MethodName)) ∈ lw_tbl := List.mem_of_getElem? (l := lw_tbl) (i := 535) (by decide +kernel)
theorem mV_X9_hasRoom : am_mV m_X9_hasRoom 1 := ⟨⟨tw_363, tw_2, by decide +kernel, ⟨by decide +kernel, by decide +kernel, by decide +kernel⟩, by decide⟩, tw_362, List.mem_of_getElem? (l := lw_tbl) (i := 0) (by decide +kernel)⟩
abbrev m_X9_append : am_M := (yX9_append, cX9_append, 4, none)
theorem tw_367 : (Jvm.Cond.code ({ cls := "MouthHouse$Tape", name := "append", desc := "(I)V" } : Jvm.MethodName) prog_11_method_4_code (4 : Nat) (Option.none : Option Jvm.ClassFile.FieldType)) ∈ lw_tbl := List.mem_of_getElem? (l := lw_tbl) (i := 540) (by decide +kernel)
theorem tw_366 : (Jvm.Cond.instanceMethod ({ cls := "MouthHouse$Tape", name := "append", desc := "(I)V" } : Jvm.MethodName)) ∈ lw_tbl := List.mem_of_getElem? (l := lw_tbl) (i := 539) (by decide +kernel)
theorem mV_X9_append : am_mV m_X9_append 1 := ⟨⟨tw_367, tw_2, by decide +kernel, ⟨by decide +kernel, by decide +kernel, by decide +kernel⟩, by decide⟩, tw_366, List.mem_of_getElem? (l := lw_tbl) (i := 1) (by decide +kernel)⟩
abbrev m_X11_end : am_M := (yX11_end, cX11_end, 2, some .boolean)
theorem tw_371 : (Jvm.Cond.code ({ cls := "MouthHouse", name := "end", desc := "(I)Z" } : Jvm.MethodName) prog_1_method_3_code (2 : Nat) (Option.some Jvm.ClassFile.FieldType.boolean)) ∈ lw_tbl := List.mem_of_getElem? (l := lw_tbl) (i := 544) (by decide +kernel)
theorem tw_370 : (Jvm.Cond.selects "MouthHouse" ({ cls := "MouthHouse", name := "end", desc := "(I)Z" } : Jvm.MethodName) ({ cls := "MouthHouse", name := "end", desc := "(I)Z" } : Jvm.MethodName)) ∈ lw_tbl := List.mem_of_getElem? (l := lw_tbl) (i := 543) (by decide +kernel)
theorem tw_369 : (Jvm.Cond.instanceMethod ({ cls := "MouthHouse", name := "end", desc := "(I)Z" } : Jvm.MethodName)) ∈ lw_tbl := List.mem_of_getElem? (l := lw_tbl) (i := 542) (by decide +kernel)
theorem mV_X11_end : am_mV m_X11_end 1 := ⟨⟨tw_371, tw_1, by decide +kernel, ⟨by decide +kernel, by decide +kernel, by decide +kernel⟩, by decide⟩, tw_369, tw_370⟩
abbrev m_X11_fault : am_M := (yX11_fault, cX11_fault, 2, some .int)
theorem tw_375 : (Jvm.Cond.code ({ cls := "MouthHouse", name := "fault", desc := "(I)I" } : Jvm.MethodName) prog_1_method_4_code (2 : Nat) (Option.some Jvm.ClassFile.FieldType.int)) ∈ lw_tbl := List.mem_of_getElem? (l := lw_tbl) (i := 548) (by decide +kernel)
theorem tw_374 : (Jvm.Cond.selects "MouthHouse" ({ cls := "MouthHouse", name := "fault", desc := "(I)I" } : Jvm.MethodName) ({ cls := "MouthHouse", name := "fault", desc := "(I)I" } : Jvm.MethodName)) ∈ lw_tbl := List.mem_of_getElem? (l := lw_tbl) (i := 547) (by decide +kernel)
theorem tw_373 : (Jvm.Cond.instanceMethod ({ cls := "MouthHouse", name := "fault", desc := "(I)I" } : Jvm.MethodName)) ∈ lw_tbl := List.mem_of_getElem? (l := lw_tbl) (i := 546) (by decide +kernel)
theorem mV_X11_fault : am_mV m_X11_fault 1 := ⟨⟨tw_375, tw_1, by decide +kernel, ⟨by decide +kernel, by decide +kernel, by decide +kernel⟩, by decide⟩, tw_373, tw_374⟩
abbrev m_X2_read : am_M := (yX2_read, cX2_read, 2, some .int)
theorem tw_379 : (Jvm.Cond.code ({ cls := "MouthHouse$HouseReader", name := "read", desc := "()I" } : Jvm.MethodName) prog_4_method_2_code (2 : Nat) (Option.some Jvm.ClassFile.FieldType.int)) ∈ lw_tbl := List.mem_of_getElem? (l := lw_tbl) (i := 552) (by decide +kernel)
theorem tw_378 : (Jvm.Cond.instanceMethod ({ cls := "MouthHouse$HouseReader", name := "read", desc := "()I" } : Jvm.MethodName)) ∈ lw_tbl := List.mem_of_getElem? (l := lw_tbl) (i := 551) (by decide +kernel)
theorem mV_X2_read : am_mV m_X2_read 0 := ⟨⟨tw_379, tw_3, by decide +kernel, ⟨by decide +kernel, by decide +kernel, by decide +kernel⟩, by decide⟩, tw_378, List.mem_of_getElem? (l := lw_tbl) (i := 2) (by decide +kernel)⟩
abbrev m_X5_clear : am_M := (yX5_clear, cX5_clear, 1, none)
theorem tw_383 : (Jvm.Cond.code ({ cls := "MouthHouse$Members", name := "clear", desc := "()V" } : Jvm.MethodName) prog_7_method_3_code (1 : Nat) (Option.none : Option Jvm.ClassFile.FieldType)) ∈ lw_tbl := List.mem_of_getElem? (l := lw_tbl) (i := 556) (by decide +kernel)
theorem tw_382 : (Jvm.Cond.instanceMethod ({ cls := "MouthHouse$Members", name := "clear", desc := "()V" } : Jvm.MethodName)) ∈ lw_tbl := List.mem_of_getElem? (l := lw_tbl) (i := 555) (by decide +kernel)
theorem mV_X5_clear : am_mV m_X5_clear 0 := ⟨⟨tw_383, tw_4, by decide +kernel, ⟨by decide +kernel, by decide +kernel, by decide +kernel⟩, by decide⟩, tw_382, List.mem_of_getElem? (l := lw_tbl) (i := 3) (by decide +kernel)⟩
abbrev m_X9_rewind : am_M := (yX9_rewind, cX9_rewind, 1, none)
theorem tw_387 : (Jvm.Cond.code ({ cls := "MouthHouse$Tape", name := "rewind", desc := "()V" } : Jvm.MethodName) prog_11_method_5_code (1 : Nat) (Option.none : Option Jvm.ClassFile.FieldType)) ∈ lw_tbl := List.mem_of_getElem? (l := lw_tbl) (i := 560) (by decide +kernel)
theorem tw_386 : (Jvm.Cond.instanceMethod ({ cls := "MouthHouse$Tape", name := "rewind", desc := "()V" } : Jvm.MethodName)) ∈ lw_tbl := List.mem_of_getElem? (l := lw_tbl) (i := 559) (by decide +kernel)
theorem mV_X9_rewind : am_mV m_X9_rewind 0 := ⟨⟨tw_387, tw_2, by decide +kernel, ⟨by decide +kernel, by decide +kernel, by decide +kernel⟩, by decide⟩, tw_386, List.mem_of_getElem? (l := lw_tbl) (i := 4) (by decide +kernel)⟩
abbrev m_X2_readClause : am_M := (yX2_readClause, cX2_readClause, 2, some .boolean)
theorem tw_391 : (Jvm.Cond.code ({ cls := "MouthHouse$HouseReader", name := "readClause", desc := "()Z" } : Jvm.MethodName) prog_4_method_3_code (2 : Nat) (Option.some Jvm.ClassFile.FieldType.boolean)) ∈ lw_tbl := List.mem_of_getElem? (l := lw_tbl) (i := 564) (by decide +kernel)
theorem tw_390 : (Jvm.Cond.instanceMethod ({ cls := "MouthHouse$HouseReader", name := "readClause", desc := "()Z" } : Jvm.MethodName)) ∈ lw_tbl := List.mem_of_getElem? (l := lw_tbl) (i := 563) (by decide +kernel)
theorem mV_X2_readClause : am_mV m_X2_readClause 0 := ⟨⟨tw_391, tw_3, by decide +kernel, ⟨by decide +kernel, by decide +kernel, by decide +kernel⟩, by decide⟩, tw_390, List.mem_of_getElem? (l := lw_tbl) (i := 5) (by decide +kernel)⟩
abbrev m_X9_next : am_M := (yX9_next, cX9_next, 1, some .int)
theorem tw_395 : (Jvm.Cond.code ({ cls := "MouthHouse$Tape", name := "next", desc := "()I" } : Jvm.MethodName) prog_11_method_9_code (1 : Nat) (Option.some Jvm.ClassFile.FieldType.int)) ∈ lw_tbl := List.mem_of_getElem? (l := lw_tbl) (i := 568) (by decide +kernel)
theorem tw_394 : (Jvm.Cond.instanceMethod ({ cls := "MouthHouse$Tape", name := "next", desc := "()I" } : Jvm.MethodName)) ∈ lw_tbl := List.mem_of_getElem? (l := lw_tbl) (i := 567) (by decide +kernel)
theorem mV_X9_next : am_mV m_X9_next 0 := ⟨⟨tw_395, tw_2, by decide +kernel, ⟨by decide +kernel, by decide +kernel, by decide +kernel⟩, by decide⟩, tw_394, List.mem_of_getElem? (l := lw_tbl) (i := 6) (by decide +kernel)⟩
abbrev m_X9_step : am_M := (yX9_step, cX9_step, 1, none)
theorem tw_399 : (Jvm.Cond.code ({ cls := "MouthHouse$Tape", name := "step", desc := "()V" } : Jvm.MethodName) prog_11_method_6_code (1 : Nat) (Option.none : Option Jvm.ClassFile.FieldType)) ∈ lw_tbl := List.mem_of_getElem? (l := lw_tbl) (i := 572) (by decide +kernel)
theorem tw_398 : (Jvm.Cond.instanceMethod ({ cls := "MouthHouse$Tape", name := "step", desc := "()V" } : Jvm.MethodName)) ∈ lw_tbl := List.mem_of_getElem? (l := lw_tbl) (i := 571) (by decide +kernel)
theorem mV_X9_step : am_mV m_X9_step 0 := ⟨⟨tw_399, tw_2, by decide +kernel, ⟨by decide +kernel, by decide +kernel, by decide +kernel⟩, by decide⟩, tw_398, List.mem_of_getElem? (l := lw_tbl) (i := 7) (by decide +kernel)⟩
abbrev m_X5_addUsual : am_M := (yX5_addUsual, cX5_addUsual, 2, none)
theorem tw_403 : (Jvm.Cond.code ({ cls := "MouthHouse$Members", name := "addUsual", desc := "()V" } : Jvm.MethodName) prog_7_method_4_code (2 : Nat) (Option.none : Option Jvm.ClassFile.FieldType)) ∈ lw_tbl := List.mem_of_getElem? (l := lw_tbl) (i := 576) (by decide +kernel)
theorem tw_402 : (Jvm.Cond.instanceMethod ({ cls := "MouthHouse$Members", name := "addUsual", desc := "()V" } : Jvm.MethodName)) ∈ lw_tbl := List.mem_of_getElem? (l := lw_tbl) (i := 575) (by decide +kernel)
theorem mV_X5_addUsual : am_mV m_X5_addUsual 0 := ⟨⟨tw_403, tw_4, by decide +kernel, ⟨by decide +kernel, by decide +kernel, by decide +kernel⟩, by decide⟩, tw_402, List.mem_of_getElem? (l := lw_tbl) (i := 8) (by decide +kernel)⟩
abbrev m_X5_tell : am_M := (yX5_tell, cX5_tell, 4, none)
theorem tw_409 : (Jvm.Cond.code ({ cls := "MouthHouse$Members", name := "tell", desc := "(III)V" } : Jvm.MethodName) prog_7_method_9_code (4 : Nat) (Option.none : Option Jvm.ClassFile.FieldType)) ∈ lw_tbl := List.mem_of_getElem? (l := lw_tbl) (i := 582) (by decide +kernel)
theorem tw_408 : (Jvm.Cond.instanceMethod ({ cls := "MouthHouse$Members", name := "tell", desc := "(III)V" } : Jvm.MethodName)) ∈ lw_tbl := List.mem_of_getElem? (l := lw_tbl) (i := 581) (by decide +kernel)
theorem mV_X5_tell : am_mV m_X5_tell 3 := ⟨⟨tw_409, tw_4, by decide +kernel, ⟨by decide +kernel, by decide +kernel, by decide +kernel⟩, by decide⟩, tw_408, List.mem_of_getElem? (l := lw_tbl) (i := 9) (by decide +kernel)⟩
abbrev m_X5_has : am_M := (yX5_has, cX5_has, 2, some .boolean)
theorem tw_413 : (Jvm.Cond.code ({ cls := "MouthHouse$Members", name := "has", desc := "(I)Z" } : Jvm.MethodName) prog_7_method_7_code (2 : Nat) (Option.some Jvm.ClassFile.FieldType.boolean)) ∈ lw_tbl := List.mem_of_getElem? (l := lw_tbl) (i := 586) (by decide +kernel)
theorem tw_412 : (Jvm.Cond.instanceMethod ({ cls := "MouthHouse$Members", name := "has", desc := "(I)Z" } : Jvm.MethodName)) ∈ lw_tbl := List.mem_of_getElem? (l := lw_tbl) (i := 585) (by decide +kernel)
theorem mV_X5_has : am_mV m_X5_has 1 := ⟨⟨tw_413, tw_4, by decide +kernel, ⟨by decide +kernel, by decide +kernel, by decide +kernel⟩, by decide⟩, tw_412, List.mem_of_getElem? (l := lw_tbl) (i := 10) (by decide +kernel)⟩
abbrev m_X2_readItems : am_M := (yX2_readItems, cX2_readItems, 4, some .boolean)
theorem tw_417 : (Jvm.Cond.code ({ cls := "MouthHouse$HouseReader", name := "readItems", desc := "()Z" } : Jvm.MethodName) prog_4_method_4_code (4 : Nat) (Option.some Jvm.ClassFile.FieldType.boolean)) ∈ lw_tbl := List.mem_of_getElem? (l := lw_tbl) (i := 590) (by decide +kernel)
theorem tw_416 : (Jvm.Cond.instanceMethod ({ cls := "MouthHouse$HouseReader", name := "readItems", desc := "()Z" } : Jvm.MethodName)) ∈ lw_tbl := List.mem_of_getElem? (l := lw_tbl) (i := 589) (by decide +kernel)
theorem mV_X2_readItems : am_mV m_X2_readItems 0 := ⟨⟨tw_417, tw_3, by decide +kernel, ⟨by decide +kernel, by decide +kernel, by decide +kernel⟩, by decide⟩, tw_416, List.mem_of_getElem? (l := lw_tbl) (i := 11) (by decide +kernel)⟩
abbrev m_X2_itemOf : am_M := (yX2_itemOf, cX2_itemOf, 2, some .int)
theorem tw_420 : (Jvm.Cond.code ({ cls := "MouthHouse$HouseReader", name := "itemOf", desc := "(I)I" } : Jvm.MethodName) prog_4_method_5_code (2 : Nat) (Option.some Jvm.ClassFile.FieldType.int)) ∈ lw_tbl := List.mem_of_getElem? (l := lw_tbl) (i := 593) (by decide +kernel)
theorem tw_419 : (Jvm.Cond.static ({ cls := "MouthHouse$HouseReader", name := "itemOf", desc := "(I)I" } : Jvm.MethodName)) ∈ lw_tbl := List.mem_of_getElem? (l := lw_tbl) (i := 592) (by decide +kernel)
theorem mS_X2_itemOf : am_mS m_X2_itemOf 1 := ⟨⟨tw_420, tw_3, by decide +kernel, ⟨by decide +kernel, by decide +kernel, by decide +kernel⟩, by decide⟩, tw_419⟩
abbrev m_X2_readValue : am_M := (yX2_readValue, cX2_readValue, 3, some .boolean)
theorem tw_426 : (Jvm.Cond.code ({ cls := "MouthHouse$HouseReader", name := "readValue", desc := "(I)Z" } : Jvm.MethodName) prog_4_method_6_code (3 : Nat) (Option.some Jvm.ClassFile.FieldType.boolean)) ∈ lw_tbl := List.mem_of_getElem? (l := lw_tbl) (i := 599) (by decide +kernel)
theorem tw_425 : (Jvm.Cond.instanceMethod ({ cls := "MouthHouse$HouseReader", name := "readValue", desc := "(I)Z" } : Jvm.MethodName)) ∈ lw_tbl := List.mem_of_getElem? (l := lw_tbl) (i := 598) (by decide +kernel)
theorem mV_X2_readValue : am_mV m_X2_readValue 1 := ⟨⟨tw_426, tw_3, by decide +kernel, ⟨by decide +kernel, by decide +kernel, by decide +kernel⟩, by decide⟩, tw_425, List.mem_of_getElem? (l := lw_tbl) (i := 12) (by decide +kernel)⟩
abbrev m_X9_number : am_M := (yX9_number, cX9_number, 4, some .int)
theorem tw_430 : (Jvm.Cond.code ({ cls := "MouthHouse$Tape", name := "number", desc := "(I)I" } : Jvm.MethodName) prog_11_method_12_code (4 : Nat) (Option.some Jvm.ClassFile.FieldType.int)) ∈ lw_tbl := List.mem_of_getElem? (l := lw_tbl) (i := 603) (by decide +kernel)
theorem tw_429 : (Jvm.Cond.instanceMethod ({ cls := "MouthHouse$Tape", name := "number", desc := "(I)I" } : Jvm.MethodName)) ∈ lw_tbl := List.mem_of_getElem? (l := lw_tbl) (i := 602) (by decide +kernel)
theorem mV_X9_number : am_mV m_X9_number 1 := ⟨⟨tw_430, tw_2, by decide +kernel, ⟨by decide +kernel, by decide +kernel, by decide +kernel⟩, by decide⟩, tw_429, List.mem_of_getElem? (l := lw_tbl) (i := 13) (by decide +kernel)⟩
abbrev m_X9_isDigit : am_M := (yX9_isDigit, cX9_isDigit, 1, some .boolean)
theorem tw_434 : (Jvm.Cond.code ({ cls := "MouthHouse$Tape", name := "isDigit", desc := "(I)Z" } : Jvm.MethodName) prog_11_method_11_code (1 : Nat) (Option.some Jvm.ClassFile.FieldType.boolean)) ∈ lw_tbl := List.mem_of_getElem? (l := lw_tbl) (i := 607) (by decide +kernel)
theorem tw_433 : (Jvm.Cond.static ({ cls := "MouthHouse$Tape", name := "isDigit", desc := "(I)Z" } : Jvm.MethodName)) ∈ lw_tbl := List.mem_of_getElem? (l := lw_tbl) (i := 606) (by decide +kernel)
theorem mS_X9_isDigit : am_mS m_X9_isDigit 1 := ⟨⟨tw_434, tw_2, by decide +kernel, ⟨by decide +kernel, by decide +kernel, by decide +kernel⟩, by decide⟩, tw_433⟩
abbrev m_X9_here : am_M := (yX9_here, cX9_here, 1, some .int)
theorem tw_438 : (Jvm.Cond.code ({ cls := "MouthHouse$Tape", name := "here", desc := "()I" } : Jvm.MethodName) prog_11_method_8_code (1 : Nat) (Option.some Jvm.ClassFile.FieldType.int)) ∈ lw_tbl := List.mem_of_getElem? (l := lw_tbl) (i := 611) (by decide +kernel)
theorem tw_437 : (Jvm.Cond.instanceMethod ({ cls := "MouthHouse$Tape", name := "here", desc := "()I" } : Jvm.MethodName)) ∈ lw_tbl := List.mem_of_getElem? (l := lw_tbl) (i := 610) (by decide +kernel)
theorem mV_X9_here : am_mV m_X9_here 0 := ⟨⟨tw_438, tw_2, by decide +kernel, ⟨by decide +kernel, by decide +kernel, by decide +kernel⟩, by decide⟩, tw_437, List.mem_of_getElem? (l := lw_tbl) (i := 14) (by decide +kernel)⟩
abbrev m_X5_mostOf : am_M := (yX5_mostOf, cX5_mostOf, 1, some .int)
theorem tw_441 : (Jvm.Cond.code ({ cls := "MouthHouse$Members", name := "mostOf", desc := "(I)I" } : Jvm.MethodName) prog_7_method_2_code (1 : Nat) (Option.some Jvm.ClassFile.FieldType.int)) ∈ lw_tbl := List.mem_of_getElem? (l := lw_tbl) (i := 614) (by decide +kernel)
theorem tw_440 : (Jvm.Cond.static ({ cls := "MouthHouse$Members", name := "mostOf", desc := "(I)I" } : Jvm.MethodName)) ∈ lw_tbl := List.mem_of_getElem? (l := lw_tbl) (i := 613) (by decide +kernel)
theorem mS_X5_mostOf : am_mS m_X5_mostOf 1 := ⟨⟨tw_441, tw_4, by decide +kernel, ⟨by decide +kernel, by decide +kernel, by decide +kernel⟩, by decide⟩, tw_440⟩
abbrev m_X9_stepBack : am_M := (yX9_stepBack, cX9_stepBack, 1, none)
theorem tw_447 : (Jvm.Cond.code ({ cls := "MouthHouse$Tape", name := "stepBack", desc := "()V" } : Jvm.MethodName) prog_11_method_7_code (1 : Nat) (Option.none : Option Jvm.ClassFile.FieldType)) ∈ lw_tbl := List.mem_of_getElem? (l := lw_tbl) (i := 620) (by decide +kernel)
theorem tw_446 : (Jvm.Cond.instanceMethod ({ cls := "MouthHouse$Tape", name := "stepBack", desc := "()V" } : Jvm.MethodName)) ∈ lw_tbl := List.mem_of_getElem? (l := lw_tbl) (i := 619) (by decide +kernel)
theorem mV_X9_stepBack : am_mV m_X9_stepBack 0 := ⟨⟨tw_447, tw_2, by decide +kernel, ⟨by decide +kernel, by decide +kernel, by decide +kernel⟩, by decide⟩, tw_446, List.mem_of_getElem? (l := lw_tbl) (i := 15) (by decide +kernel)⟩
abbrev m_X9_pass : am_M := (yX9_pass, cX9_pass, 2, some .boolean)
theorem tw_452 : (Jvm.Cond.code ({ cls := "MouthHouse$Tape", name := "pass", desc := "(I)Z" } : Jvm.MethodName) prog_11_method_10_code (2 : Nat) (Option.some Jvm.ClassFile.FieldType.boolean)) ∈ lw_tbl := List.mem_of_getElem? (l := lw_tbl) (i := 625) (by decide +kernel)
theorem tw_451 : (Jvm.Cond.instanceMethod ({ cls := "MouthHouse$Tape", name := "pass", desc := "(I)Z" } : Jvm.MethodName)) ∈ lw_tbl := List.mem_of_getElem? (l := lw_tbl) (i := 624) (by decide +kernel)
theorem mV_X9_pass : am_mV m_X9_pass 1 := ⟨⟨tw_452, tw_2, by decide +kernel, ⟨by decide +kernel, by decide +kernel, by decide +kernel⟩, by decide⟩, tw_451, List.mem_of_getElem? (l := lw_tbl) (i := 16) (by decide +kernel)⟩
abbrev m_X5_dropStrangers : am_M := (yX5_dropStrangers, cX5_dropStrangers, 2, none)
theorem tw_456 : (Jvm.Cond.code ({ cls := "MouthHouse$Members", name := "dropStrangers", desc := "()V" } : Jvm.MethodName) prog_7_method_6_code (2 : Nat) (Option.none : Option Jvm.ClassFile.FieldType)) ∈ lw_tbl := List.mem_of_getElem? (l := lw_tbl) (i := 629) (by decide +kernel)
theorem tw_455 : (Jvm.Cond.instanceMethod ({ cls := "MouthHouse$Members", name := "dropStrangers", desc := "()V" } : Jvm.MethodName)) ∈ lw_tbl := List.mem_of_getElem? (l := lw_tbl) (i := 628) (by decide +kernel)
theorem mV_X5_dropStrangers : am_mV m_X5_dropStrangers 0 := ⟨⟨tw_456, tw_4, by decide +kernel, ⟨by decide +kernel, by decide +kernel, by decide +kernel⟩, by decide⟩, tw_455, List.mem_of_getElem? (l := lw_tbl) (i := 17) (by decide +kernel)⟩
abbrev m_X5_fact : am_M := (yX5_fact, cX5_fact, 4, some .int)
theorem tw_460 : (Jvm.Cond.code ({ cls := "MouthHouse$Members", name := "fact", desc := "(II)I" } : Jvm.MethodName) prog_7_method_8_code (4 : Nat) (Option.some Jvm.ClassFile.FieldType.int)) ∈ lw_tbl := List.mem_of_getElem? (l := lw_tbl) (i := 633) (by decide +kernel)
theorem tw_459 : (Jvm.Cond.instanceMethod ({ cls := "MouthHouse$Members", name := "fact", desc := "(II)I" } : Jvm.MethodName)) ∈ lw_tbl := List.mem_of_getElem? (l := lw_tbl) (i := 632) (by decide +kernel)
theorem mV_X5_fact : am_mV m_X5_fact 2 := ⟨⟨tw_460, tw_4, by decide +kernel, ⟨by decide +kernel, by decide +kernel, by decide +kernel⟩, by decide⟩, tw_459, List.mem_of_getElem? (l := lw_tbl) (i := 18) (by decide +kernel)⟩
abbrev m_X4_read : am_M := (yX4_read, cX4_read, 2, some .int)
theorem tw_464 : (Jvm.Cond.code ({ cls := "MouthHouse$MannersReader", name := "read", desc := "()I" } : Jvm.MethodName) prog_6_method_2_code (2 : Nat) (Option.some Jvm.ClassFile.FieldType.int)) ∈ lw_tbl := List.mem_of_getElem? (l := lw_tbl) (i := 637) (by decide +kernel)
theorem tw_463 : (Jvm.Cond.instanceMethod ({ cls := "MouthHouse$MannersReader", name := "read", desc := "()I" } : Jvm.MethodName)) ∈ lw_tbl := List.mem_of_getElem? (l := lw_tbl) (i := 636) (by decide +kernel)
theorem mV_X4_read : am_mV m_X4_read 0 := ⟨⟨tw_464, tw_5, by decide +kernel, ⟨by decide +kernel, by decide +kernel, by decide +kernel⟩, by decide⟩, tw_463, List.mem_of_getElem? (l := lw_tbl) (i := 19) (by decide +kernel)⟩
abbrev m_X4_readClause : am_M := (yX4_readClause, cX4_readClause, 3, some .boolean)
theorem tw_469 : (Jvm.Cond.code ({ cls := "MouthHouse$MannersReader", name := "readClause", desc := "()Z" } : Jvm.MethodName) prog_6_method_4_code (3 : Nat) (Option.some Jvm.ClassFile.FieldType.boolean)) ∈ lw_tbl := List.mem_of_getElem? (l := lw_tbl) (i := 642) (by decide +kernel)
theorem tw_468 : (Jvm.Cond.instanceMethod ({ cls := "MouthHouse$MannersReader", name := "readClause", desc := "()Z" } : Jvm.MethodName)) ∈ lw_tbl := List.mem_of_getElem? (l := lw_tbl) (i := 641) (by decide +kernel)
theorem mV_X4_readClause : am_mV m_X4_readClause 0 := ⟨⟨tw_469, tw_5, by decide +kernel, ⟨by decide +kernel, by decide +kernel, by decide +kernel⟩, by decide⟩, tw_468, List.mem_of_getElem? (l := lw_tbl) (i := 20) (by decide +kernel)⟩
abbrev m_X4_readSum : am_M := (yX4_readSum, cX4_readSum, 3, some .boolean)
theorem tw_475 : (Jvm.Cond.code ({ cls := "MouthHouse$MannersReader", name := "readSum", desc := "(I)Z" } : Jvm.MethodName) prog_6_method_11_code (3 : Nat) (Option.some Jvm.ClassFile.FieldType.boolean)) ∈ lw_tbl := List.mem_of_getElem? (l := lw_tbl) (i := 648) (by decide +kernel)
theorem tw_474 : (Jvm.Cond.instanceMethod ({ cls := "MouthHouse$MannersReader", name := "readSum", desc := "(I)Z" } : Jvm.MethodName)) ∈ lw_tbl := List.mem_of_getElem? (l := lw_tbl) (i := 647) (by decide +kernel)
theorem mV_X4_readSum : am_mV m_X4_readSum 1 := ⟨⟨tw_475, tw_5, by decide +kernel, ⟨by decide +kernel, by decide +kernel, by decide +kernel⟩, by decide⟩, tw_474, List.mem_of_getElem? (l := lw_tbl) (i := 21) (by decide +kernel)⟩
abbrev m_X4_readTerm : am_M := (yX4_readTerm, cX4_readTerm, 3, some .boolean)
theorem tw_479 : (Jvm.Cond.code ({ cls := "MouthHouse$MannersReader", name := "readTerm", desc := "(I)Z" } : Jvm.MethodName) prog_6_method_12_code (3 : Nat) (Option.some Jvm.ClassFile.FieldType.boolean)) ∈ lw_tbl := List.mem_of_getElem? (l := lw_tbl) (i := 652) (by decide +kernel)
theorem tw_478 : (Jvm.Cond.instanceMethod ({ cls := "MouthHouse$MannersReader", name := "readTerm", desc := "(I)Z" } : Jvm.MethodName)) ∈ lw_tbl := List.mem_of_getElem? (l := lw_tbl) (i := 651) (by decide +kernel)
theorem mV_X4_readTerm : am_mV m_X4_readTerm 1 := ⟨⟨tw_479, tw_5, by decide +kernel, ⟨by decide +kernel, by decide +kernel, by decide +kernel⟩, by decide⟩, tw_478, List.mem_of_getElem? (l := lw_tbl) (i := 22) (by decide +kernel)⟩
abbrev m_X4_readAtom : am_M := (yX4_readAtom, cX4_readAtom, 4, some .boolean)
theorem tw_483 : (Jvm.Cond.code ({ cls := "MouthHouse$MannersReader", name := "readAtom", desc := "(I)Z" } : Jvm.MethodName) prog_6_method_13_code (4 : Nat) (Option.some Jvm.ClassFile.FieldType.boolean)) ∈ lw_tbl := List.mem_of_getElem? (l := lw_tbl) (i := 656) (by decide +kernel)
theorem tw_482 : (Jvm.Cond.instanceMethod ({ cls := "MouthHouse$MannersReader", name := "readAtom", desc := "(I)Z" } : Jvm.MethodName)) ∈ lw_tbl := List.mem_of_getElem? (l := lw_tbl) (i := 655) (by decide +kernel)
theorem mV_X4_readAtom : am_mV m_X4_readAtom 1 := ⟨⟨tw_483, tw_5, by decide +kernel, ⟨by decide +kernel, by decide +kernel, by decide +kernel⟩, by decide⟩, tw_482, List.mem_of_getElem? (l := lw_tbl) (i := 23) (by decide +kernel)⟩
abbrev m_X3_letterOf : am_M := (yX3_letterOf, cX3_letterOf, 2, some .int)
theorem tw_487 : (Jvm.Cond.code ({ cls := "MouthHouse$Manners", name := "letterOf", desc := "(I)I" } : Jvm.MethodName) prog_5_method_2_code (2 : Nat) (Option.some Jvm.ClassFile.FieldType.int)) ∈ lw_tbl := List.mem_of_getElem? (l := lw_tbl) (i := 660) (by decide +kernel)
theorem tw_486 : (Jvm.Cond.static ({ cls := "MouthHouse$Manners", name := "letterOf", desc := "(I)I" } : Jvm.MethodName)) ∈ lw_tbl := List.mem_of_getElem? (l := lw_tbl) (i := 659) (by decide +kernel)
theorem mS_X3_letterOf : am_mS m_X3_letterOf 1 := ⟨⟨tw_487, tw_10, by decide +kernel, ⟨by decide +kernel, by decide +kernel, by decide +kernel⟩, by decide⟩, tw_486⟩
abbrev m_X4_write : am_M := (yX4_write, cX4_write, 2, none)
theorem tw_492 : (Jvm.Cond.code ({ cls := "MouthHouse$MannersReader", name := "write", desc := "(I)V" } : Jvm.MethodName) prog_6_method_14_code (2 : Nat) (Option.none : Option Jvm.ClassFile.FieldType)) ∈ lw_tbl := List.mem_of_getElem? (l := lw_tbl) (i := 665) (by decide +kernel)
theorem tw_491 : (Jvm.Cond.instanceMethod ({ cls := "MouthHouse$MannersReader", name := "write", desc := "(I)V" } : Jvm.MethodName)) ∈ lw_tbl := List.mem_of_getElem? (l := lw_tbl) (i := 664) (by decide +kernel)
theorem mV_X4_write : am_mV m_X4_write 1 := ⟨⟨tw_492, tw_5, by decide +kernel, ⟨by decide +kernel, by decide +kernel, by decide +kernel⟩, by decide⟩, tw_491, List.mem_of_getElem? (l := lw_tbl) (i := 24) (by decide +kernel)⟩
abbrev m_X4_isRelation : am_M := (yX4_isRelation, cX4_isRelation, 1, some .boolean)
theorem tw_497 : (Jvm.Cond.code ({ cls := "MouthHouse$MannersReader", name := "isRelation", desc := "(I)Z" } : Jvm.MethodName) prog_6_method_9_code (1 : Nat) (Option.some Jvm.ClassFile.FieldType.boolean)) ∈ lw_tbl := List.mem_of_getElem? (l := lw_tbl) (i := 670) (by decide +kernel)
theorem tw_496 : (Jvm.Cond.static ({ cls := "MouthHouse$MannersReader", name := "isRelation", desc := "(I)Z" } : Jvm.MethodName)) ∈ lw_tbl := List.mem_of_getElem? (l := lw_tbl) (i := 669) (by decide +kernel)
theorem mS_X4_isRelation : am_mS m_X4_isRelation 1 := ⟨⟨tw_497, tw_5, by decide +kernel, ⟨by decide +kernel, by decide +kernel, by decide +kernel⟩, by decide⟩, tw_496⟩
abbrev m_X4_readCondition : am_M := (yX4_readCondition, cX4_readCondition, 3, some .boolean)
theorem tw_501 : (Jvm.Cond.code ({ cls := "MouthHouse$MannersReader", name := "readCondition", desc := "(IZ)Z" } : Jvm.MethodName) prog_6_method_6_code (3 : Nat) (Option.some Jvm.ClassFile.FieldType.boolean)) ∈ lw_tbl := List.mem_of_getElem? (l := lw_tbl) (i := 674) (by decide +kernel)
theorem tw_500 : (Jvm.Cond.instanceMethod ({ cls := "MouthHouse$MannersReader", name := "readCondition", desc := "(IZ)Z" } : Jvm.MethodName)) ∈ lw_tbl := List.mem_of_getElem? (l := lw_tbl) (i := 673) (by decide +kernel)
theorem mV_X4_readCondition : am_mV m_X4_readCondition 2 := ⟨⟨tw_501, tw_5, by decide +kernel, ⟨by decide +kernel, by decide +kernel, by decide +kernel⟩, by decide⟩, tw_500, List.mem_of_getElem? (l := lw_tbl) (i := 25) (by decide +kernel)⟩
abbrev m_X4_readTruth : am_M := (yX4_readTruth, cX4_readTruth, 3, some .boolean)
theorem tw_505 : (Jvm.Cond.code ({ cls := "MouthHouse$MannersReader", name := "readTruth", desc := "(IZ)Z" } : Jvm.MethodName) prog_6_method_7_code (3 : Nat) (Option.some Jvm.ClassFile.FieldType.boolean)) ∈ lw_tbl := List.mem_of_getElem? (l := lw_tbl) (i := 678) (by decide +kernel)
theorem tw_504 : (Jvm.Cond.instanceMethod ({ cls := "MouthHouse$MannersReader", name := "readTruth", desc := "(IZ)Z" } : Jvm.MethodName)) ∈ lw_tbl := List.mem_of_getElem? (l := lw_tbl) (i := 677) (by decide +kernel)
theorem mV_X4_readTruth : am_mV m_X4_readTruth 2 := ⟨⟨tw_505, tw_5, by decide +kernel, ⟨by decide +kernel, by decide +kernel, by decide +kernel⟩, by decide⟩, tw_504, List.mem_of_getElem? (l := lw_tbl) (i := 26) (by decide +kernel)⟩
abbrev m_X4_readUnit : am_M := (yX4_readUnit, cX4_readUnit, 4, some .boolean)
theorem tw_509 : (Jvm.Cond.code ({ cls := "MouthHouse$MannersReader", name := "readUnit", desc := "(IZ)Z" } : Jvm.MethodName) prog_6_method_8_code (4 : Nat) (Option.some Jvm.ClassFile.FieldType.boolean)) ∈ lw_tbl := List.mem_of_getElem? (l := lw_tbl) (i := 682) (by decide +kernel)
theorem tw_508 : (Jvm.Cond.instanceMethod ({ cls := "MouthHouse$MannersReader", name := "readUnit", desc := "(IZ)Z" } : Jvm.MethodName)) ∈ lw_tbl := List.mem_of_getElem? (l := lw_tbl) (i := 681) (by decide +kernel)
theorem mV_X4_readUnit : am_mV m_X4_readUnit 2 := ⟨⟨tw_509, tw_5, by decide +kernel, ⟨by decide +kernel, by decide +kernel, by decide +kernel⟩, by decide⟩, tw_508, List.mem_of_getElem? (l := lw_tbl) (i := 27) (by decide +kernel)⟩
abbrev m_X4_readRelation : am_M := (yX4_readRelation, cX4_readRelation, 3, some .boolean)
theorem tw_513 : (Jvm.Cond.code ({ cls := "MouthHouse$MannersReader", name := "readRelation", desc := "(I)Z" } : Jvm.MethodName) prog_6_method_10_code (3 : Nat) (Option.some Jvm.ClassFile.FieldType.boolean)) ∈ lw_tbl := List.mem_of_getElem? (l := lw_tbl) (i := 686) (by decide +kernel)
theorem tw_512 : (Jvm.Cond.instanceMethod ({ cls := "MouthHouse$MannersReader", name := "readRelation", desc := "(I)Z" } : Jvm.MethodName)) ∈ lw_tbl := List.mem_of_getElem? (l := lw_tbl) (i := 685) (by decide +kernel)
theorem mV_X4_readRelation : am_mV m_X4_readRelation 1 := ⟨⟨tw_513, tw_5, by decide +kernel, ⟨by decide +kernel, by decide +kernel, by decide +kernel⟩, by decide⟩, tw_512, List.mem_of_getElem? (l := lw_tbl) (i := 28) (by decide +kernel)⟩
abbrev m_X4_readConsequence : am_M := (yX4_readConsequence, cX4_readConsequence, 2, some .boolean)
theorem tw_517 : (Jvm.Cond.code ({ cls := "MouthHouse$MannersReader", name := "readConsequence", desc := "()Z" } : Jvm.MethodName) prog_6_method_5_code (2 : Nat) (Option.some Jvm.ClassFile.FieldType.boolean)) ∈ lw_tbl := List.mem_of_getElem? (l := lw_tbl) (i := 690) (by decide +kernel)
theorem tw_516 : (Jvm.Cond.instanceMethod ({ cls := "MouthHouse$MannersReader", name := "readConsequence", desc := "()Z" } : Jvm.MethodName)) ∈ lw_tbl := List.mem_of_getElem? (l := lw_tbl) (i := 689) (by decide +kernel)
theorem mV_X4_readConsequence : am_mV m_X4_readConsequence 0 := ⟨⟨tw_517, tw_5, by decide +kernel, ⟨by decide +kernel, by decide +kernel, by decide +kernel⟩, by decide⟩, tw_516, List.mem_of_getElem? (l := lw_tbl) (i := 29) (by decide +kernel)⟩
abbrev m_X11_text : am_M := (yX11_text, cX11_text, 2, some .int)
theorem tw_521 : (Jvm.Cond.code ({ cls := "MouthHouse", name := "text", desc := "(I)I" } : Jvm.MethodName) prog_1_method_5_code (2 : Nat) (Option.some Jvm.ClassFile.FieldType.int)) ∈ lw_tbl := List.mem_of_getElem? (l := lw_tbl) (i := 694) (by decide +kernel)
theorem tw_520 : (Jvm.Cond.selects "MouthHouse" ({ cls := "MouthHouse", name := "text", desc := "(I)I" } : Jvm.MethodName) ({ cls := "MouthHouse", name := "text", desc := "(I)I" } : Jvm.MethodName)) ∈ lw_tbl := List.mem_of_getElem? (l := lw_tbl) (i := 693) (by decide +kernel)
theorem tw_519 : (Jvm.Cond.instanceMethod ({ cls := "MouthHouse", name := "text", desc := "(I)I" } : Jvm.MethodName)) ∈ lw_tbl := List.mem_of_getElem? (l := lw_tbl) (i := 692) (by decide +kernel)
theorem mV_X11_text : am_mV m_X11_text 1 := ⟨⟨tw_521, tw_1, by decide +kernel, ⟨by decide +kernel, by decide +kernel, by decide +kernel⟩, by decide⟩, tw_519, tw_520⟩
abbrev m_X11_moveIn : am_M := (yX11_moveIn, cX11_moveIn, 1, some .int)
theorem tw_525 : (Jvm.Cond.code ({ cls := "MouthHouse", name := "moveIn", desc := "()I" } : Jvm.MethodName) prog_1_method_6_code (1 : Nat) (Option.some Jvm.ClassFile.FieldType.int)) ∈ lw_tbl := List.mem_of_getElem? (l := lw_tbl) (i := 698) (by decide +kernel)
theorem tw_524 : (Jvm.Cond.instanceMethod ({ cls := "MouthHouse", name := "moveIn", desc := "()I" } : Jvm.MethodName)) ∈ lw_tbl := List.mem_of_getElem? (l := lw_tbl) (i := 697) (by decide +kernel)
theorem mV_X11_moveIn : am_mV m_X11_moveIn 0 := ⟨⟨tw_525, tw_1, by decide +kernel, ⟨by decide +kernel, by decide +kernel, by decide +kernel⟩, by decide⟩, tw_524, List.mem_of_getElem? (l := lw_tbl) (i := 30) (by decide +kernel)⟩
abbrev m_X5_copyFrom : am_M := (yX5_copyFrom, cX5_copyFrom, 2, none)
theorem tw_529 : (Jvm.Cond.code ({ cls := "MouthHouse$Members", name := "copyFrom", desc := "(LMouthHouse$Members;)V" } : Jvm.MethodName) prog_7_method_5_code (2 : Nat) (Option.none : Option Jvm.ClassFile.FieldType)) ∈ lw_tbl := List.mem_of_getElem? (l := lw_tbl) (i := 702) (by decide +kernel)
theorem tw_528 : (Jvm.Cond.instanceMethod ({ cls := "MouthHouse$Members", name := "copyFrom", desc := "(LMouthHouse$Members;)V" } : Jvm.MethodName)) ∈ lw_tbl := List.mem_of_getElem? (l := lw_tbl) (i := 701) (by decide +kernel)
theorem mV_X5_copyFrom : am_mV m_X5_copyFrom 1 := ⟨⟨tw_529, tw_4, by decide +kernel, ⟨by decide +kernel, by decide +kernel, by decide +kernel⟩, by decide⟩, tw_528, List.mem_of_getElem? (l := lw_tbl) (i := 31) (by decide +kernel)⟩
abbrev m_X6_startWith : am_M := (yX6_startWith, cX6_startWith, 3, none)
theorem tw_536 : (Jvm.Cond.code ({ cls := "MouthHouse$Seating", name := "startWith", desc := "(I)V" } : Jvm.MethodName) prog_8_method_2_code (3 : Nat) (Option.none : Option Jvm.ClassFile.FieldType)) ∈ lw_tbl := List.mem_of_getElem? (l := lw_tbl) (i := 709) (by decide +kernel)
theorem tw_535 : (Jvm.Cond.instanceMethod ({ cls := "MouthHouse$Seating", name := "startWith", desc := "(I)V" } : Jvm.MethodName)) ∈ lw_tbl := List.mem_of_getElem? (l := lw_tbl) (i := 708) (by decide +kernel)
theorem mV_X6_startWith : am_mV m_X6_startWith 1 := ⟨⟨tw_536, tw_6, by decide +kernel, ⟨by decide +kernel, by decide +kernel, by decide +kernel⟩, by decide⟩, tw_535, List.mem_of_getElem? (l := lw_tbl) (i := 32) (by decide +kernel)⟩
theorem tw_539 : (Jvm.Cond.code ({ cls := "java/lang/Math", name := "min", desc := "(II)I" } : Jvm.MethodName) prog_18_method_69_code (2 : Nat) (Option.some Jvm.ClassFile.FieldType.int)) ∈ lw_tbl := List.mem_of_getElem? (l := lw_tbl) (i := 712) (by decide +kernel)
theorem jc_J9_min_7cf53 : Cond.code Lib.Math.min.name Lib.Math.min.code 2 (some .int) ∈ lw_tbl := tw_539
theorem tw_538 : (Jvm.Cond.static ({ cls := "java/lang/Math", name := "min", desc := "(II)I" } : Jvm.MethodName)) ∈ lw_tbl := List.mem_of_getElem? (l := lw_tbl) (i := 711) (by decide +kernel)
theorem js_J9_min_7cf53 : Cond.static Lib.Math.min.name ∈ lw_tbl := tw_538
