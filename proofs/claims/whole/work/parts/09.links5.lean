theorem tw_107 : (Jvm.Cond.classLink "MouthHouse" (32 : Nat) "MouthHouse$Manners") ∈ lw_tbl := List.mem_of_getElem? (l := lw_tbl) (i := 280) (by decide +kernel)
theorem cl_X11_32 : Cond.classLink RX11 32 RX3 ∈ lw_tbl := tw_107
theorem tw_109 : (Jvm.Cond.classLink "MouthHouse" (45 : Nat) "MouthHouse$Members") ∈ lw_tbl := List.mem_of_getElem? (l := lw_tbl) (i := 282) (by decide +kernel)
theorem cl_X11_45 : Cond.classLink RX11 45 RX5 ∈ lw_tbl := tw_109
theorem tw_111 : (Jvm.Cond.classLink "MouthHouse" (52 : Nat) "MouthHouse$Seating") ∈ lw_tbl := List.mem_of_getElem? (l := lw_tbl) (i := 284) (by decide +kernel)
theorem cl_X11_52 : Cond.classLink RX11 52 RX6 ∈ lw_tbl := tw_111
theorem tw_112 : (Jvm.Cond.instantiable "MouthHouse$Seating" (3 : Nat)) ∈ lw_tbl := List.mem_of_getElem? (l := lw_tbl) (i := 285) (by decide +kernel)
theorem it_X6 : Cond.instantiable RX6 (am_nf 6) ∈ lw_tbl := tw_112
theorem tw_127 : (Jvm.Cond.classLink "MouthHouse" (59 : Nat) "MouthHouse$Talk") ∈ lw_tbl := List.mem_of_getElem? (l := lw_tbl) (i := 300) (by decide +kernel)
theorem cl_X11_59 : Cond.classLink RX11 59 RX8 ∈ lw_tbl := tw_127
theorem tw_128 : (Jvm.Cond.instantiable "MouthHouse$Talk" (3 : Nat)) ∈ lw_tbl := List.mem_of_getElem? (l := lw_tbl) (i := 301) (by decide +kernel)
theorem it_X8 : Cond.instantiable RX8 (am_nf 8) ∈ lw_tbl := tw_128
theorem tw_144 : (Jvm.Cond.classLink "MouthHouse" (68 : Nat) "MouthHouse$Votes") ∈ lw_tbl := List.mem_of_getElem? (l := lw_tbl) (i := 317) (by decide +kernel)
theorem cl_X11_68 : Cond.classLink RX11 68 RX10 ∈ lw_tbl := tw_144
theorem tw_145 : (Jvm.Cond.instantiable "MouthHouse$Votes" (8 : Nat)) ∈ lw_tbl := List.mem_of_getElem? (l := lw_tbl) (i := 318) (by decide +kernel)
theorem it_X10 : Cond.instantiable RX10 (am_nf 10) ∈ lw_tbl := tw_145
theorem tw_178 : (Jvm.Cond.classLink "MouthHouse" (77 : Nat) "MouthHouse$Best") ∈ lw_tbl := List.mem_of_getElem? (l := lw_tbl) (i := 351) (by decide +kernel)
theorem cl_X11_77 : Cond.classLink RX11 77 RX0 ∈ lw_tbl := tw_178
theorem tw_179 : (Jvm.Cond.instantiable "MouthHouse$Best" (15 : Nat)) ∈ lw_tbl := List.mem_of_getElem? (l := lw_tbl) (i := 352) (by decide +kernel)
theorem it_X0 : Cond.instantiable RX0 (am_nf 0) ∈ lw_tbl := tw_179
theorem tw_232 : (Jvm.Cond.classLink "MouthHouse" (86 : Nat) "MouthHouse$Changes") ∈ lw_tbl := List.mem_of_getElem? (l := lw_tbl) (i := 405) (by decide +kernel)
theorem cl_X11_86 : Cond.classLink RX11 86 RX1 ∈ lw_tbl := tw_232
theorem tw_233 : (Jvm.Cond.instantiable "MouthHouse$Changes" (10 : Nat)) ∈ lw_tbl := List.mem_of_getElem? (l := lw_tbl) (i := 406) (by decide +kernel)
theorem it_X1 : Cond.instantiable RX1 (am_nf 1) ∈ lw_tbl := tw_233
theorem tw_238 : (Jvm.Cond.classLink "MouthHouse$Changes" (19 : Nat) "MouthHouse$Seating") ∈ lw_tbl := List.mem_of_getElem? (l := lw_tbl) (i := 411) (by decide +kernel)
theorem cl_X1_19 : Cond.classLink RX1 19 RX6 ∈ lw_tbl := tw_238
theorem tw_240 : (Jvm.Cond.classLink "MouthHouse$Changes" (25 : Nat) "MouthHouse$Talk") ∈ lw_tbl := List.mem_of_getElem? (l := lw_tbl) (i := 413) (by decide +kernel)
theorem cl_X1_25 : Cond.classLink RX1 25 RX8 ∈ lw_tbl := tw_240
theorem tw_275 : (Jvm.Cond.classLink "MouthHouse" (93 : Nat) "MouthHouse$Sittings") ∈ lw_tbl := List.mem_of_getElem? (l := lw_tbl) (i := 448) (by decide +kernel)
theorem cl_X11_93 : Cond.classLink RX11 93 RX7 ∈ lw_tbl := tw_275
theorem tw_276 : (Jvm.Cond.instantiable "MouthHouse$Sittings" (5 : Nat)) ∈ lw_tbl := List.mem_of_getElem? (l := lw_tbl) (i := 449) (by decide +kernel)
theorem it_X7 : Cond.instantiable RX7 (am_nf 7) ∈ lw_tbl := tw_276
theorem tw_568 : (Jvm.Cond.classLink "MouthHouse$MannersReader" (43 : Nat) "MouthHouse$Manners") ∈ lw_tbl := List.mem_of_getElem? (l := lw_tbl) (i := 741) (by decide +kernel)
theorem cl_X4_43 : Cond.classLink RX4 43 RX3 ∈ lw_tbl := tw_568
theorem tw_569 : (Jvm.Cond.instantiable "MouthHouse$Manners" (3 : Nat)) ∈ lw_tbl := List.mem_of_getElem? (l := lw_tbl) (i := 742) (by decide +kernel)
theorem it_X3 : Cond.instantiable RX3 (am_nf 3) ∈ lw_tbl := tw_569
theorem tw_642 : (Jvm.Cond.constantLong "MouthHouse" (212 : Nat) (-1 : Int64)) ∈ lw_tbl := List.mem_of_getElem? (l := lw_tbl) (i := 815) (by decide +kernel)
theorem kc_X11_212 : Jvm.Cond.constantLong RX11 212 (-1) ∈ lw_tbl := tw_642
theorem tw_669 : (Jvm.Cond.constantLong "MouthHouse$Talk" (64 : Nat) (-1 : Int64)) ∈ lw_tbl := List.mem_of_getElem? (l := lw_tbl) (i := 842) (by decide +kernel)
theorem kc_X8_64 : Jvm.Cond.constantLong RX8 64 (-1) ∈ lw_tbl := tw_669
theorem tw_675 : (Jvm.Cond.constantLong "MouthHouse$Talk" (69 : Nat) (100 : Int64)) ∈ lw_tbl := List.mem_of_getElem? (l := lw_tbl) (i := 848) (by decide +kernel)
theorem kc_X8_69 : Jvm.Cond.constantLong RX8 69 (100) ∈ lw_tbl := tw_675
theorem tw_692 : (Jvm.Cond.constant "java/lang/Integer" (265 : Nat) (1431655765 : Int32)) ∈ lw_tbl := List.mem_of_getElem? (l := lw_tbl) (i := 865) (by decide +kernel)
theorem kc_J6_265 : Jvm.Cond.constant RJ6 265 (1431655765) ∈ lw_tbl := tw_692
theorem tw_693 : (Jvm.Cond.constant "java/lang/Integer" (266 : Nat) (858993459 : Int32)) ∈ lw_tbl := List.mem_of_getElem? (l := lw_tbl) (i := 866) (by decide +kernel)
theorem kc_J6_266 : Jvm.Cond.constant RJ6 266 (858993459) ∈ lw_tbl := tw_693
theorem tw_694 : (Jvm.Cond.constant "java/lang/Integer" (267 : Nat) (252645135 : Int32)) ∈ lw_tbl := List.mem_of_getElem? (l := lw_tbl) (i := 867) (by decide +kernel)
theorem kc_J6_267 : Jvm.Cond.constant RJ6 267 (252645135) ∈ lw_tbl := tw_694
theorem tw_801 : (Jvm.Cond.constant "MouthHouse" (252 : Nat) (-100000000 : Int32)) ∈ lw_tbl := List.mem_of_getElem? (l := lw_tbl) (i := 974) (by decide +kernel)
theorem kc_X11_252 : Jvm.Cond.constant RX11 252 (-100000000) ∈ lw_tbl := tw_801
theorem tw_843 : (Jvm.Cond.constantLong "MouthHouse$Manners" (68 : Nat) (1000000 : Int64)) ∈ lw_tbl := List.mem_of_getElem? (l := lw_tbl) (i := 1016) (by decide +kernel)
theorem kc_X3_68 : Jvm.Cond.constantLong RX3 68 (1000000) ∈ lw_tbl := tw_843
theorem tw_844 : (Jvm.Cond.constant "MouthHouse$Manners" (70 : Nat) (1000000 : Int32)) ∈ lw_tbl := List.mem_of_getElem? (l := lw_tbl) (i := 1017) (by decide +kernel)
theorem kc_X3_70 : Jvm.Cond.constant RX3 70 (1000000) ∈ lw_tbl := tw_844
theorem tw_845 : (Jvm.Cond.constantLong "MouthHouse$Manners" (71 : Nat) (-1000000 : Int64)) ∈ lw_tbl := List.mem_of_getElem? (l := lw_tbl) (i := 1018) (by decide +kernel)
theorem kc_X3_71 : Jvm.Cond.constantLong RX3 71 (-1000000) ∈ lw_tbl := tw_845
theorem tw_846 : (Jvm.Cond.constant "MouthHouse$Manners" (73 : Nat) (-1000000 : Int32)) ∈ lw_tbl := List.mem_of_getElem? (l := lw_tbl) (i := 1019) (by decide +kernel)
theorem kc_X3_73 : Jvm.Cond.constant RX3 73 (-1000000) ∈ lw_tbl := tw_846
theorem tw_911 : (Jvm.Cond.constant "MouthHouse$Best" (89 : Nat) (-100000000 : Int32)) ∈ lw_tbl := List.mem_of_getElem? (l := lw_tbl) (i := 1084) (by decide +kernel)
theorem kc_X0_89 : Jvm.Cond.constant RX0 89 (-100000000) ∈ lw_tbl := tw_911
theorem tw_1030 : (Jvm.Cond.constantLong "MouthHouse$Sittings" (30 : Nat) (6364136223846793005 : Int64)) ∈ lw_tbl := List.mem_of_getElem? (l := lw_tbl) (i := 1203) (by decide +kernel)
theorem kc_X7_30 : Jvm.Cond.constantLong RX7 30 (6364136223846793005) ∈ lw_tbl := tw_1030
theorem tw_1031 : (Jvm.Cond.constantLong "MouthHouse$Sittings" (32 : Nat) (1442695040888963407 : Int64)) ∈ lw_tbl := List.mem_of_getElem? (l := lw_tbl) (i := 1204) (by decide +kernel)
theorem kc_X7_32 : Jvm.Cond.constantLong RX7 32 (1442695040888963407) ∈ lw_tbl := tw_1031
theorem tw_1086 : (Jvm.Cond.classLink "MouthHouseLaw" (13 : Nat) "java/util/NoSuchElementException") ∈ lw_tbl := List.mem_of_getElem? (l := lw_tbl) (i := 1259) (by decide +kernel)
theorem cl_L_13 : Cond.classLink RL 13 "java/util/NoSuchElementException" ∈ lw_tbl := tw_1086
theorem tw_1091 : (Jvm.Cond.classLink "MouthHouse" (168 : Nat) "java/util/NoSuchElementException") ∈ lw_tbl := List.mem_of_getElem? (l := lw_tbl) (i := 1264) (by decide +kernel)
theorem cl_X11_168 : Cond.classLink RX11 168 "java/util/NoSuchElementException" ∈ lw_tbl := tw_1091
theorem tw_1153 : (Jvm.Cond.classLink "MouthHouseLaw" (16 : Nat) "MouthHouseModel") ∈ lw_tbl := List.mem_of_getElem? (l := lw_tbl) (i := 1326) (by decide +kernel)
theorem cl_L_16 : Cond.classLink RL 16 RX12 ∈ lw_tbl := tw_1153
theorem tw_1154 : (Jvm.Cond.instantiable "MouthHouseModel" (51 : Nat)) ∈ lw_tbl := List.mem_of_getElem? (l := lw_tbl) (i := 1327) (by decide +kernel)
theorem it_X12 : Cond.instantiable RX12 (am_nf 12) ∈ lw_tbl := tw_1154
theorem tw_1519 : (Jvm.Cond.constantLong "MouthHouseModel" (321 : Nat) (-1 : Int64)) ∈ lw_tbl := List.mem_of_getElem? (l := lw_tbl) (i := 1692) (by decide +kernel)
theorem kc_X12_321 : Jvm.Cond.constantLong RX12 321 (-1) ∈ lw_tbl := tw_1519
theorem tw_1528 : (Jvm.Cond.constantLong "MouthHouseModel" (319 : Nat) (100 : Int64)) ∈ lw_tbl := List.mem_of_getElem? (l := lw_tbl) (i := 1701) (by decide +kernel)
theorem kc_X12_319 : Jvm.Cond.constantLong RX12 319 (100) ∈ lw_tbl := tw_1528
theorem tw_1591 : (Jvm.Cond.constant "MouthHouseModel" (358 : Nat) (-100000000 : Int32)) ∈ lw_tbl := List.mem_of_getElem? (l := lw_tbl) (i := 1764) (by decide +kernel)
theorem kc_X12_358 : Jvm.Cond.constant RX12 358 (-100000000) ∈ lw_tbl := tw_1591
theorem tw_1614 : (Jvm.Cond.constantLong "MouthHouseModel" (190 : Nat) (-1000000 : Int64)) ∈ lw_tbl := List.mem_of_getElem? (l := lw_tbl) (i := 1787) (by decide +kernel)
theorem kc_X12_190 : Jvm.Cond.constantLong RX12 190 (-1000000) ∈ lw_tbl := tw_1614
theorem tw_1615 : (Jvm.Cond.constantLong "MouthHouseModel" (192 : Nat) (1000000 : Int64)) ∈ lw_tbl := List.mem_of_getElem? (l := lw_tbl) (i := 1788) (by decide +kernel)
theorem kc_X12_192 : Jvm.Cond.constantLong RX12 192 (1000000) ∈ lw_tbl := tw_1615
theorem tw_1686 : (Jvm.Cond.constantLong "MouthHouseModel" (396 : Nat) (6364136223846793005 : Int64)) ∈ lw_tbl := List.mem_of_getElem? (l := lw_tbl) (i := 1859) (by decide +kernel)
theorem kc_X12_396 : Jvm.Cond.constantLong RX12 396 (6364136223846793005) ∈ lw_tbl := tw_1686
theorem tw_1687 : (Jvm.Cond.constantLong "MouthHouseModel" (398 : Nat) (1442695040888963407 : Int64)) ∈ lw_tbl := List.mem_of_getElem? (l := lw_tbl) (i := 1860) (by decide +kernel)
theorem kc_X12_398 : Jvm.Cond.constantLong RX12 398 (1442695040888963407) ∈ lw_tbl := tw_1687
theorem tw_1712 : (Jvm.Cond.constantLong "MouthHouseLaw" (131 : Nat) (4294967295 : Int64)) ∈ lw_tbl := List.mem_of_getElem? (l := lw_tbl) (i := 1885) (by decide +kernel)
theorem kc_L_131 : Jvm.Cond.constantLong RL 131 (4294967295) ∈ lw_tbl := tw_1712
abbrev m_X11_init : am_M := (yX11_init, cX11_init, 1, none)
theorem tw_26 : (Jvm.Cond.code ({ cls := "MouthHouse", name := "<init>", desc := "()V" } : Jvm.MethodName) prog_1_method_1_code (1 : Nat) (Option.none : Option Jvm.ClassFile.FieldType)) ∈ lw_tbl := List.mem_of_getElem? (l := lw_tbl) (i := 199) (by decide +kernel)
theorem tw_25 : (Jvm.Cond.instanceMethod ({ cls := "MouthHouse", name := "<init>", desc := "()V" } : Jvm.MethodName)) ∈ lw_tbl := List.mem_of_getElem? (l := lw_tbl) (i := 198) (by decide +kernel)
theorem mI_X11_init : am_mI m_X11_init 0 := ⟨⟨tw_26, tw_1, by decide +kernel, ⟨by decide +kernel, by decide +kernel, by decide +kernel⟩, by decide⟩, rfl, tw_25, rfl⟩
abbrev m_X9_init : am_M := (yX9_init, cX9_init, 1, none)
theorem tw_34 : (Jvm.Cond.code ({ cls := "MouthHouse$Tape", name := "<init>", desc := "()V" } : Jvm.MethodName) prog_11_method_1_code (1 : Nat) (Option.none : Option Jvm.ClassFile.FieldType)) ∈ lw_tbl := List.mem_of_getElem? (l := lw_tbl) (i := 207) (by decide +kernel)
theorem tw_33 : (Jvm.Cond.instanceMethod ({ cls := "MouthHouse$Tape", name := "<init>", desc := "()V" } : Jvm.MethodName)) ∈ lw_tbl := List.mem_of_getElem? (l := lw_tbl) (i := 206) (by decide +kernel)
theorem mI_X9_init : am_mI m_X9_init 0 := ⟨⟨tw_34, tw_2, by decide +kernel, ⟨by decide +kernel, by decide +kernel, by decide +kernel⟩, by decide⟩, rfl, tw_33, rfl⟩
abbrev m_X2_init : am_M := (yX2_init, cX2_init, 2, none)
theorem tw_54 : (Jvm.Cond.code ({ cls := "MouthHouse$HouseReader", name := "<init>", desc := "(LMouthHouse$Tape;)V" } : Jvm.MethodName) prog_4_method_1_code (2 : Nat) (Option.none : Option Jvm.ClassFile.FieldType)) ∈ lw_tbl := List.mem_of_getElem? (l := lw_tbl) (i := 227) (by decide +kernel)
theorem tw_53 : (Jvm.Cond.instanceMethod ({ cls := "MouthHouse$HouseReader", name := "<init>", desc := "(LMouthHouse$Tape;)V" } : Jvm.MethodName)) ∈ lw_tbl := List.mem_of_getElem? (l := lw_tbl) (i := 226) (by decide +kernel)
theorem mI_X2_init : am_mI m_X2_init 1 := ⟨⟨tw_54, tw_3, by decide +kernel, ⟨by decide +kernel, by decide +kernel, by decide +kernel⟩, by decide⟩, rfl, tw_53, rfl⟩
abbrev m_X5_init : am_M := (yX5_init, cX5_init, 1, none)
theorem tw_60 : (Jvm.Cond.code ({ cls := "MouthHouse$Members", name := "<init>", desc := "()V" } : Jvm.MethodName) prog_7_method_1_code (1 : Nat) (Option.none : Option Jvm.ClassFile.FieldType)) ∈ lw_tbl := List.mem_of_getElem? (l := lw_tbl) (i := 233) (by decide +kernel)
theorem tw_59 : (Jvm.Cond.instanceMethod ({ cls := "MouthHouse$Members", name := "<init>", desc := "()V" } : Jvm.MethodName)) ∈ lw_tbl := List.mem_of_getElem? (l := lw_tbl) (i := 232) (by decide +kernel)
theorem mI_X5_init : am_mI m_X5_init 0 := ⟨⟨tw_60, tw_4, by decide +kernel, ⟨by decide +kernel, by decide +kernel, by decide +kernel⟩, by decide⟩, rfl, tw_59, rfl⟩
abbrev m_X4_init : am_M := (yX4_init, cX4_init, 2, none)
theorem tw_95 : (Jvm.Cond.code ({ cls := "MouthHouse$MannersReader", name := "<init>", desc := "(LMouthHouse$Tape;)V" } : Jvm.MethodName) prog_6_method_1_code (2 : Nat) (Option.none : Option Jvm.ClassFile.FieldType)) ∈ lw_tbl := List.mem_of_getElem? (l := lw_tbl) (i := 268) (by decide +kernel)
theorem tw_94 : (Jvm.Cond.instanceMethod ({ cls := "MouthHouse$MannersReader", name := "<init>", desc := "(LMouthHouse$Tape;)V" } : Jvm.MethodName)) ∈ lw_tbl := List.mem_of_getElem? (l := lw_tbl) (i := 267) (by decide +kernel)
theorem mI_X4_init : am_mI m_X4_init 1 := ⟨⟨tw_95, tw_5, by decide +kernel, ⟨by decide +kernel, by decide +kernel, by decide +kernel⟩, by decide⟩, rfl, tw_94, rfl⟩
abbrev m_X6_init : am_M := (yX6_init, cX6_init, 1, none)
theorem tw_115 : (Jvm.Cond.code ({ cls := "MouthHouse$Seating", name := "<init>", desc := "()V" } : Jvm.MethodName) prog_8_method_1_code (1 : Nat) (Option.none : Option Jvm.ClassFile.FieldType)) ∈ lw_tbl := List.mem_of_getElem? (l := lw_tbl) (i := 288) (by decide +kernel)
theorem tw_114 : (Jvm.Cond.instanceMethod ({ cls := "MouthHouse$Seating", name := "<init>", desc := "()V" } : Jvm.MethodName)) ∈ lw_tbl := List.mem_of_getElem? (l := lw_tbl) (i := 287) (by decide +kernel)
theorem mI_X6_init : am_mI m_X6_init 0 := ⟨⟨tw_115, tw_6, by decide +kernel, ⟨by decide +kernel, by decide +kernel, by decide +kernel⟩, by decide⟩, rfl, tw_114, rfl⟩
abbrev m_X8_init : am_M := (yX8_init, cX8_init, 3, none)
theorem tw_131 : (Jvm.Cond.code ({ cls := "MouthHouse$Talk", name := "<init>", desc := "(LMouthHouse$Members;LMouthHouse$Seating;)V" } : Jvm.MethodName) prog_10_method_1_code (3 : Nat) (Option.none : Option Jvm.ClassFile.FieldType)) ∈ lw_tbl := List.mem_of_getElem? (l := lw_tbl) (i := 304) (by decide +kernel)
theorem tw_130 : (Jvm.Cond.instanceMethod ({ cls := "MouthHouse$Talk", name := "<init>", desc := "(LMouthHouse$Members;LMouthHouse$Seating;)V" } : Jvm.MethodName)) ∈ lw_tbl := List.mem_of_getElem? (l := lw_tbl) (i := 303) (by decide +kernel)
theorem mI_X8_init : am_mI m_X8_init 2 := ⟨⟨tw_131, tw_7, by decide +kernel, ⟨by decide +kernel, by decide +kernel, by decide +kernel⟩, by decide⟩, rfl, tw_130, rfl⟩
abbrev m_X10_init : am_M := (yX10_init, cX10_init, 2, none)
theorem tw_148 : (Jvm.Cond.code ({ cls := "MouthHouse$Votes", name := "<init>", desc := "(LMouthHouse$Talk;)V" } : Jvm.MethodName) prog_12_method_1_code (2 : Nat) (Option.none : Option Jvm.ClassFile.FieldType)) ∈ lw_tbl := List.mem_of_getElem? (l := lw_tbl) (i := 321) (by decide +kernel)
theorem tw_147 : (Jvm.Cond.instanceMethod ({ cls := "MouthHouse$Votes", name := "<init>", desc := "(LMouthHouse$Talk;)V" } : Jvm.MethodName)) ∈ lw_tbl := List.mem_of_getElem? (l := lw_tbl) (i := 320) (by decide +kernel)
theorem mI_X10_init : am_mI m_X10_init 1 := ⟨⟨tw_148, tw_8, by decide +kernel, ⟨by decide +kernel, by decide +kernel, by decide +kernel⟩, by decide⟩, rfl, tw_147, rfl⟩
abbrev m_X0_init : am_M := (yX0_init, cX0_init, 2, none)
theorem tw_182 : (Jvm.Cond.code ({ cls := "MouthHouse$Best", name := "<init>", desc := "(LMouthHouse$Members;)V" } : Jvm.MethodName) prog_2_method_1_code (2 : Nat) (Option.none : Option Jvm.ClassFile.FieldType)) ∈ lw_tbl := List.mem_of_getElem? (l := lw_tbl) (i := 355) (by decide +kernel)
theorem tw_181 : (Jvm.Cond.instanceMethod ({ cls := "MouthHouse$Best", name := "<init>", desc := "(LMouthHouse$Members;)V" } : Jvm.MethodName)) ∈ lw_tbl := List.mem_of_getElem? (l := lw_tbl) (i := 354) (by decide +kernel)
theorem mI_X0_init : am_mI m_X0_init 1 := ⟨⟨tw_182, tw_9, by decide +kernel, ⟨by decide +kernel, by decide +kernel, by decide +kernel⟩, by decide⟩, rfl, tw_181, rfl⟩
abbrev m_X1_init : am_M := (yX1_init, cX1_init, 3, none)
theorem tw_236 : (Jvm.Cond.code ({ cls := "MouthHouse$Changes", name := "<init>", desc := "(LMouthHouse$Members;LMouthHouse$Seating;)V" } : Jvm.MethodName) prog_3_method_1_code (3 : Nat) (Option.none : Option Jvm.ClassFile.FieldType)) ∈ lw_tbl := List.mem_of_getElem? (l := lw_tbl) (i := 409) (by decide +kernel)
theorem tw_235 : (Jvm.Cond.instanceMethod ({ cls := "MouthHouse$Changes", name := "<init>", desc := "(LMouthHouse$Members;LMouthHouse$Seating;)V" } : Jvm.MethodName)) ∈ lw_tbl := List.mem_of_getElem? (l := lw_tbl) (i := 408) (by decide +kernel)
theorem mI_X1_init : am_mI m_X1_init 2 := ⟨⟨tw_236, tw_11, by decide +kernel, ⟨by decide +kernel, by decide +kernel, by decide +kernel⟩, by decide⟩, rfl, tw_235, rfl⟩
abbrev m_X7_init : am_M := (yX7_init, cX7_init, 1, none)
theorem tw_279 : (Jvm.Cond.code ({ cls := "MouthHouse$Sittings", name := "<init>", desc := "()V" } : Jvm.MethodName) prog_9_method_1_code (1 : Nat) (Option.none : Option Jvm.ClassFile.FieldType)) ∈ lw_tbl := List.mem_of_getElem? (l := lw_tbl) (i := 452) (by decide +kernel)
theorem tw_278 : (Jvm.Cond.instanceMethod ({ cls := "MouthHouse$Sittings", name := "<init>", desc := "()V" } : Jvm.MethodName)) ∈ lw_tbl := List.mem_of_getElem? (l := lw_tbl) (i := 451) (by decide +kernel)
theorem mI_X7_init : am_mI m_X7_init 0 := ⟨⟨tw_279, tw_12, by decide +kernel, ⟨by decide +kernel, by decide +kernel, by decide +kernel⟩, by decide⟩, rfl, tw_278, rfl⟩
abbrev m_X11_feed : am_M := (yX11_feed, cX11_feed, 7, some .int)
theorem tw_354 : (Jvm.Cond.code ({ cls := "MouthHouse", name := "feed", desc := "(IIIII)I" } : Jvm.MethodName) prog_1_method_2_code (7 : Nat) (Option.some Jvm.ClassFile.FieldType.int)) ∈ lw_tbl := List.mem_of_getElem? (l := lw_tbl) (i := 527) (by decide +kernel)
theorem tw_353 : (Jvm.Cond.selects "MouthHouse" ({ cls := "MouthHouse", name := "feed", desc := "(IIIII)I" } : Jvm.MethodName) ({ cls := "MouthHouse", name := "feed", desc := "(IIIII)I" } : Jvm.MethodName)) ∈ lw_tbl := List.mem_of_getElem? (l := lw_tbl) (i := 526) (by decide +kernel)
theorem tw_352 : (Jvm.Cond.instanceMethod ({ cls := "MouthHouse", name := "feed", desc := "(IIIII)I" } : Jvm.MethodName)) ∈ lw_tbl := List.mem_of_getElem? (l := lw_tbl) (i := 525) (by decide +kernel)
theorem mV_X11_feed : am_mV m_X11_feed 5 := ⟨⟨tw_354, tw_1, by decide +kernel, ⟨by decide +kernel, by decide +kernel, by decide +kernel⟩, by decide⟩, tw_352, tw_353⟩
abbrev m_X9_signsIn : am_M := (yX9_signsIn, cX9_signsIn, 3, some .int)
theorem tw_357 : (Jvm.Cond.code ({ cls := "MouthHouse$Tape", name := "signsIn", desc := "(I)I" } : Jvm.MethodName) prog_11_method_2_code (3 : Nat) (Option.some Jvm.ClassFile.FieldType.int)) ∈ lw_tbl := List.mem_of_getElem? (l := lw_tbl) (i := 530) (by decide +kernel)
theorem tw_356 : (Jvm.Cond.static ({ cls := "MouthHouse$Tape", name := "signsIn", desc := "(I)I" } : Jvm.MethodName)) ∈ lw_tbl := List.mem_of_getElem? (l := lw_tbl) (i := 529) (by decide +kernel)
theorem mS_X9_signsIn : am_mS m_X9_signsIn 1 := ⟨⟨tw_357, tw_2, by decide +kernel, ⟨by decide +kernel, by decide +kernel, by decide +kernel⟩, by decide⟩, tw_356⟩
abbrev m_X9_hasRoom : am_M := (yX9_hasRoom, cX9_hasRoom, 2, some .boolean)
theorem tw_361 : (Jvm.Cond.code ({ cls := "MouthHouse$Tape", name := "hasRoom", desc := "(I)Z" } : Jvm.MethodName) prog_11_method_3_code (2 : Nat) (Option.some Jvm.ClassFile.FieldType.boolean)) ∈ lw_tbl := List.mem_of_getElem? (l := lw_tbl) (i := 534) (by decide +kernel)
theorem tw_360 : (Jvm.Cond.instanceMethod ({ cls := "MouthHouse$Tape", name := "hasRoom", desc := "(I)Z" } : Jvm.MethodName)) ∈ lw_tbl := List.mem_of_getElem? (l := lw_tbl) (i := 533) (by decide +kernel)
theorem mV_X9_hasRoom : am_mV m_X9_hasRoom 1 := ⟨⟨tw_361, tw_2, by decide +kernel, ⟨by decide +kernel, by decide +kernel, by decide +kernel⟩, by decide⟩, tw_360, List.mem_of_getElem? (l := lw_tbl) (i := 0) (by decide +kernel)⟩
abbrev m_X9_append : am_M := (yX9_append, cX9_append, 4, none)
theorem tw_365 : (Jvm.Cond.code ({ cls := "MouthHouse$Tape", name := "append", desc := "(I)V" } : Jvm.MethodName) prog_11_method_4_code (4 : Nat) (Option.none : Option Jvm.ClassFile.FieldType)) ∈ lw_tbl := List.mem_of_getElem? (l := lw_tbl) (i := 538) (by decide +kernel)
theorem tw_364 : (Jvm.Cond.instanceMethod ({ cls := "MouthHouse$Tape", name := "append", desc := "(I)V" } : Jvm.MethodName)) ∈ lw_tbl := List.mem_of_getElem? (l := lw_tbl) (i := 537) (by decide +kernel)
theorem mV_X9_append : am_mV m_X9_append 1 := ⟨⟨tw_365, tw_2, by decide +kernel, ⟨by decide +kernel, by decide +kernel, by decide +kernel⟩, by decide⟩, tw_364, List.mem_of_getElem? (l := lw_tbl) (i := 1) (by decide +kernel)⟩
abbrev m_X11_end : am_M := (yX11_end, cX11_end, 2, some .boolean)
theorem tw_369 : (Jvm.Cond.code ({ cls := "MouthHouse", name := "end", desc := "(I)Z" } : Jvm.MethodName) prog_1_method_3_code (2 : Nat) (Option.some Jvm.ClassFile.FieldType.boolean)) ∈ lw_tbl := List.mem_of_getElem? (l := lw_tbl) (i := 542) (by decide +kernel)
theorem tw_368 : (Jvm.Cond.selects "MouthHouse" ({ cls := "MouthHouse", name := "end", desc := "(I)Z" } : Jvm.MethodName) ({ cls := "MouthHouse", name := "end", desc := "(I)Z" } : Jvm.MethodName)) ∈ lw_tbl := List.mem_of_getElem? (l := lw_tbl) (i := 541) (by decide +kernel)
theorem tw_367 : (Jvm.Cond.instanceMethod ({ cls := "MouthHouse", name := "end", desc := "(I)Z" } : Jvm.MethodName)) ∈ lw_tbl := List.mem_of_getElem? (l := lw_tbl) (i := 540) (by decide +kernel)
theorem mV_X11_end : am_mV m_X11_end 1 := ⟨⟨tw_369, tw_1, by decide +kernel, ⟨by decide +kernel, by decide +kernel, by decide +kernel⟩, by decide⟩, tw_367, tw_368⟩
abbrev m_X11_fault : am_M := (yX11_fault, cX11_fault, 2, some .int)
theorem tw_373 : (Jvm.Cond.code ({ cls := "MouthHouse", name := "fault", desc := "(I)I" } : Jvm.MethodName) prog_1_method_4_code (2 : Nat) (Option.some Jvm.ClassFile.FieldType.int)) ∈ lw_tbl := List.mem_of_getElem? (l := lw_tbl) (i := 546) (by decide +kernel)
theorem tw_372 : (Jvm.Cond.selects "MouthHouse" ({ cls := "MouthHouse", name := "fault", desc := "(I)I" } : Jvm.MethodName) ({ cls := "MouthHouse", name := "fault", desc := "(I)I" } : Jvm.MethodName)) ∈ lw_tbl := List.mem_of_getElem? (l := lw_tbl) (i := 545) (by decide +kernel)
theorem tw_371 : (Jvm.Cond.instanceMethod ({ cls := "MouthHouse", name := "fault", desc := "(I)I" } : Jvm.MethodName)) ∈ lw_tbl := List.mem_of_getElem? (l := lw_tbl) (i := 544) (by decide +kernel)
theorem mV_X11_fault : am_mV m_X11_fault 1 := ⟨⟨tw_373, tw_1, by decide +kernel, ⟨by decide +kernel, by decide +kernel, by decide +kernel⟩, by decide⟩, tw_371, tw_372⟩
abbrev m_X2_read : am_M := (yX2_read, cX2_read, 3, some .int)
theorem tw_377 : (Jvm.Cond.code ({ cls := "MouthHouse$HouseReader", name := "read", desc := "()I" } : Jvm.MethodName) prog_4_method_2_code (3 : Nat) (Option.some Jvm.ClassFile.FieldType.int)) ∈ lw_tbl := List.mem_of_getElem? (l := lw_tbl) (i := 550) (by decide +kernel)
theorem tw_376 : (Jvm.Cond.instanceMethod ({ cls := "MouthHouse$HouseReader", name := "read", desc := "()I" } : Jvm.MethodName)) ∈ lw_tbl := List.mem_of_getElem? (l := lw_tbl) (i := 549) (by decide +kernel)
theorem mV_X2_read : am_mV m_X2_read 0 := ⟨⟨tw_377, tw_3, by decide +kernel, ⟨by decide +kernel, by decide +kernel, by decide +kernel⟩, by decide⟩, tw_376, List.mem_of_getElem? (l := lw_tbl) (i := 2) (by decide +kernel)⟩
abbrev m_X5_clear : am_M := (yX5_clear, cX5_clear, 1, none)
theorem tw_381 : (Jvm.Cond.code ({ cls := "MouthHouse$Members", name := "clear", desc := "()V" } : Jvm.MethodName) prog_7_method_3_code (1 : Nat) (Option.none : Option Jvm.ClassFile.FieldType)) ∈ lw_tbl := List.mem_of_getElem? (l := lw_tbl) (i := 554) (by decide +kernel)
theorem tw_380 : (Jvm.Cond.instanceMethod ({ cls := "MouthHouse$Members", name := "clear", desc := "()V" } : Jvm.MethodName)) ∈ lw_tbl := List.mem_of_getElem? (l := lw_tbl) (i := 553) (by decide +kernel)
theorem mV_X5_clear : am_mV m_X5_clear 0 := ⟨⟨tw_381, tw_4, by decide +kernel, ⟨by decide +kernel, by decide +kernel, by decide +kernel⟩, by decide⟩, tw_380, List.mem_of_getElem? (l := lw_tbl) (i := 3) (by decide +kernel)⟩
abbrev m_X9_rewind : am_M := (yX9_rewind, cX9_rewind, 1, none)
theorem tw_385 : (Jvm.Cond.code ({ cls := "MouthHouse$Tape", name := "rewind", desc := "()V" } : Jvm.MethodName) prog_11_method_5_code (1 : Nat) (Option.none : Option Jvm.ClassFile.FieldType)) ∈ lw_tbl := List.mem_of_getElem? (l := lw_tbl) (i := 558) (by decide +kernel)
theorem tw_384 : (Jvm.Cond.instanceMethod ({ cls := "MouthHouse$Tape", name := "rewind", desc := "()V" } : Jvm.MethodName)) ∈ lw_tbl := List.mem_of_getElem? (l := lw_tbl) (i := 557) (by decide +kernel)
theorem mV_X9_rewind : am_mV m_X9_rewind 0 := ⟨⟨tw_385, tw_2, by decide +kernel, ⟨by decide +kernel, by decide +kernel, by decide +kernel⟩, by decide⟩, tw_384, List.mem_of_getElem? (l := lw_tbl) (i := 4) (by decide +kernel)⟩
abbrev m_X2_readClause : am_M := (yX2_readClause, cX2_readClause, 2, some .boolean)
theorem tw_389 : (Jvm.Cond.code ({ cls := "MouthHouse$HouseReader", name := "readClause", desc := "()Z" } : Jvm.MethodName) prog_4_method_3_code (2 : Nat) (Option.some Jvm.ClassFile.FieldType.boolean)) ∈ lw_tbl := List.mem_of_getElem? (l := lw_tbl) (i := 562) (by decide +kernel)
theorem tw_388 : (Jvm.Cond.instanceMethod ({ cls := "MouthHouse$HouseReader", name := "readClause", desc := "()Z" } : Jvm.MethodName)) ∈ lw_tbl := List.mem_of_getElem? (l := lw_tbl) (i := 561) (by decide +kernel)
theorem mV_X2_readClause : am_mV m_X2_readClause 0 := ⟨⟨tw_389, tw_3, by decide +kernel, ⟨by decide +kernel, by decide +kernel, by decide +kernel⟩, by decide⟩, tw_388, List.mem_of_getElem? (l := lw_tbl) (i := 5) (by decide +kernel)⟩
abbrev m_X9_next : am_M := (yX9_next, cX9_next, 1, some .int)
theorem tw_393 : (Jvm.Cond.code ({ cls := "MouthHouse$Tape", name := "next", desc := "()I" } : Jvm.MethodName) prog_11_method_9_code (1 : Nat) (Option.some Jvm.ClassFile.FieldType.int)) ∈ lw_tbl := List.mem_of_getElem? (l := lw_tbl) (i := 566) (by decide +kernel)
theorem tw_392 : (Jvm.Cond.instanceMethod ({ cls := "MouthHouse$Tape", name := "next", desc := "()I" } : Jvm.MethodName)) ∈ lw_tbl := List.mem_of_getElem? (l := lw_tbl) (i := 565) (by decide +kernel)
theorem mV_X9_next : am_mV m_X9_next 0 := ⟨⟨tw_393, tw_2, by decide +kernel, ⟨by decide +kernel, by decide +kernel, by decide +kernel⟩, by decide⟩, tw_392, List.mem_of_getElem? (l := lw_tbl) (i := 6) (by decide +kernel)⟩
abbrev m_X9_step : am_M := (yX9_step, cX9_step, 1, none)
theorem tw_397 : (Jvm.Cond.code ({ cls := "MouthHouse$Tape", name := "step", desc := "()V" } : Jvm.MethodName) prog_11_method_6_code (1 : Nat) (Option.none : Option Jvm.ClassFile.FieldType)) ∈ lw_tbl := List.mem_of_getElem? (l := lw_tbl) (i := 570) (by decide +kernel)
theorem tw_396 : (Jvm.Cond.instanceMethod ({ cls := "MouthHouse$Tape", name := "step", desc := "()V" } : Jvm.MethodName)) ∈ lw_tbl := List.mem_of_getElem? (l := lw_tbl) (i := 569) (by decide +kernel)
theorem mV_X9_step : am_mV m_X9_step 0 := ⟨⟨tw_397, tw_2, by decide +kernel, ⟨by decide +kernel, by decide +kernel, by decide +kernel⟩, by decide⟩, tw_396, List.mem_of_getElem? (l := lw_tbl) (i := 7) (by decide +kernel)⟩
abbrev m_X5_addUsual : am_M := (yX5_addUsual, cX5_addUsual, 2, none)
theorem tw_401 : (Jvm.Cond.code ({ cls := "MouthHouse$Members", name := "addUsual", desc := "()V" } : Jvm.MethodName) prog_7_method_4_code (2 : Nat) (Option.none : Option Jvm.ClassFile.FieldType)) ∈ lw_tbl := List.mem_of_getElem? (l := lw_tbl) (i := 574) (by decide +kernel)
theorem tw_400 : (Jvm.Cond.instanceMethod ({ cls := "MouthHouse$Members", name := "addUsual", desc := "()V" } : Jvm.MethodName)) ∈ lw_tbl := List.mem_of_getElem? (l := lw_tbl) (i := 573) (by decide +kernel)
theorem mV_X5_addUsual : am_mV m_X5_addUsual 0 := ⟨⟨tw_401, tw_4, by decide +kernel, ⟨by decide +kernel, by decide +kernel, by decide +kernel⟩, by decide⟩, tw_400, List.mem_of_getElem? (l := lw_tbl) (i := 8) (by decide +kernel)⟩
abbrev m_X5_tell : am_M := (yX5_tell, cX5_tell, 4, none)
theorem tw_407 : (Jvm.Cond.code ({ cls := "MouthHouse$Members", name := "tell", desc := "(III)V" } : Jvm.MethodName) prog_7_method_9_code (4 : Nat) (Option.none : Option Jvm.ClassFile.FieldType)) ∈ lw_tbl := List.mem_of_getElem? (l := lw_tbl) (i := 580) (by decide +kernel)
theorem tw_406 : (Jvm.Cond.instanceMethod ({ cls := "MouthHouse$Members", name := "tell", desc := "(III)V" } : Jvm.MethodName)) ∈ lw_tbl := List.mem_of_getElem? (l := lw_tbl) (i := 579) (by decide +kernel)
theorem mV_X5_tell : am_mV m_X5_tell 3 := ⟨⟨tw_407, tw_4, by decide +kernel, ⟨by decide +kernel, by decide +kernel, by decide +kernel⟩, by decide⟩, tw_406, List.mem_of_getElem? (l := lw_tbl) (i := 9) (by decide +kernel)⟩
abbrev m_X5_has : am_M := (yX5_has, cX5_has, 2, some .boolean)
theorem tw_411 : (Jvm.Cond.code ({ cls := "MouthHouse$Members", name := "has", desc := "(I)Z" } : Jvm.MethodName) prog_7_method_7_code (2 : Nat) (Option.some Jvm.ClassFile.FieldType.boolean)) ∈ lw_tbl := List.mem_of_getElem? (l := lw_tbl) (i := 584) (by decide +kernel)
theorem tw_410 : (Jvm.Cond.instanceMethod ({ cls := "MouthHouse$Members", name := "has", desc := "(I)Z" } : Jvm.MethodName)) ∈ lw_tbl := List.mem_of_getElem? (l := lw_tbl) (i := 583) (by decide +kernel)
theorem mV_X5_has : am_mV m_X5_has 1 := ⟨⟨tw_411, tw_4, by decide +kernel, ⟨by decide +kernel, by decide +kernel, by decide +kernel⟩, by decide⟩, tw_410, List.mem_of_getElem? (l := lw_tbl) (i := 10) (by decide +kernel)⟩
abbrev m_X2_readItems : am_M := (yX2_readItems, cX2_readItems, 4, some .boolean)
theorem tw_415 : (Jvm.Cond.code ({ cls := "MouthHouse$HouseReader", name := "readItems", desc := "()Z" } : Jvm.MethodName) prog_4_method_4_code (4 : Nat) (Option.some Jvm.ClassFile.FieldType.boolean)) ∈ lw_tbl := List.mem_of_getElem? (l := lw_tbl) (i := 588) (by decide +kernel)
theorem tw_414 : (Jvm.Cond.instanceMethod ({ cls := "MouthHouse$HouseReader", name := "readItems", desc := "()Z" } : Jvm.MethodName)) ∈ lw_tbl := List.mem_of_getElem? (l := lw_tbl) (i := 587) (by decide +kernel)
theorem mV_X2_readItems : am_mV m_X2_readItems 0 := ⟨⟨tw_415, tw_3, by decide +kernel, ⟨by decide +kernel, by decide +kernel, by decide +kernel⟩, by decide⟩, tw_414, List.mem_of_getElem? (l := lw_tbl) (i := 11) (by decide +kernel)⟩
abbrev m_X2_itemOf : am_M := (yX2_itemOf, cX2_itemOf, 2, some .int)
theorem tw_418 : (Jvm.Cond.code ({ cls := "MouthHouse$HouseReader", name := "itemOf", desc := "(I)I" } : Jvm.MethodName) prog_4_method_5_code (2 : Nat) (Option.some Jvm.ClassFile.FieldType.int)) ∈ lw_tbl := List.mem_of_getElem? (l := lw_tbl) (i := 591) (by decide +kernel)
theorem tw_417 : (Jvm.Cond.static ({ cls := "MouthHouse$HouseReader", name := "itemOf", desc := "(I)I" } : Jvm.MethodName)) ∈ lw_tbl := List.mem_of_getElem? (l := lw_tbl) (i := 590) (by decide +kernel)
theorem mS_X2_itemOf : am_mS m_X2_itemOf 1 := ⟨⟨tw_418, tw_3, by decide +kernel, ⟨by decide +kernel, by decide +kernel, by decide +kernel⟩, by decide⟩, tw_417⟩
abbrev m_X2_readValue : am_M := (yX2_readValue, cX2_readValue, 3, some .boolean)
theorem tw_424 : (Jvm.Cond.code ({ cls := "MouthHouse$HouseReader", name := "readValue", desc := "(I)Z" } : Jvm.MethodName) prog_4_method_6_code (3 : Nat) (Option.some Jvm.ClassFile.FieldType.boolean)) ∈ lw_tbl := List.mem_of_getElem? (l := lw_tbl) (i := 597) (by decide +kernel)
theorem tw_423 : (Jvm.Cond.instanceMethod ({ cls := "MouthHouse$HouseReader", name := "readValue", desc := "(I)Z" } : Jvm.MethodName)) ∈ lw_tbl := List.mem_of_getElem? (l := lw_tbl) (i := 596) (by decide +kernel)
theorem mV_X2_readValue : am_mV m_X2_readValue 1 := ⟨⟨tw_424, tw_3, by decide +kernel, ⟨by decide +kernel, by decide +kernel, by decide +kernel⟩, by decide⟩, tw_423, List.mem_of_getElem? (l := lw_tbl) (i := 12) (by decide +kernel)⟩
abbrev m_X9_number : am_M := (yX9_number, cX9_number, 4, some .int)
theorem tw_428 : (Jvm.Cond.code ({ cls := "MouthHouse$Tape", name := "number", desc := "(I)I" } : Jvm.MethodName) prog_11_method_12_code (4 : Nat) (Option.some Jvm.ClassFile.FieldType.int)) ∈ lw_tbl := List.mem_of_getElem? (l := lw_tbl) (i := 601) (by decide +kernel)
theorem tw_427 : (Jvm.Cond.instanceMethod ({ cls := "MouthHouse$Tape", name := "number", desc := "(I)I" } : Jvm.MethodName)) ∈ lw_tbl := List.mem_of_getElem? (l := lw_tbl) (i := 600) (by decide +kernel)
theorem mV_X9_number : am_mV m_X9_number 1 := ⟨⟨tw_428, tw_2, by decide +kernel, ⟨by decide +kernel, by decide +kernel, by decide +kernel⟩, by decide⟩, tw_427, List.mem_of_getElem? (l := lw_tbl) (i := 13) (by decide +kernel)⟩
abbrev m_X9_isDigit : am_M := (yX9_isDigit, cX9_isDigit, 1, some .boolean)
theorem tw_432 : (Jvm.Cond.code ({ cls := "MouthHouse$Tape", name := "isDigit", desc := "(I)Z" } : Jvm.MethodName) prog_11_method_11_code (1 : Nat) (Option.some Jvm.ClassFile.FieldType.boolean)) ∈ lw_tbl := List.mem_of_getElem? (l := lw_tbl) (i := 605) (by decide +kernel)
theorem tw_431 : (Jvm.Cond.static ({ cls := "MouthHouse$Tape", name := "isDigit", desc := "(I)Z" } : Jvm.MethodName)) ∈ lw_tbl := List.mem_of_getElem? (l := lw_tbl) (i := 604) (by decide +kernel)
theorem mS_X9_isDigit : am_mS m_X9_isDigit 1 := ⟨⟨tw_432, tw_2, by decide +kernel, ⟨by decide +kernel, by decide +kernel, by decide +kernel⟩, by decide⟩, tw_431⟩
abbrev m_X9_here : am_M := (yX9_here, cX9_here, 1, some .int)
theorem tw_436 : (Jvm.Cond.code ({ cls := "MouthHouse$Tape", name := "here", desc := "()I" } : Jvm.MethodName) prog_11_method_8_code (1 : Nat) (Option.some Jvm.ClassFile.FieldType.int)) ∈ lw_tbl := List.mem_of_getElem? (l := lw_tbl) (i := 609) (by decide +kernel)
theorem tw_435 : (Jvm.Cond.instanceMethod ({ cls := "MouthHouse$Tape", name := "here", desc := "()I" } : Jvm.MethodName)) ∈ lw_tbl := List.mem_of_getElem? (l := lw_tbl) (i := 608) (by decide +kernel)
theorem mV_X9_here : am_mV m_X9_here 0 := ⟨⟨tw_436, tw_2, by decide +kernel, ⟨by decide +kernel, by decide +kernel, by decide +kernel⟩, by decide⟩, tw_435, List.mem_of_getElem? (l := lw_tbl) (i := 14) (by decide +kernel)⟩
abbrev m_X5_mostOf : am_M := (yX5_mostOf, cX5_mostOf, 1, some .int)
theorem tw_439 : (Jvm.Cond.code ({ cls := "MouthHouse$Members", name := "mostOf", desc := "(I)I" } : Jvm.MethodName) prog_7_method_2_code (1 : Nat) (Option.some Jvm.ClassFile.FieldType.int)) ∈ lw_tbl := List.mem_of_getElem? (l := lw_tbl) (i := 612) (by decide +kernel)
theorem tw_438 : (Jvm.Cond.static ({ cls := "MouthHouse$Members", name := "mostOf", desc := "(I)I" } : Jvm.MethodName)) ∈ lw_tbl := List.mem_of_getElem? (l := lw_tbl) (i := 611) (by decide +kernel)
theorem mS_X5_mostOf : am_mS m_X5_mostOf 1 := ⟨⟨tw_439, tw_4, by decide +kernel, ⟨by decide +kernel, by decide +kernel, by decide +kernel⟩, by decide⟩, tw_438⟩
abbrev m_X9_stepBack : am_M := (yX9_stepBack, cX9_stepBack, 1, none)
theorem tw_445 : (Jvm.Cond.code ({ cls := "MouthHouse$Tape", name := "stepBack", desc := "()V" } : Jvm.MethodName) prog_11_method_7_code (1 : Nat) (Option.none : Option Jvm.ClassFile.FieldType)) ∈ lw_tbl := List.mem_of_getElem? (l := lw_tbl) (i := 618) (by decide +kernel)
theorem tw_444 : (Jvm.Cond.instanceMethod ({ cls := "MouthHouse$Tape", name := "stepBack", desc := "()V" } : Jvm.MethodName)) ∈ lw_tbl := List.mem_of_getElem? (l := lw_tbl) (i := 617) (by decide +kernel)
theorem mV_X9_stepBack : am_mV m_X9_stepBack 0 := ⟨⟨tw_445, tw_2, by decide +kernel, ⟨by decide +kernel, by decide +kernel, by decide +kernel⟩, by decide⟩, tw_444, List.mem_of_getElem? (l := lw_tbl) (i := 15) (by decide +kernel)⟩
abbrev m_X9_pass : am_M := (yX9_pass, cX9_pass, 2, some .boolean)
theorem tw_450 : (Jvm.Cond.code ({ cls := "MouthHouse$Tape", name := "pass", desc := "(I)Z" } : Jvm.MethodName) prog_11_method_10_code (2 : Nat) (Option.some Jvm.ClassFile.FieldType.boolean)) ∈ lw_tbl := List.mem_of_getElem? (l := lw_tbl) (i := 623) (by decide +kernel)
theorem tw_449 : (Jvm.Cond.instanceMethod ({ cls := "MouthHouse$Tape", name := "pass", desc := "(I)Z" } : Jvm.MethodName)) ∈ lw_tbl := List.mem_of_getElem? (l := lw_tbl) (i := 622) (by decide +kernel)
theorem mV_X9_pass : am_mV m_X9_pass 1 := ⟨⟨tw_450, tw_2, by decide +kernel, ⟨by decide +kernel, by decide +kernel, by decide +kernel⟩, by decide⟩, tw_449, List.mem_of_getElem? (l := lw_tbl) (i := 16) (by decide +kernel)⟩
abbrev m_X5_dropStrangers : am_M := (yX5_dropStrangers, cX5_dropStrangers, 2, none)
theorem tw_454 : (Jvm.Cond.code ({ cls := "MouthHouse$Members", name := "dropStrangers", desc := "()V" } : Jvm.MethodName) prog_7_method_6_code (2 : Nat) (Option.none : Option Jvm.ClassFile.FieldType)) ∈ lw_tbl := List.mem_of_getElem? (l := lw_tbl) (i := 627) (by decide +kernel)
theorem tw_453 : (Jvm.Cond.instanceMethod ({ cls := "MouthHouse$Members", name := "dropStrangers", desc := "()V" } : Jvm.MethodName)) ∈ lw_tbl := List.mem_of_getElem? (l := lw_tbl) (i := 626) (by decide +kernel)
theorem mV_X5_dropStrangers : am_mV m_X5_dropStrangers 0 := ⟨⟨tw_454, tw_4, by decide +kernel, ⟨by decide +kernel, by decide +kernel, by decide +kernel⟩, by decide⟩, tw_453, List.mem_of_getElem? (l := lw_tbl) (i := 17) (by decide +kernel)⟩
abbrev m_X5_fact : am_M := (yX5_fact, cX5_fact, 4, some .int)
theorem tw_458 : (Jvm.Cond.code ({ cls := "MouthHouse$Members", name := "fact", desc := "(II)I" } : Jvm.MethodName) prog_7_method_8_code (4 : Nat) (Option.some Jvm.ClassFile.FieldType.int)) ∈ lw_tbl := List.mem_of_getElem? (l := lw_tbl) (i := 631) (by decide +kernel)
theorem tw_457 : (Jvm.Cond.instanceMethod ({ cls := "MouthHouse$Members", name := "fact", desc := "(II)I" } : Jvm.MethodName)) ∈ lw_tbl := List.mem_of_getElem? (l := lw_tbl) (i := 630) (by decide +kernel)
theorem mV_X5_fact : am_mV m_X5_fact 2 := ⟨⟨tw_458, tw_4, by decide +kernel, ⟨by decide +kernel, by decide +kernel, by decide +kernel⟩, by decide⟩, tw_457, List.mem_of_getElem? (l := lw_tbl) (i := 18) (by decide +kernel)⟩
abbrev m_X4_read : am_M := (yX4_read, cX4_read, 3, some .int)
theorem tw_462 : (Jvm.Cond.code ({ cls := "MouthHouse$MannersReader", name := "read", desc := "()I" } : Jvm.MethodName) prog_6_method_2_code (3 : Nat) (Option.some Jvm.ClassFile.FieldType.int)) ∈ lw_tbl := List.mem_of_getElem? (l := lw_tbl) (i := 635) (by decide +kernel)
theorem tw_461 : (Jvm.Cond.instanceMethod ({ cls := "MouthHouse$MannersReader", name := "read", desc := "()I" } : Jvm.MethodName)) ∈ lw_tbl := List.mem_of_getElem? (l := lw_tbl) (i := 634) (by decide +kernel)
theorem mV_X4_read : am_mV m_X4_read 0 := ⟨⟨tw_462, tw_5, by decide +kernel, ⟨by decide +kernel, by decide +kernel, by decide +kernel⟩, by decide⟩, tw_461, List.mem_of_getElem? (l := lw_tbl) (i := 19) (by decide +kernel)⟩
abbrev m_X4_readClause : am_M := (yX4_readClause, cX4_readClause, 3, some .boolean)
theorem tw_467 : (Jvm.Cond.code ({ cls := "MouthHouse$MannersReader", name := "readClause", desc := "()Z" } : Jvm.MethodName) prog_6_method_4_code (3 : Nat) (Option.some Jvm.ClassFile.FieldType.boolean)) ∈ lw_tbl := List.mem_of_getElem? (l := lw_tbl) (i := 640) (by decide +kernel)
theorem tw_466 : (Jvm.Cond.instanceMethod ({ cls := "MouthHouse$MannersReader", name := "readClause", desc := "()Z" } : Jvm.MethodName)) ∈ lw_tbl := List.mem_of_getElem? (l := lw_tbl) (i := 639) (by decide +kernel)
theorem mV_X4_readClause : am_mV m_X4_readClause 0 := ⟨⟨tw_467, tw_5, by decide +kernel, ⟨by decide +kernel, by decide +kernel, by decide +kernel⟩, by decide⟩, tw_466, List.mem_of_getElem? (l := lw_tbl) (i := 20) (by decide +kernel)⟩
abbrev m_X4_readSum : am_M := (yX4_readSum, cX4_readSum, 4, some .boolean)
theorem tw_473 : (Jvm.Cond.code ({ cls := "MouthHouse$MannersReader", name := "readSum", desc := "(I)Z" } : Jvm.MethodName) prog_6_method_11_code (4 : Nat) (Option.some Jvm.ClassFile.FieldType.boolean)) ∈ lw_tbl := List.mem_of_getElem? (l := lw_tbl) (i := 646) (by decide +kernel)
theorem tw_472 : (Jvm.Cond.instanceMethod ({ cls := "MouthHouse$MannersReader", name := "readSum", desc := "(I)Z" } : Jvm.MethodName)) ∈ lw_tbl := List.mem_of_getElem? (l := lw_tbl) (i := 645) (by decide +kernel)
theorem mV_X4_readSum : am_mV m_X4_readSum 1 := ⟨⟨tw_473, tw_5, by decide +kernel, ⟨by decide +kernel, by decide +kernel, by decide +kernel⟩, by decide⟩, tw_472, List.mem_of_getElem? (l := lw_tbl) (i := 21) (by decide +kernel)⟩
abbrev m_X4_readTerm : am_M := (yX4_readTerm, cX4_readTerm, 4, some .boolean)
theorem tw_477 : (Jvm.Cond.code ({ cls := "MouthHouse$MannersReader", name := "readTerm", desc := "(I)Z" } : Jvm.MethodName) prog_6_method_12_code (4 : Nat) (Option.some Jvm.ClassFile.FieldType.boolean)) ∈ lw_tbl := List.mem_of_getElem? (l := lw_tbl) (i := 650) (by decide +kernel)
theorem tw_476 : (Jvm.Cond.instanceMethod ({ cls := "MouthHouse$MannersReader", name := "readTerm", desc := "(I)Z" } : Jvm.MethodName)) ∈ lw_tbl := List.mem_of_getElem? (l := lw_tbl) (i := 649) (by decide +kernel)
theorem mV_X4_readTerm : am_mV m_X4_readTerm 1 := ⟨⟨tw_477, tw_5, by decide +kernel, ⟨by decide +kernel, by decide +kernel, by decide +kernel⟩, by decide⟩, tw_476, List.mem_of_getElem? (l := lw_tbl) (i := 22) (by decide +kernel)⟩
abbrev m_X4_readAtom : am_M := (yX4_readAtom, cX4_readAtom, 4, some .boolean)
theorem tw_481 : (Jvm.Cond.code ({ cls := "MouthHouse$MannersReader", name := "readAtom", desc := "(I)Z" } : Jvm.MethodName) prog_6_method_13_code (4 : Nat) (Option.some Jvm.ClassFile.FieldType.boolean)) ∈ lw_tbl := List.mem_of_getElem? (l := lw_tbl) (i := 654) (by decide +kernel)
theorem tw_480 : (Jvm.Cond.instanceMethod ({ cls := "MouthHouse$MannersReader", name := "readAtom", desc := "(I)Z" } : Jvm.MethodName)) ∈ lw_tbl := List.mem_of_getElem? (l := lw_tbl) (i := 653) (by decide +kernel)
theorem mV_X4_readAtom : am_mV m_X4_readAtom 1 := ⟨⟨tw_481, tw_5, by decide +kernel, ⟨by decide +kernel, by decide +kernel, by decide +kernel⟩, by decide⟩, tw_480, List.mem_of_getElem? (l := lw_tbl) (i := 23) (by decide +kernel)⟩
abbrev m_X3_letterOf : am_M := (yX3_letterOf, cX3_letterOf, 2, some .int)
theorem tw_485 : (Jvm.Cond.code ({ cls := "MouthHouse$Manners", name := "letterOf", desc := "(I)I" } : Jvm.MethodName) prog_5_method_2_code (2 : Nat) (Option.some Jvm.ClassFile.FieldType.int)) ∈ lw_tbl := List.mem_of_getElem? (l := lw_tbl) (i := 658) (by decide +kernel)
theorem tw_484 : (Jvm.Cond.static ({ cls := "MouthHouse$Manners", name := "letterOf", desc := "(I)I" } : Jvm.MethodName)) ∈ lw_tbl := List.mem_of_getElem? (l := lw_tbl) (i := 657) (by decide +kernel)
theorem mS_X3_letterOf : am_mS m_X3_letterOf 1 := ⟨⟨tw_485, tw_10, by decide +kernel, ⟨by decide +kernel, by decide +kernel, by decide +kernel⟩, by decide⟩, tw_484⟩
abbrev m_X4_write : am_M := (yX4_write, cX4_write, 2, none)
theorem tw_490 : (Jvm.Cond.code ({ cls := "MouthHouse$MannersReader", name := "write", desc := "(I)V" } : Jvm.MethodName) prog_6_method_14_code (2 : Nat) (Option.none : Option Jvm.ClassFile.FieldType)) ∈ lw_tbl := List.mem_of_getElem? (l := lw_tbl) (i := 663) (by decide +kernel)
theorem tw_489 : (Jvm.Cond.instanceMethod ({ cls := "MouthHouse$MannersReader", name := "write", desc := "(I)V" } : Jvm.MethodName)) ∈ lw_tbl := List.mem_of_getElem? (l := lw_tbl) (i := 662) (by decide +kernel)
theorem mV_X4_write : am_mV m_X4_write 1 := ⟨⟨tw_490, tw_5, by decide +kernel, ⟨by decide +kernel, by decide +kernel, by decide +kernel⟩, by decide⟩, tw_489, List.mem_of_getElem? (l := lw_tbl) (i := 24) (by decide +kernel)⟩
abbrev m_X4_isRelation : am_M := (yX4_isRelation, cX4_isRelation, 1, some .boolean)
theorem tw_494 : (Jvm.Cond.code ({ cls := "MouthHouse$MannersReader", name := "isRelation", desc := "(I)Z" } : Jvm.MethodName) prog_6_method_9_code (1 : Nat) (Option.some Jvm.ClassFile.FieldType.boolean)) ∈ lw_tbl := List.mem_of_getElem? (l := lw_tbl) (i := 667) (by decide +kernel)
theorem tw_493 : (Jvm.Cond.static ({ cls := "MouthHouse$MannersReader", name := "isRelation", desc := "(I)Z" } : Jvm.MethodName)) ∈ lw_tbl := List.mem_of_getElem? (l := lw_tbl) (i := 666) (by decide +kernel)
theorem mS_X4_isRelation : am_mS m_X4_isRelation 1 := ⟨⟨tw_494, tw_5, by decide +kernel, ⟨by decide +kernel, by decide +kernel, by decide +kernel⟩, by decide⟩, tw_493⟩
abbrev m_X4_readCondition : am_M := (yX4_readCondition, cX4_readCondition, 4, some .boolean)
theorem tw_498 : (Jvm.Cond.code ({ cls := "MouthHouse$MannersReader", name := "readCondition", desc := "(IZ)Z" } : Jvm.MethodName) prog_6_method_6_code (4 : Nat) (Option.some Jvm.ClassFile.FieldType.boolean)) ∈ lw_tbl := List.mem_of_getElem? (l := lw_tbl) (i := 671) (by decide +kernel)
theorem tw_497 : (Jvm.Cond.instanceMethod ({ cls := "MouthHouse$MannersReader", name := "readCondition", desc := "(IZ)Z" } : Jvm.MethodName)) ∈ lw_tbl := List.mem_of_getElem? (l := lw_tbl) (i := 670) (by decide +kernel)
theorem mV_X4_readCondition : am_mV m_X4_readCondition 2 := ⟨⟨tw_498, tw_5, by decide +kernel, ⟨by decide +kernel, by decide +kernel, by decide +kernel⟩, by decide⟩, tw_497, List.mem_of_getElem? (l := lw_tbl) (i := 25) (by decide +kernel)⟩
abbrev m_X4_readTruth : am_M := (yX4_readTruth, cX4_readTruth, 4, some .boolean)
theorem tw_502 : (Jvm.Cond.code ({ cls := "MouthHouse$MannersReader", name := "readTruth", desc := "(IZ)Z" } : Jvm.MethodName) prog_6_method_7_code (4 : Nat) (Option.some Jvm.ClassFile.FieldType.boolean)) ∈ lw_tbl := List.mem_of_getElem? (l := lw_tbl) (i := 675) (by decide +kernel)
theorem tw_501 : (Jvm.Cond.instanceMethod ({ cls := "MouthHouse$MannersReader", name := "readTruth", desc := "(IZ)Z" } : Jvm.MethodName)) ∈ lw_tbl := List.mem_of_getElem? (l := lw_tbl) (i := 674) (by decide +kernel)
theorem mV_X4_readTruth : am_mV m_X4_readTruth 2 := ⟨⟨tw_502, tw_5, by decide +kernel, ⟨by decide +kernel, by decide +kernel, by decide +kernel⟩, by decide⟩, tw_501, List.mem_of_getElem? (l := lw_tbl) (i := 26) (by decide +kernel)⟩
abbrev m_X4_readUnit : am_M := (yX4_readUnit, cX4_readUnit, 4, some .boolean)
theorem tw_506 : (Jvm.Cond.code ({ cls := "MouthHouse$MannersReader", name := "readUnit", desc := "(IZ)Z" } : Jvm.MethodName) prog_6_method_8_code (4 : Nat) (Option.some Jvm.ClassFile.FieldType.boolean)) ∈ lw_tbl := List.mem_of_getElem? (l := lw_tbl) (i := 679) (by decide +kernel)
theorem tw_505 : (Jvm.Cond.instanceMethod ({ cls := "MouthHouse$MannersReader", name := "readUnit", desc := "(IZ)Z" } : Jvm.MethodName)) ∈ lw_tbl := List.mem_of_getElem? (l := lw_tbl) (i := 678) (by decide +kernel)
theorem mV_X4_readUnit : am_mV m_X4_readUnit 2 := ⟨⟨tw_506, tw_5, by decide +kernel, ⟨by decide +kernel, by decide +kernel, by decide +kernel⟩, by decide⟩, tw_505, List.mem_of_getElem? (l := lw_tbl) (i := 27) (by decide +kernel)⟩
abbrev m_X4_readRelation : am_M := (yX4_readRelation, cX4_readRelation, 3, some .boolean)
theorem tw_510 : (Jvm.Cond.code ({ cls := "MouthHouse$MannersReader", name := "readRelation", desc := "(I)Z" } : Jvm.MethodName) prog_6_method_10_code (3 : Nat) (Option.some Jvm.ClassFile.FieldType.boolean)) ∈ lw_tbl := List.mem_of_getElem? (l := lw_tbl) (i := 683) (by decide +kernel)
theorem tw_509 : (Jvm.Cond.instanceMethod ({ cls := "MouthHouse$MannersReader", name := "readRelation", desc := "(I)Z" } : Jvm.MethodName)) ∈ lw_tbl := List.mem_of_getElem? (l := lw_tbl) (i := 682) (by decide +kernel)
theorem mV_X4_readRelation : am_mV m_X4_readRelation 1 := ⟨⟨tw_510, tw_5, by decide +kernel, ⟨by decide +kernel, by decide +kernel, by decide +kernel⟩, by decide⟩, tw_509, List.mem_of_getElem? (l := lw_tbl) (i := 28) (by decide +kernel)⟩
abbrev m_X4_readConsequence : am_M := (yX4_readConsequence, cX4_readConsequence, 2, some .boolean)
theorem tw_514 : (Jvm.Cond.code ({ cls := "MouthHouse$MannersReader", name := "readConsequence", desc := "()Z" } : Jvm.MethodName) prog_6_method_5_code (2 : Nat) (Option.some Jvm.ClassFile.FieldType.boolean)) ∈ lw_tbl := List.mem_of_getElem? (l := lw_tbl) (i := 687) (by decide +kernel)
theorem tw_513 : (Jvm.Cond.instanceMethod ({ cls := "MouthHouse$MannersReader", name := "readConsequence", desc := "()Z" } : Jvm.MethodName)) ∈ lw_tbl := List.mem_of_getElem? (l := lw_tbl) (i := 686) (by decide +kernel)
theorem mV_X4_readConsequence : am_mV m_X4_readConsequence 0 := ⟨⟨tw_514, tw_5, by decide +kernel, ⟨by decide +kernel, by decide +kernel, by decide +kernel⟩, by decide⟩, tw_513, List.mem_of_getElem? (l := lw_tbl) (i := 29) (by decide +kernel)⟩
abbrev m_X11_text : am_M := (yX11_text, cX11_text, 2, some .int)
theorem tw_518 : (Jvm.Cond.code ({ cls := "MouthHouse", name := "text", desc := "(I)I" } : Jvm.MethodName) prog_1_method_5_code (2 : Nat) (Option.some Jvm.ClassFile.FieldType.int)) ∈ lw_tbl := List.mem_of_getElem? (l := lw_tbl) (i := 691) (by decide +kernel)
theorem tw_517 : (Jvm.Cond.selects "MouthHouse" ({ cls := "MouthHouse", name := "text", desc := "(I)I" } : Jvm.MethodName) ({ cls := "MouthHouse", name := "text", desc := "(I)I" } : Jvm.MethodName)) ∈ lw_tbl := List.mem_of_getElem? (l := lw_tbl) (i := 690) (by decide +kernel)
theorem tw_516 : (Jvm.Cond.instanceMethod ({ cls := "MouthHouse", name := "text", desc := "(I)I" } : Jvm.MethodName)) ∈ lw_tbl := List.mem_of_getElem? (l := lw_tbl) (i := 689) (by decide +kernel)
theorem mV_X11_text : am_mV m_X11_text 1 := ⟨⟨tw_518, tw_1, by decide +kernel, ⟨by decide +kernel, by decide +kernel, by decide +kernel⟩, by decide⟩, tw_516, tw_517⟩
abbrev m_X11_moveIn : am_M := (yX11_moveIn, cX11_moveIn, 1, some .int)
theorem tw_522 : (Jvm.Cond.code ({ cls := "MouthHouse", name := "moveIn", desc := "()I" } : Jvm.MethodName) prog_1_method_6_code (1 : Nat) (Option.some Jvm.ClassFile.FieldType.int)) ∈ lw_tbl := List.mem_of_getElem? (l := lw_tbl) (i := 695) (by decide +kernel)
theorem tw_521 : (Jvm.Cond.instanceMethod ({ cls := "MouthHouse", name := "moveIn", desc := "()I" } : Jvm.MethodName)) ∈ lw_tbl := List.mem_of_getElem? (l := lw_tbl) (i := 694) (by decide +kernel)
theorem mV_X11_moveIn : am_mV m_X11_moveIn 0 := ⟨⟨tw_522, tw_1, by decide +kernel, ⟨by decide +kernel, by decide +kernel, by decide +kernel⟩, by decide⟩, tw_521, List.mem_of_getElem? (l := lw_tbl) (i := 30) (by decide +kernel)⟩
abbrev m_X5_copyFrom : am_M := (yX5_copyFrom, cX5_copyFrom, 2, none)
theorem tw_526 : (Jvm.Cond.code ({ cls := "MouthHouse$Members", name := "copyFrom", desc := "(LMouthHouse$Members;)V" } : Jvm.MethodName) prog_7_method_5_code (2 : Nat) (Option.none : Option Jvm.ClassFile.FieldType)) ∈ lw_tbl := List.mem_of_getElem? (l := lw_tbl) (i := 699) (by decide +kernel)
theorem tw_525 : (Jvm.Cond.instanceMethod ({ cls := "MouthHouse$Members", name := "copyFrom", desc := "(LMouthHouse$Members;)V" } : Jvm.MethodName)) ∈ lw_tbl := List.mem_of_getElem? (l := lw_tbl) (i := 698) (by decide +kernel)
theorem mV_X5_copyFrom : am_mV m_X5_copyFrom 1 := ⟨⟨tw_526, tw_4, by decide +kernel, ⟨by decide +kernel, by decide +kernel, by decide +kernel⟩, by decide⟩, tw_525, List.mem_of_getElem? (l := lw_tbl) (i := 31) (by decide +kernel)⟩
abbrev m_X6_startWith : am_M := (yX6_startWith, cX6_startWith, 3, none)
theorem tw_533 : (Jvm.Cond.code ({ cls := "MouthHouse$Seating", name := "startWith", desc := "(I)V" } : Jvm.MethodName) prog_8_method_2_code (3 : Nat) (Option.none : Option Jvm.ClassFile.FieldType)) ∈ lw_tbl := List.mem_of_getElem? (l := lw_tbl) (i := 706) (by decide +kernel)
theorem tw_532 : (Jvm.Cond.instanceMethod ({ cls := "MouthHouse$Seating", name := "startWith", desc := "(I)V" } : Jvm.MethodName)) ∈ lw_tbl := List.mem_of_getElem? (l := lw_tbl) (i := 705) (by decide +kernel)
theorem mV_X6_startWith : am_mV m_X6_startWith 1 := ⟨⟨tw_533, tw_6, by decide +kernel, ⟨by decide +kernel, by decide +kernel, by decide +kernel⟩, by decide⟩, tw_532, List.mem_of_getElem? (l := lw_tbl) (i := 32) (by decide +kernel)⟩
theorem tw_536 : (Jvm.Cond.code ({ cls := "java/lang/Math", name := "min", desc := "(II)I" } : Jvm.MethodName) prog_18_method_69_code (2 : Nat) (Option.some Jvm.ClassFile.FieldType.int)) ∈ lw_tbl := List.mem_of_getElem? (l := lw_tbl) (i := 709) (by decide +kernel)
theorem jc_J9_min_7cf53 : Cond.code Lib.Math.min.name Lib.Math.min.code 2 (some .int) ∈ lw_tbl := tw_536
theorem tw_535 : (Jvm.Cond.static ({ cls := "java/lang/Math", name := "min", desc := "(II)I" } : Jvm.MethodName)) ∈ lw_tbl := List.mem_of_getElem? (l := lw_tbl) (i := 708) (by decide +kernel)
theorem js_J9_min_7cf53 : Cond.static Lib.Math.min.name ∈ lw_tbl := tw_535
theorem tw_539 : (Jvm.Cond.code ({ cls := "java/lang/Math", name := "max", desc := "(II)I" } : Jvm.MethodName) prog_18_method_65_code (2 : Nat) (Option.some Jvm.ClassFile.FieldType.int)) ∈ lw_tbl := List.mem_of_getElem? (l := lw_tbl) (i := 712) (by decide +kernel)
theorem jc_J9_max_7cf53 : Cond.code Lib.Math.max.name Lib.Math.max.code 2 (some .int) ∈ lw_tbl := tw_539
theorem tw_538 : (Jvm.Cond.static ({ cls := "java/lang/Math", name := "max", desc := "(II)I" } : Jvm.MethodName)) ∈ lw_tbl := List.mem_of_getElem? (l := lw_tbl) (i := 711) (by decide +kernel)
