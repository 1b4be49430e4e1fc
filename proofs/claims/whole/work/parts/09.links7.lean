theorem mV_X0_roundScore : am_mV m_X0_roundScore 1 := ⟨⟨tw_889, tw_9, by decide +kernel, ⟨by decide +kernel, by decide +kernel, by decide +kernel⟩, by decide⟩, tw_888, List.mem_of_getElem? (l := lw_tbl) (i := 85) (by decide +kernel)⟩
abbrev m_X0_keptWorth : am_M := (yX0_keptWorth, cX0_keptWorth, 5, some .int)
theorem tw_894 : (Jvm.Cond.code ({ cls := "MouthHouse$Best", name := "keptWorth", desc := "(III)I" } : Jvm.MethodName) prog_2_method_11_code (5 : Nat) (Option.some Jvm.ClassFile.FieldType.int)) ∈ lw_tbl := List.mem_of_getElem? (l := lw_tbl) (i := 1067) (by decide +kernel)
theorem tw_893 : (Jvm.Cond.instanceMethod ({ cls := "MouthHouse$Best", name := "keptWorth", desc := "(III)I" } : Jvm.MethodName)) ∈ lw_tbl := List.mem_of_getElem? (l := lw_tbl) (i := 1066) (by decide +kernel)
theorem mV_X0_keptWorth : am_mV m_X0_keptWorth 3 := ⟨⟨tw_894, tw_9, by decide +kernel, ⟨by decide +kernel, by decide +kernel, by decide +kernel⟩, by decide⟩, tw_893, List.mem_of_getElem? (l := lw_tbl) (i := 86) (by decide +kernel)⟩
abbrev m_X0_judge : am_M := (yX0_judge, cX0_judge, 3, none)
theorem tw_898 : (Jvm.Cond.code ({ cls := "MouthHouse$Best", name := "judge", desc := "(I)V" } : Jvm.MethodName) prog_2_method_13_code (3 : Nat) (Option.none : Option Jvm.ClassFile.FieldType)) ∈ lw_tbl := List.mem_of_getElem? (l := lw_tbl) (i := 1071) (by decide +kernel)
theorem tw_897 : (Jvm.Cond.instanceMethod ({ cls := "MouthHouse$Best", name := "judge", desc := "(I)V" } : Jvm.MethodName)) ∈ lw_tbl := List.mem_of_getElem? (l := lw_tbl) (i := 1070) (by decide +kernel)
theorem mV_X0_judge : am_mV m_X0_judge 1 := ⟨⟨tw_898, tw_9, by decide +kernel, ⟨by decide +kernel, by decide +kernel, by decide +kernel⟩, by decide⟩, tw_897, List.mem_of_getElem? (l := lw_tbl) (i := 87) (by decide +kernel)⟩
abbrev m_X0_gain : am_M := (yX0_gain, cX0_gain, 5, some .int)
theorem tw_902 : (Jvm.Cond.code ({ cls := "MouthHouse$Best", name := "gain", desc := "(IIII)I" } : Jvm.MethodName) prog_2_method_14_code (5 : Nat) (Option.some Jvm.ClassFile.FieldType.int)) ∈ lw_tbl := List.mem_of_getElem? (l := lw_tbl) (i := 1075) (by decide +kernel)
theorem tw_901 : (Jvm.Cond.instanceMethod ({ cls := "MouthHouse$Best", name := "gain", desc := "(IIII)I" } : Jvm.MethodName)) ∈ lw_tbl := List.mem_of_getElem? (l := lw_tbl) (i := 1074) (by decide +kernel)
theorem mV_X0_gain : am_mV m_X0_gain 4 := ⟨⟨tw_902, tw_9, by decide +kernel, ⟨by decide +kernel, by decide +kernel, by decide +kernel⟩, by decide⟩, tw_901, List.mem_of_getElem? (l := lw_tbl) (i := 88) (by decide +kernel)⟩
abbrev m_X0_hope : am_M := (yX0_hope, cX0_hope, 5, some .int)
theorem tw_906 : (Jvm.Cond.code ({ cls := "MouthHouse$Best", name := "hope", desc := "(IIII)I" } : Jvm.MethodName) prog_2_method_16_code (5 : Nat) (Option.some Jvm.ClassFile.FieldType.int)) ∈ lw_tbl := List.mem_of_getElem? (l := lw_tbl) (i := 1079) (by decide +kernel)
theorem tw_905 : (Jvm.Cond.instanceMethod ({ cls := "MouthHouse$Best", name := "hope", desc := "(IIII)I" } : Jvm.MethodName)) ∈ lw_tbl := List.mem_of_getElem? (l := lw_tbl) (i := 1078) (by decide +kernel)
theorem mV_X0_hope : am_mV m_X0_hope 4 := ⟨⟨tw_906, tw_9, by decide +kernel, ⟨by decide +kernel, by decide +kernel, by decide +kernel⟩, by decide⟩, tw_905, List.mem_of_getElem? (l := lw_tbl) (i := 89) (by decide +kernel)⟩
abbrev m_X0_seatingFor : am_M := (yX0_seatingFor, cX0_seatingFor, 2, some .int)
theorem tw_910 : (Jvm.Cond.code ({ cls := "MouthHouse$Best", name := "seatingFor", desc := "(I)I" } : Jvm.MethodName) prog_2_method_6_code (2 : Nat) (Option.some Jvm.ClassFile.FieldType.int)) ∈ lw_tbl := List.mem_of_getElem? (l := lw_tbl) (i := 1083) (by decide +kernel)
theorem tw_909 : (Jvm.Cond.instanceMethod ({ cls := "MouthHouse$Best", name := "seatingFor", desc := "(I)I" } : Jvm.MethodName)) ∈ lw_tbl := List.mem_of_getElem? (l := lw_tbl) (i := 1082) (by decide +kernel)
theorem mV_X0_seatingFor : am_mV m_X0_seatingFor 1 := ⟨⟨tw_910, tw_9, by decide +kernel, ⟨by decide +kernel, by decide +kernel, by decide +kernel⟩, by decide⟩, tw_909, List.mem_of_getElem? (l := lw_tbl) (i := 90) (by decide +kernel)⟩
abbrev m_X0_muchFor : am_M := (yX0_muchFor, cX0_muchFor, 2, some .int)
theorem tw_915 : (Jvm.Cond.code ({ cls := "MouthHouse$Best", name := "muchFor", desc := "(I)I" } : Jvm.MethodName) prog_2_method_7_code (2 : Nat) (Option.some Jvm.ClassFile.FieldType.int)) ∈ lw_tbl := List.mem_of_getElem? (l := lw_tbl) (i := 1088) (by decide +kernel)
theorem tw_914 : (Jvm.Cond.instanceMethod ({ cls := "MouthHouse$Best", name := "muchFor", desc := "(I)I" } : Jvm.MethodName)) ∈ lw_tbl := List.mem_of_getElem? (l := lw_tbl) (i := 1087) (by decide +kernel)
theorem mV_X0_muchFor : am_mV m_X0_muchFor 1 := ⟨⟨tw_915, tw_9, by decide +kernel, ⟨by decide +kernel, by decide +kernel, by decide +kernel⟩, by decide⟩, tw_914, List.mem_of_getElem? (l := lw_tbl) (i := 91) (by decide +kernel)⟩
abbrev m_X11_changes : am_M := (yX11_changes, cX11_changes, 2, some .int)
theorem tw_919 : (Jvm.Cond.code ({ cls := "MouthHouse", name := "changes", desc := "(I)I" } : Jvm.MethodName) prog_1_method_24_code (2 : Nat) (Option.some Jvm.ClassFile.FieldType.int)) ∈ lw_tbl := List.mem_of_getElem? (l := lw_tbl) (i := 1092) (by decide +kernel)
theorem tw_918 : (Jvm.Cond.selects "MouthHouse" ({ cls := "MouthHouse", name := "changes", desc := "(I)I" } : Jvm.MethodName) ({ cls := "MouthHouse", name := "changes", desc := "(I)I" } : Jvm.MethodName)) ∈ lw_tbl := List.mem_of_getElem? (l := lw_tbl) (i := 1091) (by decide +kernel)
theorem tw_917 : (Jvm.Cond.instanceMethod ({ cls := "MouthHouse", name := "changes", desc := "(I)I" } : Jvm.MethodName)) ∈ lw_tbl := List.mem_of_getElem? (l := lw_tbl) (i := 1090) (by decide +kernel)
theorem mV_X11_changes : am_mV m_X11_changes 1 := ⟨⟨tw_919, tw_1, by decide +kernel, ⟨by decide +kernel, by decide +kernel, by decide +kernel⟩, by decide⟩, tw_917, tw_918⟩
abbrev m_X1_search : am_M := (yX1_search, cX1_search, 2, none)
theorem tw_923 : (Jvm.Cond.code ({ cls := "MouthHouse$Changes", name := "search", desc := "()V" } : Jvm.MethodName) prog_3_method_3_code (2 : Nat) (Option.none : Option Jvm.ClassFile.FieldType)) ∈ lw_tbl := List.mem_of_getElem? (l := lw_tbl) (i := 1096) (by decide +kernel)
theorem tw_922 : (Jvm.Cond.instanceMethod ({ cls := "MouthHouse$Changes", name := "search", desc := "()V" } : Jvm.MethodName)) ∈ lw_tbl := List.mem_of_getElem? (l := lw_tbl) (i := 1095) (by decide +kernel)
theorem mV_X1_search : am_mV m_X1_search 0 := ⟨⟨tw_923, tw_11, by decide +kernel, ⟨by decide +kernel, by decide +kernel, by decide +kernel⟩, by decide⟩, tw_922, List.mem_of_getElem? (l := lw_tbl) (i := 92) (by decide +kernel)⟩
abbrev m_X1_canBeOrdered : am_M := (yX1_canBeOrdered, cX1_canBeOrdered, 6, some .boolean)
theorem tw_928 : (Jvm.Cond.code ({ cls := "MouthHouse$Changes", name := "canBeOrdered", desc := "(III)Z" } : Jvm.MethodName) prog_3_method_4_code (6 : Nat) (Option.some Jvm.ClassFile.FieldType.boolean)) ∈ lw_tbl := List.mem_of_getElem? (l := lw_tbl) (i := 1101) (by decide +kernel)
theorem tw_927 : (Jvm.Cond.instanceMethod ({ cls := "MouthHouse$Changes", name := "canBeOrdered", desc := "(III)Z" } : Jvm.MethodName)) ∈ lw_tbl := List.mem_of_getElem? (l := lw_tbl) (i := 1100) (by decide +kernel)
theorem mV_X1_canBeOrdered : am_mV m_X1_canBeOrdered 3 := ⟨⟨tw_928, tw_11, by decide +kernel, ⟨by decide +kernel, by decide +kernel, by decide +kernel⟩, by decide⟩, tw_927, List.mem_of_getElem? (l := lw_tbl) (i := 93) (by decide +kernel)⟩
abbrev m_X1_goThrough : am_M := (yX1_goThrough, cX1_goThrough, 5, none)
theorem tw_933 : (Jvm.Cond.code ({ cls := "MouthHouse$Changes", name := "goThrough", desc := "()V" } : Jvm.MethodName) prog_3_method_5_code (5 : Nat) (Option.none : Option Jvm.ClassFile.FieldType)) ∈ lw_tbl := List.mem_of_getElem? (l := lw_tbl) (i := 1106) (by decide +kernel)
theorem tw_932 : (Jvm.Cond.instanceMethod ({ cls := "MouthHouse$Changes", name := "goThrough", desc := "()V" } : Jvm.MethodName)) ∈ lw_tbl := List.mem_of_getElem? (l := lw_tbl) (i := 1105) (by decide +kernel)
theorem mV_X1_goThrough : am_mV m_X1_goThrough 0 := ⟨⟨tw_933, tw_11, by decide +kernel, ⟨by decide +kernel, by decide +kernel, by decide +kernel⟩, by decide⟩, tw_932, List.mem_of_getElem? (l := lw_tbl) (i := 94) (by decide +kernel)⟩
abbrev m_J7_fill_d0a16 : am_M := (yJ7_fill_d0a16, cJ7_fill_d0a16, 5, none)
theorem tw_936 : (Jvm.Cond.code ({ cls := "java/util/Arrays", name := "fill", desc := "([JJ)V" } : Jvm.MethodName) prog_22_method_101_code (5 : Nat) (Option.none : Option Jvm.ClassFile.FieldType)) ∈ lw_tbl := List.mem_of_getElem? (l := lw_tbl) (i := 1109) (by decide +kernel)
theorem tw_935 : (Jvm.Cond.static ({ cls := "java/util/Arrays", name := "fill", desc := "([JJ)V" } : Jvm.MethodName)) ∈ lw_tbl := List.mem_of_getElem? (l := lw_tbl) (i := 1108) (by decide +kernel)
theorem mS_J7_fill_d0a16 : am_mS m_J7_fill_d0a16 2 := ⟨⟨tw_936, tw_21, by decide +kernel, ⟨by decide +kernel, by decide +kernel, by decide +kernel⟩, by decide⟩, tw_935⟩
abbrev m_X6_copyFrom : am_M := (yX6_copyFrom, cX6_copyFrom, 2, none)
theorem tw_940 : (Jvm.Cond.code ({ cls := "MouthHouse$Seating", name := "copyFrom", desc := "(LMouthHouse$Seating;)V" } : Jvm.MethodName) prog_8_method_3_code (2 : Nat) (Option.none : Option Jvm.ClassFile.FieldType)) ∈ lw_tbl := List.mem_of_getElem? (l := lw_tbl) (i := 1113) (by decide +kernel)
theorem tw_939 : (Jvm.Cond.instanceMethod ({ cls := "MouthHouse$Seating", name := "copyFrom", desc := "(LMouthHouse$Seating;)V" } : Jvm.MethodName)) ∈ lw_tbl := List.mem_of_getElem? (l := lw_tbl) (i := 1112) (by decide +kernel)
theorem mV_X6_copyFrom : am_mV m_X6_copyFrom 1 := ⟨⟨tw_940, tw_6, by decide +kernel, ⟨by decide +kernel, by decide +kernel, by decide +kernel⟩, by decide⟩, tw_939, List.mem_of_getElem? (l := lw_tbl) (i := 95) (by decide +kernel)⟩
abbrev m_X1_reach : am_M := (yX1_reach, cX1_reach, 4, none)
theorem tw_945 : (Jvm.Cond.code ({ cls := "MouthHouse$Changes", name := "reach", desc := "()V" } : Jvm.MethodName) prog_3_method_8_code (4 : Nat) (Option.none : Option Jvm.ClassFile.FieldType)) ∈ lw_tbl := List.mem_of_getElem? (l := lw_tbl) (i := 1118) (by decide +kernel)
theorem tw_944 : (Jvm.Cond.instanceMethod ({ cls := "MouthHouse$Changes", name := "reach", desc := "()V" } : Jvm.MethodName)) ∈ lw_tbl := List.mem_of_getElem? (l := lw_tbl) (i := 1117) (by decide +kernel)
theorem mV_X1_reach : am_mV m_X1_reach 0 := ⟨⟨tw_945, tw_11, by decide +kernel, ⟨by decide +kernel, by decide +kernel, by decide +kernel⟩, by decide⟩, tw_944, List.mem_of_getElem? (l := lw_tbl) (i := 96) (by decide +kernel)⟩
abbrev m_X1_rankOfTrial : am_M := (yX1_rankOfTrial, cX1_rankOfTrial, 5, some .int)
theorem tw_949 : (Jvm.Cond.code ({ cls := "MouthHouse$Changes", name := "rankOfTrial", desc := "()I" } : Jvm.MethodName) prog_3_method_9_code (5 : Nat) (Option.some Jvm.ClassFile.FieldType.int)) ∈ lw_tbl := List.mem_of_getElem? (l := lw_tbl) (i := 1122) (by decide +kernel)
theorem tw_948 : (Jvm.Cond.instanceMethod ({ cls := "MouthHouse$Changes", name := "rankOfTrial", desc := "()I" } : Jvm.MethodName)) ∈ lw_tbl := List.mem_of_getElem? (l := lw_tbl) (i := 1121) (by decide +kernel)
theorem mV_X1_rankOfTrial : am_mV m_X1_rankOfTrial 0 := ⟨⟨tw_949, tw_11, by decide +kernel, ⟨by decide +kernel, by decide +kernel, by decide +kernel⟩, by decide⟩, tw_948, List.mem_of_getElem? (l := lw_tbl) (i := 97) (by decide +kernel)⟩
abbrev m_X6_digits : am_M := (yX6_digits, cX6_digits, 3, some .int)
theorem tw_955 : (Jvm.Cond.code ({ cls := "MouthHouse$Seating", name := "digits", desc := "()I" } : Jvm.MethodName) prog_8_method_11_code (3 : Nat) (Option.some Jvm.ClassFile.FieldType.int)) ∈ lw_tbl := List.mem_of_getElem? (l := lw_tbl) (i := 1128) (by decide +kernel)
theorem tw_954 : (Jvm.Cond.instanceMethod ({ cls := "MouthHouse$Seating", name := "digits", desc := "()I" } : Jvm.MethodName)) ∈ lw_tbl := List.mem_of_getElem? (l := lw_tbl) (i := 1127) (by decide +kernel)
theorem mV_X6_digits : am_mV m_X6_digits 0 := ⟨⟨tw_955, tw_6, by decide +kernel, ⟨by decide +kernel, by decide +kernel, by decide +kernel⟩, by decide⟩, tw_954, List.mem_of_getElem? (l := lw_tbl) (i := 98) (by decide +kernel)⟩
abbrev m_X1_leastGood : am_M := (yX1_leastGood, cX1_leastGood, 5, some .int)
theorem tw_959 : (Jvm.Cond.code ({ cls := "MouthHouse$Changes", name := "leastGood", desc := "(II)I" } : Jvm.MethodName) prog_3_method_6_code (5 : Nat) (Option.some Jvm.ClassFile.FieldType.int)) ∈ lw_tbl := List.mem_of_getElem? (l := lw_tbl) (i := 1132) (by decide +kernel)
theorem tw_958 : (Jvm.Cond.instanceMethod ({ cls := "MouthHouse$Changes", name := "leastGood", desc := "(II)I" } : Jvm.MethodName)) ∈ lw_tbl := List.mem_of_getElem? (l := lw_tbl) (i := 1131) (by decide +kernel)
theorem mV_X1_leastGood : am_mV m_X1_leastGood 2 := ⟨⟨tw_959, tw_11, by decide +kernel, ⟨by decide +kernel, by decide +kernel, by decide +kernel⟩, by decide⟩, tw_958, List.mem_of_getElem? (l := lw_tbl) (i := 99) (by decide +kernel)⟩
abbrev m_X8_isAllHeard : am_M := (yX8_isAllHeard, cX8_isAllHeard, 3, some .boolean)
theorem tw_965 : (Jvm.Cond.code ({ cls := "MouthHouse$Talk", name := "isAllHeard", desc := "()Z" } : Jvm.MethodName) prog_10_method_6_code (3 : Nat) (Option.some Jvm.ClassFile.FieldType.boolean)) ∈ lw_tbl := List.mem_of_getElem? (l := lw_tbl) (i := 1138) (by decide +kernel)
theorem tw_964 : (Jvm.Cond.instanceMethod ({ cls := "MouthHouse$Talk", name := "isAllHeard", desc := "()Z" } : Jvm.MethodName)) ∈ lw_tbl := List.mem_of_getElem? (l := lw_tbl) (i := 1137) (by decide +kernel)
theorem mV_X8_isAllHeard : am_mV m_X8_isAllHeard 0 := ⟨⟨tw_965, tw_7, by decide +kernel, ⟨by decide +kernel, by decide +kernel, by decide +kernel⟩, by decide⟩, tw_964, List.mem_of_getElem? (l := lw_tbl) (i := 100) (by decide +kernel)⟩
abbrev m_X1_exchangeAll : am_M := (yX1_exchangeAll, cX1_exchangeAll, 4, none)
theorem tw_969 : (Jvm.Cond.code ({ cls := "MouthHouse$Changes", name := "exchangeAll", desc := "(I)V" } : Jvm.MethodName) prog_3_method_7_code (4 : Nat) (Option.none : Option Jvm.ClassFile.FieldType)) ∈ lw_tbl := List.mem_of_getElem? (l := lw_tbl) (i := 1142) (by decide +kernel)
theorem tw_968 : (Jvm.Cond.instanceMethod ({ cls := "MouthHouse$Changes", name := "exchangeAll", desc := "(I)V" } : Jvm.MethodName)) ∈ lw_tbl := List.mem_of_getElem? (l := lw_tbl) (i := 1141) (by decide +kernel)
theorem mV_X1_exchangeAll : am_mV m_X1_exchangeAll 1 := ⟨⟨tw_969, tw_11, by decide +kernel, ⟨by decide +kernel, by decide +kernel, by decide +kernel⟩, by decide⟩, tw_968, List.mem_of_getElem? (l := lw_tbl) (i := 101) (by decide +kernel)⟩
abbrev m_X11_know : am_M := (yX11_know, cX11_know, 3, some .int)
theorem tw_975 : (Jvm.Cond.code ({ cls := "MouthHouse", name := "know", desc := "(IZ)I" } : Jvm.MethodName) prog_1_method_25_code (3 : Nat) (Option.some Jvm.ClassFile.FieldType.int)) ∈ lw_tbl := List.mem_of_getElem? (l := lw_tbl) (i := 1148) (by decide +kernel)
theorem tw_974 : (Jvm.Cond.selects "MouthHouse" ({ cls := "MouthHouse", name := "know", desc := "(IZ)I" } : Jvm.MethodName) ({ cls := "MouthHouse", name := "know", desc := "(IZ)I" } : Jvm.MethodName)) ∈ lw_tbl := List.mem_of_getElem? (l := lw_tbl) (i := 1147) (by decide +kernel)
theorem tw_973 : (Jvm.Cond.instanceMethod ({ cls := "MouthHouse", name := "know", desc := "(IZ)I" } : Jvm.MethodName)) ∈ lw_tbl := List.mem_of_getElem? (l := lw_tbl) (i := 1146) (by decide +kernel)
theorem mV_X11_know : am_mV m_X11_know 2 := ⟨⟨tw_975, tw_1, by decide +kernel, ⟨by decide +kernel, by decide +kernel, by decide +kernel⟩, by decide⟩, tw_973, tw_974⟩
abbrev m_X10_learn : am_M := (yX10_learn, cX10_learn, 3, some .int)
theorem tw_979 : (Jvm.Cond.code ({ cls := "MouthHouse$Votes", name := "learn", desc := "(IZ)I" } : Jvm.MethodName) prog_12_method_15_code (3 : Nat) (Option.some Jvm.ClassFile.FieldType.int)) ∈ lw_tbl := List.mem_of_getElem? (l := lw_tbl) (i := 1152) (by decide +kernel)
theorem tw_978 : (Jvm.Cond.instanceMethod ({ cls := "MouthHouse$Votes", name := "learn", desc := "(IZ)I" } : Jvm.MethodName)) ∈ lw_tbl := List.mem_of_getElem? (l := lw_tbl) (i := 1151) (by decide +kernel)
theorem mV_X10_learn : am_mV m_X10_learn 2 := ⟨⟨tw_979, tw_8, by decide +kernel, ⟨by decide +kernel, by decide +kernel, by decide +kernel⟩, by decide⟩, tw_978, List.mem_of_getElem? (l := lw_tbl) (i := 102) (by decide +kernel)⟩
abbrev m_X11_fits : am_M := (yX11_fits, cX11_fits, 2, some .int)
theorem tw_983 : (Jvm.Cond.code ({ cls := "MouthHouse", name := "fits", desc := "(I)I" } : Jvm.MethodName) prog_1_method_26_code (2 : Nat) (Option.some Jvm.ClassFile.FieldType.int)) ∈ lw_tbl := List.mem_of_getElem? (l := lw_tbl) (i := 1156) (by decide +kernel)
theorem tw_982 : (Jvm.Cond.selects "MouthHouse" ({ cls := "MouthHouse", name := "fits", desc := "(I)I" } : Jvm.MethodName) ({ cls := "MouthHouse", name := "fits", desc := "(I)I" } : Jvm.MethodName)) ∈ lw_tbl := List.mem_of_getElem? (l := lw_tbl) (i := 1155) (by decide +kernel)
theorem tw_981 : (Jvm.Cond.instanceMethod ({ cls := "MouthHouse", name := "fits", desc := "(I)I" } : Jvm.MethodName)) ∈ lw_tbl := List.mem_of_getElem? (l := lw_tbl) (i := 1154) (by decide +kernel)
theorem mV_X11_fits : am_mV m_X11_fits 1 := ⟨⟨tw_983, tw_1, by decide +kernel, ⟨by decide +kernel, by decide +kernel, by decide +kernel⟩, by decide⟩, tw_981, tw_982⟩
abbrev m_X10_fitting : am_M := (yX10_fitting, cX10_fitting, 2, some .int)
theorem tw_987 : (Jvm.Cond.code ({ cls := "MouthHouse$Votes", name := "fitting", desc := "()I" } : Jvm.MethodName) prog_12_method_18_code (2 : Nat) (Option.some Jvm.ClassFile.FieldType.int)) ∈ lw_tbl := List.mem_of_getElem? (l := lw_tbl) (i := 1160) (by decide +kernel)
theorem tw_986 : (Jvm.Cond.instanceMethod ({ cls := "MouthHouse$Votes", name := "fitting", desc := "()I" } : Jvm.MethodName)) ∈ lw_tbl := List.mem_of_getElem? (l := lw_tbl) (i := 1159) (by decide +kernel)
theorem mV_X10_fitting : am_mV m_X10_fitting 0 := ⟨⟨tw_987, tw_8, by decide +kernel, ⟨by decide +kernel, by decide +kernel, by decide +kernel⟩, by decide⟩, tw_986, List.mem_of_getElem? (l := lw_tbl) (i := 103) (by decide +kernel)⟩
abbrev m_X10_canFit : am_M := (yX10_canFit, cX10_canFit, 3, some .boolean)
theorem tw_991 : (Jvm.Cond.code ({ cls := "MouthHouse$Votes", name := "canFit", desc := "()Z" } : Jvm.MethodName) prog_12_method_16_code (3 : Nat) (Option.some Jvm.ClassFile.FieldType.boolean)) ∈ lw_tbl := List.mem_of_getElem? (l := lw_tbl) (i := 1164) (by decide +kernel)
theorem tw_990 : (Jvm.Cond.instanceMethod ({ cls := "MouthHouse$Votes", name := "canFit", desc := "()Z" } : Jvm.MethodName)) ∈ lw_tbl := List.mem_of_getElem? (l := lw_tbl) (i := 1163) (by decide +kernel)
theorem mV_X10_canFit : am_mV m_X10_canFit 0 := ⟨⟨tw_991, tw_8, by decide +kernel, ⟨by decide +kernel, by decide +kernel, by decide +kernel⟩, by decide⟩, tw_990, List.mem_of_getElem? (l := lw_tbl) (i := 104) (by decide +kernel)⟩
abbrev m_X8_speakerThrough : am_M := (yX8_speakerThrough, cX8_speakerThrough, 4, some .int)
theorem tw_995 : (Jvm.Cond.code ({ cls := "MouthHouse$Talk", name := "speakerThrough", desc := "(I)I" } : Jvm.MethodName) prog_10_method_5_code (4 : Nat) (Option.some Jvm.ClassFile.FieldType.int)) ∈ lw_tbl := List.mem_of_getElem? (l := lw_tbl) (i := 1168) (by decide +kernel)
theorem tw_994 : (Jvm.Cond.instanceMethod ({ cls := "MouthHouse$Talk", name := "speakerThrough", desc := "(I)I" } : Jvm.MethodName)) ∈ lw_tbl := List.mem_of_getElem? (l := lw_tbl) (i := 1167) (by decide +kernel)
theorem mV_X8_speakerThrough : am_mV m_X8_speakerThrough 1 := ⟨⟨tw_995, tw_7, by decide +kernel, ⟨by decide +kernel, by decide +kernel, by decide +kernel⟩, by decide⟩, tw_994, List.mem_of_getElem? (l := lw_tbl) (i := 105) (by decide +kernel)⟩
abbrev m_X10_fittingRow : am_M := (yX10_fittingRow, cX10_fittingRow, 4, some .int)
theorem tw_1000 : (Jvm.Cond.code ({ cls := "MouthHouse$Votes", name := "fittingRow", desc := "(I)I" } : Jvm.MethodName) prog_12_method_19_code (4 : Nat) (Option.some Jvm.ClassFile.FieldType.int)) ∈ lw_tbl := List.mem_of_getElem? (l := lw_tbl) (i := 1173) (by decide +kernel)
theorem tw_999 : (Jvm.Cond.instanceMethod ({ cls := "MouthHouse$Votes", name := "fittingRow", desc := "(I)I" } : Jvm.MethodName)) ∈ lw_tbl := List.mem_of_getElem? (l := lw_tbl) (i := 1172) (by decide +kernel)
theorem mV_X10_fittingRow : am_mV m_X10_fittingRow 1 := ⟨⟨tw_1000, tw_8, by decide +kernel, ⟨by decide +kernel, by decide +kernel, by decide +kernel⟩, by decide⟩, tw_999, List.mem_of_getElem? (l := lw_tbl) (i := 106) (by decide +kernel)⟩
abbrev m_X10_isFit : am_M := (yX10_isFit, cX10_isFit, 2, some .boolean)
theorem tw_1004 : (Jvm.Cond.code ({ cls := "MouthHouse$Votes", name := "isFit", desc := "(I)Z" } : Jvm.MethodName) prog_12_method_17_code (2 : Nat) (Option.some Jvm.ClassFile.FieldType.boolean)) ∈ lw_tbl := List.mem_of_getElem? (l := lw_tbl) (i := 1177) (by decide +kernel)
theorem tw_1003 : (Jvm.Cond.instanceMethod ({ cls := "MouthHouse$Votes", name := "isFit", desc := "(I)Z" } : Jvm.MethodName)) ∈ lw_tbl := List.mem_of_getElem? (l := lw_tbl) (i := 1176) (by decide +kernel)
theorem mV_X10_isFit : am_mV m_X10_isFit 1 := ⟨⟨tw_1004, tw_8, by decide +kernel, ⟨by decide +kernel, by decide +kernel, by decide +kernel⟩, by decide⟩, tw_1003, List.mem_of_getElem? (l := lw_tbl) (i := 107) (by decide +kernel)⟩
abbrev m_X11_sure : am_M := (yX11_sure, cX11_sure, 2, some .int)
theorem tw_1008 : (Jvm.Cond.code ({ cls := "MouthHouse", name := "sure", desc := "(Z)I" } : Jvm.MethodName) prog_1_method_27_code (2 : Nat) (Option.some Jvm.ClassFile.FieldType.int)) ∈ lw_tbl := List.mem_of_getElem? (l := lw_tbl) (i := 1181) (by decide +kernel)
theorem tw_1007 : (Jvm.Cond.selects "MouthHouse" ({ cls := "MouthHouse", name := "sure", desc := "(Z)I" } : Jvm.MethodName) ({ cls := "MouthHouse", name := "sure", desc := "(Z)I" } : Jvm.MethodName)) ∈ lw_tbl := List.mem_of_getElem? (l := lw_tbl) (i := 1180) (by decide +kernel)
theorem tw_1006 : (Jvm.Cond.instanceMethod ({ cls := "MouthHouse", name := "sure", desc := "(Z)I" } : Jvm.MethodName)) ∈ lw_tbl := List.mem_of_getElem? (l := lw_tbl) (i := 1179) (by decide +kernel)
theorem mV_X11_sure : am_mV m_X11_sure 1 := ⟨⟨tw_1008, tw_1, by decide +kernel, ⟨by decide +kernel, by decide +kernel, by decide +kernel⟩, by decide⟩, tw_1006, tw_1007⟩
abbrev m_X10_certain : am_M := (yX10_certain, cX10_certain, 2, some .int)
theorem tw_1012 : (Jvm.Cond.code ({ cls := "MouthHouse$Votes", name := "certain", desc := "(Z)I" } : Jvm.MethodName) prog_12_method_20_code (2 : Nat) (Option.some Jvm.ClassFile.FieldType.int)) ∈ lw_tbl := List.mem_of_getElem? (l := lw_tbl) (i := 1185) (by decide +kernel)
theorem tw_1011 : (Jvm.Cond.instanceMethod ({ cls := "MouthHouse$Votes", name := "certain", desc := "(Z)I" } : Jvm.MethodName)) ∈ lw_tbl := List.mem_of_getElem? (l := lw_tbl) (i := 1184) (by decide +kernel)
theorem mV_X10_certain : am_mV m_X10_certain 1 := ⟨⟨tw_1012, tw_8, by decide +kernel, ⟨by decide +kernel, by decide +kernel, by decide +kernel⟩, by decide⟩, tw_1011, List.mem_of_getElem? (l := lw_tbl) (i := 108) (by decide +kernel)⟩
abbrev m_X11_seed : am_M := (yX11_seed, cX11_seed, 3, some .boolean)
theorem tw_1016 : (Jvm.Cond.code ({ cls := "MouthHouse", name := "seed", desc := "(J)Z" } : Jvm.MethodName) prog_1_method_28_code (3 : Nat) (Option.some Jvm.ClassFile.FieldType.boolean)) ∈ lw_tbl := List.mem_of_getElem? (l := lw_tbl) (i := 1189) (by decide +kernel)
theorem tw_1015 : (Jvm.Cond.selects "MouthHouse" ({ cls := "MouthHouse", name := "seed", desc := "(J)Z" } : Jvm.MethodName) ({ cls := "MouthHouse", name := "seed", desc := "(J)Z" } : Jvm.MethodName)) ∈ lw_tbl := List.mem_of_getElem? (l := lw_tbl) (i := 1188) (by decide +kernel)
theorem tw_1014 : (Jvm.Cond.instanceMethod ({ cls := "MouthHouse", name := "seed", desc := "(J)Z" } : Jvm.MethodName)) ∈ lw_tbl := List.mem_of_getElem? (l := lw_tbl) (i := 1187) (by decide +kernel)
theorem mV_X11_seed : am_mV m_X11_seed 1 := ⟨⟨tw_1016, tw_1, by decide +kernel, ⟨by decide +kernel, by decide +kernel, by decide +kernel⟩, by decide⟩, tw_1014, tw_1015⟩
abbrev m_X11_sitting : am_M := (yX11_sitting, cX11_sitting, 7, some .int)
theorem tw_1020 : (Jvm.Cond.code ({ cls := "MouthHouse", name := "sitting", desc := "()I" } : Jvm.MethodName) prog_1_method_29_code (7 : Nat) (Option.some Jvm.ClassFile.FieldType.int)) ∈ lw_tbl := List.mem_of_getElem? (l := lw_tbl) (i := 1193) (by decide +kernel)
theorem tw_1019 : (Jvm.Cond.selects "MouthHouse" ({ cls := "MouthHouse", name := "sitting", desc := "()I" } : Jvm.MethodName) ({ cls := "MouthHouse", name := "sitting", desc := "()I" } : Jvm.MethodName)) ∈ lw_tbl := List.mem_of_getElem? (l := lw_tbl) (i := 1192) (by decide +kernel)
theorem tw_1018 : (Jvm.Cond.instanceMethod ({ cls := "MouthHouse", name := "sitting", desc := "()I" } : Jvm.MethodName)) ∈ lw_tbl := List.mem_of_getElem? (l := lw_tbl) (i := 1191) (by decide +kernel)
theorem mV_X11_sitting : am_mV m_X11_sitting 0 := ⟨⟨tw_1020, tw_1, by decide +kernel, ⟨by decide +kernel, by decide +kernel, by decide +kernel⟩, by decide⟩, tw_1018, tw_1019⟩
abbrev m_X7_isFull : am_M := (yX7_isFull, cX7_isFull, 1, some .boolean)
theorem tw_1024 : (Jvm.Cond.code ({ cls := "MouthHouse$Sittings", name := "isFull", desc := "()Z" } : Jvm.MethodName) prog_9_method_2_code (1 : Nat) (Option.some Jvm.ClassFile.FieldType.boolean)) ∈ lw_tbl := List.mem_of_getElem? (l := lw_tbl) (i := 1197) (by decide +kernel)
theorem tw_1023 : (Jvm.Cond.instanceMethod ({ cls := "MouthHouse$Sittings", name := "isFull", desc := "()Z" } : Jvm.MethodName)) ∈ lw_tbl := List.mem_of_getElem? (l := lw_tbl) (i := 1196) (by decide +kernel)
theorem mV_X7_isFull : am_mV m_X7_isFull 0 := ⟨⟨tw_1024, tw_12, by decide +kernel, ⟨by decide +kernel, by decide +kernel, by decide +kernel⟩, by decide⟩, tw_1023, List.mem_of_getElem? (l := lw_tbl) (i := 109) (by decide +kernel)⟩
abbrev m_X7_draw : am_M := (yX7_draw, cX7_draw, 2, some .int)
theorem tw_1029 : (Jvm.Cond.code ({ cls := "MouthHouse$Sittings", name := "draw", desc := "(I)I" } : Jvm.MethodName) prog_9_method_3_code (2 : Nat) (Option.some Jvm.ClassFile.FieldType.int)) ∈ lw_tbl := List.mem_of_getElem? (l := lw_tbl) (i := 1202) (by decide +kernel)
theorem tw_1028 : (Jvm.Cond.instanceMethod ({ cls := "MouthHouse$Sittings", name := "draw", desc := "(I)I" } : Jvm.MethodName)) ∈ lw_tbl := List.mem_of_getElem? (l := lw_tbl) (i := 1201) (by decide +kernel)
theorem mV_X7_draw : am_mV m_X7_draw 1 := ⟨⟨tw_1029, tw_12, by decide +kernel, ⟨by decide +kernel, by decide +kernel, by decide +kernel⟩, by decide⟩, tw_1028, List.mem_of_getElem? (l := lw_tbl) (i := 110) (by decide +kernel)⟩
abbrev m_X7_putBy : am_M := (yX7_putBy, cX7_putBy, 5, none)
theorem tw_1038 : (Jvm.Cond.code ({ cls := "MouthHouse$Sittings", name := "putBy", desc := "(IZJ)V" } : Jvm.MethodName) prog_9_method_4_code (5 : Nat) (Option.none : Option Jvm.ClassFile.FieldType)) ∈ lw_tbl := List.mem_of_getElem? (l := lw_tbl) (i := 1211) (by decide +kernel)
theorem tw_1037 : (Jvm.Cond.instanceMethod ({ cls := "MouthHouse$Sittings", name := "putBy", desc := "(IZJ)V" } : Jvm.MethodName)) ∈ lw_tbl := List.mem_of_getElem? (l := lw_tbl) (i := 1210) (by decide +kernel)
theorem mV_X7_putBy : am_mV m_X7_putBy 3 := ⟨⟨tw_1038, tw_12, by decide +kernel, ⟨by decide +kernel, by decide +kernel, by decide +kernel⟩, by decide⟩, tw_1037, List.mem_of_getElem? (l := lw_tbl) (i := 111) (by decide +kernel)⟩
abbrev m_X11_sat : am_M := (yX11_sat, cX11_sat, 3, some .int)
theorem tw_1043 : (Jvm.Cond.code ({ cls := "MouthHouse", name := "sat", desc := "(II)I" } : Jvm.MethodName) prog_1_method_30_code (3 : Nat) (Option.some Jvm.ClassFile.FieldType.int)) ∈ lw_tbl := List.mem_of_getElem? (l := lw_tbl) (i := 1216) (by decide +kernel)
theorem tw_1042 : (Jvm.Cond.selects "MouthHouse" ({ cls := "MouthHouse", name := "sat", desc := "(II)I" } : Jvm.MethodName) ({ cls := "MouthHouse", name := "sat", desc := "(II)I" } : Jvm.MethodName)) ∈ lw_tbl := List.mem_of_getElem? (l := lw_tbl) (i := 1215) (by decide +kernel)
theorem tw_1041 : (Jvm.Cond.instanceMethod ({ cls := "MouthHouse", name := "sat", desc := "(II)I" } : Jvm.MethodName)) ∈ lw_tbl := List.mem_of_getElem? (l := lw_tbl) (i := 1214) (by decide +kernel)
theorem mV_X11_sat : am_mV m_X11_sat 2 := ⟨⟨tw_1043, tw_1, by decide +kernel, ⟨by decide +kernel, by decide +kernel, by decide +kernel⟩, by decide⟩, tw_1041, tw_1042⟩
abbrev m_X7_yesOf : am_M := (yX7_yesOf, cX7_yesOf, 2, some .int)
theorem tw_1047 : (Jvm.Cond.code ({ cls := "MouthHouse$Sittings", name := "yesOf", desc := "(I)I" } : Jvm.MethodName) prog_9_method_6_code (2 : Nat) (Option.some Jvm.ClassFile.FieldType.int)) ∈ lw_tbl := List.mem_of_getElem? (l := lw_tbl) (i := 1220) (by decide +kernel)
theorem tw_1046 : (Jvm.Cond.instanceMethod ({ cls := "MouthHouse$Sittings", name := "yesOf", desc := "(I)I" } : Jvm.MethodName)) ∈ lw_tbl := List.mem_of_getElem? (l := lw_tbl) (i := 1219) (by decide +kernel)
theorem mV_X7_yesOf : am_mV m_X7_yesOf 1 := ⟨⟨tw_1047, tw_12, by decide +kernel, ⟨by decide +kernel, by decide +kernel, by decide +kernel⟩, by decide⟩, tw_1046, List.mem_of_getElem? (l := lw_tbl) (i := 112) (by decide +kernel)⟩
abbrev m_X7_passedOf : am_M := (yX7_passedOf, cX7_passedOf, 2, some .int)
theorem tw_1051 : (Jvm.Cond.code ({ cls := "MouthHouse$Sittings", name := "passedOf", desc := "(I)I" } : Jvm.MethodName) prog_9_method_7_code (2 : Nat) (Option.some Jvm.ClassFile.FieldType.int)) ∈ lw_tbl := List.mem_of_getElem? (l := lw_tbl) (i := 1224) (by decide +kernel)
theorem tw_1050 : (Jvm.Cond.instanceMethod ({ cls := "MouthHouse$Sittings", name := "passedOf", desc := "(I)I" } : Jvm.MethodName)) ∈ lw_tbl := List.mem_of_getElem? (l := lw_tbl) (i := 1223) (by decide +kernel)
theorem mV_X7_passedOf : am_mV m_X7_passedOf 1 := ⟨⟨tw_1051, tw_12, by decide +kernel, ⟨by decide +kernel, by decide +kernel, by decide +kernel⟩, by decide⟩, tw_1050, List.mem_of_getElem? (l := lw_tbl) (i := 113) (by decide +kernel)⟩
abbrev m_X11_undo : am_M := (yX11_undo, cX11_undo, 1, some .int)
theorem tw_1055 : (Jvm.Cond.code ({ cls := "MouthHouse", name := "undo", desc := "()I" } : Jvm.MethodName) prog_1_method_31_code (1 : Nat) (Option.some Jvm.ClassFile.FieldType.int)) ∈ lw_tbl := List.mem_of_getElem? (l := lw_tbl) (i := 1228) (by decide +kernel)
theorem tw_1054 : (Jvm.Cond.selects "MouthHouse" ({ cls := "MouthHouse", name := "undo", desc := "()I" } : Jvm.MethodName) ({ cls := "MouthHouse", name := "undo", desc := "()I" } : Jvm.MethodName)) ∈ lw_tbl := List.mem_of_getElem? (l := lw_tbl) (i := 1227) (by decide +kernel)
theorem tw_1053 : (Jvm.Cond.instanceMethod ({ cls := "MouthHouse", name := "undo", desc := "()I" } : Jvm.MethodName)) ∈ lw_tbl := List.mem_of_getElem? (l := lw_tbl) (i := 1226) (by decide +kernel)
theorem mV_X11_undo : am_mV m_X11_undo 0 := ⟨⟨tw_1055, tw_1, by decide +kernel, ⟨by decide +kernel, by decide +kernel, by decide +kernel⟩, by decide⟩, tw_1053, tw_1054⟩
abbrev m_X7_takeBack : am_M := (yX7_takeBack, cX7_takeBack, 1, some .int)
theorem tw_1059 : (Jvm.Cond.code ({ cls := "MouthHouse$Sittings", name := "takeBack", desc := "()I" } : Jvm.MethodName) prog_9_method_5_code (1 : Nat) (Option.some Jvm.ClassFile.FieldType.int)) ∈ lw_tbl := List.mem_of_getElem? (l := lw_tbl) (i := 1232) (by decide +kernel)
theorem tw_1058 : (Jvm.Cond.instanceMethod ({ cls := "MouthHouse$Sittings", name := "takeBack", desc := "()I" } : Jvm.MethodName)) ∈ lw_tbl := List.mem_of_getElem? (l := lw_tbl) (i := 1231) (by decide +kernel)
theorem mV_X7_takeBack : am_mV m_X7_takeBack 0 := ⟨⟨tw_1059, tw_12, by decide +kernel, ⟨by decide +kernel, by decide +kernel, by decide +kernel⟩, by decide⟩, tw_1058, List.mem_of_getElem? (l := lw_tbl) (i := 114) (by decide +kernel)⟩
abbrev m_X11_image : am_M := (yX11_image, cX11_image, 1, some .int)
theorem tw_1063 : (Jvm.Cond.code ({ cls := "MouthHouse", name := "image", desc := "()I" } : Jvm.MethodName) prog_1_method_32_code (1 : Nat) (Option.some Jvm.ClassFile.FieldType.int)) ∈ lw_tbl := List.mem_of_getElem? (l := lw_tbl) (i := 1236) (by decide +kernel)
theorem tw_1062 : (Jvm.Cond.selects "MouthHouse" ({ cls := "MouthHouse", name := "image", desc := "()I" } : Jvm.MethodName) ({ cls := "MouthHouse", name := "image", desc := "()I" } : Jvm.MethodName)) ∈ lw_tbl := List.mem_of_getElem? (l := lw_tbl) (i := 1235) (by decide +kernel)
theorem tw_1061 : (Jvm.Cond.instanceMethod ({ cls := "MouthHouse", name := "image", desc := "()I" } : Jvm.MethodName)) ∈ lw_tbl := List.mem_of_getElem? (l := lw_tbl) (i := 1234) (by decide +kernel)
theorem mV_X11_image : am_mV m_X11_image 0 := ⟨⟨tw_1063, tw_1, by decide +kernel, ⟨by decide +kernel, by decide +kernel, by decide +kernel⟩, by decide⟩, tw_1061, tw_1062⟩
abbrev m_X7_copyFrom : am_M := (yX7_copyFrom, cX7_copyFrom, 2, none)
theorem tw_1068 : (Jvm.Cond.code ({ cls := "MouthHouse$Sittings", name := "copyFrom", desc := "(LMouthHouse$Sittings;)V" } : Jvm.MethodName) prog_9_method_9_code (2 : Nat) (Option.none : Option Jvm.ClassFile.FieldType)) ∈ lw_tbl := List.mem_of_getElem? (l := lw_tbl) (i := 1241) (by decide +kernel)
theorem tw_1067 : (Jvm.Cond.instanceMethod ({ cls := "MouthHouse$Sittings", name := "copyFrom", desc := "(LMouthHouse$Sittings;)V" } : Jvm.MethodName)) ∈ lw_tbl := List.mem_of_getElem? (l := lw_tbl) (i := 1240) (by decide +kernel)
theorem mV_X7_copyFrom : am_mV m_X7_copyFrom 1 := ⟨⟨tw_1068, tw_12, by decide +kernel, ⟨by decide +kernel, by decide +kernel, by decide +kernel⟩, by decide⟩, tw_1067, List.mem_of_getElem? (l := lw_tbl) (i := 115) (by decide +kernel)⟩
abbrev m_X11_back : am_M := (yX11_back, cX11_back, 1, some .int)
theorem tw_1073 : (Jvm.Cond.code ({ cls := "MouthHouse", name := "back", desc := "()I" } : Jvm.MethodName) prog_1_method_33_code (1 : Nat) (Option.some Jvm.ClassFile.FieldType.int)) ∈ lw_tbl := List.mem_of_getElem? (l := lw_tbl) (i := 1246) (by decide +kernel)
theorem tw_1072 : (Jvm.Cond.selects "MouthHouse" ({ cls := "MouthHouse", name := "back", desc := "()I" } : Jvm.MethodName) ({ cls := "MouthHouse", name := "back", desc := "()I" } : Jvm.MethodName)) ∈ lw_tbl := List.mem_of_getElem? (l := lw_tbl) (i := 1245) (by decide +kernel)
theorem tw_1071 : (Jvm.Cond.instanceMethod ({ cls := "MouthHouse", name := "back", desc := "()I" } : Jvm.MethodName)) ∈ lw_tbl := List.mem_of_getElem? (l := lw_tbl) (i := 1244) (by decide +kernel)
theorem mV_X11_back : am_mV m_X11_back 0 := ⟨⟨tw_1073, tw_1, by decide +kernel, ⟨by decide +kernel, by decide +kernel, by decide +kernel⟩, by decide⟩, tw_1071, tw_1072⟩
abbrev m_X11_count : am_M := (yX11_count, cX11_count, 2, some .int)
theorem tw_1077 : (Jvm.Cond.code ({ cls := "MouthHouse", name := "count", desc := "(I)I" } : Jvm.MethodName) prog_1_method_34_code (2 : Nat) (Option.some Jvm.ClassFile.FieldType.int)) ∈ lw_tbl := List.mem_of_getElem? (l := lw_tbl) (i := 1250) (by decide +kernel)
theorem tw_1076 : (Jvm.Cond.selects "MouthHouse" ({ cls := "MouthHouse", name := "count", desc := "(I)I" } : Jvm.MethodName) ({ cls := "MouthHouse", name := "count", desc := "(I)I" } : Jvm.MethodName)) ∈ lw_tbl := List.mem_of_getElem? (l := lw_tbl) (i := 1249) (by decide +kernel)
theorem tw_1075 : (Jvm.Cond.instanceMethod ({ cls := "MouthHouse", name := "count", desc := "(I)I" } : Jvm.MethodName)) ∈ lw_tbl := List.mem_of_getElem? (l := lw_tbl) (i := 1248) (by decide +kernel)
theorem mV_X11_count : am_mV m_X11_count 1 := ⟨⟨tw_1077, tw_1, by decide +kernel, ⟨by decide +kernel, by decide +kernel, by decide +kernel⟩, by decide⟩, tw_1075, tw_1076⟩
abbrev m_X7_passedOnes : am_M := (yX7_passedOnes, cX7_passedOnes, 3, some .int)
theorem tw_1082 : (Jvm.Cond.code ({ cls := "MouthHouse$Sittings", name := "passedOnes", desc := "()I" } : Jvm.MethodName) prog_9_method_8_code (3 : Nat) (Option.some Jvm.ClassFile.FieldType.int)) ∈ lw_tbl := List.mem_of_getElem? (l := lw_tbl) (i := 1255) (by decide +kernel)
theorem tw_1081 : (Jvm.Cond.instanceMethod ({ cls := "MouthHouse$Sittings", name := "passedOnes", desc := "()I" } : Jvm.MethodName)) ∈ lw_tbl := List.mem_of_getElem? (l := lw_tbl) (i := 1254) (by decide +kernel)
theorem mV_X7_passedOnes : am_mV m_X7_passedOnes 0 := ⟨⟨tw_1082, tw_12, by decide +kernel, ⟨by decide +kernel, by decide +kernel, by decide +kernel⟩, by decide⟩, tw_1081, List.mem_of_getElem? (l := lw_tbl) (i := 116) (by decide +kernel)⟩
abbrev m_X11_member : am_M := (yX11_member, cX11_member, 3, some .int)
theorem tw_1090 : (Jvm.Cond.code ({ cls := "MouthHouse", name := "member", desc := "(II)I" } : Jvm.MethodName) prog_1_method_8_code (3 : Nat) (Option.some Jvm.ClassFile.FieldType.int)) ∈ lw_tbl := List.mem_of_getElem? (l := lw_tbl) (i := 1263) (by decide +kernel)
theorem tw_1089 : (Jvm.Cond.selects "MouthHouse" ({ cls := "MouthHouse", name := "member", desc := "(II)I" } : Jvm.MethodName) ({ cls := "MouthHouse", name := "member", desc := "(II)I" } : Jvm.MethodName)) ∈ lw_tbl := List.mem_of_getElem? (l := lw_tbl) (i := 1262) (by decide +kernel)
theorem tw_1088 : (Jvm.Cond.instanceMethod ({ cls := "MouthHouse", name := "member", desc := "(II)I" } : Jvm.MethodName)) ∈ lw_tbl := List.mem_of_getElem? (l := lw_tbl) (i := 1261) (by decide +kernel)
theorem mV_X11_member : am_mV m_X11_member 2 := ⟨⟨tw_1090, tw_1, by decide +kernel, ⟨by decide +kernel, by decide +kernel, by decide +kernel⟩, by decide⟩, tw_1088, tw_1089⟩
abbrev m_X12_init : am_M := (yX12_init, cX12_init, 1, none)
theorem tw_1157 : (Jvm.Cond.code ({ cls := "MouthHouseModel", name := "<init>", desc := "()V" } : Jvm.MethodName) prog_14_method_3_code (1 : Nat) (Option.none : Option Jvm.ClassFile.FieldType)) ∈ lw_tbl := List.mem_of_getElem? (l := lw_tbl) (i := 1330) (by decide +kernel)
theorem tw_1156 : (Jvm.Cond.instanceMethod ({ cls := "MouthHouseModel", name := "<init>", desc := "()V" } : Jvm.MethodName)) ∈ lw_tbl := List.mem_of_getElem? (l := lw_tbl) (i := 1329) (by decide +kernel)
theorem mI_X12_init : am_mI m_X12_init 0 := ⟨⟨tw_1157, tw_13, by decide +kernel, ⟨by decide +kernel, by decide +kernel, by decide +kernel⟩, by decide⟩, rfl, tw_1156, rfl⟩
abbrev m_X12_thrown : am_M := (yX12_thrown, cX12_thrown, 1, some .int)
theorem tw_1316 : (Jvm.Cond.code ({ cls := "MouthHouseModel", name := "thrown", desc := "()I" } : Jvm.MethodName) prog_14_method_4_code (1 : Nat) (Option.some Jvm.ClassFile.FieldType.int)) ∈ lw_tbl := List.mem_of_getElem? (l := lw_tbl) (i := 1489) (by decide +kernel)
theorem tw_1315 : (Jvm.Cond.selects "MouthHouseModel" ({ cls := "MouthHouseModel", name := "thrown", desc := "()I" } : Jvm.MethodName) ({ cls := "MouthHouseModel", name := "thrown", desc := "()I" } : Jvm.MethodName)) ∈ lw_tbl := List.mem_of_getElem? (l := lw_tbl) (i := 1488) (by decide +kernel)
theorem tw_1314 : (Jvm.Cond.instanceMethod ({ cls := "MouthHouseModel", name := "thrown", desc := "()I" } : Jvm.MethodName)) ∈ lw_tbl := List.mem_of_getElem? (l := lw_tbl) (i := 1487) (by decide +kernel)
theorem mV_X12_thrown : am_mV m_X12_thrown 0 := ⟨⟨tw_1316, tw_13, by decide +kernel, ⟨by decide +kernel, by decide +kernel, by decide +kernel⟩, by decide⟩, tw_1314, tw_1315⟩
abbrev m_X12_feed : am_M := (yX12_feed, cX12_feed, 9, some .int)
theorem tw_1320 : (Jvm.Cond.code ({ cls := "MouthHouseModel", name := "feed", desc := "(IIIII)I" } : Jvm.MethodName) prog_14_method_6_code (9 : Nat) (Option.some Jvm.ClassFile.FieldType.int)) ∈ lw_tbl := List.mem_of_getElem? (l := lw_tbl) (i := 1493) (by decide +kernel)
theorem tw_1319 : (Jvm.Cond.selects "MouthHouseModel" ({ cls := "MouthHouseModel", name := "feed", desc := "(IIIII)I" } : Jvm.MethodName) ({ cls := "MouthHouseModel", name := "feed", desc := "(IIIII)I" } : Jvm.MethodName)) ∈ lw_tbl := List.mem_of_getElem? (l := lw_tbl) (i := 1492) (by decide +kernel)
theorem tw_1318 : (Jvm.Cond.instanceMethod ({ cls := "MouthHouseModel", name := "feed", desc := "(IIIII)I" } : Jvm.MethodName)) ∈ lw_tbl := List.mem_of_getElem? (l := lw_tbl) (i := 1491) (by decide +kernel)
theorem mV_X12_feed : am_mV m_X12_feed 5 := ⟨⟨tw_1320, tw_13, by decide +kernel, ⟨by decide +kernel, by decide +kernel, by decide +kernel⟩, by decide⟩, tw_1318, tw_1319⟩
abbrev m_X12_byteOf : am_M := (yX12_byteOf, cX12_byteOf, 7, some .int)
theorem tw_1323 : (Jvm.Cond.code ({ cls := "MouthHouseModel", name := "byteOf", desc := "(IIIIII)I" } : Jvm.MethodName) prog_14_method_5_code (7 : Nat) (Option.some Jvm.ClassFile.FieldType.int)) ∈ lw_tbl := List.mem_of_getElem? (l := lw_tbl) (i := 1496) (by decide +kernel)
theorem tw_1322 : (Jvm.Cond.static ({ cls := "MouthHouseModel", name := "byteOf", desc := "(IIIIII)I" } : Jvm.MethodName)) ∈ lw_tbl := List.mem_of_getElem? (l := lw_tbl) (i := 1495) (by decide +kernel)
theorem mS_X12_byteOf : am_mS m_X12_byteOf 6 := ⟨⟨tw_1323, tw_13, by decide +kernel, ⟨by decide +kernel, by decide +kernel, by decide +kernel⟩, by decide⟩, tw_1322⟩
abbrev m_X12_end : am_M := (yX12_end, cX12_end, 2, some .boolean)
theorem tw_1327 : (Jvm.Cond.code ({ cls := "MouthHouseModel", name := "end", desc := "(I)Z" } : Jvm.MethodName) prog_14_method_7_code (2 : Nat) (Option.some Jvm.ClassFile.FieldType.boolean)) ∈ lw_tbl := List.mem_of_getElem? (l := lw_tbl) (i := 1500) (by decide +kernel)
theorem tw_1326 : (Jvm.Cond.selects "MouthHouseModel" ({ cls := "MouthHouseModel", name := "end", desc := "(I)Z" } : Jvm.MethodName) ({ cls := "MouthHouseModel", name := "end", desc := "(I)Z" } : Jvm.MethodName)) ∈ lw_tbl := List.mem_of_getElem? (l := lw_tbl) (i := 1499) (by decide +kernel)
theorem tw_1325 : (Jvm.Cond.instanceMethod ({ cls := "MouthHouseModel", name := "end", desc := "(I)Z" } : Jvm.MethodName)) ∈ lw_tbl := List.mem_of_getElem? (l := lw_tbl) (i := 1498) (by decide +kernel)
theorem mV_X12_end : am_mV m_X12_end 1 := ⟨⟨tw_1327, tw_13, by decide +kernel, ⟨by decide +kernel, by decide +kernel, by decide +kernel⟩, by decide⟩, tw_1325, tw_1326⟩
abbrev m_X12_fault : am_M := (yX12_fault, cX12_fault, 2, some .int)
theorem tw_1331 : (Jvm.Cond.code ({ cls := "MouthHouseModel", name := "fault", desc := "(I)I" } : Jvm.MethodName) prog_14_method_40_code (2 : Nat) (Option.some Jvm.ClassFile.FieldType.int)) ∈ lw_tbl := List.mem_of_getElem? (l := lw_tbl) (i := 1504) (by decide +kernel)
theorem tw_1330 : (Jvm.Cond.selects "MouthHouseModel" ({ cls := "MouthHouseModel", name := "fault", desc := "(I)I" } : Jvm.MethodName) ({ cls := "MouthHouseModel", name := "fault", desc := "(I)I" } : Jvm.MethodName)) ∈ lw_tbl := List.mem_of_getElem? (l := lw_tbl) (i := 1503) (by decide +kernel)
theorem tw_1329 : (Jvm.Cond.instanceMethod ({ cls := "MouthHouseModel", name := "fault", desc := "(I)I" } : Jvm.MethodName)) ∈ lw_tbl := List.mem_of_getElem? (l := lw_tbl) (i := 1502) (by decide +kernel)
theorem mV_X12_fault : am_mV m_X12_fault 1 := ⟨⟨tw_1331, tw_13, by decide +kernel, ⟨by decide +kernel, by decide +kernel, by decide +kernel⟩, by decide⟩, tw_1329, tw_1330⟩
abbrev m_X12_readHouse : am_M := (yX12_readHouse, cX12_readHouse, 3, some .int)
theorem tw_1335 : (Jvm.Cond.code ({ cls := "MouthHouseModel", name := "readHouse", desc := "()I" } : Jvm.MethodName) prog_14_method_39_code (3 : Nat) (Option.some Jvm.ClassFile.FieldType.int)) ∈ lw_tbl := List.mem_of_getElem? (l := lw_tbl) (i := 1508) (by decide +kernel)
theorem tw_1334 : (Jvm.Cond.instanceMethod ({ cls := "MouthHouseModel", name := "readHouse", desc := "()I" } : Jvm.MethodName)) ∈ lw_tbl := List.mem_of_getElem? (l := lw_tbl) (i := 1507) (by decide +kernel)
theorem mV_X12_readHouse : am_mV m_X12_readHouse 0 := ⟨⟨tw_1335, tw_13, by decide +kernel, ⟨by decide +kernel, by decide +kernel, by decide +kernel⟩, by decide⟩, tw_1334, List.mem_of_getElem? (l := lw_tbl) (i := 118) (by decide +kernel)⟩
abbrev m_X12_look : am_M := (yX12_look, cX12_look, 1, some .int)
theorem tw_1339 : (Jvm.Cond.code ({ cls := "MouthHouseModel", name := "look", desc := "()I" } : Jvm.MethodName) prog_14_method_9_code (1 : Nat) (Option.some Jvm.ClassFile.FieldType.int)) ∈ lw_tbl := List.mem_of_getElem? (l := lw_tbl) (i := 1512) (by decide +kernel)
theorem tw_1338 : (Jvm.Cond.instanceMethod ({ cls := "MouthHouseModel", name := "look", desc := "()I" } : Jvm.MethodName)) ∈ lw_tbl := List.mem_of_getElem? (l := lw_tbl) (i := 1511) (by decide +kernel)
theorem mV_X12_look : am_mV m_X12_look 0 := ⟨⟨tw_1339, tw_13, by decide +kernel, ⟨by decide +kernel, by decide +kernel, by decide +kernel⟩, by decide⟩, tw_1338, List.mem_of_getElem? (l := lw_tbl) (i := 119) (by decide +kernel)⟩
abbrev m_X12_here : am_M := (yX12_here, cX12_here, 1, some .int)
theorem tw_1343 : (Jvm.Cond.code ({ cls := "MouthHouseModel", name := "here", desc := "()I" } : Jvm.MethodName) prog_14_method_8_code (1 : Nat) (Option.some Jvm.ClassFile.FieldType.int)) ∈ lw_tbl := List.mem_of_getElem? (l := lw_tbl) (i := 1516) (by decide +kernel)
theorem tw_1342 : (Jvm.Cond.instanceMethod ({ cls := "MouthHouseModel", name := "here", desc := "()I" } : Jvm.MethodName)) ∈ lw_tbl := List.mem_of_getElem? (l := lw_tbl) (i := 1515) (by decide +kernel)
theorem mV_X12_here : am_mV m_X12_here 0 := ⟨⟨tw_1343, tw_13, by decide +kernel, ⟨by decide +kernel, by decide +kernel, by decide +kernel⟩, by decide⟩, tw_1342, List.mem_of_getElem? (l := lw_tbl) (i := 120) (by decide +kernel)⟩
abbrev m_X12_memberText : am_M := (yX12_memberText, cX12_memberText, 4, none)
theorem tw_1347 : (Jvm.Cond.code ({ cls := "MouthHouseModel", name := "memberText", desc := "()V" } : Jvm.MethodName) prog_14_method_38_code (4 : Nat) (Option.none : Option Jvm.ClassFile.FieldType)) ∈ lw_tbl := List.mem_of_getElem? (l := lw_tbl) (i := 1520) (by decide +kernel)
theorem tw_1346 : (Jvm.Cond.instanceMethod ({ cls := "MouthHouseModel", name := "memberText", desc := "()V" } : Jvm.MethodName)) ∈ lw_tbl := List.mem_of_getElem? (l := lw_tbl) (i := 1519) (by decide +kernel)
theorem mV_X12_memberText : am_mV m_X12_memberText 0 := ⟨⟨tw_1347, tw_13, by decide +kernel, ⟨by decide +kernel, by decide +kernel, by decide +kernel⟩, by decide⟩, tw_1346, List.mem_of_getElem? (l := lw_tbl) (i := 121) (by decide +kernel)⟩
abbrev m_X12_usual : am_M := (yX12_usual, cX12_usual, 1, some .int)
theorem tw_1350 : (Jvm.Cond.code ({ cls := "MouthHouseModel", name := "usual", desc := "(I)I" } : Jvm.MethodName) prog_14_method_37_code (1 : Nat) (Option.some Jvm.ClassFile.FieldType.int)) ∈ lw_tbl := List.mem_of_getElem? (l := lw_tbl) (i := 1523) (by decide +kernel)
theorem tw_1349 : (Jvm.Cond.static ({ cls := "MouthHouseModel", name := "usual", desc := "(I)I" } : Jvm.MethodName)) ∈ lw_tbl := List.mem_of_getElem? (l := lw_tbl) (i := 1522) (by decide +kernel)
theorem mS_X12_usual : am_mS m_X12_usual 1 := ⟨⟨tw_1350, tw_13, by decide +kernel, ⟨by decide +kernel, by decide +kernel, by decide +kernel⟩, by decide⟩, tw_1349⟩
abbrev m_X12_itemOf : am_M := (yX12_itemOf, cX12_itemOf, 1, some .int)
theorem tw_1353 : (Jvm.Cond.code ({ cls := "MouthHouseModel", name := "itemOf", desc := "(I)I" } : Jvm.MethodName) prog_14_method_35_code (1 : Nat) (Option.some Jvm.ClassFile.FieldType.int)) ∈ lw_tbl := List.mem_of_getElem? (l := lw_tbl) (i := 1526) (by decide +kernel)
theorem tw_1352 : (Jvm.Cond.static ({ cls := "MouthHouseModel", name := "itemOf", desc := "(I)I" } : Jvm.MethodName)) ∈ lw_tbl := List.mem_of_getElem? (l := lw_tbl) (i := 1525) (by decide +kernel)
theorem mS_X12_itemOf : am_mS m_X12_itemOf 1 := ⟨⟨tw_1353, tw_13, by decide +kernel, ⟨by decide +kernel, by decide +kernel, by decide +kernel⟩, by decide⟩, tw_1352⟩
abbrev m_X12_has : am_M := (yX12_has, cX12_has, 2, some .boolean)
theorem tw_1356 : (Jvm.Cond.code ({ cls := "MouthHouseModel", name := "has", desc := "(II)Z" } : Jvm.MethodName) prog_14_method_2_code (2 : Nat) (Option.some Jvm.ClassFile.FieldType.boolean)) ∈ lw_tbl := List.mem_of_getElem? (l := lw_tbl) (i := 1529) (by decide +kernel)
theorem tw_1355 : (Jvm.Cond.static ({ cls := "MouthHouseModel", name := "has", desc := "(II)Z" } : Jvm.MethodName)) ∈ lw_tbl := List.mem_of_getElem? (l := lw_tbl) (i := 1528) (by decide +kernel)
theorem mS_X12_has : am_mS m_X12_has 2 := ⟨⟨tw_1356, tw_13, by decide +kernel, ⟨by decide +kernel, by decide +kernel, by decide +kernel⟩, by decide⟩, tw_1355⟩
abbrev m_X12_highest : am_M := (yX12_highest, cX12_highest, 1, some .int)
theorem tw_1359 : (Jvm.Cond.code ({ cls := "MouthHouseModel", name := "highest", desc := "(I)I" } : Jvm.MethodName) prog_14_method_36_code (1 : Nat) (Option.some Jvm.ClassFile.FieldType.int)) ∈ lw_tbl := List.mem_of_getElem? (l := lw_tbl) (i := 1532) (by decide +kernel)
theorem tw_1358 : (Jvm.Cond.static ({ cls := "MouthHouseModel", name := "highest", desc := "(I)I" } : Jvm.MethodName)) ∈ lw_tbl := List.mem_of_getElem? (l := lw_tbl) (i := 1531) (by decide +kernel)
theorem mS_X12_highest : am_mS m_X12_highest 1 := ⟨⟨tw_1359, tw_13, by decide +kernel, ⟨by decide +kernel, by decide +kernel, by decide +kernel⟩, by decide⟩, tw_1358⟩
abbrev m_X12_number : am_M := (yX12_number, cX12_number, 4, some .int)
theorem tw_1363 : (Jvm.Cond.code ({ cls := "MouthHouseModel", name := "number", desc := "(II)I" } : Jvm.MethodName) prog_14_method_34_code (4 : Nat) (Option.some Jvm.ClassFile.FieldType.int)) ∈ lw_tbl := List.mem_of_getElem? (l := lw_tbl) (i := 1536) (by decide +kernel)
theorem tw_1362 : (Jvm.Cond.instanceMethod ({ cls := "MouthHouseModel", name := "number", desc := "(II)I" } : Jvm.MethodName)) ∈ lw_tbl := List.mem_of_getElem? (l := lw_tbl) (i := 1535) (by decide +kernel)
theorem mV_X12_number : am_mV m_X12_number 2 := ⟨⟨tw_1363, tw_13, by decide +kernel, ⟨by decide +kernel, by decide +kernel, by decide +kernel⟩, by decide⟩, tw_1362, List.mem_of_getElem? (l := lw_tbl) (i := 122) (by decide +kernel)⟩
abbrev m_X12_isDigit : am_M := (yX12_isDigit, cX12_isDigit, 1, some .boolean)
theorem tw_1366 : (Jvm.Cond.code ({ cls := "MouthHouseModel", name := "isDigit", desc := "(I)Z" } : Jvm.MethodName) prog_14_method_11_code (1 : Nat) (Option.some Jvm.ClassFile.FieldType.boolean)) ∈ lw_tbl := List.mem_of_getElem? (l := lw_tbl) (i := 1539) (by decide +kernel)
theorem tw_1365 : (Jvm.Cond.static ({ cls := "MouthHouseModel", name := "isDigit", desc := "(I)Z" } : Jvm.MethodName)) ∈ lw_tbl := List.mem_of_getElem? (l := lw_tbl) (i := 1538) (by decide +kernel)
theorem mS_X12_isDigit : am_mS m_X12_isDigit 1 := ⟨⟨tw_1366, tw_13, by decide +kernel, ⟨by decide +kernel, by decide +kernel, by decide +kernel⟩, by decide⟩, tw_1365⟩
abbrev m_X12_bad : am_M := (yX12_bad, cX12_bad, 1, none)
theorem tw_1370 : (Jvm.Cond.code ({ cls := "MouthHouseModel", name := "bad", desc := "()V" } : Jvm.MethodName) prog_14_method_10_code (1 : Nat) (Option.none : Option Jvm.ClassFile.FieldType)) ∈ lw_tbl := List.mem_of_getElem? (l := lw_tbl) (i := 1543) (by decide +kernel)
theorem tw_1369 : (Jvm.Cond.instanceMethod ({ cls := "MouthHouseModel", name := "bad", desc := "()V" } : Jvm.MethodName)) ∈ lw_tbl := List.mem_of_getElem? (l := lw_tbl) (i := 1542) (by decide +kernel)
theorem mV_X12_bad : am_mV m_X12_bad 0 := ⟨⟨tw_1370, tw_13, by decide +kernel, ⟨by decide +kernel, by decide +kernel, by decide +kernel⟩, by decide⟩, tw_1369, List.mem_of_getElem? (l := lw_tbl) (i := 123) (by decide +kernel)⟩
abbrev m_X12_in : am_M := (yX12_in, cX12_in, 3, some .boolean)
theorem tw_1373 : (Jvm.Cond.code ({ cls := "MouthHouseModel", name := "in", desc := "(III)Z" } : Jvm.MethodName) prog_14_method_1_code (3 : Nat) (Option.some Jvm.ClassFile.FieldType.boolean)) ∈ lw_tbl := List.mem_of_getElem? (l := lw_tbl) (i := 1546) (by decide +kernel)
theorem tw_1372 : (Jvm.Cond.static ({ cls := "MouthHouseModel", name := "in", desc := "(III)Z" } : Jvm.MethodName)) ∈ lw_tbl := List.mem_of_getElem? (l := lw_tbl) (i := 1545) (by decide +kernel)
theorem mS_X12_in : am_mS m_X12_in 3 := ⟨⟨tw_1373, tw_13, by decide +kernel, ⟨by decide +kernel, by decide +kernel, by decide +kernel⟩, by decide⟩, tw_1372⟩
abbrev m_X12_readLaw : am_M := (yX12_readLaw, cX12_readLaw, 2, some .int)
theorem tw_1377 : (Jvm.Cond.code ({ cls := "MouthHouseModel", name := "readLaw", desc := "(I)I" } : Jvm.MethodName) prog_14_method_29_code (2 : Nat) (Option.some Jvm.ClassFile.FieldType.int)) ∈ lw_tbl := List.mem_of_getElem? (l := lw_tbl) (i := 1550) (by decide +kernel)
theorem tw_1376 : (Jvm.Cond.instanceMethod ({ cls := "MouthHouseModel", name := "readLaw", desc := "(I)I" } : Jvm.MethodName)) ∈ lw_tbl := List.mem_of_getElem? (l := lw_tbl) (i := 1549) (by decide +kernel)
theorem mV_X12_readLaw : am_mV m_X12_readLaw 1 := ⟨⟨tw_1377, tw_13, by decide +kernel, ⟨by decide +kernel, by decide +kernel, by decide +kernel⟩, by decide⟩, tw_1376, List.mem_of_getElem? (l := lw_tbl) (i := 124) (by decide +kernel)⟩
abbrev m_X12_open : am_M := (yX12_open, cX12_open, 2, none)
theorem tw_1381 : (Jvm.Cond.code ({ cls := "MouthHouseModel", name := "open", desc := "(I)V" } : Jvm.MethodName) prog_14_method_27_code (2 : Nat) (Option.none : Option Jvm.ClassFile.FieldType)) ∈ lw_tbl := List.mem_of_getElem? (l := lw_tbl) (i := 1554) (by decide +kernel)
theorem tw_1380 : (Jvm.Cond.instanceMethod ({ cls := "MouthHouseModel", name := "open", desc := "(I)V" } : Jvm.MethodName)) ∈ lw_tbl := List.mem_of_getElem? (l := lw_tbl) (i := 1553) (by decide +kernel)
theorem mV_X12_open : am_mV m_X12_open 1 := ⟨⟨tw_1381, tw_13, by decide +kernel, ⟨by decide +kernel, by decide +kernel, by decide +kernel⟩, by decide⟩, tw_1380, List.mem_of_getElem? (l := lw_tbl) (i := 125) (by decide +kernel)⟩
abbrev m_X12_clause : am_M := (yX12_clause, cX12_clause, 3, none)
theorem tw_1385 : (Jvm.Cond.code ({ cls := "MouthHouseModel", name := "clause", desc := "()V" } : Jvm.MethodName) prog_14_method_26_code (3 : Nat) (Option.none : Option Jvm.ClassFile.FieldType)) ∈ lw_tbl := List.mem_of_getElem? (l := lw_tbl) (i := 1558) (by decide +kernel)
theorem tw_1384 : (Jvm.Cond.instanceMethod ({ cls := "MouthHouseModel", name := "clause", desc := "()V" } : Jvm.MethodName)) ∈ lw_tbl := List.mem_of_getElem? (l := lw_tbl) (i := 1557) (by decide +kernel)
theorem mV_X12_clause : am_mV m_X12_clause 0 := ⟨⟨tw_1385, tw_13, by decide +kernel, ⟨by decide +kernel, by decide +kernel, by decide +kernel⟩, by decide⟩, tw_1384, List.mem_of_getElem? (l := lw_tbl) (i := 126) (by decide +kernel)⟩
abbrev m_X12_condition : am_M := (yX12_condition, cX12_condition, 1, none)
theorem tw_1389 : (Jvm.Cond.code ({ cls := "MouthHouseModel", name := "condition", desc := "()V" } : Jvm.MethodName) prog_14_method_25_code (1 : Nat) (Option.none : Option Jvm.ClassFile.FieldType)) ∈ lw_tbl := List.mem_of_getElem? (l := lw_tbl) (i := 1562) (by decide +kernel)
theorem tw_1388 : (Jvm.Cond.instanceMethod ({ cls := "MouthHouseModel", name := "condition", desc := "()V" } : Jvm.MethodName)) ∈ lw_tbl := List.mem_of_getElem? (l := lw_tbl) (i := 1561) (by decide +kernel)
theorem mV_X12_condition : am_mV m_X12_condition 0 := ⟨⟨tw_1389, tw_13, by decide +kernel, ⟨by decide +kernel, by decide +kernel, by decide +kernel⟩, by decide⟩, tw_1388, List.mem_of_getElem? (l := lw_tbl) (i := 127) (by decide +kernel)⟩
abbrev m_X12_unit : am_M := (yX12_unit, cX12_unit, 2, none)
theorem tw_1393 : (Jvm.Cond.code ({ cls := "MouthHouseModel", name := "unit", desc := "()V" } : Jvm.MethodName) prog_14_method_22_code (2 : Nat) (Option.none : Option Jvm.ClassFile.FieldType)) ∈ lw_tbl := List.mem_of_getElem? (l := lw_tbl) (i := 1566) (by decide +kernel)
theorem tw_1392 : (Jvm.Cond.instanceMethod ({ cls := "MouthHouseModel", name := "unit", desc := "()V" } : Jvm.MethodName)) ∈ lw_tbl := List.mem_of_getElem? (l := lw_tbl) (i := 1565) (by decide +kernel)
theorem mV_X12_unit : am_mV m_X12_unit 0 := ⟨⟨tw_1393, tw_13, by decide +kernel, ⟨by decide +kernel, by decide +kernel, by decide +kernel⟩, by decide⟩, tw_1392, List.mem_of_getElem? (l := lw_tbl) (i := 128) (by decide +kernel)⟩
abbrev m_X12_opens : am_M := (yX12_opens, cX12_opens, 1, none)
theorem tw_1397 : (Jvm.Cond.code ({ cls := "MouthHouseModel", name := "opens", desc := "()V" } : Jvm.MethodName) prog_14_method_14_code (1 : Nat) (Option.none : Option Jvm.ClassFile.FieldType)) ∈ lw_tbl := List.mem_of_getElem? (l := lw_tbl) (i := 1570) (by decide +kernel)
theorem tw_1396 : (Jvm.Cond.instanceMethod ({ cls := "MouthHouseModel", name := "opens", desc := "()V" } : Jvm.MethodName)) ∈ lw_tbl := List.mem_of_getElem? (l := lw_tbl) (i := 1569) (by decide +kernel)
theorem mV_X12_opens : am_mV m_X12_opens 0 := ⟨⟨tw_1397, tw_13, by decide +kernel, ⟨by decide +kernel, by decide +kernel, by decide +kernel⟩, by decide⟩, tw_1396, List.mem_of_getElem? (l := lw_tbl) (i := 129) (by decide +kernel)⟩
abbrev m_X12_put : am_M := (yX12_put, cX12_put, 3, none)
theorem tw_1401 : (Jvm.Cond.code ({ cls := "MouthHouseModel", name := "put", desc := "(II)V" } : Jvm.MethodName) prog_14_method_12_code (3 : Nat) (Option.none : Option Jvm.ClassFile.FieldType)) ∈ lw_tbl := List.mem_of_getElem? (l := lw_tbl) (i := 1574) (by decide +kernel)
theorem tw_1400 : (Jvm.Cond.instanceMethod ({ cls := "MouthHouseModel", name := "put", desc := "(II)V" } : Jvm.MethodName)) ∈ lw_tbl := List.mem_of_getElem? (l := lw_tbl) (i := 1573) (by decide +kernel)
theorem mV_X12_put : am_mV m_X12_put 2 := ⟨⟨tw_1401, tw_13, by decide +kernel, ⟨by decide +kernel, by decide +kernel, by decide +kernel⟩, by decide⟩, tw_1400, List.mem_of_getElem? (l := lw_tbl) (i := 130) (by decide +kernel)⟩
abbrev m_X12_closes : am_M := (yX12_closes, cX12_closes, 2, none)
theorem tw_1405 : (Jvm.Cond.code ({ cls := "MouthHouseModel", name := "closes", desc := "(I)V" } : Jvm.MethodName) prog_14_method_15_code (2 : Nat) (Option.none : Option Jvm.ClassFile.FieldType)) ∈ lw_tbl := List.mem_of_getElem? (l := lw_tbl) (i := 1578) (by decide +kernel)
theorem tw_1404 : (Jvm.Cond.instanceMethod ({ cls := "MouthHouseModel", name := "closes", desc := "(I)V" } : Jvm.MethodName)) ∈ lw_tbl := List.mem_of_getElem? (l := lw_tbl) (i := 1577) (by decide +kernel)
theorem mV_X12_closes : am_mV m_X12_closes 1 := ⟨⟨tw_1405, tw_13, by decide +kernel, ⟨by decide +kernel, by decide +kernel, by decide +kernel⟩, by decide⟩, tw_1404, List.mem_of_getElem? (l := lw_tbl) (i := 131) (by decide +kernel)⟩
abbrev m_X12_sum : am_M := (yX12_sum, cX12_sum, 2, none)
theorem tw_1409 : (Jvm.Cond.code ({ cls := "MouthHouseModel", name := "sum", desc := "()V" } : Jvm.MethodName) prog_14_method_19_code (2 : Nat) (Option.none : Option Jvm.ClassFile.FieldType)) ∈ lw_tbl := List.mem_of_getElem? (l := lw_tbl) (i := 1582) (by decide +kernel)
theorem tw_1408 : (Jvm.Cond.instanceMethod ({ cls := "MouthHouseModel", name := "sum", desc := "()V" } : Jvm.MethodName)) ∈ lw_tbl := List.mem_of_getElem? (l := lw_tbl) (i := 1581) (by decide +kernel)
theorem mV_X12_sum : am_mV m_X12_sum 0 := ⟨⟨tw_1409, tw_13, by decide +kernel, ⟨by decide +kernel, by decide +kernel, by decide +kernel⟩, by decide⟩, tw_1408, List.mem_of_getElem? (l := lw_tbl) (i := 132) (by decide +kernel)⟩
abbrev m_X12_term : am_M := (yX12_term, cX12_term, 2, none)
theorem tw_1413 : (Jvm.Cond.code ({ cls := "MouthHouseModel", name := "term", desc := "()V" } : Jvm.MethodName) prog_14_method_18_code (2 : Nat) (Option.none : Option Jvm.ClassFile.FieldType)) ∈ lw_tbl := List.mem_of_getElem? (l := lw_tbl) (i := 1586) (by decide +kernel)
theorem tw_1412 : (Jvm.Cond.instanceMethod ({ cls := "MouthHouseModel", name := "term", desc := "()V" } : Jvm.MethodName)) ∈ lw_tbl := List.mem_of_getElem? (l := lw_tbl) (i := 1585) (by decide +kernel)
theorem mV_X12_term : am_mV m_X12_term 0 := ⟨⟨tw_1413, tw_13, by decide +kernel, ⟨by decide +kernel, by decide +kernel, by decide +kernel⟩, by decide⟩, tw_1412, List.mem_of_getElem? (l := lw_tbl) (i := 133) (by decide +kernel)⟩
abbrev m_X12_atom : am_M := (yX12_atom, cX12_atom, 2, none)
theorem tw_1417 : (Jvm.Cond.code ({ cls := "MouthHouseModel", name := "atom", desc := "()V" } : Jvm.MethodName) prog_14_method_17_code (2 : Nat) (Option.none : Option Jvm.ClassFile.FieldType)) ∈ lw_tbl := List.mem_of_getElem? (l := lw_tbl) (i := 1590) (by decide +kernel)
theorem tw_1416 : (Jvm.Cond.instanceMethod ({ cls := "MouthHouseModel", name := "atom", desc := "()V" } : Jvm.MethodName)) ∈ lw_tbl := List.mem_of_getElem? (l := lw_tbl) (i := 1589) (by decide +kernel)
theorem mV_X12_atom : am_mV m_X12_atom 0 := ⟨⟨tw_1417, tw_13, by decide +kernel, ⟨by decide +kernel, by decide +kernel, by decide +kernel⟩, by decide⟩, tw_1416, List.mem_of_getElem? (l := lw_tbl) (i := 134) (by decide +kernel)⟩
abbrev m_X12_plainNumber : am_M := (yX12_plainNumber, cX12_plainNumber, 3, some .int)
theorem tw_1421 : (Jvm.Cond.code ({ cls := "MouthHouseModel", name := "plainNumber", desc := "()I" } : Jvm.MethodName) prog_14_method_16_code (3 : Nat) (Option.some Jvm.ClassFile.FieldType.int)) ∈ lw_tbl := List.mem_of_getElem? (l := lw_tbl) (i := 1594) (by decide +kernel)
theorem tw_1420 : (Jvm.Cond.instanceMethod ({ cls := "MouthHouseModel", name := "plainNumber", desc := "()I" } : Jvm.MethodName)) ∈ lw_tbl := List.mem_of_getElem? (l := lw_tbl) (i := 1593) (by decide +kernel)
theorem mV_X12_plainNumber : am_mV m_X12_plainNumber 0 := ⟨⟨tw_1421, tw_13, by decide +kernel, ⟨by decide +kernel, by decide +kernel, by decide +kernel⟩, by decide⟩, tw_1420, List.mem_of_getElem? (l := lw_tbl) (i := 135) (by decide +kernel)⟩
abbrev m_X12_letterOf : am_M := (yX12_letterOf, cX12_letterOf, 1, some .int)
theorem tw_1424 : (Jvm.Cond.code ({ cls := "MouthHouseModel", name := "letterOf", desc := "(I)I" } : Jvm.MethodName) prog_14_method_13_code (1 : Nat) (Option.some Jvm.ClassFile.FieldType.int)) ∈ lw_tbl := List.mem_of_getElem? (l := lw_tbl) (i := 1597) (by decide +kernel)
