theorem tw_892 : (Jvm.Cond.code ({ cls := "MouthHouse$Best", name := "roundScore", desc := "(I)I" } : Jvm.MethodName) prog_2_method_19_code (6 : Nat) (Option.some Jvm.ClassFile.FieldType.int)) ∈ lw_tbl := List.mem_of_getElem? (l := lw_tbl) (i := 1065) (by decide +kernel)
theorem tw_891 : (Jvm.Cond.instanceMethod ({ cls := "MouthHouse$Best", name := "roundScore", desc := "(I)I" } : Jvm.MethodName)) ∈ lw_tbl := List.mem_of_getElem? (l := lw_tbl) (i := 1064) (by decide +kernel)
theorem mV_X0_roundScore : am_mV m_X0_roundScore 1 := ⟨⟨tw_892, tw_9, by decide +kernel, ⟨by decide +kernel, by decide +kernel, by decide +kernel⟩, by decide⟩, tw_891, List.mem_of_getElem? (l := lw_tbl) (i := 85) (by decide +kernel)⟩
abbrev m_X0_keptWorth : am_M := (yX0_keptWorth, cX0_keptWorth, 5, some .int)
theorem tw_897 : (Jvm.Cond.code ({ cls := "MouthHouse$Best", name := "keptWorth", desc := "(III)I" } : Jvm.MethodName) prog_2_method_11_code (5 : Nat) (Option.some Jvm.ClassFile.FieldType.int)) ∈ lw_tbl := List.mem_of_getElem? (l := lw_tbl) (i := 1070) (by decide +kernel)
theorem tw_896 : (Jvm.Cond.instanceMethod ({ cls := "MouthHouse$Best", name := "keptWorth", desc := "(III)I" } : Jvm.MethodName)) ∈ lw_tbl := List.mem_of_getElem? (l := lw_tbl) (i := 1069) (by decide +kernel)
theorem mV_X0_keptWorth : am_mV m_X0_keptWorth 3 := ⟨⟨tw_897, tw_9, by decide +kernel, ⟨by decide +kernel, by decide +kernel, by decide +kernel⟩, by decide⟩, tw_896, List.mem_of_getElem? (l := lw_tbl) (i := 86) (by decide +kernel)⟩
abbrev m_X0_judge : am_M := (yX0_judge, cX0_judge, 3, none)
theorem tw_901 : (Jvm.Cond.code ({ cls := "MouthHouse$Best", name := "judge", desc := "(I)V" } : Jvm.MethodName) prog_2_method_13_code (3 : Nat) (Option.none : Option Jvm.ClassFile.FieldType)) ∈ lw_tbl := List.mem_of_getElem? (l := lw_tbl) (i := 1074) (by decide +kernel)
theorem tw_900 : (Jvm.Cond.instanceMethod ({ cls := "MouthHouse$Best", name := "judge", desc := "(I)V" } : Jvm.MethodName)) ∈ lw_tbl := List.mem_of_getElem? (l := lw_tbl) (i := 1073) (by decide +kernel)
theorem mV_X0_judge : am_mV m_X0_judge 1 := ⟨⟨tw_901, tw_9, by decide +kernel, ⟨by decide +kernel, by decide +kernel, by decide +kernel⟩, by decide⟩, tw_900, List.mem_of_getElem? (l := lw_tbl) (i := 87) (by decide +kernel)⟩
abbrev m_X0_gain : am_M := (yX0_gain, cX0_gain, 5, some .int)
theorem tw_905 : (Jvm.Cond.code ({ cls := "MouthHouse$Best", name := "gain", desc := "(IIII)I" } : Jvm.MethodName) prog_2_method_14_code (5 : Nat) (Option.some Jvm.ClassFile.FieldType.int)) ∈ lw_tbl := List.mem_of_getElem? (l := lw_tbl) (i := 1078) (by decide +kernel)
theorem tw_904 : (Jvm.Cond.instanceMethod ({ cls := "MouthHouse$Best", name := "gain", desc := "(IIII)I" } : Jvm.MethodName)) ∈ lw_tbl := List.mem_of_getElem? (l := lw_tbl) (i := 1077) (by decide +kernel)
theorem mV_X0_gain : am_mV m_X0_gain 4 := ⟨⟨tw_905, tw_9, by decide +kernel, ⟨by decide +kernel, by decide +kernel, by decide +kernel⟩, by decide⟩, tw_904, List.mem_of_getElem? (l := lw_tbl) (i := 88) (by decide +kernel)⟩
abbrev m_X0_hope : am_M := (yX0_hope, cX0_hope, 5, some .int)
theorem tw_909 : (Jvm.Cond.code ({ cls := "MouthHouse$Best", name := "hope", desc := "(IIII)I" } : Jvm.MethodName) prog_2_method_16_code (5 : Nat) (Option.some Jvm.ClassFile.FieldType.int)) ∈ lw_tbl := List.mem_of_getElem? (l := lw_tbl) (i := 1082) (by decide +kernel)
theorem tw_908 : (Jvm.Cond.instanceMethod ({ cls := "MouthHouse$Best", name := "hope", desc := "(IIII)I" } : Jvm.MethodName)) ∈ lw_tbl := List.mem_of_getElem? (l := lw_tbl) (i := 1081) (by decide +kernel)
theorem mV_X0_hope : am_mV m_X0_hope 4 := ⟨⟨tw_909, tw_9, by decide +kernel, ⟨by decide +kernel, by decide +kernel, by decide +kernel⟩, by decide⟩, tw_908, List.mem_of_getElem? (l := lw_tbl) (i := 89) (by decide +kernel)⟩
abbrev m_X0_seatingFor : am_M := (yX0_seatingFor, cX0_seatingFor, 2, some .int)
theorem tw_913 : (Jvm.Cond.code ({ cls := "MouthHouse$Best", name := "seatingFor", desc := "(I)I" } : Jvm.MethodName) prog_2_method_6_code (2 : Nat) (Option.some Jvm.ClassFile.FieldType.int)) ∈ lw_tbl := List.mem_of_getElem? (l := lw_tbl) (i := 1086) (by decide +kernel)
theorem tw_912 : (Jvm.Cond.instanceMethod ({ cls := "MouthHouse$Best", name := "seatingFor", desc := "(I)I" } : Jvm.MethodName)) ∈ lw_tbl := List.mem_of_getElem? (l := lw_tbl) (i := 1085) (by decide +kernel)
theorem mV_X0_seatingFor : am_mV m_X0_seatingFor 1 := ⟨⟨tw_913, tw_9, by decide +kernel, ⟨by decide +kernel, by decide +kernel, by decide +kernel⟩, by decide⟩, tw_912, List.mem_of_getElem? (l := lw_tbl) (i := 90) (by decide +kernel)⟩
abbrev m_X0_muchFor : am_M := (yX0_muchFor, cX0_muchFor, 2, some .int)
theorem tw_918 : (Jvm.Cond.code ({ cls := "MouthHouse$Best", name := "muchFor", desc := "(I)I" } : Jvm.MethodName) prog_2_method_7_code (2 : Nat) (Option.some Jvm.ClassFile.FieldType.int)) ∈ lw_tbl := List.mem_of_getElem? (l := lw_tbl) (i := 1091) (by decide +kernel)
theorem tw_917 : (Jvm.Cond.instanceMethod ({ cls := "MouthHouse$Best", name := "muchFor", desc := "(I)I" } : Jvm.MethodName)) ∈ lw_tbl := List.mem_of_getElem? (l := lw_tbl) (i := 1090) (by decide +kernel)
theorem mV_X0_muchFor : am_mV m_X0_muchFor 1 := ⟨⟨tw_918, tw_9, by decide +kernel, ⟨by decide +kernel, by decide +kernel, by decide +kernel⟩, by decide⟩, tw_917, List.mem_of_getElem? (l := lw_tbl) (i := 91) (by decide +kernel)⟩
abbrev m_X11_changes : am_M := (yX11_changes, cX11_changes, 2, some .int)
theorem tw_922 : (Jvm.Cond.code ({ cls := "MouthHouse", name := "changes", desc := "(I)I" } : Jvm.MethodName) prog_1_method_24_code (2 : Nat) (Option.some Jvm.ClassFile.FieldType.int)) ∈ lw_tbl := List.mem_of_getElem? (l := lw_tbl) (i := 1095) (by decide +kernel)
theorem tw_921 : (Jvm.Cond.selects "MouthHouse" ({ cls := "MouthHouse", name := "changes", desc := "(I)I" } : Jvm.MethodName) ({ cls := "MouthHouse", name := "changes", desc := "(I)I" } : Jvm.MethodName)) ∈ lw_tbl := List.mem_of_getElem? (l := lw_tbl) (i := 1094) (by decide +kernel)
theorem tw_920 : (Jvm.Cond.instanceMethod ({ cls := "MouthHouse", name := "changes", desc := "(I)I" } : Jvm.MethodName)) ∈ lw_tbl := List.mem_of_getElem? (l := lw_tbl) (i := 1093) (by decide +kernel)
theorem mV_X11_changes : am_mV m_X11_changes 1 := ⟨⟨tw_922, tw_1, by decide +kernel, ⟨by decide +kernel, by decide +kernel, by decide +kernel⟩, by decide⟩, tw_920, tw_921⟩
abbrev m_X1_search : am_M := (yX1_search, cX1_search, 2, none)
theorem tw_926 : (Jvm.Cond.code ({ cls := "MouthHouse$Changes", name := "search", desc := "()V" } : Jvm.MethodName) prog_3_method_3_code (2 : Nat) (Option.none : Option Jvm.ClassFile.FieldType)) ∈ lw_tbl := List.mem_of_getElem? (l := lw_tbl) (i := 1099) (by decide +kernel)
theorem tw_925 : (Jvm.Cond.instanceMethod ({ cls := "MouthHouse$Changes", name := "search", desc := "()V" } : Jvm.MethodName)) ∈ lw_tbl := List.mem_of_getElem? (l := lw_tbl) (i := 1098) (by decide +kernel)
theorem mV_X1_search : am_mV m_X1_search 0 := ⟨⟨tw_926, tw_11, by decide +kernel, ⟨by decide +kernel, by decide +kernel, by decide +kernel⟩, by decide⟩, tw_925, List.mem_of_getElem? (l := lw_tbl) (i := 92) (by decide +kernel)⟩
abbrev m_X1_canBeOrdered : am_M := (yX1_canBeOrdered, cX1_canBeOrdered, 6, some .boolean)
theorem tw_931 : (Jvm.Cond.code ({ cls := "MouthHouse$Changes", name := "canBeOrdered", desc := "(III)Z" } : Jvm.MethodName) prog_3_method_4_code (6 : Nat) (Option.some Jvm.ClassFile.FieldType.boolean)) ∈ lw_tbl := List.mem_of_getElem? (l := lw_tbl) (i := 1104) (by decide +kernel)
theorem tw_930 : (Jvm.Cond.instanceMethod ({ cls := "MouthHouse$Changes", name := "canBeOrdered", desc := "(III)Z" } : Jvm.MethodName)) ∈ lw_tbl := List.mem_of_getElem? (l := lw_tbl) (i := 1103) (by decide +kernel)
theorem mV_X1_canBeOrdered : am_mV m_X1_canBeOrdered 3 := ⟨⟨tw_931, tw_11, by decide +kernel, ⟨by decide +kernel, by decide +kernel, by decide +kernel⟩, by decide⟩, tw_930, List.mem_of_getElem? (l := lw_tbl) (i := 93) (by decide +kernel)⟩
abbrev m_X1_goThrough : am_M := (yX1_goThrough, cX1_goThrough, 5, none)
theorem tw_936 : (Jvm.Cond.code ({ cls := "MouthHouse$Changes", name := "goThrough", desc := "()V" } : Jvm.MethodName) prog_3_method_5_code (5 : Nat) (Option.none : Option Jvm.ClassFile.FieldType)) ∈ lw_tbl := List.mem_of_getElem? (l := lw_tbl) (i := 1109) (by decide +kernel)
theorem tw_935 : (Jvm.Cond.instanceMethod ({ cls := "MouthHouse$Changes", name := "goThrough", desc := "()V" } : Jvm.MethodName)) ∈ lw_tbl := List.mem_of_getElem? (l := lw_tbl) (i := 1108) (by decide +kernel)
theorem mV_X1_goThrough : am_mV m_X1_goThrough 0 := ⟨⟨tw_936, tw_11, by decide +kernel, ⟨by decide +kernel, by decide +kernel, by decide +kernel⟩, by decide⟩, tw_935, List.mem_of_getElem? (l := lw_tbl) (i := 94) (by decide +kernel)⟩
abbrev m_J7_fill_d0a16 : am_M := (yJ7_fill_d0a16, cJ7_fill_d0a16, 5, none)
theorem tw_939 : (Jvm.Cond.code ({ cls := "java/util/Arrays", name := "fill", desc := "([JJ)V" } : Jvm.MethodName) prog_22_method_101_code (5 : Nat) (Option.none : Option Jvm.ClassFile.FieldType)) ∈ lw_tbl := List.mem_of_getElem? (l := lw_tbl) (i := 1112) (by decide +kernel)
theorem tw_938 : (Jvm.Cond.static ({ cls := "java/util/Arrays", name := "fill", desc := "([JJ)V" } : Jvm.MethodName)) ∈ lw_tbl := List.mem_of_getElem? (l := lw_tbl) (i := 1111) (by decide +kernel)
theorem mS_J7_fill_d0a16 : am_mS m_J7_fill_d0a16 2 := ⟨⟨tw_939, tw_21, by decide +kernel, ⟨by decide +kernel, by decide +kernel, by decide +kernel⟩, by decide⟩, tw_938⟩
abbrev m_X6_copyFrom : am_M := (yX6_copyFrom, cX6_copyFrom, 2, none)
theorem tw_943 : (Jvm.Cond.code ({ cls := "MouthHouse$Seating", name := "copyFrom", desc := "(LMouthHouse$Seating;)V" } : Jvm.MethodName) prog_8_method_3_code (2 : Nat) (Option.none : Option Jvm.ClassFile.FieldType)) ∈ lw_tbl := List.mem_of_getElem? (l := lw_tbl) (i := 1116) (by decide +kernel)
theorem tw_942 : (Jvm.Cond.instanceMethod ({ cls := "MouthHouse$Seating", name := "copyFrom", desc := "(LMouthHouse$Seating;)V" } : Jvm.MethodName)) ∈ lw_tbl := List.mem_of_getElem? (l := lw_tbl) (i := 1115) (by decide +kernel)
theorem mV_X6_copyFrom : am_mV m_X6_copyFrom 1 := ⟨⟨tw_943, tw_6, by decide +kernel, ⟨by decide +kernel, by decide +kernel, by decide +kernel⟩, by decide⟩, tw_942, List.mem_of_getElem? (l := lw_tbl) (i := 95) (by decide +kernel)⟩
abbrev m_X1_reach : am_M := (yX1_reach, cX1_reach, 4, none)
theorem tw_948 : (Jvm.Cond.code ({ cls := "MouthHouse$Changes", name := "reach", desc := "()V" } : Jvm.MethodName) prog_3_method_8_code (4 : Nat) (Option.none : Option Jvm.ClassFile.FieldType)) ∈ lw_tbl := List.mem_of_getElem? (l := lw_tbl) (i := 1121) (by decide +kernel)
theorem tw_947 : (Jvm.Cond.instanceMethod ({ cls := "MouthHouse$Changes", name := "reach", desc := "()V" } : Jvm.MethodName)) ∈ lw_tbl := List.mem_of_getElem? (l := lw_tbl) (i := 1120) (by decide +kernel)
theorem mV_X1_reach : am_mV m_X1_reach 0 := ⟨⟨tw_948, tw_11, by decide +kernel, ⟨by decide +kernel, by decide +kernel, by decide +kernel⟩, by decide⟩, tw_947, List.mem_of_getElem? (l := lw_tbl) (i := 96) (by decide +kernel)⟩
abbrev m_X1_rankOfTrial : am_M := (yX1_rankOfTrial, cX1_rankOfTrial, 5, some .int)
theorem tw_952 : (Jvm.Cond.code ({ cls := "MouthHouse$Changes", name := "rankOfTrial", desc := "()I" } : Jvm.MethodName) prog_3_method_9_code (5 : Nat) (Option.some Jvm.ClassFile.FieldType.int)) ∈ lw_tbl := List.mem_of_getElem? (l := lw_tbl) (i := 1125) (by decide +kernel)
theorem tw_951 : (Jvm.Cond.instanceMethod ({ cls := "MouthHouse$Changes", name := "rankOfTrial", desc := "()I" } : Jvm.MethodName)) ∈ lw_tbl := List.mem_of_getElem? (l := lw_tbl) (i := 1124) (by decide +kernel)
theorem mV_X1_rankOfTrial : am_mV m_X1_rankOfTrial 0 := ⟨⟨tw_952, tw_11, by decide +kernel, ⟨by decide +kernel, by decide +kernel, by decide +kernel⟩, by decide⟩, tw_951, List.mem_of_getElem? (l := lw_tbl) (i := 97) (by decide +kernel)⟩
abbrev m_X6_digits : am_M := (yX6_digits, cX6_digits, 3, some .int)
theorem tw_958 : (Jvm.Cond.code ({ cls := "MouthHouse$Seating", name := "digits", desc := "()I" } : Jvm.MethodName) prog_8_method_11_code (3 : Nat) (Option.some Jvm.ClassFile.FieldType.int)) ∈ lw_tbl := List.mem_of_getElem? (l := lw_tbl) (i := 1131) (by decide +kernel)
theorem tw_957 : (Jvm.Cond.instanceMethod ({ cls := "MouthHouse$Seating", name := "digits", desc := "()I" } : Jvm.MethodName)) ∈ lw_tbl := List.mem_of_getElem? (l := lw_tbl) (i := 1130) (by decide +kernel)
theorem mV_X6_digits : am_mV m_X6_digits 0 := ⟨⟨tw_958, tw_6, by decide +kernel, ⟨by decide +kernel, by decide +kernel, by decide +kernel⟩, by decide⟩, tw_957, List.mem_of_getElem? (l := lw_tbl) (i := 98) (by decide +kernel)⟩
abbrev m_X1_leastGood : am_M := (yX1_leastGood, cX1_leastGood, 5, some .int)
theorem tw_962 : (Jvm.Cond.code ({ cls := "MouthHouse$Changes", name := "leastGood", desc := "(II)I" } : Jvm.MethodName) prog_3_method_6_code (5 : Nat) (Option.some Jvm.ClassFile.FieldType.int)) ∈ lw_tbl := List.mem_of_getElem? (l := lw_tbl) (i := 1135) (by decide +kernel)
theorem tw_961 : (Jvm.Cond.instanceMethod ({ cls := "MouthHouse$Changes", name := "leastGood", desc := "(II)I" } : Jvm.MethodName)) ∈ lw_tbl := List.mem_of_getElem? (l := lw_tbl) (i := 1134) (by decide +kernel)
theorem mV_X1_leastGood : am_mV m_X1_leastGood 2 := ⟨⟨tw_962, tw_11, by decide +kernel, ⟨by decide +kernel, by decide +kernel, by decide +kernel⟩, by decide⟩, tw_961, List.mem_of_getElem? (l := lw_tbl) (i := 99) (by decide +kernel)⟩
abbrev m_X8_isAllHeard : am_M := (yX8_isAllHeard, cX8_isAllHeard, 3, some .boolean)
theorem tw_968 : (Jvm.Cond.code ({ cls := "MouthHouse$Talk", name := "isAllHeard", desc := "()Z" } : Jvm.MethodName) prog_10_method_6_code (3 : Nat) (Option.some Jvm.ClassFile.FieldType.boolean)) ∈ lw_tbl := List.mem_of_getElem? (l := lw_tbl) (i := 1141) (by decide +kernel)
theorem tw_967 : (Jvm.Cond.instanceMethod ({ cls := "MouthHouse$Talk", name := "isAllHeard", desc := "()Z" } : Jvm.MethodName)) ∈ lw_tbl := List.mem_of_getElem? (l := lw_tbl) (i := 1140) (by decide +kernel)
theorem mV_X8_isAllHeard : am_mV m_X8_isAllHeard 0 := ⟨⟨tw_968, tw_7, by decide +kernel, ⟨by decide +kernel, by decide +kernel, by decide +kernel⟩, by decide⟩, tw_967, List.mem_of_getElem? (l := lw_tbl) (i := 100) (by decide +kernel)⟩
abbrev m_X1_exchangeAll : am_M := (yX1_exchangeAll, cX1_exchangeAll, 4, none)
theorem tw_972 : (Jvm.Cond.code ({ cls := "MouthHouse$Changes", name := "exchangeAll", desc := "(I)V" } : Jvm.MethodName) prog_3_method_7_code (4 : Nat) (Option.none : Option Jvm.ClassFile.FieldType)) ∈ lw_tbl := List.mem_of_getElem? (l := lw_tbl) (i := 1145) (by decide +kernel)
theorem tw_971 : (Jvm.Cond.instanceMethod ({ cls := "MouthHouse$Changes", name := "exchangeAll", desc := "(I)V" } : Jvm.MethodName)) ∈ lw_tbl := List.mem_of_getElem? (l := lw_tbl) (i := 1144) (by decide +kernel)
theorem mV_X1_exchangeAll : am_mV m_X1_exchangeAll 1 := ⟨⟨tw_972, tw_11, by decide +kernel, ⟨by decide +kernel, by decide +kernel, by decide +kernel⟩, by decide⟩, tw_971, List.mem_of_getElem? (l := lw_tbl) (i := 101) (by decide +kernel)⟩
abbrev m_X11_know : am_M := (yX11_know, cX11_know, 3, some .int)
theorem tw_978 : (Jvm.Cond.code ({ cls := "MouthHouse", name := "know", desc := "(IZ)I" } : Jvm.MethodName) prog_1_method_25_code (3 : Nat) (Option.some Jvm.ClassFile.FieldType.int)) ∈ lw_tbl := List.mem_of_getElem? (l := lw_tbl) (i := 1151) (by decide +kernel)
theorem tw_977 : (Jvm.Cond.selects "MouthHouse" ({ cls := "MouthHouse", name := "know", desc := "(IZ)I" } : Jvm.MethodName) ({ cls := "MouthHouse", name := "know", desc := "(IZ)I" } : Jvm.MethodName)) ∈ lw_tbl := List.mem_of_getElem? (l := lw_tbl) (i := 1150) (by decide +kernel)
theorem tw_976 : (Jvm.Cond.instanceMethod ({ cls := "MouthHouse", name := "know", desc := "(IZ)I" } : Jvm.MethodName)) ∈ lw_tbl := List.mem_of_getElem? (l := lw_tbl) (i := 1149) (by decide +kernel)
theorem mV_X11_know : am_mV m_X11_know 2 := ⟨⟨tw_978, tw_1, by decide +kernel, ⟨by decide +kernel, by decide +kernel, by decide +kernel⟩, by decide⟩, tw_976, tw_977⟩
abbrev m_X10_learn : am_M := (yX10_learn, cX10_learn, 3, some .int)
theorem tw_982 : (Jvm.Cond.code ({ cls := "MouthHouse$Votes", name := "learn", desc := "(IZ)I" } : Jvm.MethodName) prog_12_method_15_code (3 : Nat) (Option.some Jvm.ClassFile.FieldType.int)) ∈ lw_tbl := List.mem_of_getElem? (l := lw_tbl) (i := 1155) (by decide +kernel)
theorem tw_981 : (Jvm.Cond.instanceMethod ({ cls := "MouthHouse$Votes", name := "learn", desc := "(IZ)I" } : Jvm.MethodName)) ∈ lw_tbl := List.mem_of_getElem? (l := lw_tbl) (i := 1154) (by decide +kernel)
theorem mV_X10_learn : am_mV m_X10_learn 2 := ⟨⟨tw_982, tw_8, by decide +kernel, ⟨by decide +kernel, by decide +kernel, by decide +kernel⟩, by decide⟩, tw_981, List.mem_of_getElem? (l := lw_tbl) (i := 102) (by decide +kernel)⟩
abbrev m_X11_fits : am_M := (yX11_fits, cX11_fits, 2, some .int)
theorem tw_986 : (Jvm.Cond.code ({ cls := "MouthHouse", name := "fits", desc := "(I)I" } : Jvm.MethodName) prog_1_method_26_code (2 : Nat) (Option.some Jvm.ClassFile.FieldType.int)) ∈ lw_tbl := List.mem_of_getElem? (l := lw_tbl) (i := 1159) (by decide +kernel)
theorem tw_985 : (Jvm.Cond.selects "MouthHouse" ({ cls := "MouthHouse", name := "fits", desc := "(I)I" } : Jvm.MethodName) ({ cls := "MouthHouse", name := "fits", desc := "(I)I" } : Jvm.MethodName)) ∈ lw_tbl := List.mem_of_getElem? (l := lw_tbl) (i := 1158) (by decide +kernel)
theorem tw_984 : (Jvm.Cond.instanceMethod ({ cls := "MouthHouse", name := "fits", desc := "(I)I" } : Jvm.MethodName)) ∈ lw_tbl := List.mem_of_getElem? (l := lw_tbl) (i := 1157) (by decide +kernel)
theorem mV_X11_fits : am_mV m_X11_fits 1 := ⟨⟨tw_986, tw_1, by decide +kernel, ⟨by decide +kernel, by decide +kernel, by decide +kernel⟩, by decide⟩, tw_984, tw_985⟩
abbrev m_X10_fitting : am_M := (yX10_fitting, cX10_fitting, 2, some .int)
theorem tw_990 : (Jvm.Cond.code ({ cls := "MouthHouse$Votes", name := "fitting", desc := "()I" } : Jvm.MethodName) prog_12_method_18_code (2 : Nat) (Option.some Jvm.ClassFile.FieldType.int)) ∈ lw_tbl := List.mem_of_getElem? (l := lw_tbl) (i := 1163) (by decide +kernel)
theorem tw_989 : (Jvm.Cond.instanceMethod ({ cls := "MouthHouse$Votes", name := "fitting", desc := "()I" } : Jvm.MethodName)) ∈ lw_tbl := List.mem_of_getElem? (l := lw_tbl) (i := 1162) (by decide +kernel)
theorem mV_X10_fitting : am_mV m_X10_fitting 0 := ⟨⟨tw_990, tw_8, by decide +kernel, ⟨by decide +kernel, by decide +kernel, by decide +kernel⟩, by decide⟩, tw_989, List.mem_of_getElem? (l := lw_tbl) (i := 103) (by decide +kernel)⟩
abbrev m_X10_canFit : am_M := (yX10_canFit, cX10_canFit, 3, some .boolean)
theorem tw_994 : (Jvm.Cond.code ({ cls := "MouthHouse$Votes", name := "canFit", desc := "()Z" } : Jvm.MethodName) prog_12_method_16_code (3 : Nat) (Option.some Jvm.ClassFile.FieldType.boolean)) ∈ lw_tbl := List.mem_of_getElem? (l := lw_tbl) (i := 1167) (by decide +kernel)
theorem tw_993 : (Jvm.Cond.instanceMethod ({ cls := "MouthHouse$Votes", name := "canFit", desc := "()Z" } : Jvm.MethodName)) ∈ lw_tbl := List.mem_of_getElem? (l := lw_tbl) (i := 1166) (by decide +kernel)
theorem mV_X10_canFit : am_mV m_X10_canFit 0 := ⟨⟨tw_994, tw_8, by decide +kernel, ⟨by decide +kernel, by decide +kernel, by decide +kernel⟩, by decide⟩, tw_993, List.mem_of_getElem? (l := lw_tbl) (i := 104) (by decide +kernel)⟩
abbrev m_X8_speakerThrough : am_M := (yX8_speakerThrough, cX8_speakerThrough, 4, some .int)
theorem tw_998 : (Jvm.Cond.code ({ cls := "MouthHouse$Talk", name := "speakerThrough", desc := "(I)I" } : Jvm.MethodName) prog_10_method_5_code (4 : Nat) (Option.some Jvm.ClassFile.FieldType.int)) ∈ lw_tbl := List.mem_of_getElem? (l := lw_tbl) (i := 1171) (by decide +kernel)
theorem tw_997 : (Jvm.Cond.instanceMethod ({ cls := "MouthHouse$Talk", name := "speakerThrough", desc := "(I)I" } : Jvm.MethodName)) ∈ lw_tbl := List.mem_of_getElem? (l := lw_tbl) (i := 1170) (by decide +kernel)
theorem mV_X8_speakerThrough : am_mV m_X8_speakerThrough 1 := ⟨⟨tw_998, tw_7, by decide +kernel, ⟨by decide +kernel, by decide +kernel, by decide +kernel⟩, by decide⟩, tw_997, List.mem_of_getElem? (l := lw_tbl) (i := 105) (by decide +kernel)⟩
abbrev m_X10_fittingRow : am_M := (yX10_fittingRow, cX10_fittingRow, 4, some .int)
theorem tw_1003 : (Jvm.Cond.code ({ cls := "MouthHouse$Votes", name := "fittingRow", desc := "(I)I" } : Jvm.MethodName) prog_12_method_19_code (4 : Nat) (Option.some Jvm.ClassFile.FieldType.int)) ∈ lw_tbl := List.mem_of_getElem? (l := lw_tbl) (i := 1176) (by decide +kernel)
theorem tw_1002 : (Jvm.Cond.instanceMethod ({ cls := "MouthHouse$Votes", name := "fittingRow", desc := "(I)I" } : Jvm.MethodName)) ∈ lw_tbl := List.mem_of_getElem? (l := lw_tbl) (i := 1175) (by decide +kernel)
theorem mV_X10_fittingRow : am_mV m_X10_fittingRow 1 := ⟨⟨tw_1003, tw_8, by decide +kernel, ⟨by decide +kernel, by decide +kernel, by decide +kernel⟩, by decide⟩, tw_1002, List.mem_of_getElem? (l := lw_tbl) (i := 106) (by decide +kernel)⟩
abbrev m_X10_isFit : am_M := (yX10_isFit, cX10_isFit, 2, some .boolean)
theorem tw_1007 : (Jvm.Cond.code ({ cls := "MouthHouse$Votes", name := "isFit", desc := "(I)Z" } : Jvm.MethodName) prog_12_method_17_code (2 : Nat) (Option.some Jvm.ClassFile.FieldType.boolean)) ∈ lw_tbl := List.mem_of_getElem? (l := lw_tbl) (i := 1180) (by decide +kernel)
theorem tw_1006 : (Jvm.Cond.instanceMethod ({ cls := "MouthHouse$Votes", name := "isFit", desc := "(I)Z" } : Jvm.MethodName)) ∈ lw_tbl := List.mem_of_getElem? (l := lw_tbl) (i := 1179) (by decide +kernel)
theorem mV_X10_isFit : am_mV m_X10_isFit 1 := ⟨⟨tw_1007, tw_8, by decide +kernel, ⟨by decide +kernel, by decide +kernel, by decide +kernel⟩, by decide⟩, tw_1006, List.mem_of_getElem? (l := lw_tbl) (i := 107) (by decide +kernel)⟩
abbrev m_X11_sure : am_M := (yX11_sure, cX11_sure, 2, some .int)
theorem tw_1011 : (Jvm.Cond.code ({ cls := "MouthHouse", name := "sure", desc := "(Z)I" } : Jvm.MethodName) prog_1_method_27_code (2 : Nat) (Option.some Jvm.ClassFile.FieldType.int)) ∈ lw_tbl := List.mem_of_getElem? (l := lw_tbl) (i := 1184) (by decide +kernel)
theorem tw_1010 : (Jvm.Cond.selects "MouthHouse" ({ cls := "MouthHouse", name := "sure", desc := "(Z)I" } : Jvm.MethodName) ({ cls := "MouthHouse", name := "sure", desc := "(Z)I" } : Jvm.MethodName)) ∈ lw_tbl := List.mem_of_getElem? (l := lw_tbl) (i := 1183) (by decide +kernel)
theorem tw_1009 : (Jvm.Cond.instanceMethod ({ cls := "MouthHouse", name := "sure", desc := "(Z)I" } : Jvm.MethodName)) ∈ lw_tbl := List.mem_of_getElem? (l := lw_tbl) (i := 1182) (by decide +kernel)
theorem mV_X11_sure : am_mV m_X11_sure 1 := ⟨⟨tw_1011, tw_1, by decide +kernel, ⟨by decide +kernel, by decide +kernel, by decide +kernel⟩, by decide⟩, tw_1009, tw_1010⟩
abbrev m_X10_certain : am_M := (yX10_certain, cX10_certain, 2, some .int)
theorem tw_1015 : (Jvm.Cond.code ({ cls := "MouthHouse$Votes", name := "certain", desc := "(Z)I" } : Jvm.MethodName) prog_12_method_20_code (2 : Nat) (Option.some Jvm.ClassFile.FieldType.int)) ∈ lw_tbl := List.mem_of_getElem? (l := lw_tbl) (i := 1188) (by decide +kernel)
theorem tw_1014 : (Jvm.Cond.instanceMethod ({ cls := "MouthHouse$Votes", name := "certain", desc := "(Z)I" } : Jvm.MethodName)) ∈ lw_tbl := List.mem_of_getElem? (l := lw_tbl) (i := 1187) (by decide +kernel)
theorem mV_X10_certain : am_mV m_X10_certain 1 := ⟨⟨tw_1015, tw_8, by decide +kernel, ⟨by decide +kernel, by decide +kernel, by decide +kernel⟩, by decide⟩, tw_1014, List.mem_of_getElem? (l := lw_tbl) (i := 108) (by decide +kernel)⟩
abbrev m_X11_seed : am_M := (yX11_seed, cX11_seed, 3, some .boolean)
theorem tw_1019 : (Jvm.Cond.code ({ cls := "MouthHouse", name := "seed", desc := "(J)Z" } : Jvm.MethodName) prog_1_method_28_code (3 : Nat) (Option.some Jvm.ClassFile.FieldType.boolean)) ∈ lw_tbl := List.mem_of_getElem? (l := lw_tbl) (i := 1192) (by decide +kernel)
theorem tw_1018 : (Jvm.Cond.selects "MouthHouse" ({ cls := "MouthHouse", name := "seed", desc := "(J)Z" } : Jvm.MethodName) ({ cls := "MouthHouse", name := "seed", desc := "(J)Z" } : Jvm.MethodName)) ∈ lw_tbl := List.mem_of_getElem? (l := lw_tbl) (i := 1191) (by decide +kernel)
theorem tw_1017 : (Jvm.Cond.instanceMethod ({ cls := "MouthHouse", name := "seed", desc := "(J)Z" } : Jvm.MethodName)) ∈ lw_tbl := List.mem_of_getElem? (l := lw_tbl) (i := 1190) (by decide +kernel)
theorem mV_X11_seed : am_mV m_X11_seed 1 := ⟨⟨tw_1019, tw_1, by decide +kernel, ⟨by decide +kernel, by decide +kernel, by decide +kernel⟩, by decide⟩, tw_1017, tw_1018⟩
abbrev m_X11_sitting : am_M := (yX11_sitting, cX11_sitting, 7, some .int)
theorem tw_1023 : (Jvm.Cond.code ({ cls := "MouthHouse", name := "sitting", desc := "()I" } : Jvm.MethodName) prog_1_method_29_code (7 : Nat) (Option.some Jvm.ClassFile.FieldType.int)) ∈ lw_tbl := List.mem_of_getElem? (l := lw_tbl) (i := 1196) (by decide +kernel)
theorem tw_1022 : (Jvm.Cond.selects "MouthHouse" ({ cls := "MouthHouse", name := "sitting", desc := "()I" } : Jvm.MethodName) ({ cls := "MouthHouse", name := "sitting", desc := "()I" } : Jvm.MethodName)) ∈ lw_tbl := List.mem_of_getElem? (l := lw_tbl) (i := 1195) (by decide +kernel)
theorem tw_1021 : (Jvm.Cond.instanceMethod ({ cls := "MouthHouse", name := "sitting", desc := "()I" } : Jvm.MethodName)) ∈ lw_tbl := List.mem_of_getElem? (l := lw_tbl) (i := 1194) (by decide +kernel)
theorem mV_X11_sitting : am_mV m_X11_sitting 0 := ⟨⟨tw_1023, tw_1, by decide +kernel, ⟨by decide +kernel, by decide +kernel, by decide +kernel⟩, by decide⟩, tw_1021, tw_1022⟩
abbrev m_X7_isFull : am_M := (yX7_isFull, cX7_isFull, 1, some .boolean)
theorem tw_1027 : (Jvm.Cond.code ({ cls := "MouthHouse$Sittings", name := "isFull", desc := "()Z" } : Jvm.MethodName) prog_9_method_2_code (1 : Nat) (Option.some Jvm.ClassFile.FieldType.boolean)) ∈ lw_tbl := List.mem_of_getElem? (l := lw_tbl) (i := 1200) (by decide +kernel)
theorem tw_1026 : (Jvm.Cond.instanceMethod ({ cls := "MouthHouse$Sittings", name := "isFull", desc := "()Z" } : Jvm.MethodName)) ∈ lw_tbl := List.mem_of_getElem? (l := lw_tbl) (i := 1199) (by decide +kernel)
theorem mV_X7_isFull : am_mV m_X7_isFull 0 := ⟨⟨tw_1027, tw_12, by decide +kernel, ⟨by decide +kernel, by decide +kernel, by decide +kernel⟩, by decide⟩, tw_1026, List.mem_of_getElem? (l := lw_tbl) (i := 109) (by decide +kernel)⟩
abbrev m_X7_draw : am_M := (yX7_draw, cX7_draw, 2, some .int)
theorem tw_1032 : (Jvm.Cond.code ({ cls := "MouthHouse$Sittings", name := "draw", desc := "(I)I" } : Jvm.MethodName) prog_9_method_3_code (2 : Nat) (Option.some Jvm.ClassFile.FieldType.int)) ∈ lw_tbl := List.mem_of_getElem? (l := lw_tbl) (i := 1205) (by decide +kernel)
theorem tw_1031 : (Jvm.Cond.instanceMethod ({ cls := "MouthHouse$Sittings", name := "draw", desc := "(I)I" } : Jvm.MethodName)) ∈ lw_tbl := List.mem_of_getElem? (l := lw_tbl) (i := 1204) (by decide +kernel)
theorem mV_X7_draw : am_mV m_X7_draw 1 := ⟨⟨tw_1032, tw_12, by decide +kernel, ⟨by decide +kernel, by decide +kernel, by decide +kernel⟩, by decide⟩, tw_1031, List.mem_of_getElem? (l := lw_tbl) (i := 110) (by decide +kernel)⟩
abbrev m_X7_putBy : am_M := (yX7_putBy, cX7_putBy, 5, none)
theorem tw_1041 : (Jvm.Cond.code ({ cls := "MouthHouse$Sittings", name := "putBy", desc := "(IZJ)V" } : Jvm.MethodName) prog_9_method_4_code (5 : Nat) (Option.none : Option Jvm.ClassFile.FieldType)) ∈ lw_tbl := List.mem_of_getElem? (l := lw_tbl) (i := 1214) (by decide +kernel)
theorem tw_1040 : (Jvm.Cond.instanceMethod ({ cls := "MouthHouse$Sittings", name := "putBy", desc := "(IZJ)V" } : Jvm.MethodName)) ∈ lw_tbl := List.mem_of_getElem? (l := lw_tbl) (i := 1213) (by decide +kernel)
theorem mV_X7_putBy : am_mV m_X7_putBy 3 := ⟨⟨tw_1041, tw_12, by decide +kernel, ⟨by decide +kernel, by decide +kernel, by decide +kernel⟩, by decide⟩, tw_1040, List.mem_of_getElem? (l := lw_tbl) (i := 111) (by decide +kernel)⟩
abbrev m_X11_sat : am_M := (yX11_sat, cX11_sat, 3, some .int)
theorem tw_1046 : (Jvm.Cond.code ({ cls := "MouthHouse", name := "sat", desc := "(II)I" } : Jvm.MethodName) prog_1_method_30_code (3 : Nat) (Option.some Jvm.ClassFile.FieldType.int)) ∈ lw_tbl := List.mem_of_getElem? (l := lw_tbl) (i := 1219) (by decide +kernel)
theorem tw_1045 : (Jvm.Cond.selects "MouthHouse" ({ cls := "MouthHouse", name := "sat", desc := "(II)I" } : Jvm.MethodName) ({ cls := "MouthHouse", name := "sat", desc := "(II)I" } : Jvm.MethodName)) ∈ lw_tbl := List.mem_of_getElem? (l := lw_tbl) (i := 1218) (by decide +kernel)
theorem tw_1044 : (Jvm.Cond.instanceMethod ({ cls := "MouthHouse", name := "sat", desc := "(II)I" } : Jvm.MethodName)) ∈ lw_tbl := List.mem_of_getElem? (l := lw_tbl) (i := 1217) (by decide +kernel)
theorem mV_X11_sat : am_mV m_X11_sat 2 := ⟨⟨tw_1046, tw_1, by decide +kernel, ⟨by decide +kernel, by decide +kernel, by decide +kernel⟩, by decide⟩, tw_1044, tw_1045⟩
abbrev m_X7_yesOf : am_M := (yX7_yesOf, cX7_yesOf, 2, some .int)
theorem tw_1050 : (Jvm.Cond.code ({ cls := "MouthHouse$Sittings", name := "yesOf", desc := "(I)I" } : Jvm.MethodName) prog_9_method_6_code (2 : Nat) (Option.some Jvm.ClassFile.FieldType.int)) ∈ lw_tbl := List.mem_of_getElem? (l := lw_tbl) (i := 1223) (by decide +kernel)
theorem tw_1049 : (Jvm.Cond.instanceMethod ({ cls := "MouthHouse$Sittings", name := "yesOf", desc := "(I)I" } : Jvm.MethodName)) ∈ lw_tbl := List.mem_of_getElem? (l := lw_tbl) (i := 1222) (by decide +kernel)
theorem mV_X7_yesOf : am_mV m_X7_yesOf 1 := ⟨⟨tw_1050, tw_12, by decide +kernel, ⟨by decide +kernel, by decide +kernel, by decide +kernel⟩, by decide⟩, tw_1049, List.mem_of_getElem? (l := lw_tbl) (i := 112) (by decide +kernel)⟩
abbrev m_X7_passedOf : am_M := (yX7_passedOf, cX7_passedOf, 2, some .int)
theorem tw_1054 : (Jvm.Cond.code ({ cls := "MouthHouse$Sittings", name := "passedOf", desc := "(I)I" } : Jvm.MethodName) prog_9_method_7_code (2 : Nat) (Option.some Jvm.ClassFile.FieldType.int)) ∈ lw_tbl := List.mem_of_getElem? (l := lw_tbl) (i := 1227) (by decide +kernel)
theorem tw_1053 : (Jvm.Cond.instanceMethod ({ cls := "MouthHouse$Sittings", name := "passedOf", desc := "(I)I" } : Jvm.MethodName)) ∈ lw_tbl := List.mem_of_getElem? (l := lw_tbl) (i := 1226) (by decide +kernel)
theorem mV_X7_passedOf : am_mV m_X7_passedOf 1 := ⟨⟨tw_1054, tw_12, by decide +kernel, ⟨by decide +kernel, by decide +kernel, by decide +kernel⟩, by decide⟩, tw_1053, List.mem_of_getElem? (l := lw_tbl) (i := 113) (by decide +kernel)⟩
abbrev m_X11_undo : am_M := (yX11_undo, cX11_undo, 1, some .int)
theorem tw_1058 : (Jvm.Cond.code ({ cls := "MouthHouse", name := "undo", desc := "()I" } : Jvm.MethodName) prog_1_method_31_code (1 : Nat) (Option.some Jvm.ClassFile.FieldType.int)) ∈ lw_tbl := List.mem_of_getElem? (l := lw_tbl) (i := 1231) (by decide +kernel)
theorem tw_1057 : (Jvm.Cond.selects "MouthHouse" ({ cls := "MouthHouse", name := "undo", desc := "()I" } : Jvm.MethodName) ({ cls := "MouthHouse", name := "undo", desc := "()I" } : Jvm.MethodName)) ∈ lw_tbl := List.mem_of_getElem? (l := lw_tbl) (i := 1230) (by decide +kernel)
theorem tw_1056 : (Jvm.Cond.instanceMethod ({ cls := "MouthHouse", name := "undo", desc := "()I" } : Jvm.MethodName)) ∈ lw_tbl := List.mem_of_getElem? (l := lw_tbl) (i := 1229) (by decide +kernel)
theorem mV_X11_undo : am_mV m_X11_undo 0 := ⟨⟨tw_1058, tw_1, by decide +kernel, ⟨by decide +kernel, by decide +kernel, by decide +kernel⟩, by decide⟩, tw_1056, tw_1057⟩
abbrev m_X7_takeBack : am_M := (yX7_takeBack, cX7_takeBack, 1, some .int)
theorem tw_1062 : (Jvm.Cond.code ({ cls := "MouthHouse$Sittings", name := "takeBack", desc := "()I" } : Jvm.MethodName) prog_9_method_5_code (1 : Nat) (Option.some Jvm.ClassFile.FieldType.int)) ∈ lw_tbl := List.mem_of_getElem? (l := lw_tbl) (i := 1235) (by decide +kernel)
theorem tw_1061 : (Jvm.Cond.instanceMethod ({ cls := "MouthHouse$Sittings", name := "takeBack", desc := "()I" } : Jvm.MethodName)) ∈ lw_tbl := List.mem_of_getElem? (l := lw_tbl) (i := 1234) (by decide +kernel)
theorem mV_X7_takeBack : am_mV m_X7_takeBack 0 := ⟨⟨tw_1062, tw_12, by decide +kernel, ⟨by decide +kernel, by decide +kernel, by decide +kernel⟩, by decide⟩, tw_1061, List.mem_of_getElem? (l := lw_tbl) (i := 114) (by decide +kernel)⟩
abbrev m_X11_image : am_M := (yX11_image, cX11_image, 1, some .int)
theorem tw_1066 : (Jvm.Cond.code ({ cls := "MouthHouse", name := "image", desc := "()I" } : Jvm.MethodName) prog_1_method_32_code (1 : Nat) (Option.some Jvm.ClassFile.FieldType.int)) ∈ lw_tbl := List.mem_of_getElem? (l := lw_tbl) (i := 1239) (by decide +kernel)
theorem tw_1065 : (Jvm.Cond.selects "MouthHouse" ({ cls := "MouthHouse", name := "image", desc := "()I" } : Jvm.MethodName) ({ cls := "MouthHouse", name := "image", desc := "()I" } : Jvm.MethodName)) ∈ lw_tbl := List.mem_of_getElem? (l := lw_tbl) (i := 1238) (by decide +kernel)
theorem tw_1064 : (Jvm.Cond.instanceMethod ({ cls := "MouthHouse", name := "image", desc := "()I" } : Jvm.MethodName)) ∈ lw_tbl := List.mem_of_getElem? (l := lw_tbl) (i := 1237) (by decide +kernel)
theorem mV_X11_image : am_mV m_X11_image 0 := ⟨⟨tw_1066, tw_1, by decide +kernel, ⟨by decide +kernel, by decide +kernel, by decide +kernel⟩, by decide⟩, tw_1064, tw_1065⟩
abbrev m_X7_copyFrom : am_M := (yX7_copyFrom, cX7_copyFrom, 2, none)
theorem tw_1071 : (Jvm.Cond.code ({ cls := "MouthHouse$Sittings", name := "copyFrom", desc := "(LMouthHouse$Sittings;)V" } : Jvm.MethodName) prog_9_method_9_code (2 : Nat) (Option.none : Option Jvm.ClassFile.FieldType)) ∈ lw_tbl := List.mem_of_getElem? (l := lw_tbl) (i := 1244) (by decide +kernel)
theorem tw_1070 : (Jvm.Cond.instanceMethod ({ cls := "MouthHouse$Sittings", name := "copyFrom", desc := "(LMouthHouse$Sittings;)V" } : Jvm.MethodName)) ∈ lw_tbl := List.mem_of_getElem? (l := lw_tbl) (i := 1243) (by decide +kernel)
theorem mV_X7_copyFrom : am_mV m_X7_copyFrom 1 := ⟨⟨tw_1071, tw_12, by decide +kernel, ⟨by decide +kernel, by decide +kernel, by decide +kernel⟩, by decide⟩, tw_1070, List.mem_of_getElem? (l := lw_tbl) (i := 115) (by decide +kernel)⟩
abbrev m_X11_back : am_M := (yX11_back, cX11_back, 1, some .int)
theorem tw_1076 : (Jvm.Cond.code ({ cls := "MouthHouse", name := "back", desc := "()I" } : Jvm.MethodName) prog_1_method_33_code (1 : Nat) (Option.some Jvm.ClassFile.FieldType.int)) ∈ lw_tbl := List.mem_of_getElem? (l := lw_tbl) (i := 1249) (by decide +kernel)
theorem tw_1075 : (Jvm.Cond.selects "MouthHouse" ({ cls := "MouthHouse", name := "back", desc := "()I" } : Jvm.MethodName) ({ cls := "MouthHouse", name := "back", desc := "()I" } : Jvm.MethodName)) ∈ lw_tbl := List.mem_of_getElem? (l := lw_tbl) (i := 1248) (by decide +kernel)
theorem tw_1074 : (Jvm.Cond.instanceMethod ({ cls := "MouthHouse", name := "back", desc := "()I" } : Jvm.MethodName)) ∈ lw_tbl := List.mem_of_getElem? (l := lw_tbl) (i := 1247) (by decide +kernel)
theorem mV_X11_back : am_mV m_X11_back 0 := ⟨⟨tw_1076, tw_1, by decide +kernel, ⟨by decide +kernel, by decide +kernel, by decide +kernel⟩, by decide⟩, tw_1074, tw_1075⟩
abbrev m_X11_count : am_M := (yX11_count, cX11_count, 2, some .int)
theorem tw_1080 : (Jvm.Cond.code ({ cls := "MouthHouse", name := "count", desc := "(I)I" } : Jvm.MethodName) prog_1_method_34_code (2 : Nat) (Option.some Jvm.ClassFile.FieldType.int)) ∈ lw_tbl := List.mem_of_getElem? (l := lw_tbl) (i := 1253) (by decide +kernel)
theorem tw_1079 : (Jvm.Cond.selects "MouthHouse" ({ cls := "MouthHouse", name := "count", desc := "(I)I" } : Jvm.MethodName) ({ cls := "MouthHouse", name := "count", desc := "(I)I" } : Jvm.MethodName)) ∈ lw_tbl := List.mem_of_getElem? (l := lw_tbl) (i := 1252) (by decide +kernel)
theorem tw_1078 : (Jvm.Cond.instanceMethod ({ cls := "MouthHouse", name := "count", desc := "(I)I" } : Jvm.MethodName)) ∈ lw_tbl := List.mem_of_getElem? (l := lw_tbl) (i := 1251) (by decide +kernel)
theorem mV_X11_count : am_mV m_X11_count 1 := ⟨⟨tw_1080, tw_1, by decide +kernel, ⟨by decide +kernel, by decide +kernel, by decide +kernel⟩, by decide⟩, tw_1078, tw_1079⟩
abbrev m_X7_passedOnes : am_M := (yX7_passedOnes, cX7_passedOnes, 3, some .int)
theorem tw_1085 : (Jvm.Cond.code ({ cls := "MouthHouse$Sittings", name := "passedOnes", desc := "()I" } : Jvm.MethodName) prog_9_method_8_code (3 : Nat) (Option.some Jvm.ClassFile.FieldType.int)) ∈ lw_tbl := List.mem_of_getElem? (l := lw_tbl) (i := 1258) (by decide +kernel)
theorem tw_1084 : (Jvm.Cond.instanceMethod ({ cls := "MouthHouse$Sittings", name := "passedOnes", desc := "()I" } : Jvm.MethodName)) ∈ lw_tbl := List.mem_of_getElem? (l := lw_tbl) (i := 1257) (by decide +kernel)
theorem mV_X7_passedOnes : am_mV m_X7_passedOnes 0 := ⟨⟨tw_1085, tw_12, by decide +kernel, ⟨by decide +kernel, by decide +kernel, by decide +kernel⟩, by decide⟩, tw_1084, List.mem_of_getElem? (l := lw_tbl) (i := 116) (by decide +kernel)⟩
abbrev m_X11_member : am_M := (yX11_member, cX11_member, 3, some .int)
theorem tw_1093 : (Jvm.Cond.code ({ cls := "MouthHouse", name := "member", desc := "(II)I" } : Jvm.MethodName) prog_1_method_8_code (3 : Nat) (Option.some Jvm.ClassFile.FieldType.int)) ∈ lw_tbl := List.mem_of_getElem? (l := lw_tbl) (i := 1266) (by decide +kernel)
theorem tw_1092 : (Jvm.Cond.selects "MouthHouse" ({ cls := "MouthHouse", name := "member", desc := "(II)I" } : Jvm.MethodName) ({ cls := "MouthHouse", name := "member", desc := "(II)I" } : Jvm.MethodName)) ∈ lw_tbl := List.mem_of_getElem? (l := lw_tbl) (i := 1265) (by decide +kernel)
theorem tw_1091 : (Jvm.Cond.instanceMethod ({ cls := "MouthHouse", name := "member", desc := "(II)I" } : Jvm.MethodName)) ∈ lw_tbl := List.mem_of_getElem? (l := lw_tbl) (i := 1264) (by decide +kernel)
theorem mV_X11_member : am_mV m_X11_member 2 := ⟨⟨tw_1093, tw_1, by decide +kernel, ⟨by decide +kernel, by decide +kernel, by decide +kernel⟩, by decide⟩, tw_1091, tw_1092⟩
abbrev m_X12_init : am_M := (yX12_init, cX12_init, 1, none)
theorem tw_1160 : (Jvm.Cond.code ({ cls := "MouthHouseModel", name := "<init>", desc := "()V" } : Jvm.MethodName) prog_14_method_3_code (1 : Nat) (Option.none : Option Jvm.ClassFile.FieldType)) ∈ lw_tbl := List.mem_of_getElem? (l := lw_tbl) (i := 1333) (by decide +kernel)
theorem tw_1159 : (Jvm.Cond.instanceMethod ({ cls := "MouthHouseModel", name := "<init>", desc := "()V" } : Jvm.MethodName)) ∈ lw_tbl := List.mem_of_getElem? (l := lw_tbl) (i := 1332) (by decide +kernel)
theorem mI_X12_init : am_mI m_X12_init 0 := ⟨⟨tw_1160, tw_13, by decide +kernel, ⟨by decide +kernel, by decide +kernel, by decide +kernel⟩, by decide⟩, rfl, tw_1159, rfl⟩
abbrev m_X12_thrown : am_M := (yX12_thrown, cX12_thrown, 1, some .int)
theorem tw_1319 : (Jvm.Cond.code ({ cls := "MouthHouseModel", name := "thrown", desc := "()I" } : Jvm.MethodName) prog_14_method_4_code (1 : Nat) (Option.some Jvm.ClassFile.FieldType.int)) ∈ lw_tbl := List.mem_of_getElem? (l := lw_tbl) (i := 1492) (by decide +kernel)
theorem tw_1318 : (Jvm.Cond.selects "MouthHouseModel" ({ cls := "MouthHouseModel", name := "thrown", desc := "()I" } : Jvm.MethodName) ({ cls := "MouthHouseModel", name := "thrown", desc := "()I" } : Jvm.MethodName)) ∈ lw_tbl := List.mem_of_getElem? (l := lw_tbl) (i := 1491) (by decide +kernel)
theorem tw_1317 : (Jvm.Cond.instanceMethod ({ cls := "MouthHouseModel", name := "thrown", desc := "()I" } : Jvm.MethodName)) ∈ lw_tbl := List.mem_of_getElem? (l := lw_tbl) (i := 1490) (by decide +kernel)
theorem mV_X12_thrown : am_mV m_X12_thrown 0 := ⟨⟨tw_1319, tw_13, by decide +kernel, ⟨by decide +kernel, by decide +kernel, by decide +kernel⟩, by decide⟩, tw_1317, tw_1318⟩
abbrev m_X12_feed : am_M := (yX12_feed, cX12_feed, 9, some .int)
theorem tw_1323 : (Jvm.Cond.code ({ cls := "MouthHouseModel", name := "feed", desc := "(IIIII)I" } : Jvm.MethodName) prog_14_method_6_code (9 : Nat) (Option.some Jvm.ClassFile.FieldType.int)) ∈ lw_tbl := List.mem_of_getElem? (l := lw_tbl) (i := 1496) (by decide +kernel)
theorem tw_1322 : (Jvm.Cond.selects "MouthHouseModel" ({ cls := "MouthHouseModel", name := "feed", desc := "(IIIII)I" } : Jvm.MethodName) ({ cls := "MouthHouseModel", name := "feed", desc := "(IIIII)I" } : Jvm.MethodName)) ∈ lw_tbl := List.mem_of_getElem? (l := lw_tbl) (i := 1495) (by decide +kernel)
theorem tw_1321 : (Jvm.Cond.instanceMethod ({ cls := "MouthHouseModel", name := "feed", desc := "(IIIII)I" } : Jvm.MethodName)) ∈ lw_tbl := List.mem_of_getElem? (l := lw_tbl) (i := 1494) (by decide +kernel)
theorem mV_X12_feed : am_mV m_X12_feed 5 := ⟨⟨tw_1323, tw_13, by decide +kernel, ⟨by decide +kernel, by decide +kernel, by decide +kernel⟩, by decide⟩, tw_1321, tw_1322⟩
abbrev m_X12_byteOf : am_M := (yX12_byteOf, cX12_byteOf, 7, some .int)
theorem tw_1326 : (Jvm.Cond.code ({ cls := "MouthHouseModel", name := "byteOf", desc := "(IIIIII)I" } : Jvm.MethodName) prog_14_method_5_code (7 : Nat) (Option.some Jvm.ClassFile.FieldType.int)) ∈ lw_tbl := List.mem_of_getElem? (l := lw_tbl) (i := 1499) (by decide +kernel)
theorem tw_1325 : (Jvm.Cond.static ({ cls := "MouthHouseModel", name := "byteOf", desc := "(IIIIII)I" } : Jvm.MethodName)) ∈ lw_tbl := List.mem_of_getElem? (l := lw_tbl) (i := 1498) (by decide +kernel)
theorem mS_X12_byteOf : am_mS m_X12_byteOf 6 := ⟨⟨tw_1326, tw_13, by decide +kernel, ⟨by decide +kernel, by decide +kernel, by decide +kernel⟩, by decide⟩, tw_1325⟩
abbrev m_X12_end : am_M := (yX12_end, cX12_end, 2, some .boolean)
theorem tw_1330 : (Jvm.Cond.code ({ cls := "MouthHouseModel", name := "end", desc := "(I)Z" } : Jvm.MethodName) prog_14_method_7_code (2 : Nat) (Option.some Jvm.ClassFile.FieldType.boolean)) ∈ lw_tbl := List.mem_of_getElem? (l := lw_tbl) (i := 1503) (by decide +kernel)
theorem tw_1329 : (Jvm.Cond.selects "MouthHouseModel" ({ cls := "MouthHouseModel", name := "end", desc := "(I)Z" } : Jvm.MethodName) ({ cls := "MouthHouseModel", name := "end", desc := "(I)Z" } : Jvm.MethodName)) ∈ lw_tbl := List.mem_of_getElem? (l := lw_tbl) (i := 1502) (by decide +kernel)
theorem tw_1328 : (Jvm.Cond.instanceMethod ({ cls := "MouthHouseModel", name := "end", desc := "(I)Z" } : Jvm.MethodName)) ∈ lw_tbl := List.mem_of_getElem? (l := lw_tbl) (i := 1501) (by decide +kernel)
theorem mV_X12_end : am_mV m_X12_end 1 := ⟨⟨tw_1330, tw_13, by decide +kernel, ⟨by decide +kernel, by decide +kernel, by decide +kernel⟩, by decide⟩, tw_1328, tw_1329⟩
abbrev m_X12_fault : am_M := (yX12_fault, cX12_fault, 2, some .int)
theorem tw_1334 : (Jvm.Cond.code ({ cls := "MouthHouseModel", name := "fault", desc := "(I)I" } : Jvm.MethodName) prog_14_method_40_code (2 : Nat) (Option.some Jvm.ClassFile.FieldType.int)) ∈ lw_tbl := List.mem_of_getElem? (l := lw_tbl) (i := 1507) (by decide +kernel)
theorem tw_1333 : (Jvm.Cond.selects "MouthHouseModel" ({ cls := "MouthHouseModel", name := "fault", desc := "(I)I" } : Jvm.MethodName) ({ cls := "MouthHouseModel", name := "fault", desc := "(I)I" } : Jvm.MethodName)) ∈ lw_tbl := List.mem_of_getElem? (l := lw_tbl) (i := 1506) (by decide +kernel)
theorem tw_1332 : (Jvm.Cond.instanceMethod ({ cls := "MouthHouseModel", name := "fault", desc := "(I)I" } : Jvm.MethodName)) ∈ lw_tbl := List.mem_of_getElem? (l := lw_tbl) (i := 1505) (by decide +kernel)
theorem mV_X12_fault : am_mV m_X12_fault 1 := ⟨⟨tw_1334, tw_13, by decide +kernel, ⟨by decide +kernel, by decide +kernel, by decide +kernel⟩, by decide⟩, tw_1332, tw_1333⟩
abbrev m_X12_readHouse : am_M := (yX12_readHouse, cX12_readHouse, 3, some .int)
theorem tw_1338 : (Jvm.Cond.code ({ cls := "MouthHouseModel", name := "readHouse", desc := "()I" } : Jvm.MethodName) prog_14_method_39_code (3 : Nat) (Option.some Jvm.ClassFile.FieldType.int)) ∈ lw_tbl := List.mem_of_getElem? (l := lw_tbl) (i := 1511) (by decide +kernel)
theorem tw_1337 : (Jvm.Cond.instanceMethod ({ cls := "MouthHouseModel", name := "readHouse", desc := "()I" } : Jvm.MethodName)) ∈ lw_tbl := List.mem_of_getElem? (l := lw_tbl) (i := 1510) (by decide +kernel)
theorem mV_X12_readHouse : am_mV m_X12_readHouse 0 := ⟨⟨tw_1338, tw_13, by decide +kernel, ⟨by decide +kernel, by decide +kernel, by decide +kernel⟩, by decide⟩, tw_1337, List.mem_of_getElem? (l := lw_tbl) (i := 118) (by decide +kernel)⟩
abbrev m_X12_look : am_M := (yX12_look, cX12_look, 1, some .int)
theorem tw_1342 : (Jvm.Cond.code ({ cls := "MouthHouseModel", name := "look", desc := "()I" } : Jvm.MethodName) prog_14_method_9_code (1 : Nat) (Option.some Jvm.ClassFile.FieldType.int)) ∈ lw_tbl := List.mem_of_getElem? (l := lw_tbl) (i := 1515) (by decide +kernel)
theorem tw_1341 : (Jvm.Cond.instanceMethod ({ cls := "MouthHouseModel", name := "look", desc := "()I" } : Jvm.MethodName)) ∈ lw_tbl := List.mem_of_getElem? (l := lw_tbl) (i := 1514) (by decide +kernel)
theorem mV_X12_look : am_mV m_X12_look 0 := ⟨⟨tw_1342, tw_13, by decide +kernel, ⟨by decide +kernel, by decide +kernel, by decide +kernel⟩, by decide⟩, tw_1341, List.mem_of_getElem? (l := lw_tbl) (i := 119) (by decide +kernel)⟩
abbrev m_X12_here : am_M := (yX12_here, cX12_here, 1, some .int)
theorem tw_1346 : (Jvm.Cond.code ({ cls := "MouthHouseModel", name := "here", desc := "()I" } : Jvm.MethodName) prog_14_method_8_code (1 : Nat) (Option.some Jvm.ClassFile.FieldType.int)) ∈ lw_tbl := List.mem_of_getElem? (l := lw_tbl) (i := 1519) (by decide +kernel)
theorem tw_1345 : (Jvm.Cond.instanceMethod ({ cls := "MouthHouseModel", name := "here", desc := "()I" } : Jvm.MethodName)) ∈ lw_tbl := List.mem_of_getElem? (l := lw_tbl) (i := 1518) (by decide +kernel)
theorem mV_X12_here : am_mV m_X12_here 0 := ⟨⟨tw_1346, tw_13, by decide +kernel, ⟨by decide +kernel, by decide +kernel, by decide +kernel⟩, by decide⟩, tw_1345, List.mem_of_getElem? (l := lw_tbl) (i := 120) (by decide +kernel)⟩
abbrev m_X12_memberText : am_M := (yX12_memberText, cX12_memberText, 4, none)
theorem tw_1350 : (Jvm.Cond.code ({ cls := "MouthHouseModel", name := "memberText", desc := "()V" } : Jvm.MethodName) prog_14_method_38_code (4 : Nat) (Option.none : Option Jvm.ClassFile.FieldType)) ∈ lw_tbl := List.mem_of_getElem? (l := lw_tbl) (i := 1523) (by decide +kernel)
theorem tw_1349 : (Jvm.Cond.instanceMethod ({ cls := "MouthHouseModel", name := "memberText", desc := "()V" } : Jvm.MethodName)) ∈ lw_tbl := List.mem_of_getElem? (l := lw_tbl) (i := 1522) (by decide +kernel)
theorem mV_X12_memberText : am_mV m_X12_memberText 0 := ⟨⟨tw_1350, tw_13, by decide +kernel, ⟨by decide +kernel, by decide +kernel, by decide +kernel⟩, by decide⟩, tw_1349, List.mem_of_getElem? (l := lw_tbl) (i := 121) (by decide +kernel)⟩
abbrev m_X12_usual : am_M := (yX12_usual, cX12_usual, 1, some .int)
theorem tw_1353 : (Jvm.Cond.code ({ cls := "MouthHouseModel", name := "usual", desc := "(I)I" } : Jvm.MethodName) prog_14_method_37_code (1 : Nat) (Option.some Jvm.ClassFile.FieldType.int)) ∈ lw_tbl := List.mem_of_getElem? (l := lw_tbl) (i := 1526) (by decide +kernel)
theorem tw_1352 : (Jvm.Cond.static ({ cls := "MouthHouseModel", name := "usual", desc := "(I)I" } : Jvm.MethodName)) ∈ lw_tbl := List.mem_of_getElem? (l := lw_tbl) (i := 1525) (by decide +kernel)
theorem mS_X12_usual : am_mS m_X12_usual 1 := ⟨⟨tw_1353, tw_13, by decide +kernel, ⟨by decide +kernel, by decide +kernel, by decide +kernel⟩, by decide⟩, tw_1352⟩
abbrev m_X12_itemOf : am_M := (yX12_itemOf, cX12_itemOf, 1, some .int)
theorem tw_1356 : (Jvm.Cond.code ({ cls := "MouthHouseModel", name := "itemOf", desc := "(I)I" } : Jvm.MethodName) prog_14_method_35_code (1 : Nat) (Option.some Jvm.ClassFile.FieldType.int)) ∈ lw_tbl := List.mem_of_getElem? (l := lw_tbl) (i := 1529) (by decide +kernel)
theorem tw_1355 : (Jvm.Cond.static ({ cls := "MouthHouseModel", name := "itemOf", desc := "(I)I" } : Jvm.MethodName)) ∈ lw_tbl := List.mem_of_getElem? (l := lw_tbl) (i := 1528) (by decide +kernel)
theorem mS_X12_itemOf : am_mS m_X12_itemOf 1 := ⟨⟨tw_1356, tw_13, by decide +kernel, ⟨by decide +kernel, by decide +kernel, by decide +kernel⟩, by decide⟩, tw_1355⟩
abbrev m_X12_has : am_M := (yX12_has, cX12_has, 2, some .boolean)
theorem tw_1359 : (Jvm.Cond.code ({ cls := "MouthHouseModel", name := "has", desc := "(II)Z" } : Jvm.MethodName) prog_14_method_2_code (2 : Nat) (Option.some Jvm.ClassFile.FieldType.boolean)) ∈ lw_tbl := List.mem_of_getElem? (l := lw_tbl) (i := 1532) (by decide +kernel)
theorem tw_1358 : (Jvm.Cond.static ({ cls := "MouthHouseModel", name := "has", desc := "(II)Z" } : Jvm.MethodName)) ∈ lw_tbl := List.mem_of_getElem? (l := lw_tbl) (i := 1531) (by decide +kernel)
theorem mS_X12_has : am_mS m_X12_has 2 := ⟨⟨tw_1359, tw_13, by decide +kernel, ⟨by decide +kernel, by decide +kernel, by decide +kernel⟩, by decide⟩, tw_1358⟩
abbrev m_X12_highest : am_M := (yX12_highest, cX12_highest, 1, some .int)
theorem tw_1362 : (Jvm.Cond.code ({ cls := "MouthHouseModel", name := "highest", desc := "(I)I" } : Jvm.MethodName) prog_14_method_36_code (1 : Nat) (Option.some Jvm.ClassFile.FieldType.int)) ∈ lw_tbl := List.mem_of_getElem? (l := lw_tbl) (i := 1535) (by decide +kernel)
theorem tw_1361 : (Jvm.Cond.static ({ cls := "MouthHouseModel", name := "highest", desc := "(I)I" } : Jvm.MethodName)) ∈ lw_tbl := List.mem_of_getElem? (l := lw_tbl) (i := 1534) (by decide +kernel)
theorem mS_X12_highest : am_mS m_X12_highest 1 := ⟨⟨tw_1362, tw_13, by decide +kernel, ⟨by decide +kernel, by decide +kernel, by decide +kernel⟩, by decide⟩, tw_1361⟩
abbrev m_X12_number : am_M := (yX12_number, cX12_number, 4, some .int)
theorem tw_1366 : (Jvm.Cond.code ({ cls := "MouthHouseModel", name := "number", desc := "(II)I" } : Jvm.MethodName) prog_14_method_34_code (4 : Nat) (Option.some Jvm.ClassFile.FieldType.int)) ∈ lw_tbl := List.mem_of_getElem? (l := lw_tbl) (i := 1539) (by decide +kernel)
theorem tw_1365 : (Jvm.Cond.instanceMethod ({ cls := "MouthHouseModel", name := "number", desc := "(II)I" } : Jvm.MethodName)) ∈ lw_tbl := List.mem_of_getElem? (l := lw_tbl) (i := 1538) (by decide +kernel)
theorem mV_X12_number : am_mV m_X12_number 2 := ⟨⟨tw_1366, tw_13, by decide +kernel, ⟨by decide +kernel, by decide +kernel, by decide +kernel⟩, by decide⟩, tw_1365, List.mem_of_getElem? (l := lw_tbl) (i := 122) (by decide +kernel)⟩
abbrev m_X12_isDigit : am_M := (yX12_isDigit, cX12_isDigit, 1, some .boolean)
theorem tw_1369 : (Jvm.Cond.code ({ cls := "MouthHouseModel", name := "isDigit", desc := "(I)Z" } : Jvm.MethodName) prog_14_method_11_code (1 : Nat) (Option.some Jvm.ClassFile.FieldType.boolean)) ∈ lw_tbl := List.mem_of_getElem? (l := lw_tbl) (i := 1542) (by decide +kernel)
theorem tw_1368 : (Jvm.Cond.static ({ cls := "MouthHouseModel", name := "isDigit", desc := "(I)Z" } : Jvm.MethodName)) ∈ lw_tbl := List.mem_of_getElem? (l := lw_tbl) (i := 1541) (by decide +kernel)
theorem mS_X12_isDigit : am_mS m_X12_isDigit 1 := ⟨⟨tw_1369, tw_13, by decide +kernel, ⟨by decide +kernel, by decide +kernel, by decide +kernel⟩, by decide⟩, tw_1368⟩
abbrev m_X12_bad : am_M := (yX12_bad, cX12_bad, 1, none)
theorem tw_1373 : (Jvm.Cond.code ({ cls := "MouthHouseModel", name := "bad", desc := "()V" } : Jvm.MethodName) prog_14_method_10_code (1 : Nat) (Option.none : Option Jvm.ClassFile.FieldType)) ∈ lw_tbl := List.mem_of_getElem? (l := lw_tbl) (i := 1546) (by decide +kernel)
theorem tw_1372 : (Jvm.Cond.instanceMethod ({ cls := "MouthHouseModel", name := "bad", desc := "()V" } : Jvm.MethodName)) ∈ lw_tbl := List.mem_of_getElem? (l := lw_tbl) (i := 1545) (by decide +kernel)
theorem mV_X12_bad : am_mV m_X12_bad 0 := ⟨⟨tw_1373, tw_13, by decide +kernel, ⟨by decide +kernel, by decide +kernel, by decide +kernel⟩, by decide⟩, tw_1372, List.mem_of_getElem? (l := lw_tbl) (i := 123) (by decide +kernel)⟩
abbrev m_X12_in : am_M := (yX12_in, cX12_in, 3, some .boolean)
theorem tw_1376 : (Jvm.Cond.code ({ cls := "MouthHouseModel", name := "in", desc := "(III)Z" } : Jvm.MethodName) prog_14_method_1_code (3 : Nat) (Option.some Jvm.ClassFile.FieldType.boolean)) ∈ lw_tbl := List.mem_of_getElem? (l := lw_tbl) (i := 1549) (by decide +kernel)
theorem tw_1375 : (Jvm.Cond.static ({ cls := "MouthHouseModel", name := "in", desc := "(III)Z" } : Jvm.MethodName)) ∈ lw_tbl := List.mem_of_getElem? (l := lw_tbl) (i := 1548) (by decide +kernel)
theorem mS_X12_in : am_mS m_X12_in 3 := ⟨⟨tw_1376, tw_13, by decide +kernel, ⟨by decide +kernel, by decide +kernel, by decide +kernel⟩, by decide⟩, tw_1375⟩
abbrev m_X12_readLaw : am_M := (yX12_readLaw, cX12_readLaw, 2, some .int)
theorem tw_1380 : (Jvm.Cond.code ({ cls := "MouthHouseModel", name := "readLaw", desc := "(I)I" } : Jvm.MethodName) prog_14_method_29_code (2 : Nat) (Option.some Jvm.ClassFile.FieldType.int)) ∈ lw_tbl := List.mem_of_getElem? (l := lw_tbl) (i := 1553) (by decide +kernel)
theorem tw_1379 : (Jvm.Cond.instanceMethod ({ cls := "MouthHouseModel", name := "readLaw", desc := "(I)I" } : Jvm.MethodName)) ∈ lw_tbl := List.mem_of_getElem? (l := lw_tbl) (i := 1552) (by decide +kernel)
theorem mV_X12_readLaw : am_mV m_X12_readLaw 1 := ⟨⟨tw_1380, tw_13, by decide +kernel, ⟨by decide +kernel, by decide +kernel, by decide +kernel⟩, by decide⟩, tw_1379, List.mem_of_getElem? (l := lw_tbl) (i := 124) (by decide +kernel)⟩
abbrev m_X12_open : am_M := (yX12_open, cX12_open, 2, none)
theorem tw_1384 : (Jvm.Cond.code ({ cls := "MouthHouseModel", name := "open", desc := "(I)V" } : Jvm.MethodName) prog_14_method_27_code (2 : Nat) (Option.none : Option Jvm.ClassFile.FieldType)) ∈ lw_tbl := List.mem_of_getElem? (l := lw_tbl) (i := 1557) (by decide +kernel)
theorem tw_1383 : (Jvm.Cond.instanceMethod ({ cls := "MouthHouseModel", name := "open", desc := "(I)V" } : Jvm.MethodName)) ∈ lw_tbl := List.mem_of_getElem? (l := lw_tbl) (i := 1556) (by decide +kernel)
theorem mV_X12_open : am_mV m_X12_open 1 := ⟨⟨tw_1384, tw_13, by decide +kernel, ⟨by decide +kernel, by decide +kernel, by decide +kernel⟩, by decide⟩, tw_1383, List.mem_of_getElem? (l := lw_tbl) (i := 125) (by decide +kernel)⟩
abbrev m_X12_clause : am_M := (yX12_clause, cX12_clause, 3, none)
theorem tw_1388 : (Jvm.Cond.code ({ cls := "MouthHouseModel", name := "clause", desc := "()V" } : Jvm.MethodName) prog_14_method_26_code (3 : Nat) (Option.none : Option Jvm.ClassFile.FieldType)) ∈ lw_tbl := List.mem_of_getElem? (l := lw_tbl) (i := 1561) (by decide +kernel)
theorem tw_1387 : (Jvm.Cond.instanceMethod ({ cls := "MouthHouseModel", name := "clause", desc := "()V" } : Jvm.MethodName)) ∈ lw_tbl := List.mem_of_getElem? (l := lw_tbl) (i := 1560) (by decide +kernel)
theorem mV_X12_clause : am_mV m_X12_clause 0 := ⟨⟨tw_1388, tw_13, by decide +kernel, ⟨by decide +kernel, by decide +kernel, by decide +kernel⟩, by decide⟩, tw_1387, List.mem_of_getElem? (l := lw_tbl) (i := 126) (by decide +kernel)⟩
abbrev m_X12_condition : am_M := (yX12_condition, cX12_condition, 1, none)
theorem tw_1392 : (Jvm.Cond.code ({ cls := "MouthHouseModel", name := "condition", desc := "()V" } : Jvm.MethodName) prog_14_method_25_code (1 : Nat) (Option.none : Option Jvm.ClassFile.FieldType)) ∈ lw_tbl := List.mem_of_getElem? (l := lw_tbl) (i := 1565) (by decide +kernel)
theorem tw_1391 : (Jvm.Cond.instanceMethod ({ cls := "MouthHouseModel", name := "condition", desc := "()V" } : Jvm.MethodName)) ∈ lw_tbl := List.mem_of_getElem? (l := lw_tbl) (i := 1564) (by decide +kernel)
theorem mV_X12_condition : am_mV m_X12_condition 0 := ⟨⟨tw_1392, tw_13, by decide +kernel, ⟨by decide +kernel, by decide +kernel, by decide +kernel⟩, by decide⟩, tw_1391, List.mem_of_getElem? (l := lw_tbl) (i := 127) (by decide +kernel)⟩
abbrev m_X12_unit : am_M := (yX12_unit, cX12_unit, 2, none)
theorem tw_1396 : (Jvm.Cond.code ({ cls := "MouthHouseModel", name := "unit", desc := "()V" } : Jvm.MethodName) prog_14_method_22_code (2 : Nat) (Option.none : Option Jvm.ClassFile.FieldType)) ∈ lw_tbl := List.mem_of_getElem? (l := lw_tbl) (i := 1569) (by decide +kernel)
theorem tw_1395 : (Jvm.Cond.instanceMethod ({ cls := "MouthHouseModel", name := "unit", desc := "()V" } : Jvm.MethodName)) ∈ lw_tbl := List.mem_of_getElem? (l := lw_tbl) (i := 1568) (by decide +kernel)
theorem mV_X12_unit : am_mV m_X12_unit 0 := ⟨⟨tw_1396, tw_13, by decide +kernel, ⟨by decide +kernel, by decide +kernel, by decide +kernel⟩, by decide⟩, tw_1395, List.mem_of_getElem? (l := lw_tbl) (i := 128) (by decide +kernel)⟩
abbrev m_X12_opens : am_M := (yX12_opens, cX12_opens, 1, none)
theorem tw_1400 : (Jvm.Cond.code ({ cls := "MouthHouseModel", name := "opens", desc := "()V" } : Jvm.MethodName) prog_14_method_14_code (1 : Nat) (Option.none : Option Jvm.ClassFile.FieldType)) ∈ lw_tbl := List.mem_of_getElem? (l := lw_tbl) (i := 1573) (by decide +kernel)
theorem tw_1399 : (Jvm.Cond.instanceMethod ({ cls := "MouthHouseModel", name := "opens", desc := "()V" } : Jvm.MethodName)) ∈ lw_tbl := List.mem_of_getElem? (l := lw_tbl) (i := 1572) (by decide +kernel)
theorem mV_X12_opens : am_mV m_X12_opens 0 := ⟨⟨tw_1400, tw_13, by decide +kernel, ⟨by decide +kernel, by decide +kernel, by decide +kernel⟩, by decide⟩, tw_1399, List.mem_of_getElem? (l := lw_tbl) (i := 129) (by decide +kernel)⟩
abbrev m_X12_put : am_M := (yX12_put, cX12_put, 3, none)
theorem tw_1404 : (Jvm.Cond.code ({ cls := "MouthHouseModel", name := "put", desc := "(II)V" } : Jvm.MethodName) prog_14_method_12_code (3 : Nat) (Option.none : Option Jvm.ClassFile.FieldType)) ∈ lw_tbl := List.mem_of_getElem? (l := lw_tbl) (i := 1577) (by decide +kernel)
theorem tw_1403 : (Jvm.Cond.instanceMethod ({ cls := "MouthHouseModel", name := "put", desc := "(II)V" } : Jvm.MethodName)) ∈ lw_tbl := List.mem_of_getElem? (l := lw_tbl) (i := 1576) (by decide +kernel)
theorem mV_X12_put : am_mV m_X12_put 2 := ⟨⟨tw_1404, tw_13, by decide +kernel, ⟨by decide +kernel, by decide +kernel, by decide +kernel⟩, by decide⟩, tw_1403, List.mem_of_getElem? (l := lw_tbl) (i := 130) (by decide +kernel)⟩
abbrev m_X12_closes : am_M := (yX12_closes, cX12_closes, 2, none)
theorem tw_1408 : (Jvm.Cond.code ({ cls := "MouthHouseModel", name := "closes", desc := "(I)V" } : Jvm.MethodName) prog_14_method_15_code (2 : Nat) (Option.none : Option Jvm.ClassFile.FieldType)) ∈ lw_tbl := List.mem_of_getElem? (l := lw_tbl) (i := 1581) (by decide +kernel)
theorem tw_1407 : (Jvm.Cond.instanceMethod ({ cls := "MouthHouseModel", name := "closes", desc := "(I)V" } : Jvm.MethodName)) ∈ lw_tbl := List.mem_of_getElem? (l := lw_tbl) (i := 1580) (by decide +kernel)
theorem mV_X12_closes : am_mV m_X12_closes 1 := ⟨⟨tw_1408, tw_13, by decide +kernel, ⟨by decide +kernel, by decide +kernel, by decide +kernel⟩, by decide⟩, tw_1407, List.mem_of_getElem? (l := lw_tbl) (i := 131) (by decide +kernel)⟩
abbrev m_X12_sum : am_M := (yX12_sum, cX12_sum, 2, none)
theorem tw_1412 : (Jvm.Cond.code ({ cls := "MouthHouseModel", name := "sum", desc := "()V" } : Jvm.MethodName) prog_14_method_19_code (2 : Nat) (Option.none : Option Jvm.ClassFile.FieldType)) ∈ lw_tbl := List.mem_of_getElem? (l := lw_tbl) (i := 1585) (by decide +kernel)
theorem tw_1411 : (Jvm.Cond.instanceMethod ({ cls := "MouthHouseModel", name := "sum", desc := "()V" } : Jvm.MethodName)) ∈ lw_tbl := List.mem_of_getElem? (l := lw_tbl) (i := 1584) (by decide +kernel)
theorem mV_X12_sum : am_mV m_X12_sum 0 := ⟨⟨tw_1412, tw_13, by decide +kernel, ⟨by decide +kernel, by decide +kernel, by decide +kernel⟩, by decide⟩, tw_1411, List.mem_of_getElem? (l := lw_tbl) (i := 132) (by decide +kernel)⟩
abbrev m_X12_term : am_M := (yX12_term, cX12_term, 2, none)
theorem tw_1416 : (Jvm.Cond.code ({ cls := "MouthHouseModel", name := "term", desc := "()V" } : Jvm.MethodName) prog_14_method_18_code (2 : Nat) (Option.none : Option Jvm.ClassFile.FieldType)) ∈ lw_tbl := List.mem_of_getElem? (l := lw_tbl) (i := 1589) (by decide +kernel)
theorem tw_1415 : (Jvm.Cond.instanceMethod ({ cls := "MouthHouseModel", name := "term", desc := "()V" } : Jvm.MethodName)) ∈ lw_tbl := List.mem_of_getElem? (l := lw_tbl) (i := 1588) (by decide +kernel)
theorem mV_X12_term : am_mV m_X12_term 0 := ⟨⟨tw_1416, tw_13, by decide +kernel, ⟨by decide +kernel, by decide +kernel, by decide +kernel⟩, by decide⟩, tw_1415, List.mem_of_getElem? (l := lw_tbl) (i := 133) (by decide +kernel)⟩
abbrev m_X12_atom : am_M := (yX12_atom, cX12_atom, 2, none)
theorem tw_1420 : (Jvm.Cond.code ({ cls := "MouthHouseModel", name := "atom", desc := "()V" } : Jvm.MethodName) prog_14_method_17_code (2 : Nat) (Option.none : Option Jvm.ClassFile.FieldType)) ∈ lw_tbl := List.mem_of_getElem? (l := lw_tbl) (i := 1593) (by decide +kernel)
theorem tw_1419 : (Jvm.Cond.instanceMethod ({ cls := "MouthHouseModel", name := "atom", desc := "()V" } : Jvm.MethodName)) ∈ lw_tbl := List.mem_of_getElem? (l := lw_tbl) (i := 1592) (by decide +kernel)
theorem mV_X12_atom : am_mV m_X12_atom 0 := ⟨⟨tw_1420, tw_13, by decide +kernel, ⟨by decide +kernel, by decide +kernel, by decide +kernel⟩, by decide⟩, tw_1419, List.mem_of_getElem? (l := lw_tbl) (i := 134) (by decide +kernel)⟩
abbrev m_X12_plainNumber : am_M := (yX12_plainNumber, cX12_plainNumber, 3, some .int)
theorem tw_1424 : (Jvm.Cond.code ({ cls := "MouthHouseModel", name := "plainNumber", desc := "()I" } : Jvm.MethodName) prog_14_method_16_code (3 : Nat) (Option.some Jvm.ClassFile.FieldType.int)) ∈ lw_tbl := List.mem_of_getElem? (l := lw_tbl) (i := 1597) (by decide +kernel)
theorem tw_1423 : (Jvm.Cond.instanceMethod ({ cls := "MouthHouseModel", name := "plainNumber", desc := "()I" } : Jvm.MethodName)) ∈ lw_tbl := List.mem_of_getElem? (l := lw_tbl) (i := 1596) (by decide +kernel)
theorem mV_X12_plainNumber : am_mV m_X12_plainNumber 0 := ⟨⟨tw_1424, tw_13, by decide +kernel, ⟨by decide +kernel, by decide +kernel, by decide +kernel⟩, by decide⟩, tw_1423, List.mem_of_getElem? (l := lw_tbl) (i := 135) (by decide +kernel)⟩
abbrev m_X12_letterOf : am_M := (yX12_letterOf, cX12_letterOf, 1, some .int)
