set_option maxRecDepth 100000 in
theorem ok_X0 : am_ok 0 RX0 TX0 := ⟨rfl, by decide +kernel, tyX0_ok, nmX0, by decide⟩
set_option maxRecDepth 100000 in
theorem ok_X1 : am_ok 1 RX1 TX1 := ⟨rfl, by decide +kernel, tyX1_ok, nmX1, by decide⟩
set_option maxRecDepth 100000 in
theorem ok_X2 : am_ok 2 RX2 TX2 := ⟨rfl, by decide +kernel, tyX2_ok, nmX2, by decide⟩
set_option maxRecDepth 100000 in
theorem ok_X3 : am_ok 3 RX3 TX3 := ⟨rfl, by decide +kernel, tyX3_ok, nmX3, by decide⟩
set_option maxRecDepth 100000 in
theorem ok_X4 : am_ok 4 RX4 TX4 := ⟨rfl, by decide +kernel, tyX4_ok, nmX4, by decide⟩
set_option maxRecDepth 100000 in
theorem ok_X5 : am_ok 5 RX5 TX5 := ⟨rfl, by decide +kernel, tyX5_ok, nmX5, by decide⟩
set_option maxRecDepth 100000 in
theorem ok_X6 : am_ok 6 RX6 TX6 := ⟨rfl, by decide +kernel, tyX6_ok, nmX6, by decide⟩
set_option maxRecDepth 100000 in
theorem ok_X7 : am_ok 7 RX7 TX7 := ⟨rfl, by decide +kernel, tyX7_ok, nmX7, by decide⟩
set_option maxRecDepth 100000 in
theorem ok_X8 : am_ok 8 RX8 TX8 := ⟨rfl, by decide +kernel, tyX8_ok, nmX8, by decide⟩
set_option maxRecDepth 100000 in
theorem ok_X9 : am_ok 9 RX9 TX9 := ⟨rfl, by decide +kernel, tyX9_ok, nmX9, by decide⟩
set_option maxRecDepth 100000 in
theorem ok_X10 : am_ok 10 RX10 TX10 := ⟨rfl, by decide +kernel, tyX10_ok, nmX10, by decide⟩
set_option maxRecDepth 100000 in
theorem ok_X11 : am_ok 11 RX11 TX11 := ⟨rfl, by decide +kernel, tyX11_ok, nmX11, by decide⟩
set_option maxRecDepth 100000 in
theorem ok_X12 : am_ok 12 RX12 TX12 := ⟨rfl, by decide +kernel, tyX12_ok, nmX12, by decide⟩
theorem tw_36 : (Jvm.Cond.fieldLink "MouthHouse$Tape" (11 : Nat) "MouthHouse$Tape" "bytes" "[I") ∈ lw_tbl := List.mem_of_getElem? (l := lw_tbl) (i := 209) (by decide +kernel)
theorem fl_X9_11 : am_fl RX9 11 9 0 := ⟨RX9, TX9, ok_X9, by decide, rfl, Or.inl tw_36⟩
theorem fw_X9_11 {y : MethodName} (hy : y.cls = RX9) (hn : y.name = "<init>") : am_fw y 11 9 0 := ⟨RX9, TX9, ok_X9, by decide, rfl, Or.inr ⟨rfl, hn, hy.symm, by rw [hy]; exact tw_36⟩⟩
theorem tw_37 : (Jvm.Cond.fieldLink "MouthHouse$Tape" (15 : Nat) "MouthHouse$Tape" "length" "I") ∈ lw_tbl := List.mem_of_getElem? (l := lw_tbl) (i := 210) (by decide +kernel)
theorem fl_X9_15 : am_fl RX9 15 9 1 := ⟨RX9, TX9, ok_X9, by decide, rfl, Or.inl tw_37⟩
theorem fw_X9_15 {y : MethodName} (hy : y.cls = RX9) : am_fw y 15 9 1 := ⟨RX9, TX9, ok_X9, by decide, rfl, Or.inl ⟨rfl, Or.inl (by rw [hy]; exact tw_37)⟩⟩
theorem tw_38 : (Jvm.Cond.fieldLinkNest "MouthHouse" (125 : Nat) "MouthHouse$Tape" "length" "I" "MouthHouse") ∈ lw_tbl := List.mem_of_getElem? (l := lw_tbl) (i := 211) (by decide +kernel)
theorem fl_X11_125 : am_fl RX11 125 9 1 := ⟨RX9, TX9, ok_X9, by decide, rfl, Or.inr ⟨_, tw_38⟩⟩
theorem fw_X11_125 {y : MethodName} (hy : y.cls = RX11) : am_fw y 125 9 1 := ⟨RX9, TX9, ok_X9, by decide, rfl, Or.inl ⟨rfl, Or.inr ⟨_, by rw [hy]; exact tw_38⟩⟩⟩
theorem tw_39 : (Jvm.Cond.fieldLink "MouthHouse$Tape" (19 : Nat) "MouthHouse$Tape" "at" "I") ∈ lw_tbl := List.mem_of_getElem? (l := lw_tbl) (i := 212) (by decide +kernel)
theorem fl_X9_19 : am_fl RX9 19 9 2 := ⟨RX9, TX9, ok_X9, by decide, rfl, Or.inl tw_39⟩
theorem fw_X9_19 {y : MethodName} (hy : y.cls = RX9) : am_fw y 19 9 2 := ⟨RX9, TX9, ok_X9, by decide, rfl, Or.inl ⟨rfl, Or.inl (by rw [hy]; exact tw_39)⟩⟩
theorem tw_40 : (Jvm.Cond.fieldLinkNest "MouthHouse$MannersReader" (40 : Nat) "MouthHouse$Tape" "at" "I" "MouthHouse") ∈ lw_tbl := List.mem_of_getElem? (l := lw_tbl) (i := 213) (by decide +kernel)
theorem fl_X4_40 : am_fl RX4 40 9 2 := ⟨RX9, TX9, ok_X9, by decide, rfl, Or.inr ⟨_, tw_40⟩⟩
theorem fw_X4_40 {y : MethodName} (hy : y.cls = RX4) : am_fw y 40 9 2 := ⟨RX9, TX9, ok_X9, by decide, rfl, Or.inl ⟨rfl, Or.inr ⟨_, by rw [hy]; exact tw_40⟩⟩⟩
theorem tw_41 : (Jvm.Cond.fieldLinkNest "MouthHouse$HouseReader" (46 : Nat) "MouthHouse$Tape" "at" "I" "MouthHouse") ∈ lw_tbl := List.mem_of_getElem? (l := lw_tbl) (i := 214) (by decide +kernel)
theorem fl_X2_46 : am_fl RX2 46 9 2 := ⟨RX9, TX9, ok_X9, by decide, rfl, Or.inr ⟨_, tw_41⟩⟩
theorem fw_X2_46 {y : MethodName} (hy : y.cls = RX2) : am_fw y 46 9 2 := ⟨RX9, TX9, ok_X9, by decide, rfl, Or.inl ⟨rfl, Or.inr ⟨_, by rw [hy]; exact tw_41⟩⟩⟩
theorem tw_62 : (Jvm.Cond.fieldLink "MouthHouse$Members" (9 : Nat) "MouthHouse$Members" "size" "I") ∈ lw_tbl := List.mem_of_getElem? (l := lw_tbl) (i := 235) (by decide +kernel)
theorem fl_X5_9 : am_fl RX5 9 5 0 := ⟨RX5, TX5, ok_X5, by decide, rfl, Or.inl tw_62⟩
theorem fw_X5_9 {y : MethodName} (hy : y.cls = RX5) : am_fw y 9 5 0 := ⟨RX5, TX5, ok_X5, by decide, rfl, Or.inl ⟨rfl, Or.inl (by rw [hy]; exact tw_62)⟩⟩
theorem tw_63 : (Jvm.Cond.fieldLinkNest "MouthHouse$Talk" (35 : Nat) "MouthHouse$Members" "size" "I" "MouthHouse") ∈ lw_tbl := List.mem_of_getElem? (l := lw_tbl) (i := 236) (by decide +kernel)
theorem fl_X8_35 : am_fl RX8 35 5 0 := ⟨RX5, TX5, ok_X5, by decide, rfl, Or.inr ⟨_, tw_63⟩⟩
theorem fw_X8_35 {y : MethodName} (hy : y.cls = RX8) : am_fw y 35 5 0 := ⟨RX5, TX5, ok_X5, by decide, rfl, Or.inl ⟨rfl, Or.inr ⟨_, by rw [hy]; exact tw_63⟩⟩⟩
theorem tw_64 : (Jvm.Cond.fieldLinkNest "MouthHouse$HouseReader" (42 : Nat) "MouthHouse$Members" "size" "I" "MouthHouse") ∈ lw_tbl := List.mem_of_getElem? (l := lw_tbl) (i := 237) (by decide +kernel)
theorem fl_X2_42 : am_fl RX2 42 5 0 := ⟨RX5, TX5, ok_X5, by decide, rfl, Or.inr ⟨_, tw_64⟩⟩
theorem fw_X2_42 {y : MethodName} (hy : y.cls = RX2) : am_fw y 42 5 0 := ⟨RX5, TX5, ok_X5, by decide, rfl, Or.inl ⟨rfl, Or.inr ⟨_, by rw [hy]; exact tw_64⟩⟩⟩
theorem tw_65 : (Jvm.Cond.fieldLinkNest "MouthHouse$Votes" (44 : Nat) "MouthHouse$Members" "size" "I" "MouthHouse") ∈ lw_tbl := List.mem_of_getElem? (l := lw_tbl) (i := 238) (by decide +kernel)
theorem fl_X10_44 : am_fl RX10 44 5 0 := ⟨RX5, TX5, ok_X5, by decide, rfl, Or.inr ⟨_, tw_65⟩⟩
theorem fw_X10_44 {y : MethodName} (hy : y.cls = RX10) : am_fw y 44 5 0 := ⟨RX5, TX5, ok_X5, by decide, rfl, Or.inl ⟨rfl, Or.inr ⟨_, by rw [hy]; exact tw_65⟩⟩⟩
theorem tw_66 : (Jvm.Cond.fieldLinkNest "MouthHouse$Best" (53 : Nat) "MouthHouse$Members" "size" "I" "MouthHouse") ∈ lw_tbl := List.mem_of_getElem? (l := lw_tbl) (i := 239) (by decide +kernel)
theorem fl_X0_53 : am_fl RX0 53 5 0 := ⟨RX5, TX5, ok_X5, by decide, rfl, Or.inr ⟨_, tw_66⟩⟩
theorem fw_X0_53 {y : MethodName} (hy : y.cls = RX0) : am_fw y 53 5 0 := ⟨RX5, TX5, ok_X5, by decide, rfl, Or.inl ⟨rfl, Or.inr ⟨_, by rw [hy]; exact tw_66⟩⟩⟩
theorem tw_67 : (Jvm.Cond.fieldLinkNest "MouthHouse$Changes" (76 : Nat) "MouthHouse$Members" "size" "I" "MouthHouse") ∈ lw_tbl := List.mem_of_getElem? (l := lw_tbl) (i := 240) (by decide +kernel)
theorem fl_X1_76 : am_fl RX1 76 5 0 := ⟨RX5, TX5, ok_X5, by decide, rfl, Or.inr ⟨_, tw_67⟩⟩
theorem fw_X1_76 {y : MethodName} (hy : y.cls = RX1) : am_fw y 76 5 0 := ⟨RX5, TX5, ok_X5, by decide, rfl, Or.inl ⟨rfl, Or.inr ⟨_, by rw [hy]; exact tw_67⟩⟩⟩
theorem tw_68 : (Jvm.Cond.fieldLinkNest "MouthHouse" (146 : Nat) "MouthHouse$Members" "size" "I" "MouthHouse") ∈ lw_tbl := List.mem_of_getElem? (l := lw_tbl) (i := 241) (by decide +kernel)
theorem fl_X11_146 : am_fl RX11 146 5 0 := ⟨RX5, TX5, ok_X5, by decide, rfl, Or.inr ⟨_, tw_68⟩⟩
theorem fw_X11_146 {y : MethodName} (hy : y.cls = RX11) : am_fw y 146 5 0 := ⟨RX5, TX5, ok_X5, by decide, rfl, Or.inl ⟨rfl, Or.inr ⟨_, by rw [hy]; exact tw_68⟩⟩⟩
theorem tw_69 : (Jvm.Cond.fieldLink "MouthHouse$Members" (15 : Nat) "MouthHouse$Members" "ring" "Z") ∈ lw_tbl := List.mem_of_getElem? (l := lw_tbl) (i := 242) (by decide +kernel)
theorem fl_X5_15 : am_fl RX5 15 5 1 := ⟨RX5, TX5, ok_X5, by decide, rfl, Or.inl tw_69⟩
theorem fw_X5_15 {y : MethodName} (hy : y.cls = RX5) : am_fw y 15 5 1 := ⟨RX5, TX5, ok_X5, by decide, rfl, Or.inl ⟨rfl, Or.inl (by rw [hy]; exact tw_69)⟩⟩
theorem tw_70 : (Jvm.Cond.fieldLinkNest "MouthHouse$Talk" (39 : Nat) "MouthHouse$Members" "ring" "Z" "MouthHouse") ∈ lw_tbl := List.mem_of_getElem? (l := lw_tbl) (i := 243) (by decide +kernel)
theorem fl_X8_39 : am_fl RX8 39 5 1 := ⟨RX5, TX5, ok_X5, by decide, rfl, Or.inr ⟨_, tw_70⟩⟩
theorem fw_X8_39 {y : MethodName} (hy : y.cls = RX8) : am_fw y 39 5 1 := ⟨RX5, TX5, ok_X5, by decide, rfl, Or.inl ⟨rfl, Or.inr ⟨_, by rw [hy]; exact tw_70⟩⟩⟩
theorem tw_71 : (Jvm.Cond.fieldLinkNest "MouthHouse$HouseReader" (52 : Nat) "MouthHouse$Members" "ring" "Z" "MouthHouse") ∈ lw_tbl := List.mem_of_getElem? (l := lw_tbl) (i := 244) (by decide +kernel)
theorem fl_X2_52 : am_fl RX2 52 5 1 := ⟨RX5, TX5, ok_X5, by decide, rfl, Or.inr ⟨_, tw_71⟩⟩
theorem fw_X2_52 {y : MethodName} (hy : y.cls = RX2) : am_fw y 52 5 1 := ⟨RX5, TX5, ok_X5, by decide, rfl, Or.inl ⟨rfl, Or.inr ⟨_, by rw [hy]; exact tw_71⟩⟩⟩
theorem tw_72 : (Jvm.Cond.fieldLinkNest "MouthHouse$Changes" (69 : Nat) "MouthHouse$Members" "ring" "Z" "MouthHouse") ∈ lw_tbl := List.mem_of_getElem? (l := lw_tbl) (i := 245) (by decide +kernel)
theorem fl_X1_69 : am_fl RX1 69 5 1 := ⟨RX5, TX5, ok_X5, by decide, rfl, Or.inr ⟨_, tw_72⟩⟩
theorem fw_X1_69 {y : MethodName} (hy : y.cls = RX1) : am_fw y 69 5 1 := ⟨RX5, TX5, ok_X5, by decide, rfl, Or.inl ⟨rfl, Or.inr ⟨_, by rw [hy]; exact tw_72⟩⟩⟩
theorem tw_73 : (Jvm.Cond.fieldLinkNest "MouthHouse$Best" (59 : Nat) "MouthHouse$Members" "ring" "Z" "MouthHouse") ∈ lw_tbl := List.mem_of_getElem? (l := lw_tbl) (i := 246) (by decide +kernel)
theorem fl_X0_59 : am_fl RX0 59 5 1 := ⟨RX5, TX5, ok_X5, by decide, rfl, Or.inr ⟨_, tw_73⟩⟩
theorem fw_X0_59 {y : MethodName} (hy : y.cls = RX0) : am_fw y 59 5 1 := ⟨RX5, TX5, ok_X5, by decide, rfl, Or.inl ⟨rfl, Or.inr ⟨_, by rw [hy]; exact tw_73⟩⟩⟩
theorem tw_74 : (Jvm.Cond.fieldLinkNest "MouthHouse" (325 : Nat) "MouthHouse$Members" "ring" "Z" "MouthHouse") ∈ lw_tbl := List.mem_of_getElem? (l := lw_tbl) (i := 247) (by decide +kernel)
theorem fl_X11_325 : am_fl RX11 325 5 1 := ⟨RX5, TX5, ok_X5, by decide, rfl, Or.inr ⟨_, tw_74⟩⟩
theorem fw_X11_325 {y : MethodName} (hy : y.cls = RX11) : am_fw y 325 5 1 := ⟨RX5, TX5, ok_X5, by decide, rfl, Or.inl ⟨rfl, Or.inr ⟨_, by rw [hy]; exact tw_74⟩⟩⟩
theorem tw_75 : (Jvm.Cond.fieldLink "MouthHouse$Members" (19 : Nat) "MouthHouse$Members" "facts" "[I") ∈ lw_tbl := List.mem_of_getElem? (l := lw_tbl) (i := 248) (by decide +kernel)
theorem fl_X5_19 : am_fl RX5 19 5 2 := ⟨RX5, TX5, ok_X5, by decide, rfl, Or.inl tw_75⟩
theorem fw_X5_19 {y : MethodName} (hy : y.cls = RX5) (hn : y.name = "<init>") : am_fw y 19 5 2 := ⟨RX5, TX5, ok_X5, by decide, rfl, Or.inr ⟨rfl, hn, hy.symm, by rw [hy]; exact tw_75⟩⟩
theorem tw_83 : (Jvm.Cond.fieldLink "MouthHouse$HouseReader" (9 : Nat) "MouthHouse$HouseReader" "tape" "LMouthHouse$Tape;") ∈ lw_tbl := List.mem_of_getElem? (l := lw_tbl) (i := 256) (by decide +kernel)
theorem fl_X2_9 : am_fl RX2 9 2 0 := ⟨RX2, TX2, ok_X2, by decide, rfl, Or.inl tw_83⟩
theorem fw_X2_9 {y : MethodName} (hy : y.cls = RX2) (hn : y.name = "<init>") : am_fw y 9 2 0 := ⟨RX2, TX2, ok_X2, by decide, rfl, Or.inr ⟨rfl, hn, hy.symm, by rw [hy]; exact tw_83⟩⟩
theorem tw_84 : (Jvm.Cond.fieldLink "MouthHouse$HouseReader" (18 : Nat) "MouthHouse$HouseReader" "draft" "LMouthHouse$Members;") ∈ lw_tbl := List.mem_of_getElem? (l := lw_tbl) (i := 257) (by decide +kernel)
theorem fl_X2_18 : am_fl RX2 18 2 1 := ⟨RX2, TX2, ok_X2, by decide, rfl, Or.inl tw_84⟩
theorem fw_X2_18 {y : MethodName} (hy : y.cls = RX2) (hn : y.name = "<init>") : am_fw y 18 2 1 := ⟨RX2, TX2, ok_X2, by decide, rfl, Or.inr ⟨rfl, hn, hy.symm, by rw [hy]; exact tw_84⟩⟩
theorem tw_85 : (Jvm.Cond.fieldLinkNest "MouthHouse" (140 : Nat) "MouthHouse$HouseReader" "draft" "LMouthHouse$Members;" "MouthHouse") ∈ lw_tbl := List.mem_of_getElem? (l := lw_tbl) (i := 258) (by decide +kernel)
theorem fl_X11_140 : am_fl RX11 140 2 1 := ⟨RX2, TX2, ok_X2, by decide, rfl, Or.inr ⟨_, tw_85⟩⟩
theorem tw_97 : (Jvm.Cond.fieldLink "MouthHouse$MannersReader" (9 : Nat) "MouthHouse$MannersReader" "tape" "LMouthHouse$Tape;") ∈ lw_tbl := List.mem_of_getElem? (l := lw_tbl) (i := 270) (by decide +kernel)
theorem fl_X4_9 : am_fl RX4 9 4 0 := ⟨RX4, TX4, ok_X4, by decide, rfl, Or.inl tw_97⟩
theorem fw_X4_9 {y : MethodName} (hy : y.cls = RX4) (hn : y.name = "<init>") : am_fw y 9 4 0 := ⟨RX4, TX4, ok_X4, by decide, rfl, Or.inr ⟨rfl, hn, hy.symm, by rw [hy]; exact tw_97⟩⟩
theorem tw_98 : (Jvm.Cond.fieldLink "MouthHouse$MannersReader" (17 : Nat) "MouthHouse$MannersReader" "signs" "[I") ∈ lw_tbl := List.mem_of_getElem? (l := lw_tbl) (i := 271) (by decide +kernel)
theorem fl_X4_17 : am_fl RX4 17 4 1 := ⟨RX4, TX4, ok_X4, by decide, rfl, Or.inl tw_98⟩
theorem fw_X4_17 {y : MethodName} (hy : y.cls = RX4) (hn : y.name = "<init>") : am_fw y 17 4 1 := ⟨RX4, TX4, ok_X4, by decide, rfl, Or.inr ⟨rfl, hn, hy.symm, by rw [hy]; exact tw_98⟩⟩
theorem tw_99 : (Jvm.Cond.fieldLink "MouthHouse$MannersReader" (21 : Nat) "MouthHouse$MannersReader" "size" "I") ∈ lw_tbl := List.mem_of_getElem? (l := lw_tbl) (i := 272) (by decide +kernel)
theorem fl_X4_21 : am_fl RX4 21 4 2 := ⟨RX4, TX4, ok_X4, by decide, rfl, Or.inl tw_99⟩
theorem fw_X4_21 {y : MethodName} (hy : y.cls = RX4) : am_fw y 21 4 2 := ⟨RX4, TX4, ok_X4, by decide, rfl, Or.inl ⟨rfl, Or.inl (by rw [hy]; exact tw_99)⟩⟩
theorem tw_117 : (Jvm.Cond.fieldLink "MouthHouse$Seating" (9 : Nat) "MouthHouse$Seating" "size" "I") ∈ lw_tbl := List.mem_of_getElem? (l := lw_tbl) (i := 290) (by decide +kernel)
theorem fl_X6_9 : am_fl RX6 9 6 0 := ⟨RX6, TX6, ok_X6, by decide, rfl, Or.inl tw_117⟩
theorem fw_X6_9 {y : MethodName} (hy : y.cls = RX6) : am_fw y 9 6 0 := ⟨RX6, TX6, ok_X6, by decide, rfl, Or.inl ⟨rfl, Or.inl (by rw [hy]; exact tw_117)⟩⟩
theorem tw_118 : (Jvm.Cond.fieldLink "MouthHouse$Seating" (15 : Nat) "MouthHouse$Seating" "onSeat" "[I") ∈ lw_tbl := List.mem_of_getElem? (l := lw_tbl) (i := 291) (by decide +kernel)
theorem fl_X6_15 : am_fl RX6 15 6 1 := ⟨RX6, TX6, ok_X6, by decide, rfl, Or.inl tw_118⟩
theorem fw_X6_15 {y : MethodName} (hy : y.cls = RX6) (hn : y.name = "<init>") : am_fw y 15 6 1 := ⟨RX6, TX6, ok_X6, by decide, rfl, Or.inr ⟨rfl, hn, hy.symm, by rw [hy]; exact tw_118⟩⟩
theorem tw_119 : (Jvm.Cond.fieldLink "MouthHouse$Seating" (19 : Nat) "MouthHouse$Seating" "seats" "[I") ∈ lw_tbl := List.mem_of_getElem? (l := lw_tbl) (i := 292) (by decide +kernel)
theorem fl_X6_19 : am_fl RX6 19 6 2 := ⟨RX6, TX6, ok_X6, by decide, rfl, Or.inl tw_119⟩
theorem fw_X6_19 {y : MethodName} (hy : y.cls = RX6) (hn : y.name = "<init>") : am_fw y 19 6 2 := ⟨RX6, TX6, ok_X6, by decide, rfl, Or.inr ⟨rfl, hn, hy.symm, by rw [hy]; exact tw_119⟩⟩
theorem tw_133 : (Jvm.Cond.fieldLink "MouthHouse$Talk" (9 : Nat) "MouthHouse$Talk" "members" "LMouthHouse$Members;") ∈ lw_tbl := List.mem_of_getElem? (l := lw_tbl) (i := 306) (by decide +kernel)
theorem fl_X8_9 : am_fl RX8 9 8 0 := ⟨RX8, TX8, ok_X8, by decide, rfl, Or.inl tw_133⟩
theorem fw_X8_9 {y : MethodName} (hy : y.cls = RX8) (hn : y.name = "<init>") : am_fw y 9 8 0 := ⟨RX8, TX8, ok_X8, by decide, rfl, Or.inr ⟨rfl, hn, hy.symm, by rw [hy]; exact tw_133⟩⟩
theorem tw_134 : (Jvm.Cond.fieldLinkNest "MouthHouse$Votes" (15 : Nat) "MouthHouse$Talk" "members" "LMouthHouse$Members;" "MouthHouse") ∈ lw_tbl := List.mem_of_getElem? (l := lw_tbl) (i := 307) (by decide +kernel)
theorem fl_X10_15 : am_fl RX10 15 8 0 := ⟨RX8, TX8, ok_X8, by decide, rfl, Or.inr ⟨_, tw_134⟩⟩
theorem tw_135 : (Jvm.Cond.fieldLink "MouthHouse$Talk" (15 : Nat) "MouthHouse$Talk" "seating" "LMouthHouse$Seating;") ∈ lw_tbl := List.mem_of_getElem? (l := lw_tbl) (i := 308) (by decide +kernel)
theorem fl_X8_15 : am_fl RX8 15 8 1 := ⟨RX8, TX8, ok_X8, by decide, rfl, Or.inl tw_135⟩
theorem fw_X8_15 {y : MethodName} (hy : y.cls = RX8) (hn : y.name = "<init>") : am_fw y 15 8 1 := ⟨RX8, TX8, ok_X8, by decide, rfl, Or.inr ⟨rfl, hn, hy.symm, by rw [hy]; exact tw_135⟩⟩
theorem tw_136 : (Jvm.Cond.fieldLink "MouthHouse$Talk" (19 : Nat) "MouthHouse$Talk" "minutes" "[I") ∈ lw_tbl := List.mem_of_getElem? (l := lw_tbl) (i := 309) (by decide +kernel)
theorem fl_X8_19 : am_fl RX8 19 8 2 := ⟨RX8, TX8, ok_X8, by decide, rfl, Or.inl tw_136⟩
theorem fw_X8_19 {y : MethodName} (hy : y.cls = RX8) (hn : y.name = "<init>") : am_fw y 19 8 2 := ⟨RX8, TX8, ok_X8, by decide, rfl, Or.inr ⟨rfl, hn, hy.symm, by rw [hy]; exact tw_136⟩⟩
theorem tw_150 : (Jvm.Cond.fieldLink "MouthHouse$Votes" (9 : Nat) "MouthHouse$Votes" "talk" "LMouthHouse$Talk;") ∈ lw_tbl := List.mem_of_getElem? (l := lw_tbl) (i := 323) (by decide +kernel)
theorem fl_X10_9 : am_fl RX10 9 10 0 := ⟨RX10, TX10, ok_X10, by decide, rfl, Or.inl tw_150⟩
theorem fw_X10_9 {y : MethodName} (hy : y.cls = RX10) (hn : y.name = "<init>") : am_fw y 9 10 0 := ⟨RX10, TX10, ok_X10, by decide, rfl, Or.inr ⟨rfl, hn, hy.symm, by rw [hy]; exact tw_150⟩⟩
theorem tw_151 : (Jvm.Cond.fieldLink "MouthHouse$Votes" (21 : Nat) "MouthHouse$Votes" "members" "LMouthHouse$Members;") ∈ lw_tbl := List.mem_of_getElem? (l := lw_tbl) (i := 324) (by decide +kernel)
theorem fl_X10_21 : am_fl RX10 21 10 1 := ⟨RX10, TX10, ok_X10, by decide, rfl, Or.inl tw_151⟩
theorem fw_X10_21 {y : MethodName} (hy : y.cls = RX10) (hn : y.name = "<init>") : am_fw y 21 10 1 := ⟨RX10, TX10, ok_X10, by decide, rfl, Or.inr ⟨rfl, hn, hy.symm, by rw [hy]; exact tw_151⟩⟩
theorem tw_152 : (Jvm.Cond.fieldLink "MouthHouse$Votes" (22 : Nat) "MouthHouse$Votes" "parts" "[J") ∈ lw_tbl := List.mem_of_getElem? (l := lw_tbl) (i := 325) (by decide +kernel)
theorem fl_X10_22 : am_fl RX10 22 10 2 := ⟨RX10, TX10, ok_X10, by decide, rfl, Or.inl tw_152⟩
theorem fw_X10_22 {y : MethodName} (hy : y.cls = RX10) (hn : y.name = "<init>") : am_fw y 22 10 2 := ⟨RX10, TX10, ok_X10, by decide, rfl, Or.inr ⟨rfl, hn, hy.symm, by rw [hy]; exact tw_152⟩⟩
theorem tw_153 : (Jvm.Cond.fieldLink "MouthHouse$Votes" (26 : Nat) "MouthHouse$Votes" "known" "I") ∈ lw_tbl := List.mem_of_getElem? (l := lw_tbl) (i := 326) (by decide +kernel)
theorem fl_X10_26 : am_fl RX10 26 10 3 := ⟨RX10, TX10, ok_X10, by decide, rfl, Or.inl tw_153⟩
theorem fw_X10_26 {y : MethodName} (hy : y.cls = RX10) : am_fw y 26 10 3 := ⟨RX10, TX10, ok_X10, by decide, rfl, Or.inl ⟨rfl, Or.inl (by rw [hy]; exact tw_153)⟩⟩
theorem tw_154 : (Jvm.Cond.fieldLinkNest "MouthHouse" (331 : Nat) "MouthHouse$Votes" "known" "I" "MouthHouse") ∈ lw_tbl := List.mem_of_getElem? (l := lw_tbl) (i := 327) (by decide +kernel)
theorem fl_X11_331 : am_fl RX11 331 10 3 := ⟨RX10, TX10, ok_X10, by decide, rfl, Or.inr ⟨_, tw_154⟩⟩
theorem fw_X11_331 {y : MethodName} (hy : y.cls = RX11) : am_fw y 331 10 3 := ⟨RX10, TX10, ok_X10, by decide, rfl, Or.inl ⟨rfl, Or.inr ⟨_, by rw [hy]; exact tw_154⟩⟩⟩
theorem tw_155 : (Jvm.Cond.fieldLink "MouthHouse$Votes" (30 : Nat) "MouthHouse$Votes" "knownSeats" "[I") ∈ lw_tbl := List.mem_of_getElem? (l := lw_tbl) (i := 328) (by decide +kernel)
theorem fl_X10_30 : am_fl RX10 30 10 4 := ⟨RX10, TX10, ok_X10, by decide, rfl, Or.inl tw_155⟩
theorem fw_X10_30 {y : MethodName} (hy : y.cls = RX10) (hn : y.name = "<init>") : am_fw y 30 10 4 := ⟨RX10, TX10, ok_X10, by decide, rfl, Or.inr ⟨rfl, hn, hy.symm, by rw [hy]; exact tw_155⟩⟩
theorem tw_156 : (Jvm.Cond.fieldLink "MouthHouse$Votes" (34 : Nat) "MouthHouse$Votes" "knownYes" "[Z") ∈ lw_tbl := List.mem_of_getElem? (l := lw_tbl) (i := 329) (by decide +kernel)
theorem fl_X10_34 : am_fl RX10 34 10 5 := ⟨RX10, TX10, ok_X10, by decide, rfl, Or.inl tw_156⟩
theorem fw_X10_34 {y : MethodName} (hy : y.cls = RX10) (hn : y.name = "<init>") : am_fw y 34 10 5 := ⟨RX10, TX10, ok_X10, by decide, rfl, Or.inr ⟨rfl, hn, hy.symm, by rw [hy]; exact tw_156⟩⟩
theorem tw_157 : (Jvm.Cond.fieldLink "MouthHouse$Votes" (38 : Nat) "MouthHouse$Votes" "mustYes" "I") ∈ lw_tbl := List.mem_of_getElem? (l := lw_tbl) (i := 330) (by decide +kernel)
theorem fl_X10_38 : am_fl RX10 38 10 6 := ⟨RX10, TX10, ok_X10, by decide, rfl, Or.inl tw_157⟩
theorem fw_X10_38 {y : MethodName} (hy : y.cls = RX10) : am_fw y 38 10 6 := ⟨RX10, TX10, ok_X10, by decide, rfl, Or.inl ⟨rfl, Or.inl (by rw [hy]; exact tw_157)⟩⟩
theorem tw_158 : (Jvm.Cond.fieldLink "MouthHouse$Votes" (41 : Nat) "MouthHouse$Votes" "mustNo" "I") ∈ lw_tbl := List.mem_of_getElem? (l := lw_tbl) (i := 331) (by decide +kernel)
theorem fl_X10_41 : am_fl RX10 41 10 7 := ⟨RX10, TX10, ok_X10, by decide, rfl, Or.inl tw_158⟩
theorem fw_X10_41 {y : MethodName} (hy : y.cls = RX10) : am_fw y 41 10 7 := ⟨RX10, TX10, ok_X10, by decide, rfl, Or.inl ⟨rfl, Or.inl (by rw [hy]; exact tw_158)⟩⟩
theorem tw_184 : (Jvm.Cond.fieldLinkNest "MouthHouse$Best" (19 : Nat) "MouthHouse$Manners" "LETTERS" "[I" "MouthHouse") ∈ lw_tbl := List.mem_of_getElem? (l := lw_tbl) (i := 357) (by decide +kernel)
theorem gs_X0_19 : am_gs RX0 19 0 := ⟨_, rfl, Or.inr ⟨_, tw_184⟩⟩
theorem tw_186 : (Jvm.Cond.fieldLink "MouthHouse$Best" (9 : Nat) "MouthHouse$Best" "members" "LMouthHouse$Members;") ∈ lw_tbl := List.mem_of_getElem? (l := lw_tbl) (i := 359) (by decide +kernel)
theorem fl_X0_9 : am_fl RX0 9 0 0 := ⟨RX0, TX0, ok_X0, by decide, rfl, Or.inl tw_186⟩
theorem fw_X0_9 {y : MethodName} (hy : y.cls = RX0) (hn : y.name = "<init>") : am_fw y 9 0 0 := ⟨RX0, TX0, ok_X0, by decide, rfl, Or.inr ⟨rfl, hn, hy.symm, by rw [hy]; exact tw_186⟩⟩
theorem tw_187 : (Jvm.Cond.fieldLink "MouthHouse$Best" (15 : Nat) "MouthHouse$Best" "manners" "LMouthHouse$Manners;") ∈ lw_tbl := List.mem_of_getElem? (l := lw_tbl) (i := 360) (by decide +kernel)
theorem fl_X0_15 : am_fl RX0 15 0 1 := ⟨RX0, TX0, ok_X0, by decide, rfl, Or.inl tw_187⟩
theorem fw_X0_15 {y : MethodName} (hy : y.cls = RX0) : am_fw y 15 0 1 := ⟨RX0, TX0, ok_X0, by decide, rfl, Or.inl ⟨rfl, Or.inl (by rw [hy]; exact tw_187)⟩⟩
theorem tw_188 : (Jvm.Cond.fieldLink "MouthHouse$Best" (25 : Nat) "MouthHouse$Best" "letters" "[I") ∈ lw_tbl := List.mem_of_getElem? (l := lw_tbl) (i := 361) (by decide +kernel)
theorem fl_X0_25 : am_fl RX0 25 0 2 := ⟨RX0, TX0, ok_X0, by decide, rfl, Or.inl tw_188⟩
theorem fw_X0_25 {y : MethodName} (hy : y.cls = RX0) (hn : y.name = "<init>") : am_fw y 25 0 2 := ⟨RX0, TX0, ok_X0, by decide, rfl, Or.inr ⟨rfl, hn, hy.symm, by rw [hy]; exact tw_188⟩⟩
theorem tw_189 : (Jvm.Cond.fieldLink "MouthHouse$Best" (28 : Nat) "MouthHouse$Best" "worths" "[I") ∈ lw_tbl := List.mem_of_getElem? (l := lw_tbl) (i := 362) (by decide +kernel)
theorem fl_X0_28 : am_fl RX0 28 0 3 := ⟨RX0, TX0, ok_X0, by decide, rfl, Or.inl tw_189⟩
theorem fw_X0_28 {y : MethodName} (hy : y.cls = RX0) (hn : y.name = "<init>") : am_fw y 28 0 3 := ⟨RX0, TX0, ok_X0, by decide, rfl, Or.inr ⟨rfl, hn, hy.symm, by rw [hy]; exact tw_189⟩⟩
theorem tw_190 : (Jvm.Cond.fieldLink "MouthHouse$Best" (31 : Nat) "MouthHouse$Best" "leastFrom" "[I") ∈ lw_tbl := List.mem_of_getElem? (l := lw_tbl) (i := 363) (by decide +kernel)
theorem fl_X0_31 : am_fl RX0 31 0 4 := ⟨RX0, TX0, ok_X0, by decide, rfl, Or.inl tw_190⟩
theorem fw_X0_31 {y : MethodName} (hy : y.cls = RX0) (hn : y.name = "<init>") : am_fw y 31 0 4 := ⟨RX0, TX0, ok_X0, by decide, rfl, Or.inr ⟨rfl, hn, hy.symm, by rw [hy]; exact tw_190⟩⟩
theorem tw_191 : (Jvm.Cond.fieldLink "MouthHouse$Best" (34 : Nat) "MouthHouse$Best" "order" "[I") ∈ lw_tbl := List.mem_of_getElem? (l := lw_tbl) (i := 364) (by decide +kernel)
theorem fl_X0_34 : am_fl RX0 34 0 5 := ⟨RX0, TX0, ok_X0, by decide, rfl, Or.inl tw_191⟩
theorem fw_X0_34 {y : MethodName} (hy : y.cls = RX0) (hn : y.name = "<init>") : am_fw y 34 0 5 := ⟨RX0, TX0, ok_X0, by decide, rfl, Or.inr ⟨rfl, hn, hy.symm, by rw [hy]; exact tw_191⟩⟩
theorem tw_192 : (Jvm.Cond.fieldLink "MouthHouse$Best" (37 : Nat) "MouthHouse$Best" "alive" "[I") ∈ lw_tbl := List.mem_of_getElem? (l := lw_tbl) (i := 365) (by decide +kernel)
theorem fl_X0_37 : am_fl RX0 37 0 6 := ⟨RX0, TX0, ok_X0, by decide, rfl, Or.inl tw_192⟩
theorem fw_X0_37 {y : MethodName} (hy : y.cls = RX0) (hn : y.name = "<init>") : am_fw y 37 0 6 := ⟨RX0, TX0, ok_X0, by decide, rfl, Or.inr ⟨rfl, hn, hy.symm, by rw [hy]; exact tw_192⟩⟩
theorem tw_193 : (Jvm.Cond.fieldLink "MouthHouse$Best" (102 : Nat) "MouthHouse$Best" "allAlive" "I") ∈ lw_tbl := List.mem_of_getElem? (l := lw_tbl) (i := 366) (by decide +kernel)
theorem fl_X0_102 : am_fl RX0 102 0 7 := ⟨RX0, TX0, ok_X0, by decide, rfl, Or.inl tw_193⟩
theorem fw_X0_102 {y : MethodName} (hy : y.cls = RX0) : am_fw y 102 0 7 := ⟨RX0, TX0, ok_X0, by decide, rfl, Or.inl ⟨rfl, Or.inl (by rw [hy]; exact tw_193)⟩⟩
theorem tw_194 : (Jvm.Cond.fieldLink "MouthHouse$Best" (108 : Nat) "MouthHouse$Best" "mostRound" "I") ∈ lw_tbl := List.mem_of_getElem? (l := lw_tbl) (i := 367) (by decide +kernel)
theorem fl_X0_108 : am_fl RX0 108 0 8 := ⟨RX0, TX0, ok_X0, by decide, rfl, Or.inl tw_194⟩
theorem fw_X0_108 {y : MethodName} (hy : y.cls = RX0) : am_fw y 108 0 8 := ⟨RX0, TX0, ok_X0, by decide, rfl, Or.inl ⟨rfl, Or.inl (by rw [hy]; exact tw_194)⟩⟩
theorem tw_195 : (Jvm.Cond.fieldLink "MouthHouse$Best" (111 : Nat) "MouthHouse$Best" "found" "Z") ∈ lw_tbl := List.mem_of_getElem? (l := lw_tbl) (i := 368) (by decide +kernel)
theorem fl_X0_111 : am_fl RX0 111 0 9 := ⟨RX0, TX0, ok_X0, by decide, rfl, Or.inl tw_195⟩
theorem fw_X0_111 {y : MethodName} (hy : y.cls = RX0) : am_fw y 111 0 9 := ⟨RX0, TX0, ok_X0, by decide, rfl, Or.inl ⟨rfl, Or.inl (by rw [hy]; exact tw_195)⟩⟩
theorem tw_196 : (Jvm.Cond.fieldLink "MouthHouse$Best" (121 : Nat) "MouthHouse$Best" "bestScore" "I") ∈ lw_tbl := List.mem_of_getElem? (l := lw_tbl) (i := 369) (by decide +kernel)
theorem fl_X0_121 : am_fl RX0 121 0 10 := ⟨RX0, TX0, ok_X0, by decide, rfl, Or.inl tw_196⟩
theorem fw_X0_121 {y : MethodName} (hy : y.cls = RX0) : am_fw y 121 0 10 := ⟨RX0, TX0, ok_X0, by decide, rfl, Or.inl ⟨rfl, Or.inl (by rw [hy]; exact tw_196)⟩⟩
theorem tw_197 : (Jvm.Cond.fieldLink "MouthHouse$Best" (118 : Nat) "MouthHouse$Best" "bestDigits" "I") ∈ lw_tbl := List.mem_of_getElem? (l := lw_tbl) (i := 370) (by decide +kernel)
theorem fl_X0_118 : am_fl RX0 118 0 11 := ⟨RX0, TX0, ok_X0, by decide, rfl, Or.inl tw_197⟩
theorem fw_X0_118 {y : MethodName} (hy : y.cls = RX0) : am_fw y 118 0 11 := ⟨RX0, TX0, ok_X0, by decide, rfl, Or.inl ⟨rfl, Or.inl (by rw [hy]; exact tw_197)⟩⟩
theorem tw_198 : (Jvm.Cond.fieldLink "MouthHouse$Best" (40 : Nat) "MouthHouse$Best" "isKept" "[Z") ∈ lw_tbl := List.mem_of_getElem? (l := lw_tbl) (i := 371) (by decide +kernel)
theorem fl_X0_40 : am_fl RX0 40 0 12 := ⟨RX0, TX0, ok_X0, by decide, rfl, Or.inl tw_198⟩
theorem fw_X0_40 {y : MethodName} (hy : y.cls = RX0) (hn : y.name = "<init>") : am_fw y 40 0 12 := ⟨RX0, TX0, ok_X0, by decide, rfl, Or.inr ⟨rfl, hn, hy.symm, by rw [hy]; exact tw_198⟩⟩
theorem tw_199 : (Jvm.Cond.fieldLink "MouthHouse$Best" (44 : Nat) "MouthHouse$Best" "keptDigits" "[I") ∈ lw_tbl := List.mem_of_getElem? (l := lw_tbl) (i := 372) (by decide +kernel)
theorem fl_X0_44 : am_fl RX0 44 0 13 := ⟨RX0, TX0, ok_X0, by decide, rfl, Or.inl tw_199⟩
theorem fw_X0_44 {y : MethodName} (hy : y.cls = RX0) (hn : y.name = "<init>") : am_fw y 44 0 13 := ⟨RX0, TX0, ok_X0, by decide, rfl, Or.inr ⟨rfl, hn, hy.symm, by rw [hy]; exact tw_199⟩⟩
theorem tw_200 : (Jvm.Cond.fieldLink "MouthHouse$Best" (47 : Nat) "MouthHouse$Best" "keptScores" "[I") ∈ lw_tbl := List.mem_of_getElem? (l := lw_tbl) (i := 373) (by decide +kernel)
theorem fl_X0_47 : am_fl RX0 47 0 14 := ⟨RX0, TX0, ok_X0, by decide, rfl, Or.inl tw_200⟩
theorem fw_X0_47 {y : MethodName} (hy : y.cls = RX0) (hn : y.name = "<init>") : am_fw y 47 0 14 := ⟨RX0, TX0, ok_X0, by decide, rfl, Or.inr ⟨rfl, hn, hy.symm, by rw [hy]; exact tw_200⟩⟩
theorem tw_242 : (Jvm.Cond.fieldLink "MouthHouse$Changes" (9 : Nat) "MouthHouse$Changes" "members" "LMouthHouse$Members;") ∈ lw_tbl := List.mem_of_getElem? (l := lw_tbl) (i := 415) (by decide +kernel)
theorem fl_X1_9 : am_fl RX1 9 1 0 := ⟨RX1, TX1, ok_X1, by decide, rfl, Or.inl tw_242⟩
theorem fw_X1_9 {y : MethodName} (hy : y.cls = RX1) (hn : y.name = "<init>") : am_fw y 9 1 0 := ⟨RX1, TX1, ok_X1, by decide, rfl, Or.inr ⟨rfl, hn, hy.symm, by rw [hy]; exact tw_242⟩⟩
theorem tw_243 : (Jvm.Cond.fieldLink "MouthHouse$Changes" (15 : Nat) "MouthHouse$Changes" "start" "LMouthHouse$Seating;") ∈ lw_tbl := List.mem_of_getElem? (l := lw_tbl) (i := 416) (by decide +kernel)
theorem fl_X1_15 : am_fl RX1 15 1 1 := ⟨RX1, TX1, ok_X1, by decide, rfl, Or.inl tw_243⟩
theorem fw_X1_15 {y : MethodName} (hy : y.cls = RX1) (hn : y.name = "<init>") : am_fw y 15 1 1 := ⟨RX1, TX1, ok_X1, by decide, rfl, Or.inr ⟨rfl, hn, hy.symm, by rw [hy]; exact tw_243⟩⟩
theorem tw_244 : (Jvm.Cond.fieldLink "MouthHouse$Changes" (22 : Nat) "MouthHouse$Changes" "trial" "LMouthHouse$Seating;") ∈ lw_tbl := List.mem_of_getElem? (l := lw_tbl) (i := 417) (by decide +kernel)
theorem fl_X1_22 : am_fl RX1 22 1 2 := ⟨RX1, TX1, ok_X1, by decide, rfl, Or.inl tw_244⟩
theorem fw_X1_22 {y : MethodName} (hy : y.cls = RX1) (hn : y.name = "<init>") : am_fw y 22 1 2 := ⟨RX1, TX1, ok_X1, by decide, rfl, Or.inr ⟨rfl, hn, hy.symm, by rw [hy]; exact tw_244⟩⟩
theorem tw_245 : (Jvm.Cond.fieldLink "MouthHouse$Changes" (30 : Nat) "MouthHouse$Changes" "trialTalk" "LMouthHouse$Talk;") ∈ lw_tbl := List.mem_of_getElem? (l := lw_tbl) (i := 418) (by decide +kernel)
theorem fl_X1_30 : am_fl RX1 30 1 3 := ⟨RX1, TX1, ok_X1, by decide, rfl, Or.inl tw_245⟩
theorem fw_X1_30 {y : MethodName} (hy : y.cls = RX1) (hn : y.name = "<init>") : am_fw y 30 1 3 := ⟨RX1, TX1, ok_X1, by decide, rfl, Or.inr ⟨rfl, hn, hy.symm, by rw [hy]; exact tw_245⟩⟩
theorem tw_246 : (Jvm.Cond.fieldLink "MouthHouse$Changes" (34 : Nat) "MouthHouse$Changes" "reached" "[I") ∈ lw_tbl := List.mem_of_getElem? (l := lw_tbl) (i := 419) (by decide +kernel)
theorem fl_X1_34 : am_fl RX1 34 1 4 := ⟨RX1, TX1, ok_X1, by decide, rfl, Or.inl tw_246⟩
theorem fw_X1_34 {y : MethodName} (hy : y.cls = RX1) (hn : y.name = "<init>") : am_fw y 34 1 4 := ⟨RX1, TX1, ok_X1, by decide, rfl, Or.inr ⟨rfl, hn, hy.symm, by rw [hy]; exact tw_246⟩⟩
theorem tw_247 : (Jvm.Cond.fieldLink "MouthHouse$Changes" (38 : Nat) "MouthHouse$Changes" "reachedCount" "I") ∈ lw_tbl := List.mem_of_getElem? (l := lw_tbl) (i := 420) (by decide +kernel)
theorem fl_X1_38 : am_fl RX1 38 1 5 := ⟨RX1, TX1, ok_X1, by decide, rfl, Or.inl tw_247⟩
theorem fw_X1_38 {y : MethodName} (hy : y.cls = RX1) : am_fw y 38 1 5 := ⟨RX1, TX1, ok_X1, by decide, rfl, Or.inl ⟨rfl, Or.inl (by rw [hy]; exact tw_247)⟩⟩
theorem tw_248 : (Jvm.Cond.fieldLink "MouthHouse$Changes" (42 : Nat) "MouthHouse$Changes" "reachedBits" "[J") ∈ lw_tbl := List.mem_of_getElem? (l := lw_tbl) (i := 421) (by decide +kernel)
theorem fl_X1_42 : am_fl RX1 42 1 6 := ⟨RX1, TX1, ok_X1, by decide, rfl, Or.inl tw_248⟩
theorem fw_X1_42 {y : MethodName} (hy : y.cls = RX1) (hn : y.name = "<init>") : am_fw y 42 1 6 := ⟨RX1, TX1, ok_X1, by decide, rfl, Or.inr ⟨rfl, hn, hy.symm, by rw [hy]; exact tw_248⟩⟩
theorem tw_249 : (Jvm.Cond.fieldLink "MouthHouse$Changes" (46 : Nat) "MouthHouse$Changes" "isKept" "Z") ∈ lw_tbl := List.mem_of_getElem? (l := lw_tbl) (i := 422) (by decide +kernel)
theorem fl_X1_46 : am_fl RX1 46 1 7 := ⟨RX1, TX1, ok_X1, by decide, rfl, Or.inl tw_249⟩
theorem fw_X1_46 {y : MethodName} (hy : y.cls = RX1) : am_fw y 46 1 7 := ⟨RX1, TX1, ok_X1, by decide, rfl, Or.inl ⟨rfl, Or.inl (by rw [hy]; exact tw_249)⟩⟩
theorem tw_250 : (Jvm.Cond.fieldLink "MouthHouse$Changes" (50 : Nat) "MouthHouse$Changes" "fewest" "I") ∈ lw_tbl := List.mem_of_getElem? (l := lw_tbl) (i := 423) (by decide +kernel)
theorem fl_X1_50 : am_fl RX1 50 1 8 := ⟨RX1, TX1, ok_X1, by decide, rfl, Or.inl tw_250⟩
theorem fw_X1_50 {y : MethodName} (hy : y.cls = RX1) : am_fw y 50 1 8 := ⟨RX1, TX1, ok_X1, by decide, rfl, Or.inl ⟨rfl, Or.inl (by rw [hy]; exact tw_250)⟩⟩
theorem tw_251 : (Jvm.Cond.fieldLinkNest "MouthHouse" (268 : Nat) "MouthHouse$Changes" "fewest" "I" "MouthHouse") ∈ lw_tbl := List.mem_of_getElem? (l := lw_tbl) (i := 424) (by decide +kernel)
theorem fl_X11_268 : am_fl RX11 268 1 8 := ⟨RX1, TX1, ok_X1, by decide, rfl, Or.inr ⟨_, tw_251⟩⟩
theorem fw_X11_268 {y : MethodName} (hy : y.cls = RX11) : am_fw y 268 1 8 := ⟨RX1, TX1, ok_X1, by decide, rfl, Or.inl ⟨rfl, Or.inr ⟨_, by rw [hy]; exact tw_251⟩⟩⟩
theorem tw_252 : (Jvm.Cond.fieldLink "MouthHouse$Changes" (53 : Nat) "MouthHouse$Changes" "target" "I") ∈ lw_tbl := List.mem_of_getElem? (l := lw_tbl) (i := 425) (by decide +kernel)
theorem fl_X1_53 : am_fl RX1 53 1 9 := ⟨RX1, TX1, ok_X1, by decide, rfl, Or.inl tw_252⟩
theorem fw_X1_53 {y : MethodName} (hy : y.cls = RX1) : am_fw y 53 1 9 := ⟨RX1, TX1, ok_X1, by decide, rfl, Or.inl ⟨rfl, Or.inl (by rw [hy]; exact tw_252)⟩⟩
theorem tw_253 : (Jvm.Cond.fieldLinkNest "MouthHouse" (271 : Nat) "MouthHouse$Changes" "target" "I" "MouthHouse") ∈ lw_tbl := List.mem_of_getElem? (l := lw_tbl) (i := 426) (by decide +kernel)
theorem fl_X11_271 : am_fl RX11 271 1 9 := ⟨RX1, TX1, ok_X1, by decide, rfl, Or.inr ⟨_, tw_253⟩⟩
theorem fw_X11_271 {y : MethodName} (hy : y.cls = RX11) : am_fw y 271 1 9 := ⟨RX1, TX1, ok_X1, by decide, rfl, Or.inl ⟨rfl, Or.inr ⟨_, by rw [hy]; exact tw_253⟩⟩⟩
theorem tw_281 : (Jvm.Cond.fieldLink "MouthHouse$Sittings" (9 : Nat) "MouthHouse$Sittings" "held" "I") ∈ lw_tbl := List.mem_of_getElem? (l := lw_tbl) (i := 454) (by decide +kernel)
theorem fl_X7_9 : am_fl RX7 9 7 0 := ⟨RX7, TX7, ok_X7, by decide, rfl, Or.inl tw_281⟩
theorem fw_X7_9 {y : MethodName} (hy : y.cls = RX7) : am_fw y 9 7 0 := ⟨RX7, TX7, ok_X7, by decide, rfl, Or.inl ⟨rfl, Or.inl (by rw [hy]; exact tw_281)⟩⟩
theorem tw_282 : (Jvm.Cond.fieldLinkNest "MouthHouse" (155 : Nat) "MouthHouse$Sittings" "held" "I" "MouthHouse") ∈ lw_tbl := List.mem_of_getElem? (l := lw_tbl) (i := 455) (by decide +kernel)
theorem fl_X11_155 : am_fl RX11 155 7 0 := ⟨RX7, TX7, ok_X7, by decide, rfl, Or.inr ⟨_, tw_282⟩⟩
theorem fw_X11_155 {y : MethodName} (hy : y.cls = RX11) : am_fw y 155 7 0 := ⟨RX7, TX7, ok_X7, by decide, rfl, Or.inl ⟨rfl, Or.inr ⟨_, by rw [hy]; exact tw_282⟩⟩⟩
theorem tw_283 : (Jvm.Cond.fieldLink "MouthHouse$Sittings" (15 : Nat) "MouthHouse$Sittings" "state" "J") ∈ lw_tbl := List.mem_of_getElem? (l := lw_tbl) (i := 456) (by decide +kernel)
theorem fl_X7_15 : am_fl RX7 15 7 1 := ⟨RX7, TX7, ok_X7, by decide, rfl, Or.inl tw_283⟩
theorem fw_X7_15 {y : MethodName} (hy : y.cls = RX7) : am_fw y 15 7 1 := ⟨RX7, TX7, ok_X7, by decide, rfl, Or.inl ⟨rfl, Or.inl (by rw [hy]; exact tw_283)⟩⟩
theorem tw_284 : (Jvm.Cond.fieldLinkNest "MouthHouse" (288 : Nat) "MouthHouse$Sittings" "state" "J" "MouthHouse") ∈ lw_tbl := List.mem_of_getElem? (l := lw_tbl) (i := 457) (by decide +kernel)
theorem fl_X11_288 : am_fl RX11 288 7 1 := ⟨RX7, TX7, ok_X7, by decide, rfl, Or.inr ⟨_, tw_284⟩⟩
theorem fw_X11_288 {y : MethodName} (hy : y.cls = RX11) : am_fw y 288 7 1 := ⟨RX7, TX7, ok_X7, by decide, rfl, Or.inl ⟨rfl, Or.inr ⟨_, by rw [hy]; exact tw_284⟩⟩⟩
theorem tw_285 : (Jvm.Cond.fieldLink "MouthHouse$Sittings" (19 : Nat) "MouthHouse$Sittings" "yes" "[I") ∈ lw_tbl := List.mem_of_getElem? (l := lw_tbl) (i := 458) (by decide +kernel)
theorem fl_X7_19 : am_fl RX7 19 7 2 := ⟨RX7, TX7, ok_X7, by decide, rfl, Or.inl tw_285⟩
theorem fw_X7_19 {y : MethodName} (hy : y.cls = RX7) (hn : y.name = "<init>") : am_fw y 19 7 2 := ⟨RX7, TX7, ok_X7, by decide, rfl, Or.inr ⟨rfl, hn, hy.symm, by rw [hy]; exact tw_285⟩⟩
theorem tw_286 : (Jvm.Cond.fieldLink "MouthHouse$Sittings" (23 : Nat) "MouthHouse$Sittings" "passings" "[I") ∈ lw_tbl := List.mem_of_getElem? (l := lw_tbl) (i := 459) (by decide +kernel)
theorem fl_X7_23 : am_fl RX7 23 7 3 := ⟨RX7, TX7, ok_X7, by decide, rfl, Or.inl tw_286⟩
theorem fw_X7_23 {y : MethodName} (hy : y.cls = RX7) (hn : y.name = "<init>") : am_fw y 23 7 3 := ⟨RX7, TX7, ok_X7, by decide, rfl, Or.inr ⟨rfl, hn, hy.symm, by rw [hy]; exact tw_286⟩⟩
theorem tw_287 : (Jvm.Cond.fieldLink "MouthHouse$Sittings" (26 : Nat) "MouthHouse$Sittings" "statesAhead" "[J") ∈ lw_tbl := List.mem_of_getElem? (l := lw_tbl) (i := 460) (by decide +kernel)
theorem fl_X7_26 : am_fl RX7 26 7 4 := ⟨RX7, TX7, ok_X7, by decide, rfl, Or.inl tw_287⟩
theorem fw_X7_26 {y : MethodName} (hy : y.cls = RX7) (hn : y.name = "<init>") : am_fw y 26 7 4 := ⟨RX7, TX7, ok_X7, by decide, rfl, Or.inr ⟨rfl, hn, hy.symm, by rw [hy]; exact tw_287⟩⟩
theorem tw_299 : (Jvm.Cond.fieldLink "MouthHouse" (10 : Nat) "MouthHouse" "tape" "LMouthHouse$Tape;") ∈ lw_tbl := List.mem_of_getElem? (l := lw_tbl) (i := 472) (by decide +kernel)
theorem fl_X11_10 : am_fl RX11 10 11 0 := ⟨RX11, TX11, ok_X11, by decide, rfl, Or.inl tw_299⟩
theorem fw_X11_10 {y : MethodName} (hy : y.cls = RX11) (hn : y.name = "<init>") : am_fw y 10 11 0 := ⟨RX11, TX11, ok_X11, by decide, rfl, Or.inr ⟨rfl, hn, hy.symm, by rw [hy]; exact tw_299⟩⟩
theorem tw_300 : (Jvm.Cond.fieldLink "MouthHouse" (21 : Nat) "MouthHouse" "houseReader" "LMouthHouse$HouseReader;") ∈ lw_tbl := List.mem_of_getElem? (l := lw_tbl) (i := 473) (by decide +kernel)
theorem fl_X11_21 : am_fl RX11 21 11 1 := ⟨RX11, TX11, ok_X11, by decide, rfl, Or.inl tw_300⟩
theorem fw_X11_21 {y : MethodName} (hy : y.cls = RX11) (hn : y.name = "<init>") : am_fw y 21 11 1 := ⟨RX11, TX11, ok_X11, by decide, rfl, Or.inr ⟨rfl, hn, hy.symm, by rw [hy]; exact tw_300⟩⟩
theorem tw_301 : (Jvm.Cond.fieldLink "MouthHouse" (28 : Nat) "MouthHouse" "mannersReader" "LMouthHouse$MannersReader;") ∈ lw_tbl := List.mem_of_getElem? (l := lw_tbl) (i := 474) (by decide +kernel)
theorem fl_X11_28 : am_fl RX11 28 11 2 := ⟨RX11, TX11, ok_X11, by decide, rfl, Or.inl tw_301⟩
theorem fw_X11_28 {y : MethodName} (hy : y.cls = RX11) (hn : y.name = "<init>") : am_fw y 28 11 2 := ⟨RX11, TX11, ok_X11, by decide, rfl, Or.inr ⟨rfl, hn, hy.symm, by rw [hy]; exact tw_301⟩⟩
theorem tw_302 : (Jvm.Cond.fieldLink "MouthHouse" (34 : Nat) "MouthHouse" "mannersTold" "[LMouthHouse$Manners;") ∈ lw_tbl := List.mem_of_getElem? (l := lw_tbl) (i := 475) (by decide +kernel)
theorem fl_X11_34 : am_fl RX11 34 11 3 := ⟨RX11, TX11, ok_X11, by decide, rfl, Or.inl tw_302⟩
theorem fw_X11_34 {y : MethodName} (hy : y.cls = RX11) (hn : y.name = "<init>") : am_fw y 34 11 3 := ⟨RX11, TX11, ok_X11, by decide, rfl, Or.inr ⟨rfl, hn, hy.symm, by rw [hy]; exact tw_302⟩⟩
theorem tw_303 : (Jvm.Cond.fieldLink "MouthHouse" (38 : Nat) "MouthHouse" "mannersCount" "I") ∈ lw_tbl := List.mem_of_getElem? (l := lw_tbl) (i := 476) (by decide +kernel)
theorem fl_X11_38 : am_fl RX11 38 11 4 := ⟨RX11, TX11, ok_X11, by decide, rfl, Or.inl tw_303⟩
theorem fw_X11_38 {y : MethodName} (hy : y.cls = RX11) : am_fw y 38 11 4 := ⟨RX11, TX11, ok_X11, by decide, rfl, Or.inl ⟨rfl, Or.inl (by rw [hy]; exact tw_303)⟩⟩
theorem tw_304 : (Jvm.Cond.fieldLink "MouthHouse" (42 : Nat) "MouthHouse" "holding" "I") ∈ lw_tbl := List.mem_of_getElem? (l := lw_tbl) (i := 477) (by decide +kernel)
theorem fl_X11_42 : am_fl RX11 42 11 5 := ⟨RX11, TX11, ok_X11, by decide, rfl, Or.inl tw_304⟩
theorem fw_X11_42 {y : MethodName} (hy : y.cls = RX11) : am_fw y 42 11 5 := ⟨RX11, TX11, ok_X11, by decide, rfl, Or.inl ⟨rfl, Or.inl (by rw [hy]; exact tw_304)⟩⟩
theorem tw_305 : (Jvm.Cond.fieldLink "MouthHouse" (48 : Nat) "MouthHouse" "members" "LMouthHouse$Members;") ∈ lw_tbl := List.mem_of_getElem? (l := lw_tbl) (i := 478) (by decide +kernel)
theorem fl_X11_48 : am_fl RX11 48 11 6 := ⟨RX11, TX11, ok_X11, by decide, rfl, Or.inl tw_305⟩
theorem fw_X11_48 {y : MethodName} (hy : y.cls = RX11) (hn : y.name = "<init>") : am_fw y 48 11 6 := ⟨RX11, TX11, ok_X11, by decide, rfl, Or.inr ⟨rfl, hn, hy.symm, by rw [hy]; exact tw_305⟩⟩
theorem tw_306 : (Jvm.Cond.fieldLink "MouthHouse" (55 : Nat) "MouthHouse" "seating" "LMouthHouse$Seating;") ∈ lw_tbl := List.mem_of_getElem? (l := lw_tbl) (i := 479) (by decide +kernel)
theorem fl_X11_55 : am_fl RX11 55 11 7 := ⟨RX11, TX11, ok_X11, by decide, rfl, Or.inl tw_306⟩
theorem fw_X11_55 {y : MethodName} (hy : y.cls = RX11) (hn : y.name = "<init>") : am_fw y 55 11 7 := ⟨RX11, TX11, ok_X11, by decide, rfl, Or.inr ⟨rfl, hn, hy.symm, by rw [hy]; exact tw_306⟩⟩
theorem tw_307 : (Jvm.Cond.fieldLink "MouthHouse" (64 : Nat) "MouthHouse" "talk" "LMouthHouse$Talk;") ∈ lw_tbl := List.mem_of_getElem? (l := lw_tbl) (i := 480) (by decide +kernel)
theorem fl_X11_64 : am_fl RX11 64 11 8 := ⟨RX11, TX11, ok_X11, by decide, rfl, Or.inl tw_307⟩
theorem fw_X11_64 {y : MethodName} (hy : y.cls = RX11) (hn : y.name = "<init>") : am_fw y 64 11 8 := ⟨RX11, TX11, ok_X11, by decide, rfl, Or.inr ⟨rfl, hn, hy.symm, by rw [hy]; exact tw_307⟩⟩
theorem tw_308 : (Jvm.Cond.fieldLink "MouthHouse" (73 : Nat) "MouthHouse" "votes" "LMouthHouse$Votes;") ∈ lw_tbl := List.mem_of_getElem? (l := lw_tbl) (i := 481) (by decide +kernel)
theorem fl_X11_73 : am_fl RX11 73 11 9 := ⟨RX11, TX11, ok_X11, by decide, rfl, Or.inl tw_308⟩
theorem fw_X11_73 {y : MethodName} (hy : y.cls = RX11) (hn : y.name = "<init>") : am_fw y 73 11 9 := ⟨RX11, TX11, ok_X11, by decide, rfl, Or.inr ⟨rfl, hn, hy.symm, by rw [hy]; exact tw_308⟩⟩
theorem tw_309 : (Jvm.Cond.fieldLink "MouthHouse" (82 : Nat) "MouthHouse" "bestOnes" "LMouthHouse$Best;") ∈ lw_tbl := List.mem_of_getElem? (l := lw_tbl) (i := 482) (by decide +kernel)
theorem fl_X11_82 : am_fl RX11 82 11 10 := ⟨RX11, TX11, ok_X11, by decide, rfl, Or.inl tw_309⟩
theorem fw_X11_82 {y : MethodName} (hy : y.cls = RX11) (hn : y.name = "<init>") : am_fw y 82 11 10 := ⟨RX11, TX11, ok_X11, by decide, rfl, Or.inr ⟨rfl, hn, hy.symm, by rw [hy]; exact tw_309⟩⟩
theorem tw_310 : (Jvm.Cond.fieldLink "MouthHouse" (89 : Nat) "MouthHouse" "changeSearch" "LMouthHouse$Changes;") ∈ lw_tbl := List.mem_of_getElem? (l := lw_tbl) (i := 483) (by decide +kernel)
theorem fl_X11_89 : am_fl RX11 89 11 11 := ⟨RX11, TX11, ok_X11, by decide, rfl, Or.inl tw_310⟩
theorem fw_X11_89 {y : MethodName} (hy : y.cls = RX11) (hn : y.name = "<init>") : am_fw y 89 11 11 := ⟨RX11, TX11, ok_X11, by decide, rfl, Or.inr ⟨rfl, hn, hy.symm, by rw [hy]; exact tw_310⟩⟩
theorem tw_311 : (Jvm.Cond.fieldLink "MouthHouse" (96 : Nat) "MouthHouse" "sittings" "LMouthHouse$Sittings;") ∈ lw_tbl := List.mem_of_getElem? (l := lw_tbl) (i := 484) (by decide +kernel)
theorem fl_X11_96 : am_fl RX11 96 11 12 := ⟨RX11, TX11, ok_X11, by decide, rfl, Or.inl tw_311⟩
theorem fw_X11_96 {y : MethodName} (hy : y.cls = RX11) (hn : y.name = "<init>") : am_fw y 96 11 12 := ⟨RX11, TX11, ok_X11, by decide, rfl, Or.inr ⟨rfl, hn, hy.symm, by rw [hy]; exact tw_311⟩⟩
theorem tw_312 : (Jvm.Cond.fieldLink "MouthHouse" (100 : Nat) "MouthHouse" "hasImage" "Z") ∈ lw_tbl := List.mem_of_getElem? (l := lw_tbl) (i := 485) (by decide +kernel)
theorem fl_X11_100 : am_fl RX11 100 11 13 := ⟨RX11, TX11, ok_X11, by decide, rfl, Or.inl tw_312⟩
theorem fw_X11_100 {y : MethodName} (hy : y.cls = RX11) : am_fw y 100 11 13 := ⟨RX11, TX11, ok_X11, by decide, rfl, Or.inl ⟨rfl, Or.inl (by rw [hy]; exact tw_312)⟩⟩
theorem tw_313 : (Jvm.Cond.fieldLink "MouthHouse" (104 : Nat) "MouthHouse" "imageMembers" "LMouthHouse$Members;") ∈ lw_tbl := List.mem_of_getElem? (l := lw_tbl) (i := 486) (by decide +kernel)
theorem fl_X11_104 : am_fl RX11 104 11 14 := ⟨RX11, TX11, ok_X11, by decide, rfl, Or.inl tw_313⟩
theorem fw_X11_104 {y : MethodName} (hy : y.cls = RX11) (hn : y.name = "<init>") : am_fw y 104 11 14 := ⟨RX11, TX11, ok_X11, by decide, rfl, Or.inr ⟨rfl, hn, hy.symm, by rw [hy]; exact tw_313⟩⟩
theorem tw_314 : (Jvm.Cond.fieldLink "MouthHouse" (107 : Nat) "MouthHouse" "imageSeating" "LMouthHouse$Seating;") ∈ lw_tbl := List.mem_of_getElem? (l := lw_tbl) (i := 487) (by decide +kernel)
theorem fl_X11_107 : am_fl RX11 107 11 15 := ⟨RX11, TX11, ok_X11, by decide, rfl, Or.inl tw_314⟩
theorem fw_X11_107 {y : MethodName} (hy : y.cls = RX11) (hn : y.name = "<init>") : am_fw y 107 11 15 := ⟨RX11, TX11, ok_X11, by decide, rfl, Or.inr ⟨rfl, hn, hy.symm, by rw [hy]; exact tw_314⟩⟩
theorem tw_315 : (Jvm.Cond.fieldLink "MouthHouse" (110 : Nat) "MouthHouse" "imageSittings" "LMouthHouse$Sittings;") ∈ lw_tbl := List.mem_of_getElem? (l := lw_tbl) (i := 488) (by decide +kernel)
theorem fl_X11_110 : am_fl RX11 110 11 16 := ⟨RX11, TX11, ok_X11, by decide, rfl, Or.inl tw_315⟩
theorem fw_X11_110 {y : MethodName} (hy : y.cls = RX11) (hn : y.name = "<init>") : am_fw y 110 11 16 := ⟨RX11, TX11, ok_X11, by decide, rfl, Or.inr ⟨rfl, hn, hy.symm, by rw [hy]; exact tw_315⟩⟩
theorem tw_402 : (Jvm.Cond.fieldLink "MouthHouse$Members" (26 : Nat) "MouthHouse$Members" "USUAL" "[I") ∈ lw_tbl := List.mem_of_getElem? (l := lw_tbl) (i := 575) (by decide +kernel)
theorem gs_X5_26 : am_gs RX5 26 3 := ⟨_, rfl, Or.inl tw_402⟩
theorem tw_419 : (Jvm.Cond.fieldLink "MouthHouse$HouseReader" (72 : Nat) "MouthHouse$HouseReader" "LETTERS" "[I") ∈ lw_tbl := List.mem_of_getElem? (l := lw_tbl) (i := 592) (by decide +kernel)
theorem gs_X2_72 : am_gs RX2 72 1 := ⟨_, rfl, Or.inl tw_419⟩
theorem tw_440 : (Jvm.Cond.fieldLink "MouthHouse$Members" (23 : Nat) "MouthHouse$Members" "MOST" "[I") ∈ lw_tbl := List.mem_of_getElem? (l := lw_tbl) (i := 613) (by decide +kernel)
theorem gs_X5_23 : am_gs RX5 23 2 := ⟨_, rfl, Or.inl tw_440⟩
theorem tw_486 : (Jvm.Cond.fieldLink "MouthHouse$Manners" (37 : Nat) "MouthHouse$Manners" "LETTERS" "[I") ∈ lw_tbl := List.mem_of_getElem? (l := lw_tbl) (i := 659) (by decide +kernel)
theorem gs_X3_37 : am_gs RX3 37 0 := ⟨_, rfl, Or.inl tw_486⟩
theorem tw_577 : (Jvm.Cond.fieldLink "MouthHouse$Manners" (18 : Nat) "MouthHouse$Manners" "signs" "[I") ∈ lw_tbl := List.mem_of_getElem? (l := lw_tbl) (i := 750) (by decide +kernel)
theorem fl_X3_18 : am_fl RX3 18 3 0 := ⟨RX3, TX3, ok_X3, by decide, rfl, Or.inl tw_577⟩
