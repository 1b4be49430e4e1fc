theorem fw_X3_18 {y : MethodName} (hy : y.cls = RX3) (hn : y.name = "<init>") : am_fw y 18 3 0 := ⟨RX3, TX3, ok_X3, by decide, rfl, Or.inr ⟨rfl, hn, hy.symm, by rw [hy]; exact tw_577⟩⟩
theorem tw_578 : (Jvm.Cond.fieldLink "MouthHouse$Manners" (30 : Nat) "MouthHouse$Manners" "stack" "[I") ∈ lw_tbl := List.mem_of_getElem? (l := lw_tbl) (i := 751) (by decide +kernel)
theorem fl_X3_30 : am_fl RX3 30 3 1 := ⟨RX3, TX3, ok_X3, by decide, rfl, Or.inl tw_578⟩
theorem fw_X3_30 {y : MethodName} (hy : y.cls = RX3) (hn : y.name = "<init>") : am_fw y 30 3 1 := ⟨RX3, TX3, ok_X3, by decide, rfl, Or.inr ⟨rfl, hn, hy.symm, by rw [hy]; exact tw_578⟩⟩
theorem tw_579 : (Jvm.Cond.fieldLink "MouthHouse$Manners" (33 : Nat) "MouthHouse$Manners" "top" "I") ∈ lw_tbl := List.mem_of_getElem? (l := lw_tbl) (i := 752) (by decide +kernel)
theorem fl_X3_33 : am_fl RX3 33 3 2 := ⟨RX3, TX3, ok_X3, by decide, rfl, Or.inl tw_579⟩
theorem fw_X3_33 {y : MethodName} (hy : y.cls = RX3) : am_fw y 33 3 2 := ⟨RX3, TX3, ok_X3, by decide, rfl, Or.inl ⟨rfl, Or.inl (by rw [hy]; exact tw_579)⟩⟩
theorem tw_1159 : (Jvm.Cond.fieldLink "MouthHouseModel" (100 : Nat) "MouthHouseModel" "thrown" "I") ∈ lw_tbl := List.mem_of_getElem? (l := lw_tbl) (i := 1332) (by decide +kernel)
theorem fl_X12_100 : am_fl RX12 100 12 0 := ⟨RX12, TX12, ok_X12, by decide, rfl, Or.inl tw_1159⟩
theorem fw_X12_100 {y : MethodName} (hy : y.cls = RX12) : am_fw y 100 12 0 := ⟨RX12, TX12, ok_X12, by decide, rfl, Or.inl ⟨rfl, Or.inl (by rw [hy]; exact tw_1159)⟩⟩
theorem tw_1160 : (Jvm.Cond.fieldLink "MouthHouseModel" (9 : Nat) "MouthHouseModel" "tape" "[I") ∈ lw_tbl := List.mem_of_getElem? (l := lw_tbl) (i := 1333) (by decide +kernel)
theorem fl_X12_9 : am_fl RX12 9 12 1 := ⟨RX12, TX12, ok_X12, by decide, rfl, Or.inl tw_1160⟩
theorem fw_X12_9 {y : MethodName} (hy : y.cls = RX12) (hn : y.name = "<init>") : am_fw y 9 12 1 := ⟨RX12, TX12, ok_X12, by decide, rfl, Or.inr ⟨rfl, hn, hy.symm, by rw [hy]; exact tw_1160⟩⟩
theorem tw_1161 : (Jvm.Cond.fieldLink "MouthHouseModel" (107 : Nat) "MouthHouseModel" "size" "I") ∈ lw_tbl := List.mem_of_getElem? (l := lw_tbl) (i := 1334) (by decide +kernel)
theorem fl_X12_107 : am_fl RX12 107 12 2 := ⟨RX12, TX12, ok_X12, by decide, rfl, Or.inl tw_1161⟩
theorem fw_X12_107 {y : MethodName} (hy : y.cls = RX12) : am_fw y 107 12 2 := ⟨RX12, TX12, ok_X12, by decide, rfl, Or.inl ⟨rfl, Or.inl (by rw [hy]; exact tw_1161)⟩⟩
theorem tw_1162 : (Jvm.Cond.fieldLink "MouthHouseModel" (110 : Nat) "MouthHouseModel" "at" "I") ∈ lw_tbl := List.mem_of_getElem? (l := lw_tbl) (i := 1335) (by decide +kernel)
theorem fl_X12_110 : am_fl RX12 110 12 3 := ⟨RX12, TX12, ok_X12, by decide, rfl, Or.inl tw_1162⟩
theorem fw_X12_110 {y : MethodName} (hy : y.cls = RX12) : am_fw y 110 12 3 := ⟨RX12, TX12, ok_X12, by decide, rfl, Or.inl ⟨rfl, Or.inl (by rw [hy]; exact tw_1162)⟩⟩
theorem tw_1163 : (Jvm.Cond.fieldLink "MouthHouseModel" (117 : Nat) "MouthHouseModel" "wrong" "I") ∈ lw_tbl := List.mem_of_getElem? (l := lw_tbl) (i := 1336) (by decide +kernel)
theorem fl_X12_117 : am_fl RX12 117 12 4 := ⟨RX12, TX12, ok_X12, by decide, rfl, Or.inl tw_1163⟩
theorem fw_X12_117 {y : MethodName} (hy : y.cls = RX12) : am_fw y 117 12 4 := ⟨RX12, TX12, ok_X12, by decide, rfl, Or.inl ⟨rfl, Or.inl (by rw [hy]; exact tw_1163)⟩⟩
theorem tw_1164 : (Jvm.Cond.fieldLink "MouthHouseModel" (123 : Nat) "MouthHouseModel" "deep" "I") ∈ lw_tbl := List.mem_of_getElem? (l := lw_tbl) (i := 1337) (by decide +kernel)
theorem fl_X12_123 : am_fl RX12 123 12 5 := ⟨RX12, TX12, ok_X12, by decide, rfl, Or.inl tw_1164⟩
theorem fw_X12_123 {y : MethodName} (hy : y.cls = RX12) : am_fw y 123 12 5 := ⟨RX12, TX12, ok_X12, by decide, rfl, Or.inl ⟨rfl, Or.inl (by rw [hy]; exact tw_1164)⟩⟩
theorem tw_1165 : (Jvm.Cond.fieldLink "MouthHouseModel" (13 : Nat) "MouthHouseModel" "code" "[I") ∈ lw_tbl := List.mem_of_getElem? (l := lw_tbl) (i := 1338) (by decide +kernel)
theorem fl_X12_13 : am_fl RX12 13 12 6 := ⟨RX12, TX12, ok_X12, by decide, rfl, Or.inl tw_1165⟩
theorem fw_X12_13 {y : MethodName} (hy : y.cls = RX12) (hn : y.name = "<init>") : am_fw y 13 12 6 := ⟨RX12, TX12, ok_X12, by decide, rfl, Or.inr ⟨rfl, hn, hy.symm, by rw [hy]; exact tw_1165⟩⟩
theorem tw_1166 : (Jvm.Cond.fieldLink "MouthHouseModel" (16 : Nat) "MouthHouseModel" "value" "[I") ∈ lw_tbl := List.mem_of_getElem? (l := lw_tbl) (i := 1339) (by decide +kernel)
theorem fl_X12_16 : am_fl RX12 16 12 7 := ⟨RX12, TX12, ok_X12, by decide, rfl, Or.inl tw_1166⟩
theorem fw_X12_16 {y : MethodName} (hy : y.cls = RX12) (hn : y.name = "<init>") : am_fw y 16 12 7 := ⟨RX12, TX12, ok_X12, by decide, rfl, Or.inr ⟨rfl, hn, hy.symm, by rw [hy]; exact tw_1166⟩⟩
theorem tw_1167 : (Jvm.Cond.fieldLink "MouthHouseModel" (19 : Nat) "MouthHouseModel" "codes" "[I") ∈ lw_tbl := List.mem_of_getElem? (l := lw_tbl) (i := 1340) (by decide +kernel)
theorem fl_X12_19 : am_fl RX12 19 12 8 := ⟨RX12, TX12, ok_X12, by decide, rfl, Or.inl tw_1167⟩
theorem fw_X12_19 {y : MethodName} (hy : y.cls = RX12) (hn : y.name = "<init>") : am_fw y 19 12 8 := ⟨RX12, TX12, ok_X12, by decide, rfl, Or.inr ⟨rfl, hn, hy.symm, by rw [hy]; exact tw_1167⟩⟩
theorem tw_1168 : (Jvm.Cond.fieldLink "MouthHouseModel" (22 : Nat) "MouthHouseModel" "clauses" "[I") ∈ lw_tbl := List.mem_of_getElem? (l := lw_tbl) (i := 1341) (by decide +kernel)
theorem fl_X12_22 : am_fl RX12 22 12 9 := ⟨RX12, TX12, ok_X12, by decide, rfl, Or.inl tw_1168⟩
theorem fw_X12_22 {y : MethodName} (hy : y.cls = RX12) (hn : y.name = "<init>") : am_fw y 22 12 9 := ⟨RX12, TX12, ok_X12, by decide, rfl, Or.inr ⟨rfl, hn, hy.symm, by rw [hy]; exact tw_1168⟩⟩
theorem tw_1169 : (Jvm.Cond.fieldLink "MouthHouseModel" (25 : Nat) "MouthHouseModel" "testFrom" "[I") ∈ lw_tbl := List.mem_of_getElem? (l := lw_tbl) (i := 1342) (by decide +kernel)
theorem fl_X12_25 : am_fl RX12 25 12 10 := ⟨RX12, TX12, ok_X12, by decide, rfl, Or.inl tw_1169⟩
theorem fw_X12_25 {y : MethodName} (hy : y.cls = RX12) (hn : y.name = "<init>") : am_fw y 25 12 10 := ⟨RX12, TX12, ok_X12, by decide, rfl, Or.inr ⟨rfl, hn, hy.symm, by rw [hy]; exact tw_1169⟩⟩
theorem tw_1170 : (Jvm.Cond.fieldLink "MouthHouseModel" (28 : Nat) "MouthHouseModel" "sumFrom" "[I") ∈ lw_tbl := List.mem_of_getElem? (l := lw_tbl) (i := 1343) (by decide +kernel)
theorem fl_X12_28 : am_fl RX12 28 12 11 := ⟨RX12, TX12, ok_X12, by decide, rfl, Or.inl tw_1170⟩
theorem fw_X12_28 {y : MethodName} (hy : y.cls = RX12) (hn : y.name = "<init>") : am_fw y 28 12 11 := ⟨RX12, TX12, ok_X12, by decide, rfl, Or.inr ⟨rfl, hn, hy.symm, by rw [hy]; exact tw_1170⟩⟩
theorem tw_1171 : (Jvm.Cond.fieldLink "MouthHouseModel" (31 : Nat) "MouthHouseModel" "sumTo" "[I") ∈ lw_tbl := List.mem_of_getElem? (l := lw_tbl) (i := 1344) (by decide +kernel)
theorem fl_X12_31 : am_fl RX12 31 12 12 := ⟨RX12, TX12, ok_X12, by decide, rfl, Or.inl tw_1171⟩
theorem fw_X12_31 {y : MethodName} (hy : y.cls = RX12) (hn : y.name = "<init>") : am_fw y 31 12 12 := ⟨RX12, TX12, ok_X12, by decide, rfl, Or.inr ⟨rfl, hn, hy.symm, by rw [hy]; exact tw_1171⟩⟩
theorem tw_1172 : (Jvm.Cond.fieldLink "MouthHouseModel" (273 : Nat) "MouthHouseModel" "laws" "I") ∈ lw_tbl := List.mem_of_getElem? (l := lw_tbl) (i := 1345) (by decide +kernel)
theorem fl_X12_273 : am_fl RX12 273 12 13 := ⟨RX12, TX12, ok_X12, by decide, rfl, Or.inl tw_1172⟩
theorem fw_X12_273 {y : MethodName} (hy : y.cls = RX12) : am_fw y 273 12 13 := ⟨RX12, TX12, ok_X12, by decide, rfl, Or.inl ⟨rfl, Or.inl (by rw [hy]; exact tw_1172)⟩⟩
theorem tw_1173 : (Jvm.Cond.fieldLink "MouthHouseModel" (120 : Nat) "MouthHouseModel" "text" "I") ∈ lw_tbl := List.mem_of_getElem? (l := lw_tbl) (i := 1346) (by decide +kernel)
theorem fl_X12_120 : am_fl RX12 120 12 14 := ⟨RX12, TX12, ok_X12, by decide, rfl, Or.inl tw_1173⟩
theorem fw_X12_120 {y : MethodName} (hy : y.cls = RX12) : am_fw y 120 12 14 := ⟨RX12, TX12, ok_X12, by decide, rfl, Or.inl ⟨rfl, Or.inl (by rw [hy]; exact tw_1173)⟩⟩
theorem tw_1174 : (Jvm.Cond.fieldLink "MouthHouseModel" (34 : Nat) "MouthHouseModel" "letters" "[I") ∈ lw_tbl := List.mem_of_getElem? (l := lw_tbl) (i := 1347) (by decide +kernel)
theorem fl_X12_34 : am_fl RX12 34 12 15 := ⟨RX12, TX12, ok_X12, by decide, rfl, Or.inl tw_1174⟩
theorem fw_X12_34 {y : MethodName} (hy : y.cls = RX12) (hn : y.name = "<init>") : am_fw y 34 12 15 := ⟨RX12, TX12, ok_X12, by decide, rfl, Or.inr ⟨rfl, hn, hy.symm, by rw [hy]; exact tw_1174⟩⟩
theorem tw_1175 : (Jvm.Cond.fieldLink "MouthHouseModel" (37 : Nat) "MouthHouseModel" "stack" "[I") ∈ lw_tbl := List.mem_of_getElem? (l := lw_tbl) (i := 1348) (by decide +kernel)
theorem fl_X12_37 : am_fl RX12 37 12 16 := ⟨RX12, TX12, ok_X12, by decide, rfl, Or.inl tw_1175⟩
theorem fw_X12_37 {y : MethodName} (hy : y.cls = RX12) (hn : y.name = "<init>") : am_fw y 37 12 16 := ⟨RX12, TX12, ok_X12, by decide, rfl, Or.inr ⟨rfl, hn, hy.symm, by rw [hy]; exact tw_1175⟩⟩
theorem tw_1176 : (Jvm.Cond.fieldLink "MouthHouseModel" (40 : Nat) "MouthHouseModel" "readRow" "[I") ∈ lw_tbl := List.mem_of_getElem? (l := lw_tbl) (i := 1349) (by decide +kernel)
theorem fl_X12_40 : am_fl RX12 40 12 17 := ⟨RX12, TX12, ok_X12, by decide, rfl, Or.inl tw_1176⟩
theorem fw_X12_40 {y : MethodName} (hy : y.cls = RX12) (hn : y.name = "<init>") : am_fw y 40 12 17 := ⟨RX12, TX12, ok_X12, by decide, rfl, Or.inr ⟨rfl, hn, hy.symm, by rw [hy]; exact tw_1176⟩⟩
theorem tw_1177 : (Jvm.Cond.fieldLink "MouthHouseModel" (219 : Nat) "MouthHouseModel" "readMembers" "I") ∈ lw_tbl := List.mem_of_getElem? (l := lw_tbl) (i := 1350) (by decide +kernel)
theorem fl_X12_219 : am_fl RX12 219 12 18 := ⟨RX12, TX12, ok_X12, by decide, rfl, Or.inl tw_1177⟩
theorem fw_X12_219 {y : MethodName} (hy : y.cls = RX12) : am_fw y 219 12 18 := ⟨RX12, TX12, ok_X12, by decide, rfl, Or.inl ⟨rfl, Or.inl (by rw [hy]; exact tw_1177)⟩⟩
theorem tw_1178 : (Jvm.Cond.fieldLink "MouthHouseModel" (239 : Nat) "MouthHouseModel" "readIsRing" "Z") ∈ lw_tbl := List.mem_of_getElem? (l := lw_tbl) (i := 1351) (by decide +kernel)
theorem fl_X12_239 : am_fl RX12 239 12 19 := ⟨RX12, TX12, ok_X12, by decide, rfl, Or.inl tw_1178⟩
theorem fw_X12_239 {y : MethodName} (hy : y.cls = RX12) : am_fw y 239 12 19 := ⟨RX12, TX12, ok_X12, by decide, rfl, Or.inl ⟨rfl, Or.inl (by rw [hy]; exact tw_1178)⟩⟩
theorem tw_1179 : (Jvm.Cond.fieldLink "MouthHouseModel" (43 : Nat) "MouthHouseModel" "row" "[I") ∈ lw_tbl := List.mem_of_getElem? (l := lw_tbl) (i := 1352) (by decide +kernel)
theorem fl_X12_43 : am_fl RX12 43 12 20 := ⟨RX12, TX12, ok_X12, by decide, rfl, Or.inl tw_1179⟩
theorem fw_X12_43 {y : MethodName} (hy : y.cls = RX12) (hn : y.name = "<init>") : am_fw y 43 12 20 := ⟨RX12, TX12, ok_X12, by decide, rfl, Or.inr ⟨rfl, hn, hy.symm, by rw [hy]; exact tw_1179⟩⟩
theorem tw_1180 : (Jvm.Cond.fieldLink "MouthHouseModel" (252 : Nat) "MouthHouseModel" "members" "I") ∈ lw_tbl := List.mem_of_getElem? (l := lw_tbl) (i := 1353) (by decide +kernel)
theorem fl_X12_252 : am_fl RX12 252 12 21 := ⟨RX12, TX12, ok_X12, by decide, rfl, Or.inl tw_1180⟩
theorem fw_X12_252 {y : MethodName} (hy : y.cls = RX12) : am_fw y 252 12 21 := ⟨RX12, TX12, ok_X12, by decide, rfl, Or.inl ⟨rfl, Or.inl (by rw [hy]; exact tw_1180)⟩⟩
theorem tw_1181 : (Jvm.Cond.fieldLink "MouthHouseModel" (255 : Nat) "MouthHouseModel" "isRing" "Z") ∈ lw_tbl := List.mem_of_getElem? (l := lw_tbl) (i := 1354) (by decide +kernel)
theorem fl_X12_255 : am_fl RX12 255 12 22 := ⟨RX12, TX12, ok_X12, by decide, rfl, Or.inl tw_1181⟩
theorem fw_X12_255 {y : MethodName} (hy : y.cls = RX12) : am_fw y 255 12 22 := ⟨RX12, TX12, ok_X12, by decide, rfl, Or.inl ⟨rfl, Or.inl (by rw [hy]; exact tw_1181)⟩⟩
theorem tw_1182 : (Jvm.Cond.fieldLink "MouthHouseModel" (46 : Nat) "MouthHouseModel" "seats" "[I") ∈ lw_tbl := List.mem_of_getElem? (l := lw_tbl) (i := 1355) (by decide +kernel)
theorem fl_X12_46 : am_fl RX12 46 12 23 := ⟨RX12, TX12, ok_X12, by decide, rfl, Or.inl tw_1182⟩
theorem fw_X12_46 {y : MethodName} (hy : y.cls = RX12) (hn : y.name = "<init>") : am_fw y 46 12 23 := ⟨RX12, TX12, ok_X12, by decide, rfl, Or.inr ⟨rfl, hn, hy.symm, by rw [hy]; exact tw_1182⟩⟩
theorem tw_1183 : (Jvm.Cond.fieldLink "MouthHouseModel" (49 : Nat) "MouthHouseModel" "holding" "I") ∈ lw_tbl := List.mem_of_getElem? (l := lw_tbl) (i := 1356) (by decide +kernel)
theorem fl_X12_49 : am_fl RX12 49 12 24 := ⟨RX12, TX12, ok_X12, by decide, rfl, Or.inl tw_1183⟩
theorem fw_X12_49 {y : MethodName} (hy : y.cls = RX12) : am_fw y 49 12 24 := ⟨RX12, TX12, ok_X12, by decide, rfl, Or.inl ⟨rfl, Or.inl (by rw [hy]; exact tw_1183)⟩⟩
theorem tw_1184 : (Jvm.Cond.fieldLink "MouthHouseModel" (303 : Nat) "MouthHouseModel" "roundSteps" "I") ∈ lw_tbl := List.mem_of_getElem? (l := lw_tbl) (i := 1357) (by decide +kernel)
theorem fl_X12_303 : am_fl RX12 303 12 25 := ⟨RX12, TX12, ok_X12, by decide, rfl, Or.inl tw_1184⟩
theorem fw_X12_303 {y : MethodName} (hy : y.cls = RX12) : am_fw y 303 12 25 := ⟨RX12, TX12, ok_X12, by decide, rfl, Or.inl ⟨rfl, Or.inl (by rw [hy]; exact tw_1184)⟩⟩
theorem tw_1185 : (Jvm.Cond.fieldLink "MouthHouseModel" (306 : Nat) "MouthHouseModel" "roundMinute" "I") ∈ lw_tbl := List.mem_of_getElem? (l := lw_tbl) (i := 1358) (by decide +kernel)
theorem fl_X12_306 : am_fl RX12 306 12 26 := ⟨RX12, TX12, ok_X12, by decide, rfl, Or.inl tw_1185⟩
theorem fw_X12_306 {y : MethodName} (hy : y.cls = RX12) : am_fw y 306 12 26 := ⟨RX12, TX12, ok_X12, by decide, rfl, Or.inl ⟨rfl, Or.inl (by rw [hy]; exact tw_1185)⟩⟩
theorem tw_1186 : (Jvm.Cond.fieldLink "MouthHouseModel" (309 : Nat) "MouthHouseModel" "roundHolder" "I") ∈ lw_tbl := List.mem_of_getElem? (l := lw_tbl) (i := 1359) (by decide +kernel)
theorem fl_X12_309 : am_fl RX12 309 12 27 := ⟨RX12, TX12, ok_X12, by decide, rfl, Or.inl tw_1186⟩
theorem fw_X12_309 {y : MethodName} (hy : y.cls = RX12) : am_fw y 309 12 27 := ⟨RX12, TX12, ok_X12, by decide, rfl, Or.inl ⟨rfl, Or.inl (by rw [hy]; exact tw_1186)⟩⟩
theorem tw_1187 : (Jvm.Cond.fieldLink "MouthHouseModel" (312 : Nat) "MouthHouseModel" "roundParts" "J") ∈ lw_tbl := List.mem_of_getElem? (l := lw_tbl) (i := 1360) (by decide +kernel)
theorem fl_X12_312 : am_fl RX12 312 12 28 := ⟨RX12, TX12, ok_X12, by decide, rfl, Or.inl tw_1187⟩
theorem fw_X12_312 {y : MethodName} (hy : y.cls = RX12) : am_fw y 312 12 28 := ⟨RX12, TX12, ok_X12, by decide, rfl, Or.inl ⟨rfl, Or.inl (by rw [hy]; exact tw_1187)⟩⟩
theorem tw_1188 : (Jvm.Cond.fieldLink "MouthHouseModel" (53 : Nat) "MouthHouseModel" "parts" "[J") ∈ lw_tbl := List.mem_of_getElem? (l := lw_tbl) (i := 1361) (by decide +kernel)
theorem fl_X12_53 : am_fl RX12 53 12 29 := ⟨RX12, TX12, ok_X12, by decide, rfl, Or.inl tw_1188⟩
theorem fw_X12_53 {y : MethodName} (hy : y.cls = RX12) (hn : y.name = "<init>") : am_fw y 53 12 29 := ⟨RX12, TX12, ok_X12, by decide, rfl, Or.inr ⟨rfl, hn, hy.symm, by rw [hy]; exact tw_1188⟩⟩
theorem tw_1189 : (Jvm.Cond.fieldLink "MouthHouseModel" (57 : Nat) "MouthHouseModel" "yawnAt" "[I") ∈ lw_tbl := List.mem_of_getElem? (l := lw_tbl) (i := 1362) (by decide +kernel)
theorem fl_X12_57 : am_fl RX12 57 12 30 := ⟨RX12, TX12, ok_X12, by decide, rfl, Or.inl tw_1189⟩
theorem fw_X12_57 {y : MethodName} (hy : y.cls = RX12) (hn : y.name = "<init>") : am_fw y 57 12 30 := ⟨RX12, TX12, ok_X12, by decide, rfl, Or.inr ⟨rfl, hn, hy.symm, by rw [hy]; exact tw_1189⟩⟩
theorem tw_1190 : (Jvm.Cond.fieldLink "MouthHouseModel" (60 : Nat) "MouthHouseModel" "seatings" "[I") ∈ lw_tbl := List.mem_of_getElem? (l := lw_tbl) (i := 1363) (by decide +kernel)
theorem fl_X12_60 : am_fl RX12 60 12 31 := ⟨RX12, TX12, ok_X12, by decide, rfl, Or.inl tw_1190⟩
theorem fw_X12_60 {y : MethodName} (hy : y.cls = RX12) (hn : y.name = "<init>") : am_fw y 60 12 31 := ⟨RX12, TX12, ok_X12, by decide, rfl, Or.inr ⟨rfl, hn, hy.symm, by rw [hy]; exact tw_1190⟩⟩
theorem tw_1191 : (Jvm.Cond.fieldLink "MouthHouseModel" (63 : Nat) "MouthHouseModel" "away" "[I") ∈ lw_tbl := List.mem_of_getElem? (l := lw_tbl) (i := 1364) (by decide +kernel)
theorem fl_X12_63 : am_fl RX12 63 12 32 := ⟨RX12, TX12, ok_X12, by decide, rfl, Or.inl tw_1191⟩
theorem fw_X12_63 {y : MethodName} (hy : y.cls = RX12) (hn : y.name = "<init>") : am_fw y 63 12 32 := ⟨RX12, TX12, ok_X12, by decide, rfl, Or.inr ⟨rfl, hn, hy.symm, by rw [hy]; exact tw_1191⟩⟩
theorem tw_1192 : (Jvm.Cond.fieldLink "MouthHouseModel" (362 : Nat) "MouthHouseModel" "seatingMany" "I") ∈ lw_tbl := List.mem_of_getElem? (l := lw_tbl) (i := 1365) (by decide +kernel)
theorem fl_X12_362 : am_fl RX12 362 12 33 := ⟨RX12, TX12, ok_X12, by decide, rfl, Or.inl tw_1192⟩
theorem fw_X12_362 {y : MethodName} (hy : y.cls = RX12) : am_fw y 362 12 33 := ⟨RX12, TX12, ok_X12, by decide, rfl, Or.inl ⟨rfl, Or.inl (by rw [hy]; exact tw_1192)⟩⟩
theorem tw_1193 : (Jvm.Cond.fieldLink "MouthHouseModel" (66 : Nat) "MouthHouseModel" "knowSeat" "[I") ∈ lw_tbl := List.mem_of_getElem? (l := lw_tbl) (i := 1366) (by decide +kernel)
theorem fl_X12_66 : am_fl RX12 66 12 34 := ⟨RX12, TX12, ok_X12, by decide, rfl, Or.inl tw_1193⟩
theorem fw_X12_66 {y : MethodName} (hy : y.cls = RX12) (hn : y.name = "<init>") : am_fw y 66 12 34 := ⟨RX12, TX12, ok_X12, by decide, rfl, Or.inr ⟨rfl, hn, hy.symm, by rw [hy]; exact tw_1193⟩⟩
theorem tw_1194 : (Jvm.Cond.fieldLink "MouthHouseModel" (69 : Nat) "MouthHouseModel" "knowYes" "[Z") ∈ lw_tbl := List.mem_of_getElem? (l := lw_tbl) (i := 1367) (by decide +kernel)
theorem fl_X12_69 : am_fl RX12 69 12 35 := ⟨RX12, TX12, ok_X12, by decide, rfl, Or.inl tw_1194⟩
theorem fw_X12_69 {y : MethodName} (hy : y.cls = RX12) (hn : y.name = "<init>") : am_fw y 69 12 35 := ⟨RX12, TX12, ok_X12, by decide, rfl, Or.inr ⟨rfl, hn, hy.symm, by rw [hy]; exact tw_1194⟩⟩
theorem tw_1195 : (Jvm.Cond.fieldLink "MouthHouseModel" (261 : Nat) "MouthHouseModel" "knows" "I") ∈ lw_tbl := List.mem_of_getElem? (l := lw_tbl) (i := 1368) (by decide +kernel)
theorem fl_X12_261 : am_fl RX12 261 12 36 := ⟨RX12, TX12, ok_X12, by decide, rfl, Or.inl tw_1195⟩
theorem fw_X12_261 {y : MethodName} (hy : y.cls = RX12) : am_fw y 261 12 36 := ⟨RX12, TX12, ok_X12, by decide, rfl, Or.inl ⟨rfl, Or.inl (by rw [hy]; exact tw_1195)⟩⟩
theorem tw_1196 : (Jvm.Cond.fieldLink "MouthHouseModel" (73 : Nat) "MouthHouseModel" "speaks" "[I") ∈ lw_tbl := List.mem_of_getElem? (l := lw_tbl) (i := 1369) (by decide +kernel)
theorem fl_X12_73 : am_fl RX12 73 12 37 := ⟨RX12, TX12, ok_X12, by decide, rfl, Or.inl tw_1196⟩
theorem fw_X12_73 {y : MethodName} (hy : y.cls = RX12) (hn : y.name = "<init>") : am_fw y 73 12 37 := ⟨RX12, TX12, ok_X12, by decide, rfl, Or.inr ⟨rfl, hn, hy.symm, by rw [hy]; exact tw_1196⟩⟩
theorem tw_1197 : (Jvm.Cond.fieldLink "MouthHouseModel" (76 : Nat) "MouthHouseModel" "sitYes" "[I") ∈ lw_tbl := List.mem_of_getElem? (l := lw_tbl) (i := 1370) (by decide +kernel)
theorem fl_X12_76 : am_fl RX12 76 12 38 := ⟨RX12, TX12, ok_X12, by decide, rfl, Or.inl tw_1197⟩
theorem fw_X12_76 {y : MethodName} (hy : y.cls = RX12) (hn : y.name = "<init>") : am_fw y 76 12 38 := ⟨RX12, TX12, ok_X12, by decide, rfl, Or.inr ⟨rfl, hn, hy.symm, by rw [hy]; exact tw_1197⟩⟩
theorem tw_1198 : (Jvm.Cond.fieldLink "MouthHouseModel" (79 : Nat) "MouthHouseModel" "sitPassed" "[Z") ∈ lw_tbl := List.mem_of_getElem? (l := lw_tbl) (i := 1371) (by decide +kernel)
theorem fl_X12_79 : am_fl RX12 79 12 39 := ⟨RX12, TX12, ok_X12, by decide, rfl, Or.inl tw_1198⟩
theorem fw_X12_79 {y : MethodName} (hy : y.cls = RX12) (hn : y.name = "<init>") : am_fw y 79 12 39 := ⟨RX12, TX12, ok_X12, by decide, rfl, Or.inr ⟨rfl, hn, hy.symm, by rw [hy]; exact tw_1198⟩⟩
theorem tw_1199 : (Jvm.Cond.fieldLink "MouthHouseModel" (82 : Nat) "MouthHouseModel" "sitDraws" "[J") ∈ lw_tbl := List.mem_of_getElem? (l := lw_tbl) (i := 1372) (by decide +kernel)
theorem fl_X12_82 : am_fl RX12 82 12 40 := ⟨RX12, TX12, ok_X12, by decide, rfl, Or.inl tw_1199⟩
theorem fw_X12_82 {y : MethodName} (hy : y.cls = RX12) (hn : y.name = "<init>") : am_fw y 82 12 40 := ⟨RX12, TX12, ok_X12, by decide, rfl, Or.inr ⟨rfl, hn, hy.symm, by rw [hy]; exact tw_1199⟩⟩
theorem tw_1200 : (Jvm.Cond.fieldLink "MouthHouseModel" (264 : Nat) "MouthHouseModel" "sittings" "I") ∈ lw_tbl := List.mem_of_getElem? (l := lw_tbl) (i := 1373) (by decide +kernel)
theorem fl_X12_264 : am_fl RX12 264 12 41 := ⟨RX12, TX12, ok_X12, by decide, rfl, Or.inl tw_1200⟩
theorem fw_X12_264 {y : MethodName} (hy : y.cls = RX12) : am_fw y 264 12 41 := ⟨RX12, TX12, ok_X12, by decide, rfl, Or.inl ⟨rfl, Or.inl (by rw [hy]; exact tw_1200)⟩⟩
theorem tw_1201 : (Jvm.Cond.fieldLink "MouthHouseModel" (393 : Nat) "MouthHouseModel" "draws" "J") ∈ lw_tbl := List.mem_of_getElem? (l := lw_tbl) (i := 1374) (by decide +kernel)
theorem fl_X12_393 : am_fl RX12 393 12 42 := ⟨RX12, TX12, ok_X12, by decide, rfl, Or.inl tw_1201⟩
theorem fw_X12_393 {y : MethodName} (hy : y.cls = RX12) : am_fw y 393 12 42 := ⟨RX12, TX12, ok_X12, by decide, rfl, Or.inl ⟨rfl, Or.inl (by rw [hy]; exact tw_1201)⟩⟩
theorem tw_1202 : (Jvm.Cond.fieldLink "MouthHouseModel" (85 : Nat) "MouthHouseModel" "imageSeats" "[I") ∈ lw_tbl := List.mem_of_getElem? (l := lw_tbl) (i := 1375) (by decide +kernel)
theorem fl_X12_85 : am_fl RX12 85 12 43 := ⟨RX12, TX12, ok_X12, by decide, rfl, Or.inl tw_1202⟩
theorem fw_X12_85 {y : MethodName} (hy : y.cls = RX12) (hn : y.name = "<init>") : am_fw y 85 12 43 := ⟨RX12, TX12, ok_X12, by decide, rfl, Or.inr ⟨rfl, hn, hy.symm, by rw [hy]; exact tw_1202⟩⟩
theorem tw_1203 : (Jvm.Cond.fieldLink "MouthHouseModel" (88 : Nat) "MouthHouseModel" "imageRow" "[I") ∈ lw_tbl := List.mem_of_getElem? (l := lw_tbl) (i := 1376) (by decide +kernel)
theorem fl_X12_88 : am_fl RX12 88 12 44 := ⟨RX12, TX12, ok_X12, by decide, rfl, Or.inl tw_1203⟩
theorem fw_X12_88 {y : MethodName} (hy : y.cls = RX12) (hn : y.name = "<init>") : am_fw y 88 12 44 := ⟨RX12, TX12, ok_X12, by decide, rfl, Or.inr ⟨rfl, hn, hy.symm, by rw [hy]; exact tw_1203⟩⟩
theorem tw_1204 : (Jvm.Cond.fieldLink "MouthHouseModel" (91 : Nat) "MouthHouseModel" "imageYes" "[I") ∈ lw_tbl := List.mem_of_getElem? (l := lw_tbl) (i := 1377) (by decide +kernel)
theorem fl_X12_91 : am_fl RX12 91 12 45 := ⟨RX12, TX12, ok_X12, by decide, rfl, Or.inl tw_1204⟩
theorem fw_X12_91 {y : MethodName} (hy : y.cls = RX12) (hn : y.name = "<init>") : am_fw y 91 12 45 := ⟨RX12, TX12, ok_X12, by decide, rfl, Or.inr ⟨rfl, hn, hy.symm, by rw [hy]; exact tw_1204⟩⟩
theorem tw_1205 : (Jvm.Cond.fieldLink "MouthHouseModel" (94 : Nat) "MouthHouseModel" "imagePassed" "[Z") ∈ lw_tbl := List.mem_of_getElem? (l := lw_tbl) (i := 1378) (by decide +kernel)
theorem fl_X12_94 : am_fl RX12 94 12 46 := ⟨RX12, TX12, ok_X12, by decide, rfl, Or.inl tw_1205⟩
theorem fw_X12_94 {y : MethodName} (hy : y.cls = RX12) (hn : y.name = "<init>") : am_fw y 94 12 46 := ⟨RX12, TX12, ok_X12, by decide, rfl, Or.inr ⟨rfl, hn, hy.symm, by rw [hy]; exact tw_1205⟩⟩
theorem tw_1206 : (Jvm.Cond.fieldLink "MouthHouseModel" (97 : Nat) "MouthHouseModel" "imageSat" "[J") ∈ lw_tbl := List.mem_of_getElem? (l := lw_tbl) (i := 1379) (by decide +kernel)
theorem fl_X12_97 : am_fl RX12 97 12 47 := ⟨RX12, TX12, ok_X12, by decide, rfl, Or.inl tw_1206⟩
theorem fw_X12_97 {y : MethodName} (hy : y.cls = RX12) (hn : y.name = "<init>") : am_fw y 97 12 47 := ⟨RX12, TX12, ok_X12, by decide, rfl, Or.inr ⟨rfl, hn, hy.symm, by rw [hy]; exact tw_1206⟩⟩
theorem tw_1207 : (Jvm.Cond.fieldLink "MouthHouseModel" (400 : Nat) "MouthHouseModel" "imageSittings" "I") ∈ lw_tbl := List.mem_of_getElem? (l := lw_tbl) (i := 1380) (by decide +kernel)
theorem fl_X12_400 : am_fl RX12 400 12 48 := ⟨RX12, TX12, ok_X12, by decide, rfl, Or.inl tw_1207⟩
theorem fw_X12_400 {y : MethodName} (hy : y.cls = RX12) : am_fw y 400 12 48 := ⟨RX12, TX12, ok_X12, by decide, rfl, Or.inl ⟨rfl, Or.inl (by rw [hy]; exact tw_1207)⟩⟩
theorem tw_1208 : (Jvm.Cond.fieldLink "MouthHouseModel" (403 : Nat) "MouthHouseModel" "imageDraws" "J") ∈ lw_tbl := List.mem_of_getElem? (l := lw_tbl) (i := 1381) (by decide +kernel)
theorem fl_X12_403 : am_fl RX12 403 12 49 := ⟨RX12, TX12, ok_X12, by decide, rfl, Or.inl tw_1208⟩
theorem fw_X12_403 {y : MethodName} (hy : y.cls = RX12) : am_fw y 403 12 49 := ⟨RX12, TX12, ok_X12, by decide, rfl, Or.inl ⟨rfl, Or.inl (by rw [hy]; exact tw_1208)⟩⟩
theorem tw_1209 : (Jvm.Cond.fieldLink "MouthHouseModel" (267 : Nat) "MouthHouseModel" "hasImage" "Z") ∈ lw_tbl := List.mem_of_getElem? (l := lw_tbl) (i := 1382) (by decide +kernel)
theorem fl_X12_267 : am_fl RX12 267 12 50 := ⟨RX12, TX12, ok_X12, by decide, rfl, Or.inl tw_1209⟩
theorem fw_X12_267 {y : MethodName} (hy : y.cls = RX12) : am_fw y 267 12 50 := ⟨RX12, TX12, ok_X12, by decide, rfl, Or.inl ⟨rfl, Or.inl (by rw [hy]; exact tw_1209)⟩⟩
theorem tw_24 : (Jvm.Cond.methodLink "MouthHouseLaw" (15 : Nat) ({ cls := "MouthHouse", name := "<init>", desc := "()V" } : Jvm.MethodName)) ∈ lw_tbl := List.mem_of_getElem? (l := lw_tbl) (i := 197) (by decide +kernel)
theorem lk_L_15 : am_lk RL 15 yX11_init := Or.inl tw_24
theorem tw_27 : (Jvm.Cond.methodLink "MouthHouse" (1 : Nat) ({ cls := "java/lang/Object", name := "<init>", desc := "()V" } : Jvm.MethodName)) ∈ lw_tbl := List.mem_of_getElem? (l := lw_tbl) (i := 200) (by decide +kernel)
theorem lo_X11_1 : Cond.methodLink RX11 1 objectInit ∈ lw_tbl := tw_27
theorem tw_32 : (Jvm.Cond.methodLinkNest "MouthHouse" (9 : Nat) ({ cls := "MouthHouse$Tape", name := "<init>", desc := "()V" } : Jvm.MethodName) "MouthHouse") ∈ lw_tbl := List.mem_of_getElem? (l := lw_tbl) (i := 205) (by decide +kernel)
theorem lk_X11_9 : am_lk RX11 9 yX9_init := Or.inr ⟨_, tw_32⟩
theorem tw_35 : (Jvm.Cond.methodLink "MouthHouse$Tape" (3 : Nat) ({ cls := "java/lang/Object", name := "<init>", desc := "()V" } : Jvm.MethodName)) ∈ lw_tbl := List.mem_of_getElem? (l := lw_tbl) (i := 208) (by decide +kernel)
theorem lo_X9_3 : Cond.methodLink RX9 3 objectInit ∈ lw_tbl := tw_35
theorem tw_52 : (Jvm.Cond.methodLinkNest "MouthHouse" (18 : Nat) ({ cls := "MouthHouse$HouseReader", name := "<init>", desc := "(LMouthHouse$Tape;)V" } : Jvm.MethodName) "MouthHouse") ∈ lw_tbl := List.mem_of_getElem? (l := lw_tbl) (i := 225) (by decide +kernel)
theorem lk_X11_18 : am_lk RX11 18 yX2_init := Or.inr ⟨_, tw_52⟩
theorem tw_55 : (Jvm.Cond.methodLink "MouthHouse$HouseReader" (3 : Nat) ({ cls := "java/lang/Object", name := "<init>", desc := "()V" } : Jvm.MethodName)) ∈ lw_tbl := List.mem_of_getElem? (l := lw_tbl) (i := 228) (by decide +kernel)
theorem lo_X2_3 : Cond.methodLink RX2 3 objectInit ∈ lw_tbl := tw_55
theorem tw_58 : (Jvm.Cond.methodLinkNest "MouthHouse$HouseReader" (17 : Nat) ({ cls := "MouthHouse$Members", name := "<init>", desc := "()V" } : Jvm.MethodName) "MouthHouse") ∈ lw_tbl := List.mem_of_getElem? (l := lw_tbl) (i := 231) (by decide +kernel)
theorem lk_X2_17 : am_lk RX2 17 yX5_init := Or.inr ⟨_, tw_58⟩
theorem tw_61 : (Jvm.Cond.methodLink "MouthHouse$Members" (3 : Nat) ({ cls := "java/lang/Object", name := "<init>", desc := "()V" } : Jvm.MethodName)) ∈ lw_tbl := List.mem_of_getElem? (l := lw_tbl) (i := 234) (by decide +kernel)
theorem lo_X5_3 : Cond.methodLink RX5 3 objectInit ∈ lw_tbl := tw_61
theorem tw_93 : (Jvm.Cond.methodLinkNest "MouthHouse" (27 : Nat) ({ cls := "MouthHouse$MannersReader", name := "<init>", desc := "(LMouthHouse$Tape;)V" } : Jvm.MethodName) "MouthHouse") ∈ lw_tbl := List.mem_of_getElem? (l := lw_tbl) (i := 266) (by decide +kernel)
theorem lk_X11_27 : am_lk RX11 27 yX4_init := Or.inr ⟨_, tw_93⟩
theorem tw_96 : (Jvm.Cond.methodLink "MouthHouse$MannersReader" (3 : Nat) ({ cls := "java/lang/Object", name := "<init>", desc := "()V" } : Jvm.MethodName)) ∈ lw_tbl := List.mem_of_getElem? (l := lw_tbl) (i := 269) (by decide +kernel)
theorem lo_X4_3 : Cond.methodLink RX4 3 objectInit ∈ lw_tbl := tw_96
theorem tw_110 : (Jvm.Cond.methodLinkNest "MouthHouse" (47 : Nat) ({ cls := "MouthHouse$Members", name := "<init>", desc := "()V" } : Jvm.MethodName) "MouthHouse") ∈ lw_tbl := List.mem_of_getElem? (l := lw_tbl) (i := 283) (by decide +kernel)
theorem lk_X11_47 : am_lk RX11 47 yX5_init := Or.inr ⟨_, tw_110⟩
theorem tw_113 : (Jvm.Cond.methodLinkNest "MouthHouse" (54 : Nat) ({ cls := "MouthHouse$Seating", name := "<init>", desc := "()V" } : Jvm.MethodName) "MouthHouse") ∈ lw_tbl := List.mem_of_getElem? (l := lw_tbl) (i := 286) (by decide +kernel)
theorem lk_X11_54 : am_lk RX11 54 yX6_init := Or.inr ⟨_, tw_113⟩
theorem tw_116 : (Jvm.Cond.methodLink "MouthHouse$Seating" (3 : Nat) ({ cls := "java/lang/Object", name := "<init>", desc := "()V" } : Jvm.MethodName)) ∈ lw_tbl := List.mem_of_getElem? (l := lw_tbl) (i := 289) (by decide +kernel)
theorem lo_X6_3 : Cond.methodLink RX6 3 objectInit ∈ lw_tbl := tw_116
theorem tw_129 : (Jvm.Cond.methodLinkNest "MouthHouse" (61 : Nat) ({ cls := "MouthHouse$Talk", name := "<init>", desc := "(LMouthHouse$Members;LMouthHouse$Seating;)V" } : Jvm.MethodName) "MouthHouse") ∈ lw_tbl := List.mem_of_getElem? (l := lw_tbl) (i := 302) (by decide +kernel)
theorem lk_X11_61 : am_lk RX11 61 yX8_init := Or.inr ⟨_, tw_129⟩
theorem tw_132 : (Jvm.Cond.methodLink "MouthHouse$Talk" (3 : Nat) ({ cls := "java/lang/Object", name := "<init>", desc := "()V" } : Jvm.MethodName)) ∈ lw_tbl := List.mem_of_getElem? (l := lw_tbl) (i := 305) (by decide +kernel)
theorem lo_X8_3 : Cond.methodLink RX8 3 objectInit ∈ lw_tbl := tw_132
theorem tw_146 : (Jvm.Cond.methodLinkNest "MouthHouse" (70 : Nat) ({ cls := "MouthHouse$Votes", name := "<init>", desc := "(LMouthHouse$Talk;)V" } : Jvm.MethodName) "MouthHouse") ∈ lw_tbl := List.mem_of_getElem? (l := lw_tbl) (i := 319) (by decide +kernel)
theorem lk_X11_70 : am_lk RX11 70 yX10_init := Or.inr ⟨_, tw_146⟩
theorem tw_149 : (Jvm.Cond.methodLink "MouthHouse$Votes" (3 : Nat) ({ cls := "java/lang/Object", name := "<init>", desc := "()V" } : Jvm.MethodName)) ∈ lw_tbl := List.mem_of_getElem? (l := lw_tbl) (i := 322) (by decide +kernel)
theorem lo_X10_3 : Cond.methodLink RX10 3 objectInit ∈ lw_tbl := tw_149
theorem tw_180 : (Jvm.Cond.methodLinkNest "MouthHouse" (79 : Nat) ({ cls := "MouthHouse$Best", name := "<init>", desc := "(LMouthHouse$Members;)V" } : Jvm.MethodName) "MouthHouse") ∈ lw_tbl := List.mem_of_getElem? (l := lw_tbl) (i := 353) (by decide +kernel)
theorem lk_X11_79 : am_lk RX11 79 yX0_init := Or.inr ⟨_, tw_180⟩
theorem tw_183 : (Jvm.Cond.methodLink "MouthHouse$Best" (3 : Nat) ({ cls := "java/lang/Object", name := "<init>", desc := "()V" } : Jvm.MethodName)) ∈ lw_tbl := List.mem_of_getElem? (l := lw_tbl) (i := 356) (by decide +kernel)
theorem lo_X0_3 : Cond.methodLink RX0 3 objectInit ∈ lw_tbl := tw_183
theorem tw_234 : (Jvm.Cond.methodLinkNest "MouthHouse" (88 : Nat) ({ cls := "MouthHouse$Changes", name := "<init>", desc := "(LMouthHouse$Members;LMouthHouse$Seating;)V" } : Jvm.MethodName) "MouthHouse") ∈ lw_tbl := List.mem_of_getElem? (l := lw_tbl) (i := 407) (by decide +kernel)
theorem lk_X11_88 : am_lk RX11 88 yX1_init := Or.inr ⟨_, tw_234⟩
theorem tw_237 : (Jvm.Cond.methodLink "MouthHouse$Changes" (3 : Nat) ({ cls := "java/lang/Object", name := "<init>", desc := "()V" } : Jvm.MethodName)) ∈ lw_tbl := List.mem_of_getElem? (l := lw_tbl) (i := 410) (by decide +kernel)
theorem lo_X1_3 : Cond.methodLink RX1 3 objectInit ∈ lw_tbl := tw_237
theorem tw_239 : (Jvm.Cond.methodLinkNest "MouthHouse$Changes" (21 : Nat) ({ cls := "MouthHouse$Seating", name := "<init>", desc := "()V" } : Jvm.MethodName) "MouthHouse") ∈ lw_tbl := List.mem_of_getElem? (l := lw_tbl) (i := 412) (by decide +kernel)
theorem lk_X1_21 : am_lk RX1 21 yX6_init := Or.inr ⟨_, tw_239⟩
theorem tw_241 : (Jvm.Cond.methodLinkNest "MouthHouse$Changes" (27 : Nat) ({ cls := "MouthHouse$Talk", name := "<init>", desc := "(LMouthHouse$Members;LMouthHouse$Seating;)V" } : Jvm.MethodName) "MouthHouse") ∈ lw_tbl := List.mem_of_getElem? (l := lw_tbl) (i := 414) (by decide +kernel)
theorem lk_X1_27 : am_lk RX1 27 yX8_init := Or.inr ⟨_, tw_241⟩
theorem tw_277 : (Jvm.Cond.methodLinkNest "MouthHouse" (95 : Nat) ({ cls := "MouthHouse$Sittings", name := "<init>", desc := "()V" } : Jvm.MethodName) "MouthHouse") ∈ lw_tbl := List.mem_of_getElem? (l := lw_tbl) (i := 450) (by decide +kernel)
theorem lk_X11_95 : am_lk RX11 95 yX7_init := Or.inr ⟨_, tw_277⟩
theorem tw_280 : (Jvm.Cond.methodLink "MouthHouse$Sittings" (3 : Nat) ({ cls := "java/lang/Object", name := "<init>", desc := "()V" } : Jvm.MethodName)) ∈ lw_tbl := List.mem_of_getElem? (l := lw_tbl) (i := 453) (by decide +kernel)
theorem lo_X7_3 : Cond.methodLink RX7 3 objectInit ∈ lw_tbl := tw_280
theorem tw_351 : (Jvm.Cond.methodLink "MouthHouseLaw" (19 : Nat) ({ cls := "MouthHouse", name := "feed", desc := "(IIIII)I" } : Jvm.MethodName)) ∈ lw_tbl := List.mem_of_getElem? (l := lw_tbl) (i := 524) (by decide +kernel)
theorem lk_L_19 : am_lk RL 19 yX11_feed := Or.inl tw_351
theorem tw_355 : (Jvm.Cond.methodLinkNest "MouthHouse" (113 : Nat) ({ cls := "MouthHouse$Tape", name := "signsIn", desc := "(I)I" } : Jvm.MethodName) "MouthHouse") ∈ lw_tbl := List.mem_of_getElem? (l := lw_tbl) (i := 528) (by decide +kernel)
theorem lk_X11_113 : am_lk RX11 113 yX9_signsIn := Or.inr ⟨_, tw_355⟩
theorem tw_358 : (Jvm.Cond.methodLinkNest "MouthHouse" (117 : Nat) ({ cls := "MouthHouse$Tape", name := "hasRoom", desc := "(I)Z" } : Jvm.MethodName) "MouthHouse") ∈ lw_tbl := List.mem_of_getElem? (l := lw_tbl) (i := 531) (by decide +kernel)
theorem lk_X11_117 : am_lk RX11 117 yX9_hasRoom := Or.inr ⟨_, tw_358⟩
theorem tw_362 : (Jvm.Cond.methodLinkNest "MouthHouse" (121 : Nat) ({ cls := "MouthHouse$Tape", name := "append", desc := "(I)V" } : Jvm.MethodName) "MouthHouse") ∈ lw_tbl := List.mem_of_getElem? (l := lw_tbl) (i := 535) (by decide +kernel)
theorem lk_X11_121 : am_lk RX11 121 yX9_append := Or.inr ⟨_, tw_362⟩
theorem tw_366 : (Jvm.Cond.methodLink "MouthHouseLaw" (24 : Nat) ({ cls := "MouthHouse", name := "end", desc := "(I)Z" } : Jvm.MethodName)) ∈ lw_tbl := List.mem_of_getElem? (l := lw_tbl) (i := 539) (by decide +kernel)
theorem lk_L_24 : am_lk RL 24 yX11_end := Or.inl tw_366
theorem tw_370 : (Jvm.Cond.methodLink "MouthHouseLaw" (29 : Nat) ({ cls := "MouthHouse", name := "fault", desc := "(I)I" } : Jvm.MethodName)) ∈ lw_tbl := List.mem_of_getElem? (l := lw_tbl) (i := 543) (by decide +kernel)
theorem lk_L_29 : am_lk RL 29 yX11_fault := Or.inl tw_370
theorem tw_374 : (Jvm.Cond.methodLinkNest "MouthHouse" (128 : Nat) ({ cls := "MouthHouse$HouseReader", name := "read", desc := "()I" } : Jvm.MethodName) "MouthHouse") ∈ lw_tbl := List.mem_of_getElem? (l := lw_tbl) (i := 547) (by decide +kernel)
theorem lk_X11_128 : am_lk RX11 128 yX2_read := Or.inr ⟨_, tw_374⟩
theorem tw_378 : (Jvm.Cond.methodLinkNest "MouthHouse$HouseReader" (22 : Nat) ({ cls := "MouthHouse$Members", name := "clear", desc := "()V" } : Jvm.MethodName) "MouthHouse") ∈ lw_tbl := List.mem_of_getElem? (l := lw_tbl) (i := 551) (by decide +kernel)
theorem lk_X2_22 : am_lk RX2 22 yX5_clear := Or.inr ⟨_, tw_378⟩
theorem tw_382 : (Jvm.Cond.methodLinkNest "MouthHouse$HouseReader" (25 : Nat) ({ cls := "MouthHouse$Tape", name := "rewind", desc := "()V" } : Jvm.MethodName) "MouthHouse") ∈ lw_tbl := List.mem_of_getElem? (l := lw_tbl) (i := 555) (by decide +kernel)
theorem lk_X2_25 : am_lk RX2 25 yX9_rewind := Or.inr ⟨_, tw_382⟩
theorem tw_386 : (Jvm.Cond.methodLink "MouthHouse$HouseReader" (30 : Nat) ({ cls := "MouthHouse$HouseReader", name := "readClause", desc := "()Z" } : Jvm.MethodName)) ∈ lw_tbl := List.mem_of_getElem? (l := lw_tbl) (i := 559) (by decide +kernel)
theorem lk_X2_30 : am_lk RX2 30 yX2_readClause := Or.inl tw_386
theorem tw_390 : (Jvm.Cond.methodLinkNest "MouthHouse$HouseReader" (38 : Nat) ({ cls := "MouthHouse$Tape", name := "next", desc := "()I" } : Jvm.MethodName) "MouthHouse") ∈ lw_tbl := List.mem_of_getElem? (l := lw_tbl) (i := 563) (by decide +kernel)
theorem lk_X2_38 : am_lk RX2 38 yX9_next := Or.inr ⟨_, tw_390⟩
theorem tw_394 : (Jvm.Cond.methodLinkNest "MouthHouse$HouseReader" (56 : Nat) ({ cls := "MouthHouse$Tape", name := "step", desc := "()V" } : Jvm.MethodName) "MouthHouse") ∈ lw_tbl := List.mem_of_getElem? (l := lw_tbl) (i := 567) (by decide +kernel)
theorem lk_X2_56 : am_lk RX2 56 yX9_step := Or.inr ⟨_, tw_394⟩
theorem tw_398 : (Jvm.Cond.methodLinkNest "MouthHouse$HouseReader" (59 : Nat) ({ cls := "MouthHouse$Members", name := "addUsual", desc := "()V" } : Jvm.MethodName) "MouthHouse") ∈ lw_tbl := List.mem_of_getElem? (l := lw_tbl) (i := 571) (by decide +kernel)
theorem lk_X2_59 : am_lk RX2 59 yX5_addUsual := Or.inr ⟨_, tw_398⟩
theorem tw_404 : (Jvm.Cond.methodLink "MouthHouse$Members" (29 : Nat) ({ cls := "MouthHouse$Members", name := "tell", desc := "(III)V" } : Jvm.MethodName)) ∈ lw_tbl := List.mem_of_getElem? (l := lw_tbl) (i := 577) (by decide +kernel)
theorem lk_X5_29 : am_lk RX5 29 yX5_tell := Or.inl tw_404
theorem tw_408 : (Jvm.Cond.methodLink "MouthHouse$Members" (43 : Nat) ({ cls := "MouthHouse$Members", name := "has", desc := "(I)Z" } : Jvm.MethodName)) ∈ lw_tbl := List.mem_of_getElem? (l := lw_tbl) (i := 581) (by decide +kernel)
theorem lk_X5_43 : am_lk RX5 43 yX5_has := Or.inl tw_408
theorem tw_412 : (Jvm.Cond.methodLink "MouthHouse$HouseReader" (62 : Nat) ({ cls := "MouthHouse$HouseReader", name := "readItems", desc := "()Z" } : Jvm.MethodName)) ∈ lw_tbl := List.mem_of_getElem? (l := lw_tbl) (i := 585) (by decide +kernel)
theorem lk_X2_62 : am_lk RX2 62 yX2_readItems := Or.inl tw_412
theorem tw_416 : (Jvm.Cond.methodLink "MouthHouse$HouseReader" (65 : Nat) ({ cls := "MouthHouse$HouseReader", name := "itemOf", desc := "(I)I" } : Jvm.MethodName)) ∈ lw_tbl := List.mem_of_getElem? (l := lw_tbl) (i := 589) (by decide +kernel)
theorem lk_X2_65 : am_lk RX2 65 yX2_itemOf := Or.inl tw_416
theorem tw_421 : (Jvm.Cond.methodLink "MouthHouse$HouseReader" (69 : Nat) ({ cls := "MouthHouse$HouseReader", name := "readValue", desc := "(I)Z" } : Jvm.MethodName)) ∈ lw_tbl := List.mem_of_getElem? (l := lw_tbl) (i := 594) (by decide +kernel)
theorem lk_X2_69 : am_lk RX2 69 yX2_readValue := Or.inl tw_421
theorem tw_425 : (Jvm.Cond.methodLinkNest "MouthHouse$HouseReader" (76 : Nat) ({ cls := "MouthHouse$Tape", name := "number", desc := "(I)I" } : Jvm.MethodName) "MouthHouse") ∈ lw_tbl := List.mem_of_getElem? (l := lw_tbl) (i := 598) (by decide +kernel)
theorem lk_X2_76 : am_lk RX2 76 yX9_number := Or.inr ⟨_, tw_425⟩
theorem tw_429 : (Jvm.Cond.methodLink "MouthHouse$Tape" (22 : Nat) ({ cls := "MouthHouse$Tape", name := "next", desc := "()I" } : Jvm.MethodName)) ∈ lw_tbl := List.mem_of_getElem? (l := lw_tbl) (i := 602) (by decide +kernel)
theorem lk_X9_22 : am_lk RX9 22 yX9_next := Or.inl tw_429
theorem tw_430 : (Jvm.Cond.methodLink "MouthHouse$Tape" (26 : Nat) ({ cls := "MouthHouse$Tape", name := "isDigit", desc := "(I)Z" } : Jvm.MethodName)) ∈ lw_tbl := List.mem_of_getElem? (l := lw_tbl) (i := 603) (by decide +kernel)
theorem lk_X9_26 : am_lk RX9 26 yX9_isDigit := Or.inl tw_430
theorem tw_433 : (Jvm.Cond.methodLink "MouthHouse$Tape" (30 : Nat) ({ cls := "MouthHouse$Tape", name := "here", desc := "()I" } : Jvm.MethodName)) ∈ lw_tbl := List.mem_of_getElem? (l := lw_tbl) (i := 606) (by decide +kernel)
theorem lk_X9_30 : am_lk RX9 30 yX9_here := Or.inl tw_433
theorem tw_437 : (Jvm.Cond.methodLinkNest "MouthHouse$HouseReader" (79 : Nat) ({ cls := "MouthHouse$Members", name := "mostOf", desc := "(I)I" } : Jvm.MethodName) "MouthHouse") ∈ lw_tbl := List.mem_of_getElem? (l := lw_tbl) (i := 610) (by decide +kernel)
theorem lk_X2_79 : am_lk RX2 79 yX5_mostOf := Or.inr ⟨_, tw_437⟩
theorem tw_442 : (Jvm.Cond.methodLinkNest "MouthHouse$HouseReader" (82 : Nat) ({ cls := "MouthHouse$Tape", name := "stepBack", desc := "()V" } : Jvm.MethodName) "MouthHouse") ∈ lw_tbl := List.mem_of_getElem? (l := lw_tbl) (i := 615) (by decide +kernel)
theorem lk_X2_82 : am_lk RX2 82 yX9_stepBack := Or.inr ⟨_, tw_442⟩
theorem tw_446 : (Jvm.Cond.methodLinkNest "MouthHouse$HouseReader" (85 : Nat) ({ cls := "MouthHouse$Members", name := "tell", desc := "(III)V" } : Jvm.MethodName) "MouthHouse") ∈ lw_tbl := List.mem_of_getElem? (l := lw_tbl) (i := 619) (by decide +kernel)
theorem lk_X2_85 : am_lk RX2 85 yX5_tell := Or.inr ⟨_, tw_446⟩
theorem tw_447 : (Jvm.Cond.methodLinkNest "MouthHouse$HouseReader" (34 : Nat) ({ cls := "MouthHouse$Tape", name := "pass", desc := "(I)Z" } : Jvm.MethodName) "MouthHouse") ∈ lw_tbl := List.mem_of_getElem? (l := lw_tbl) (i := 620) (by decide +kernel)
theorem lk_X2_34 : am_lk RX2 34 yX9_pass := Or.inr ⟨_, tw_447⟩
theorem tw_451 : (Jvm.Cond.methodLinkNest "MouthHouse$HouseReader" (49 : Nat) ({ cls := "MouthHouse$Members", name := "dropStrangers", desc := "()V" } : Jvm.MethodName) "MouthHouse") ∈ lw_tbl := List.mem_of_getElem? (l := lw_tbl) (i := 624) (by decide +kernel)
theorem lk_X2_49 : am_lk RX2 49 yX5_dropStrangers := Or.inr ⟨_, tw_451⟩
theorem tw_455 : (Jvm.Cond.methodLink "MouthHouse$Members" (39 : Nat) ({ cls := "MouthHouse$Members", name := "fact", desc := "(II)I" } : Jvm.MethodName)) ∈ lw_tbl := List.mem_of_getElem? (l := lw_tbl) (i := 628) (by decide +kernel)
theorem lk_X5_39 : am_lk RX5 39 yX5_fact := Or.inl tw_455
theorem tw_459 : (Jvm.Cond.methodLinkNest "MouthHouse" (132 : Nat) ({ cls := "MouthHouse$MannersReader", name := "read", desc := "()I" } : Jvm.MethodName) "MouthHouse") ∈ lw_tbl := List.mem_of_getElem? (l := lw_tbl) (i := 632) (by decide +kernel)
theorem lk_X11_132 : am_lk RX11 132 yX4_read := Or.inr ⟨_, tw_459⟩
theorem tw_463 : (Jvm.Cond.methodLinkNest "MouthHouse$MannersReader" (25 : Nat) ({ cls := "MouthHouse$Tape", name := "rewind", desc := "()V" } : Jvm.MethodName) "MouthHouse") ∈ lw_tbl := List.mem_of_getElem? (l := lw_tbl) (i := 636) (by decide +kernel)
theorem lk_X4_25 : am_lk RX4 25 yX9_rewind := Or.inr ⟨_, tw_463⟩
theorem tw_464 : (Jvm.Cond.methodLink "MouthHouse$MannersReader" (28 : Nat) ({ cls := "MouthHouse$MannersReader", name := "readClause", desc := "()Z" } : Jvm.MethodName)) ∈ lw_tbl := List.mem_of_getElem? (l := lw_tbl) (i := 637) (by decide +kernel)
theorem lk_X4_28 : am_lk RX4 28 yX4_readClause := Or.inl tw_464
theorem tw_468 : (Jvm.Cond.methodLinkNest "MouthHouse$MannersReader" (32 : Nat) ({ cls := "MouthHouse$Tape", name := "pass", desc := "(I)Z" } : Jvm.MethodName) "MouthHouse") ∈ lw_tbl := List.mem_of_getElem? (l := lw_tbl) (i := 641) (by decide +kernel)
theorem lk_X4_32 : am_lk RX4 32 yX9_pass := Or.inr ⟨_, tw_468⟩
theorem tw_469 : (Jvm.Cond.methodLinkNest "MouthHouse$MannersReader" (36 : Nat) ({ cls := "MouthHouse$Tape", name := "next", desc := "()I" } : Jvm.MethodName) "MouthHouse") ∈ lw_tbl := List.mem_of_getElem? (l := lw_tbl) (i := 642) (by decide +kernel)
theorem lk_X4_36 : am_lk RX4 36 yX9_next := Or.inr ⟨_, tw_469⟩
theorem tw_470 : (Jvm.Cond.methodLink "MouthHouse$MannersReader" (48 : Nat) ({ cls := "MouthHouse$MannersReader", name := "readSum", desc := "(I)Z" } : Jvm.MethodName)) ∈ lw_tbl := List.mem_of_getElem? (l := lw_tbl) (i := 643) (by decide +kernel)
theorem lk_X4_48 : am_lk RX4 48 yX4_readSum := Or.inl tw_470
theorem tw_474 : (Jvm.Cond.methodLink "MouthHouse$MannersReader" (77 : Nat) ({ cls := "MouthHouse$MannersReader", name := "readTerm", desc := "(I)Z" } : Jvm.MethodName)) ∈ lw_tbl := List.mem_of_getElem? (l := lw_tbl) (i := 647) (by decide +kernel)
theorem lk_X4_77 : am_lk RX4 77 yX4_readTerm := Or.inl tw_474
theorem tw_478 : (Jvm.Cond.methodLink "MouthHouse$MannersReader" (80 : Nat) ({ cls := "MouthHouse$MannersReader", name := "readAtom", desc := "(I)Z" } : Jvm.MethodName)) ∈ lw_tbl := List.mem_of_getElem? (l := lw_tbl) (i := 651) (by decide +kernel)
theorem lk_X4_80 : am_lk RX4 80 yX4_readAtom := Or.inl tw_478
theorem tw_482 : (Jvm.Cond.methodLinkNest "MouthHouse$MannersReader" (74 : Nat) ({ cls := "MouthHouse$Tape", name := "step", desc := "()V" } : Jvm.MethodName) "MouthHouse") ∈ lw_tbl := List.mem_of_getElem? (l := lw_tbl) (i := 655) (by decide +kernel)
theorem lk_X4_74 : am_lk RX4 74 yX9_step := Or.inr ⟨_, tw_482⟩
theorem tw_483 : (Jvm.Cond.methodLinkNest "MouthHouse$MannersReader" (83 : Nat) ({ cls := "MouthHouse$Manners", name := "letterOf", desc := "(I)I" } : Jvm.MethodName) "MouthHouse") ∈ lw_tbl := List.mem_of_getElem? (l := lw_tbl) (i := 656) (by decide +kernel)
theorem lk_X4_83 : am_lk RX4 83 yX3_letterOf := Or.inr ⟨_, tw_483⟩
theorem tw_487 : (Jvm.Cond.methodLink "MouthHouse$MannersReader" (54 : Nat) ({ cls := "MouthHouse$MannersReader", name := "write", desc := "(I)V" } : Jvm.MethodName)) ∈ lw_tbl := List.mem_of_getElem? (l := lw_tbl) (i := 660) (by decide +kernel)
theorem lk_X4_54 : am_lk RX4 54 yX4_write := Or.inl tw_487
theorem tw_491 : (Jvm.Cond.methodLinkNest "MouthHouse$MannersReader" (87 : Nat) ({ cls := "MouthHouse$Tape", name := "number", desc := "(I)I" } : Jvm.MethodName) "MouthHouse") ∈ lw_tbl := List.mem_of_getElem? (l := lw_tbl) (i := 664) (by decide +kernel)
theorem lk_X4_87 : am_lk RX4 87 yX9_number := Or.inr ⟨_, tw_491⟩
theorem tw_492 : (Jvm.Cond.methodLink "MouthHouse$MannersReader" (51 : Nat) ({ cls := "MouthHouse$MannersReader", name := "isRelation", desc := "(I)Z" } : Jvm.MethodName)) ∈ lw_tbl := List.mem_of_getElem? (l := lw_tbl) (i := 665) (by decide +kernel)
theorem lk_X4_51 : am_lk RX4 51 yX4_isRelation := Or.inl tw_492
theorem tw_495 : (Jvm.Cond.methodLink "MouthHouse$MannersReader" (58 : Nat) ({ cls := "MouthHouse$MannersReader", name := "readCondition", desc := "(IZ)Z" } : Jvm.MethodName)) ∈ lw_tbl := List.mem_of_getElem? (l := lw_tbl) (i := 668) (by decide +kernel)
theorem lk_X4_58 : am_lk RX4 58 yX4_readCondition := Or.inl tw_495
theorem tw_499 : (Jvm.Cond.methodLink "MouthHouse$MannersReader" (65 : Nat) ({ cls := "MouthHouse$MannersReader", name := "readTruth", desc := "(IZ)Z" } : Jvm.MethodName)) ∈ lw_tbl := List.mem_of_getElem? (l := lw_tbl) (i := 672) (by decide +kernel)
theorem lk_X4_65 : am_lk RX4 65 yX4_readTruth := Or.inl tw_499
theorem tw_503 : (Jvm.Cond.methodLink "MouthHouse$MannersReader" (68 : Nat) ({ cls := "MouthHouse$MannersReader", name := "readUnit", desc := "(IZ)Z" } : Jvm.MethodName)) ∈ lw_tbl := List.mem_of_getElem? (l := lw_tbl) (i := 676) (by decide +kernel)
theorem lk_X4_68 : am_lk RX4 68 yX4_readUnit := Or.inl tw_503
theorem tw_507 : (Jvm.Cond.methodLink "MouthHouse$MannersReader" (71 : Nat) ({ cls := "MouthHouse$MannersReader", name := "readRelation", desc := "(I)Z" } : Jvm.MethodName)) ∈ lw_tbl := List.mem_of_getElem? (l := lw_tbl) (i := 680) (by decide +kernel)
theorem lk_X4_71 : am_lk RX4 71 yX4_readRelation := Or.inl tw_507
theorem tw_511 : (Jvm.Cond.methodLink "MouthHouse$MannersReader" (62 : Nat) ({ cls := "MouthHouse$MannersReader", name := "readConsequence", desc := "()Z" } : Jvm.MethodName)) ∈ lw_tbl := List.mem_of_getElem? (l := lw_tbl) (i := 684) (by decide +kernel)
theorem lk_X4_62 : am_lk RX4 62 yX4_readConsequence := Or.inl tw_511
theorem tw_515 : (Jvm.Cond.methodLink "MouthHouseLaw" (34 : Nat) ({ cls := "MouthHouse", name := "text", desc := "(I)I" } : Jvm.MethodName)) ∈ lw_tbl := List.mem_of_getElem? (l := lw_tbl) (i := 688) (by decide +kernel)
theorem lk_L_34 : am_lk RL 34 yX11_text := Or.inl tw_515
theorem tw_519 : (Jvm.Cond.methodLink "MouthHouse" (133 : Nat) ({ cls := "MouthHouse", name := "moveIn", desc := "()I" } : Jvm.MethodName)) ∈ lw_tbl := List.mem_of_getElem? (l := lw_tbl) (i := 692) (by decide +kernel)
theorem lk_X11_133 : am_lk RX11 133 yX11_moveIn := Or.inl tw_519
theorem tw_523 : (Jvm.Cond.methodLinkNest "MouthHouse" (143 : Nat) ({ cls := "MouthHouse$Members", name := "copyFrom", desc := "(LMouthHouse$Members;)V" } : Jvm.MethodName) "MouthHouse") ∈ lw_tbl := List.mem_of_getElem? (l := lw_tbl) (i := 696) (by decide +kernel)
theorem lk_X11_143 : am_lk RX11 143 yX5_copyFrom := Or.inr ⟨_, tw_523⟩
theorem tw_527 : (Jvm.Cond.methodLink "MouthHouse$Members" (33 : Nat) ({ cls := "java/lang/System", name := "arraycopy", desc := "(Ljava/lang/Object;ILjava/lang/Object;II)V" } : Jvm.MethodName)) ∈ lw_tbl := List.mem_of_getElem? (l := lw_tbl) (i := 700) (by decide +kernel)
theorem lc_X5_33 : Cond.methodLink RX5 33 arraycopyName ∈ lw_tbl := tw_527
theorem tw_530 : (Jvm.Cond.methodLinkNest "MouthHouse" (149 : Nat) ({ cls := "MouthHouse$Seating", name := "startWith", desc := "(I)V" } : Jvm.MethodName) "MouthHouse") ∈ lw_tbl := List.mem_of_getElem? (l := lw_tbl) (i := 703) (by decide +kernel)
theorem lk_X11_149 : am_lk RX11 149 yX6_startWith := Or.inr ⟨_, tw_530⟩
theorem tw_534 : (Jvm.Cond.methodLink "MouthHouse$Seating" (22 : Nat) ({ cls := "java/lang/Math", name := "min", desc := "(II)I" } : Jvm.MethodName)) ∈ lw_tbl := List.mem_of_getElem? (l := lw_tbl) (i := 707) (by decide +kernel)
theorem lk_X6_22 : Cond.methodLink RX6 22 Lib.Math.min.name ∈ lw_tbl := tw_534
theorem tw_537 : (Jvm.Cond.methodLink "MouthHouse$Seating" (28 : Nat) ({ cls := "java/lang/Math", name := "max", desc := "(II)I" } : Jvm.MethodName)) ∈ lw_tbl := List.mem_of_getElem? (l := lw_tbl) (i := 710) (by decide +kernel)
