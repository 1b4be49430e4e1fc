theorem lk_X11_299 : am_lk RX11 299 yX8_slipOf := Or.inr ⟨_, tw_1036⟩
theorem tw_1037 : (Jvm.Cond.methodLinkNest "MouthHouse" (302 : Nat) ({ cls := "MouthHouse$Votes", name := "passes", desc := "(II)Z" } : Jvm.MethodName) "MouthHouse") ∈ lw_tbl := List.mem_of_getElem? (l := lw_tbl) (i := 1210) (by decide +kernel)
theorem lk_X11_302 : am_lk RX11 302 yX10_passes := Or.inr ⟨_, tw_1037⟩
theorem tw_1038 : (Jvm.Cond.methodLinkNest "MouthHouse" (306 : Nat) ({ cls := "MouthHouse$Sittings", name := "putBy", desc := "(IZJ)V" } : Jvm.MethodName) "MouthHouse") ∈ lw_tbl := List.mem_of_getElem? (l := lw_tbl) (i := 1211) (by decide +kernel)
theorem lk_X11_306 : am_lk RX11 306 yX7_putBy := Or.inr ⟨_, tw_1038⟩
theorem tw_1042 : (Jvm.Cond.methodLink "MouthHouse$Sittings" (34 : Nat) ({ cls := "MouthHouse$Sittings", name := "isFull", desc := "()Z" } : Jvm.MethodName)) ∈ lw_tbl := List.mem_of_getElem? (l := lw_tbl) (i := 1215) (by decide +kernel)
theorem lk_X7_34 : am_lk RX7 34 yX7_isFull := Or.inl tw_1042
theorem tw_1043 : (Jvm.Cond.methodLink "MouthHouseLaw" (142 : Nat) ({ cls := "MouthHouse", name := "sat", desc := "(II)I" } : Jvm.MethodName)) ∈ lw_tbl := List.mem_of_getElem? (l := lw_tbl) (i := 1216) (by decide +kernel)
theorem lk_L_142 : am_lk RL 142 yX11_sat := Or.inl tw_1043
theorem tw_1047 : (Jvm.Cond.methodLinkNest "MouthHouse" (310 : Nat) ({ cls := "MouthHouse$Sittings", name := "yesOf", desc := "(I)I" } : Jvm.MethodName) "MouthHouse") ∈ lw_tbl := List.mem_of_getElem? (l := lw_tbl) (i := 1220) (by decide +kernel)
theorem lk_X11_310 : am_lk RX11 310 yX7_yesOf := Or.inr ⟨_, tw_1047⟩
theorem tw_1051 : (Jvm.Cond.methodLinkNest "MouthHouse" (313 : Nat) ({ cls := "MouthHouse$Sittings", name := "passedOf", desc := "(I)I" } : Jvm.MethodName) "MouthHouse") ∈ lw_tbl := List.mem_of_getElem? (l := lw_tbl) (i := 1224) (by decide +kernel)
theorem lk_X11_313 : am_lk RX11 313 yX7_passedOf := Or.inr ⟨_, tw_1051⟩
theorem tw_1055 : (Jvm.Cond.methodLink "MouthHouseLaw" (146 : Nat) ({ cls := "MouthHouse", name := "undo", desc := "()I" } : Jvm.MethodName)) ∈ lw_tbl := List.mem_of_getElem? (l := lw_tbl) (i := 1228) (by decide +kernel)
theorem lk_L_146 : am_lk RL 146 yX11_undo := Or.inl tw_1055
theorem tw_1059 : (Jvm.Cond.methodLinkNest "MouthHouse" (316 : Nat) ({ cls := "MouthHouse$Sittings", name := "takeBack", desc := "()I" } : Jvm.MethodName) "MouthHouse") ∈ lw_tbl := List.mem_of_getElem? (l := lw_tbl) (i := 1232) (by decide +kernel)
theorem lk_X11_316 : am_lk RX11 316 yX7_takeBack := Or.inr ⟨_, tw_1059⟩
theorem tw_1063 : (Jvm.Cond.methodLink "MouthHouseLaw" (150 : Nat) ({ cls := "MouthHouse", name := "image", desc := "()I" } : Jvm.MethodName)) ∈ lw_tbl := List.mem_of_getElem? (l := lw_tbl) (i := 1236) (by decide +kernel)
theorem lk_L_150 : am_lk RL 150 yX11_image := Or.inl tw_1063
theorem tw_1067 : (Jvm.Cond.methodLinkNest "MouthHouse" (319 : Nat) ({ cls := "MouthHouse$Seating", name := "copyFrom", desc := "(LMouthHouse$Seating;)V" } : Jvm.MethodName) "MouthHouse") ∈ lw_tbl := List.mem_of_getElem? (l := lw_tbl) (i := 1240) (by decide +kernel)
theorem lk_X11_319 : am_lk RX11 319 yX6_copyFrom := Or.inr ⟨_, tw_1067⟩
theorem tw_1068 : (Jvm.Cond.methodLinkNest "MouthHouse" (322 : Nat) ({ cls := "MouthHouse$Sittings", name := "copyFrom", desc := "(LMouthHouse$Sittings;)V" } : Jvm.MethodName) "MouthHouse") ∈ lw_tbl := List.mem_of_getElem? (l := lw_tbl) (i := 1241) (by decide +kernel)
theorem lk_X11_322 : am_lk RX11 322 yX7_copyFrom := Or.inr ⟨_, tw_1068⟩
theorem tw_1072 : (Jvm.Cond.methodLink "MouthHouse$Sittings" (38 : Nat) ({ cls := "java/lang/System", name := "arraycopy", desc := "(Ljava/lang/Object;ILjava/lang/Object;II)V" } : Jvm.MethodName)) ∈ lw_tbl := List.mem_of_getElem? (l := lw_tbl) (i := 1245) (by decide +kernel)
theorem lc_X7_38 : Cond.methodLink RX7 38 arraycopyName ∈ lw_tbl := tw_1072
theorem tw_1073 : (Jvm.Cond.methodLink "MouthHouseLaw" (154 : Nat) ({ cls := "MouthHouse", name := "back", desc := "()I" } : Jvm.MethodName)) ∈ lw_tbl := List.mem_of_getElem? (l := lw_tbl) (i := 1246) (by decide +kernel)
theorem lk_L_154 : am_lk RL 154 yX11_back := Or.inl tw_1073
theorem tw_1077 : (Jvm.Cond.methodLink "MouthHouseLaw" (158 : Nat) ({ cls := "MouthHouse", name := "count", desc := "(I)I" } : Jvm.MethodName)) ∈ lw_tbl := List.mem_of_getElem? (l := lw_tbl) (i := 1250) (by decide +kernel)
theorem lk_L_158 : am_lk RL 158 yX11_count := Or.inl tw_1077
theorem tw_1081 : (Jvm.Cond.methodLinkNest "MouthHouse" (328 : Nat) ({ cls := "MouthHouse$Seating", name := "digits", desc := "()I" } : Jvm.MethodName) "MouthHouse") ∈ lw_tbl := List.mem_of_getElem? (l := lw_tbl) (i := 1254) (by decide +kernel)
theorem lk_X11_328 : am_lk RX11 328 yX6_digits := Or.inr ⟨_, tw_1081⟩
theorem tw_1082 : (Jvm.Cond.methodLinkNest "MouthHouse" (334 : Nat) ({ cls := "MouthHouse$Sittings", name := "passedOnes", desc := "()I" } : Jvm.MethodName) "MouthHouse") ∈ lw_tbl := List.mem_of_getElem? (l := lw_tbl) (i := 1255) (by decide +kernel)
theorem lk_X11_334 : am_lk RX11 334 yX7_passedOnes := Or.inr ⟨_, tw_1082⟩
theorem tw_1086 : (Jvm.Cond.methodLink "MouthHouseLaw" (38 : Nat) ({ cls := "MouthHouseLaw", name := "member", desc := "(LMouthHouse;II[J)I" } : Jvm.MethodName)) ∈ lw_tbl := List.mem_of_getElem? (l := lw_tbl) (i := 1259) (by decide +kernel)
theorem lk_L_38 : am_lk RL 38 yL_member := Or.inl tw_1086
theorem tw_1090 : (Jvm.Cond.methodLink "MouthHouseLaw" (7 : Nat) ({ cls := "MouthHouse", name := "member", desc := "(II)I" } : Jvm.MethodName)) ∈ lw_tbl := List.mem_of_getElem? (l := lw_tbl) (i := 1263) (by decide +kernel)
theorem lk_L_7 : am_lk RL 7 yX11_member := Or.inl tw_1090
theorem tw_1155 : (Jvm.Cond.methodLinkNest "MouthHouse" (171 : Nat) ({ cls := "MouthHouse$Seating", name := "seatOf", desc := "(I)I" } : Jvm.MethodName) "MouthHouse") ∈ lw_tbl := List.mem_of_getElem? (l := lw_tbl) (i := 1328) (by decide +kernel)
theorem lk_X11_171 : am_lk RX11 171 yX6_seatOf := Or.inr ⟨_, tw_1155⟩
theorem tw_1158 : (Jvm.Cond.methodLink "MouthHouseLaw" (18 : Nat) ({ cls := "MouthHouseModel", name := "<init>", desc := "()V" } : Jvm.MethodName)) ∈ lw_tbl := List.mem_of_getElem? (l := lw_tbl) (i := 1331) (by decide +kernel)
theorem lk_L_18 : am_lk RL 18 yX12_init := Or.inl tw_1158
theorem tw_1161 : (Jvm.Cond.methodLink "MouthHouseModel" (3 : Nat) ({ cls := "java/lang/Object", name := "<init>", desc := "()V" } : Jvm.MethodName)) ∈ lw_tbl := List.mem_of_getElem? (l := lw_tbl) (i := 1334) (by decide +kernel)
theorem lo_X12_3 : Cond.methodLink RX12 3 objectInit ∈ lw_tbl := tw_1161
theorem tw_1316 : (Jvm.Cond.methodLink "MouthHouseLaw" (44 : Nat) ({ cls := "MouthHouseModel", name := "thrown", desc := "()I" } : Jvm.MethodName)) ∈ lw_tbl := List.mem_of_getElem? (l := lw_tbl) (i := 1489) (by decide +kernel)
theorem lk_L_44 : am_lk RL 44 yX12_thrown := Or.inl tw_1316
theorem tw_1320 : (Jvm.Cond.methodLink "MouthHouseLaw" (23 : Nat) ({ cls := "MouthHouseModel", name := "feed", desc := "(IIIII)I" } : Jvm.MethodName)) ∈ lw_tbl := List.mem_of_getElem? (l := lw_tbl) (i := 1493) (by decide +kernel)
theorem lk_L_23 : am_lk RL 23 yX12_feed := Or.inl tw_1320
theorem tw_1324 : (Jvm.Cond.methodLink "MouthHouseModel" (103 : Nat) ({ cls := "MouthHouseModel", name := "byteOf", desc := "(IIIIII)I" } : Jvm.MethodName)) ∈ lw_tbl := List.mem_of_getElem? (l := lw_tbl) (i := 1497) (by decide +kernel)
theorem lk_X12_103 : am_lk RX12 103 yX12_byteOf := Or.inl tw_1324
theorem tw_1327 : (Jvm.Cond.methodLink "MouthHouseLaw" (28 : Nat) ({ cls := "MouthHouseModel", name := "end", desc := "(I)Z" } : Jvm.MethodName)) ∈ lw_tbl := List.mem_of_getElem? (l := lw_tbl) (i := 1500) (by decide +kernel)
theorem lk_L_28 : am_lk RL 28 yX12_end := Or.inl tw_1327
theorem tw_1331 : (Jvm.Cond.methodLink "MouthHouseLaw" (33 : Nat) ({ cls := "MouthHouseModel", name := "fault", desc := "(I)I" } : Jvm.MethodName)) ∈ lw_tbl := List.mem_of_getElem? (l := lw_tbl) (i := 1504) (by decide +kernel)
theorem lk_L_33 : am_lk RL 33 yX12_fault := Or.inl tw_1331
theorem tw_1335 : (Jvm.Cond.methodLink "MouthHouseModel" (246 : Nat) ({ cls := "MouthHouseModel", name := "readHouse", desc := "()I" } : Jvm.MethodName)) ∈ lw_tbl := List.mem_of_getElem? (l := lw_tbl) (i := 1508) (by decide +kernel)
theorem lk_X12_246 : am_lk RX12 246 yX12_readHouse := Or.inl tw_1335
theorem tw_1339 : (Jvm.Cond.methodLink "MouthHouseModel" (129 : Nat) ({ cls := "MouthHouseModel", name := "look", desc := "()I" } : Jvm.MethodName)) ∈ lw_tbl := List.mem_of_getElem? (l := lw_tbl) (i := 1512) (by decide +kernel)
theorem lk_X12_129 : am_lk RX12 129 yX12_look := Or.inl tw_1339
theorem tw_1343 : (Jvm.Cond.methodLink "MouthHouseModel" (113 : Nat) ({ cls := "MouthHouseModel", name := "here", desc := "()I" } : Jvm.MethodName)) ∈ lw_tbl := List.mem_of_getElem? (l := lw_tbl) (i := 1516) (by decide +kernel)
theorem lk_X12_113 : am_lk RX12 113 yX12_here := Or.inl tw_1343
theorem tw_1347 : (Jvm.Cond.methodLink "MouthHouseModel" (243 : Nat) ({ cls := "MouthHouseModel", name := "memberText", desc := "()V" } : Jvm.MethodName)) ∈ lw_tbl := List.mem_of_getElem? (l := lw_tbl) (i := 1520) (by decide +kernel)
theorem lk_X12_243 : am_lk RX12 243 yX12_memberText := Or.inl tw_1347
theorem tw_1351 : (Jvm.Cond.methodLink "MouthHouseModel" (222 : Nat) ({ cls := "MouthHouseModel", name := "usual", desc := "(I)I" } : Jvm.MethodName)) ∈ lw_tbl := List.mem_of_getElem? (l := lw_tbl) (i := 1524) (by decide +kernel)
theorem lk_X12_222 : am_lk RX12 222 yX12_usual := Or.inl tw_1351
theorem tw_1354 : (Jvm.Cond.methodLink "MouthHouseModel" (225 : Nat) ({ cls := "MouthHouseModel", name := "itemOf", desc := "(I)I" } : Jvm.MethodName)) ∈ lw_tbl := List.mem_of_getElem? (l := lw_tbl) (i := 1527) (by decide +kernel)
theorem lk_X12_225 : am_lk RX12 225 yX12_itemOf := Or.inl tw_1354
theorem tw_1357 : (Jvm.Cond.methodLink "MouthHouseModel" (228 : Nat) ({ cls := "MouthHouseModel", name := "has", desc := "(II)Z" } : Jvm.MethodName)) ∈ lw_tbl := List.mem_of_getElem? (l := lw_tbl) (i := 1530) (by decide +kernel)
theorem lk_X12_228 : am_lk RX12 228 yX12_has := Or.inl tw_1357
theorem tw_1360 : (Jvm.Cond.methodLink "MouthHouseModel" (232 : Nat) ({ cls := "MouthHouseModel", name := "highest", desc := "(I)I" } : Jvm.MethodName)) ∈ lw_tbl := List.mem_of_getElem? (l := lw_tbl) (i := 1533) (by decide +kernel)
theorem lk_X12_232 : am_lk RX12 232 yX12_highest := Or.inl tw_1360
theorem tw_1363 : (Jvm.Cond.methodLink "MouthHouseModel" (235 : Nat) ({ cls := "MouthHouseModel", name := "number", desc := "(II)I" } : Jvm.MethodName)) ∈ lw_tbl := List.mem_of_getElem? (l := lw_tbl) (i := 1536) (by decide +kernel)
theorem lk_X12_235 : am_lk RX12 235 yX12_number := Or.inl tw_1363
theorem tw_1367 : (Jvm.Cond.methodLink "MouthHouseModel" (132 : Nat) ({ cls := "MouthHouseModel", name := "isDigit", desc := "(I)Z" } : Jvm.MethodName)) ∈ lw_tbl := List.mem_of_getElem? (l := lw_tbl) (i := 1540) (by decide +kernel)
theorem lk_X12_132 : am_lk RX12 132 yX12_isDigit := Or.inl tw_1367
theorem tw_1370 : (Jvm.Cond.methodLink "MouthHouseModel" (126 : Nat) ({ cls := "MouthHouseModel", name := "bad", desc := "()V" } : Jvm.MethodName)) ∈ lw_tbl := List.mem_of_getElem? (l := lw_tbl) (i := 1543) (by decide +kernel)
theorem lk_X12_126 : am_lk RX12 126 yX12_bad := Or.inl tw_1370
theorem tw_1374 : (Jvm.Cond.methodLink "MouthHouseModel" (215 : Nat) ({ cls := "MouthHouseModel", name := "in", desc := "(III)Z" } : Jvm.MethodName)) ∈ lw_tbl := List.mem_of_getElem? (l := lw_tbl) (i := 1547) (by decide +kernel)
theorem lk_X12_215 : am_lk RX12 215 yX12_in := Or.inl tw_1374
theorem tw_1377 : (Jvm.Cond.methodLink "MouthHouseModel" (249 : Nat) ({ cls := "MouthHouseModel", name := "readLaw", desc := "(I)I" } : Jvm.MethodName)) ∈ lw_tbl := List.mem_of_getElem? (l := lw_tbl) (i := 1550) (by decide +kernel)
theorem lk_X12_249 : am_lk RX12 249 yX12_readLaw := Or.inl tw_1377
theorem tw_1381 : (Jvm.Cond.methodLink "MouthHouseModel" (181 : Nat) ({ cls := "MouthHouseModel", name := "open", desc := "(I)V" } : Jvm.MethodName)) ∈ lw_tbl := List.mem_of_getElem? (l := lw_tbl) (i := 1554) (by decide +kernel)
theorem lk_X12_181 : am_lk RX12 181 yX12_open := Or.inl tw_1381
theorem tw_1385 : (Jvm.Cond.methodLink "MouthHouseModel" (184 : Nat) ({ cls := "MouthHouseModel", name := "clause", desc := "()V" } : Jvm.MethodName)) ∈ lw_tbl := List.mem_of_getElem? (l := lw_tbl) (i := 1558) (by decide +kernel)
theorem lk_X12_184 : am_lk RX12 184 yX12_clause := Or.inl tw_1385
theorem tw_1389 : (Jvm.Cond.methodLink "MouthHouseModel" (169 : Nat) ({ cls := "MouthHouseModel", name := "condition", desc := "()V" } : Jvm.MethodName)) ∈ lw_tbl := List.mem_of_getElem? (l := lw_tbl) (i := 1562) (by decide +kernel)
theorem lk_X12_169 : am_lk RX12 169 yX12_condition := Or.inl tw_1389
theorem tw_1393 : (Jvm.Cond.methodLink "MouthHouseModel" (166 : Nat) ({ cls := "MouthHouseModel", name := "unit", desc := "()V" } : Jvm.MethodName)) ∈ lw_tbl := List.mem_of_getElem? (l := lw_tbl) (i := 1566) (by decide +kernel)
theorem lk_X12_166 : am_lk RX12 166 yX12_unit := Or.inl tw_1393
theorem tw_1397 : (Jvm.Cond.methodLink "MouthHouseModel" (147 : Nat) ({ cls := "MouthHouseModel", name := "opens", desc := "()V" } : Jvm.MethodName)) ∈ lw_tbl := List.mem_of_getElem? (l := lw_tbl) (i := 1570) (by decide +kernel)
theorem lk_X12_147 : am_lk RX12 147 yX12_opens := Or.inl tw_1397
theorem tw_1401 : (Jvm.Cond.methodLink "MouthHouseModel" (139 : Nat) ({ cls := "MouthHouseModel", name := "put", desc := "(II)V" } : Jvm.MethodName)) ∈ lw_tbl := List.mem_of_getElem? (l := lw_tbl) (i := 1574) (by decide +kernel)
theorem lk_X12_139 : am_lk RX12 139 yX12_put := Or.inl tw_1401
theorem tw_1405 : (Jvm.Cond.methodLink "MouthHouseModel" (153 : Nat) ({ cls := "MouthHouseModel", name := "closes", desc := "(I)V" } : Jvm.MethodName)) ∈ lw_tbl := List.mem_of_getElem? (l := lw_tbl) (i := 1578) (by decide +kernel)
theorem lk_X12_153 : am_lk RX12 153 yX12_closes := Or.inl tw_1405
theorem tw_1409 : (Jvm.Cond.methodLink "MouthHouseModel" (150 : Nat) ({ cls := "MouthHouseModel", name := "sum", desc := "()V" } : Jvm.MethodName)) ∈ lw_tbl := List.mem_of_getElem? (l := lw_tbl) (i := 1582) (by decide +kernel)
theorem lk_X12_150 : am_lk RX12 150 yX12_sum := Or.inl tw_1409
theorem tw_1413 : (Jvm.Cond.methodLink "MouthHouseModel" (160 : Nat) ({ cls := "MouthHouseModel", name := "term", desc := "()V" } : Jvm.MethodName)) ∈ lw_tbl := List.mem_of_getElem? (l := lw_tbl) (i := 1586) (by decide +kernel)
theorem lk_X12_160 : am_lk RX12 160 yX12_term := Or.inl tw_1413
theorem tw_1417 : (Jvm.Cond.methodLink "MouthHouseModel" (157 : Nat) ({ cls := "MouthHouseModel", name := "atom", desc := "()V" } : Jvm.MethodName)) ∈ lw_tbl := List.mem_of_getElem? (l := lw_tbl) (i := 1590) (by decide +kernel)
theorem lk_X12_157 : am_lk RX12 157 yX12_atom := Or.inl tw_1417
theorem tw_1421 : (Jvm.Cond.methodLink "MouthHouseModel" (136 : Nat) ({ cls := "MouthHouseModel", name := "plainNumber", desc := "()I" } : Jvm.MethodName)) ∈ lw_tbl := List.mem_of_getElem? (l := lw_tbl) (i := 1594) (by decide +kernel)
theorem lk_X12_136 : am_lk RX12 136 yX12_plainNumber := Or.inl tw_1421
theorem tw_1425 : (Jvm.Cond.methodLink "MouthHouseModel" (143 : Nat) ({ cls := "MouthHouseModel", name := "letterOf", desc := "(I)I" } : Jvm.MethodName)) ∈ lw_tbl := List.mem_of_getElem? (l := lw_tbl) (i := 1598) (by decide +kernel)
theorem lk_X12_143 : am_lk RX12 143 yX12_letterOf := Or.inl tw_1425
theorem tw_1428 : (Jvm.Cond.methodLink "MouthHouseModel" (172 : Nat) ({ cls := "MouthHouseModel", name := "compare", desc := "()V" } : Jvm.MethodName)) ∈ lw_tbl := List.mem_of_getElem? (l := lw_tbl) (i := 1601) (by decide +kernel)
theorem lk_X12_172 : am_lk RX12 172 yX12_compare := Or.inl tw_1428
theorem tw_1432 : (Jvm.Cond.methodLink "MouthHouseModel" (163 : Nat) ({ cls := "MouthHouseModel", name := "isSign", desc := "(I)Z" } : Jvm.MethodName)) ∈ lw_tbl := List.mem_of_getElem? (l := lw_tbl) (i := 1605) (by decide +kernel)
theorem lk_X12_163 : am_lk RX12 163 yX12_isSign := Or.inl tw_1432
theorem tw_1435 : (Jvm.Cond.methodLink "MouthHouseModel" (175 : Nat) ({ cls := "MouthHouseModel", name := "goOnAnd", desc := "()V" } : Jvm.MethodName)) ∈ lw_tbl := List.mem_of_getElem? (l := lw_tbl) (i := 1608) (by decide +kernel)
theorem lk_X12_175 : am_lk RX12 175 yX12_goOnAnd := Or.inl tw_1435
theorem tw_1439 : (Jvm.Cond.methodLink "MouthHouseModel" (178 : Nat) ({ cls := "MouthHouseModel", name := "goOnOr", desc := "()V" } : Jvm.MethodName)) ∈ lw_tbl := List.mem_of_getElem? (l := lw_tbl) (i := 1612) (by decide +kernel)
theorem lk_X12_178 : am_lk RX12 178 yX12_goOnOr := Or.inl tw_1439
theorem tw_1443 : (Jvm.Cond.methodLink "MouthHouseModel" (187 : Nat) ({ cls := "MouthHouseModel", name := "atEnd", desc := "()I" } : Jvm.MethodName)) ∈ lw_tbl := List.mem_of_getElem? (l := lw_tbl) (i := 1616) (by decide +kernel)
theorem lk_X12_187 : am_lk RX12 187 yX12_atEnd := Or.inl tw_1443
theorem tw_1447 : (Jvm.Cond.methodLink "MouthHouseLaw" (37 : Nat) ({ cls := "MouthHouseModel", name := "text", desc := "(I)I" } : Jvm.MethodName)) ∈ lw_tbl := List.mem_of_getElem? (l := lw_tbl) (i := 1620) (by decide +kernel)
theorem lk_L_37 : am_lk RL 37 yX12_text := Or.inl tw_1447
theorem tw_1451 : (Jvm.Cond.methodLink "MouthHouseModel" (270 : Nat) ({ cls := "MouthHouseModel", name := "takeHouse", desc := "()I" } : Jvm.MethodName)) ∈ lw_tbl := List.mem_of_getElem? (l := lw_tbl) (i := 1624) (by decide +kernel)
theorem lk_X12_270 : am_lk RX12 270 yX12_takeHouse := Or.inl tw_1451
theorem tw_1455 : (Jvm.Cond.methodLink "MouthHouseModel" (258 : Nat) ({ cls := "MouthHouseModel", name := "of", desc := "(II)I" } : Jvm.MethodName)) ∈ lw_tbl := List.mem_of_getElem? (l := lw_tbl) (i := 1628) (by decide +kernel)
theorem lk_X12_258 : am_lk RX12 258 yX12_of := Or.inl tw_1455
theorem tw_1459 : (Jvm.Cond.methodLink "MouthHouseLaw" (43 : Nat) ({ cls := "MouthHouseModel", name := "member", desc := "(II)I" } : Jvm.MethodName)) ∈ lw_tbl := List.mem_of_getElem? (l := lw_tbl) (i := 1632) (by decide +kernel)
theorem lk_L_43 : am_lk RL 43 yX12_member := Or.inl tw_1459
theorem tw_1463 : (Jvm.Cond.methodLink "MouthHouseModel" (288 : Nat) ({ cls := "MouthHouseModel", name := "isMember", desc := "(I)Z" } : Jvm.MethodName)) ∈ lw_tbl := List.mem_of_getElem? (l := lw_tbl) (i := 1636) (by decide +kernel)
theorem lk_X12_288 : am_lk RX12 288 yX12_isMember := Or.inl tw_1463
theorem tw_1467 : (Jvm.Cond.methodLink "MouthHouseModel" (276 : Nat) ({ cls := "MouthHouseModel", name := "seatOf", desc := "(I)I" } : Jvm.MethodName)) ∈ lw_tbl := List.mem_of_getElem? (l := lw_tbl) (i := 1640) (by decide +kernel)
theorem lk_X12_276 : am_lk RX12 276 yX12_seatOf := Or.inl tw_1467
theorem tw_1471 : (Jvm.Cond.methodLink "MouthHouseModel" (282 : Nat) ({ cls := "MouthHouseModel", name := "mouthOf", desc := "(I)I" } : Jvm.MethodName)) ∈ lw_tbl := List.mem_of_getElem? (l := lw_tbl) (i := 1644) (by decide +kernel)
theorem lk_X12_282 : am_lk RX12 282 yX12_mouthOf := Or.inl tw_1471
theorem tw_1475 : (Jvm.Cond.methodLink "MouthHouseModel" (279 : Nat) ({ cls := "MouthHouseModel", name := "leftOf", desc := "(I)I" } : Jvm.MethodName)) ∈ lw_tbl := List.mem_of_getElem? (l := lw_tbl) (i := 1648) (by decide +kernel)
theorem lk_X12_279 : am_lk RX12 279 yX12_leftOf := Or.inl tw_1475
theorem tw_1479 : (Jvm.Cond.methodLink "MouthHouseModel" (291 : Nat) ({ cls := "MouthHouseModel", name := "isHeard", desc := "(I)Z" } : Jvm.MethodName)) ∈ lw_tbl := List.mem_of_getElem? (l := lw_tbl) (i := 1652) (by decide +kernel)
theorem lk_X12_291 : am_lk RX12 291 yX12_isHeard := Or.inl tw_1479
theorem tw_1483 : (Jvm.Cond.methodLink "MouthHouseModel" (285 : Nat) ({ cls := "MouthHouseModel", name := "isSwallowed", desc := "(II)Z" } : Jvm.MethodName)) ∈ lw_tbl := List.mem_of_getElem? (l := lw_tbl) (i := 1656) (by decide +kernel)
theorem lk_X12_285 : am_lk RX12 285 yX12_isSwallowed := Or.inl tw_1483
theorem tw_1487 : (Jvm.Cond.methodLink "MouthHouseLaw" (51 : Nat) ({ cls := "MouthHouseModel", name := "seat", desc := "(I)I" } : Jvm.MethodName)) ∈ lw_tbl := List.mem_of_getElem? (l := lw_tbl) (i := 1660) (by decide +kernel)
theorem lk_L_51 : am_lk RL 51 yX12_seat := Or.inl tw_1487
theorem tw_1491 : (Jvm.Cond.methodLink "MouthHouseLaw" (55 : Nat) ({ cls := "MouthHouseModel", name := "manners", desc := "(I)Z" } : Jvm.MethodName)) ∈ lw_tbl := List.mem_of_getElem? (l := lw_tbl) (i := 1664) (by decide +kernel)
theorem lk_L_55 : am_lk RL 55 yX12_manners := Or.inl tw_1491
theorem tw_1495 : (Jvm.Cond.methodLink "MouthHouseLaw" (60 : Nat) ({ cls := "MouthHouseModel", name := "set", desc := "(III)Z" } : Jvm.MethodName)) ∈ lw_tbl := List.mem_of_getElem? (l := lw_tbl) (i := 1668) (by decide +kernel)
theorem lk_L_60 : am_lk RL 60 yX12_set := Or.inl tw_1495
theorem tw_1499 : (Jvm.Cond.methodLink "MouthHouseLaw" (65 : Nat) ({ cls := "MouthHouseModel", name := "change", desc := "(II)Z" } : Jvm.MethodName)) ∈ lw_tbl := List.mem_of_getElem? (l := lw_tbl) (i := 1672) (by decide +kernel)
theorem lk_L_65 : am_lk RL 65 yX12_change := Or.inl tw_1499
theorem tw_1503 : (Jvm.Cond.methodLink "MouthHouseModel" (294 : Nat) ({ cls := "MouthHouseModel", name := "swap", desc := "(II)V" } : Jvm.MethodName)) ∈ lw_tbl := List.mem_of_getElem? (l := lw_tbl) (i := 1676) (by decide +kernel)
theorem lk_X12_294 : am_lk RX12 294 yX12_swap := Or.inl tw_1503
theorem tw_1507 : (Jvm.Cond.methodLink "MouthHouseLaw" (69 : Nat) ({ cls := "MouthHouseModel", name := "sit", desc := "(I)Z" } : Jvm.MethodName)) ∈ lw_tbl := List.mem_of_getElem? (l := lw_tbl) (i := 1680) (by decide +kernel)
theorem lk_L_69 : am_lk RL 69 yX12_sit := Or.inl tw_1507
theorem tw_1511 : (Jvm.Cond.methodLink "MouthHouseModel" (297 : Nat) ({ cls := "MouthHouseModel", name := "ten", desc := "(I)I" } : Jvm.MethodName)) ∈ lw_tbl := List.mem_of_getElem? (l := lw_tbl) (i := 1684) (by decide +kernel)
theorem lk_X12_297 : am_lk RX12 297 yX12_ten := Or.inl tw_1511
theorem tw_1514 : (Jvm.Cond.methodLink "MouthHouseModel" (300 : Nat) ({ cls := "MouthHouseModel", name := "write", desc := "(I)V" } : Jvm.MethodName)) ∈ lw_tbl := List.mem_of_getElem? (l := lw_tbl) (i := 1687) (by decide +kernel)
theorem lk_X12_300 : am_lk RX12 300 yX12_write := Or.inl tw_1514
theorem tw_1518 : (Jvm.Cond.methodLink "MouthHouseLaw" (74 : Nat) ({ cls := "MouthHouseModel", name := "round", desc := "(III)J" } : Jvm.MethodName)) ∈ lw_tbl := List.mem_of_getElem? (l := lw_tbl) (i := 1691) (by decide +kernel)
theorem lk_L_74 : am_lk RL 74 yX12_round := Or.inl tw_1518
theorem tw_1523 : (Jvm.Cond.methodLink "MouthHouseModel" (323 : Nat) ({ cls := "MouthHouseModel", name := "goRound", desc := "(II)V" } : Jvm.MethodName)) ∈ lw_tbl := List.mem_of_getElem? (l := lw_tbl) (i := 1696) (by decide +kernel)
theorem lk_X12_323 : am_lk RX12 323 yX12_goRound := Or.inl tw_1523
theorem tw_1527 : (Jvm.Cond.methodLink "MouthHouseModel" (316 : Nat) ({ cls := "MouthHouseModel", name := "errorOf", desc := "(I)I" } : Jvm.MethodName)) ∈ lw_tbl := List.mem_of_getElem? (l := lw_tbl) (i := 1700) (by decide +kernel)
theorem lk_X12_316 : am_lk RX12 316 yX12_errorOf := Or.inl tw_1527
theorem tw_1532 : (Jvm.Cond.methodLink "MouthHouseLaw" (78 : Nat) ({ cls := "MouthHouseModel", name := "tally", desc := "(I)I" } : Jvm.MethodName)) ∈ lw_tbl := List.mem_of_getElem? (l := lw_tbl) (i := 1705) (by decide +kernel)
theorem lk_L_78 : am_lk RL 78 yX12_tally := Or.inl tw_1532
theorem tw_1536 : (Jvm.Cond.methodLink "MouthHouseModel" (326 : Nat) ({ cls := "MouthHouseModel", name := "heardMany", desc := "()I" } : Jvm.MethodName)) ∈ lw_tbl := List.mem_of_getElem? (l := lw_tbl) (i := 1709) (by decide +kernel)
theorem lk_X12_326 : am_lk RX12 326 yX12_heardMany := Or.inl tw_1536
theorem tw_1540 : (Jvm.Cond.methodLink "MouthHouseModel" (329 : Nat) ({ cls := "MouthHouseModel", name := "yesMany", desc := "(I)I" } : Jvm.MethodName)) ∈ lw_tbl := List.mem_of_getElem? (l := lw_tbl) (i := 1713) (by decide +kernel)
theorem lk_X12_329 : am_lk RX12 329 yX12_yesMany := Or.inl tw_1540
theorem tw_1544 : (Jvm.Cond.methodLink "MouthHouseLaw" (83 : Nat) ({ cls := "MouthHouseModel", name := "odds", desc := "(I)J" } : Jvm.MethodName)) ∈ lw_tbl := List.mem_of_getElem? (l := lw_tbl) (i := 1717) (by decide +kernel)
theorem lk_L_83 : am_lk RL 83 yX12_odds := Or.inl tw_1544
theorem tw_1548 : (Jvm.Cond.methodLink "MouthHouseModel" (332 : Nat) ({ cls := "MouthHouseModel", name := "layParts", desc := "(I)V" } : Jvm.MethodName)) ∈ lw_tbl := List.mem_of_getElem? (l := lw_tbl) (i := 1721) (by decide +kernel)
theorem lk_X12_332 : am_lk RX12 332 yX12_layParts := Or.inl tw_1548
theorem tw_1552 : (Jvm.Cond.methodLink "MouthHouseLaw" (88 : Nat) ({ cls := "MouthHouseModel", name := "passed", desc := "()J" } : Jvm.MethodName)) ∈ lw_tbl := List.mem_of_getElem? (l := lw_tbl) (i := 1725) (by decide +kernel)
theorem lk_L_88 : am_lk RL 88 yX12_passed := Or.inl tw_1552
theorem tw_1556 : (Jvm.Cond.methodLink "MouthHouseModel" (335 : Nat) ({ cls := "MouthHouseModel", name := "passedParts", desc := "(Z)J" } : Jvm.MethodName)) ∈ lw_tbl := List.mem_of_getElem? (l := lw_tbl) (i := 1729) (by decide +kernel)
theorem lk_X12_335 : am_lk RX12 335 yX12_passedParts := Or.inl tw_1556
theorem tw_1560 : (Jvm.Cond.methodLink "MouthHouseLaw" (92 : Nat) ({ cls := "MouthHouseModel", name := "turner", desc := "()I" } : Jvm.MethodName)) ∈ lw_tbl := List.mem_of_getElem? (l := lw_tbl) (i := 1733) (by decide +kernel)
theorem lk_L_92 : am_lk RL 92 yX12_turner := Or.inl tw_1560
theorem tw_1564 : (Jvm.Cond.methodLink "MouthHouseModel" (339 : Nat) ({ cls := "MouthHouseModel", name := "doesPass", desc := "(I)Z" } : Jvm.MethodName)) ∈ lw_tbl := List.mem_of_getElem? (l := lw_tbl) (i := 1737) (by decide +kernel)
theorem lk_X12_339 : am_lk RX12 339 yX12_doesPass := Or.inl tw_1564
theorem tw_1568 : (Jvm.Cond.methodLink "MouthHouseLaw" (96 : Nat) ({ cls := "MouthHouseModel", name := "bribe", desc := "(I)I" } : Jvm.MethodName)) ∈ lw_tbl := List.mem_of_getElem? (l := lw_tbl) (i := 1741) (by decide +kernel)
theorem lk_L_96 : am_lk RL 96 yX12_bribe := Or.inl tw_1568
theorem tw_1572 : (Jvm.Cond.methodLink "MouthHouseLaw" (100 : Nat) ({ cls := "MouthHouseModel", name := "yawn", desc := "(II)I" } : Jvm.MethodName)) ∈ lw_tbl := List.mem_of_getElem? (l := lw_tbl) (i := 1745) (by decide +kernel)
theorem lk_L_100 : am_lk RL 100 yX12_yawn := Or.inl tw_1572
theorem tw_1576 : (Jvm.Cond.methodLink "MouthHouseModel" (347 : Nat) ({ cls := "MouthHouseModel", name := "layYawns", desc := "(I)V" } : Jvm.MethodName)) ∈ lw_tbl := List.mem_of_getElem? (l := lw_tbl) (i := 1749) (by decide +kernel)
theorem lk_X12_347 : am_lk RX12 347 yX12_layYawns := Or.inl tw_1576
theorem tw_1580 : (Jvm.Cond.methodLink "MouthHouseModel" (342 : Nat) ({ cls := "MouthHouseModel", name := "catchYawn", desc := "(II)V" } : Jvm.MethodName)) ∈ lw_tbl := List.mem_of_getElem? (l := lw_tbl) (i := 1753) (by decide +kernel)
theorem lk_X12_342 : am_lk RX12 342 yX12_catchYawn := Or.inl tw_1580
theorem tw_1584 : (Jvm.Cond.methodLink "MouthHouseModel" (345 : Nat) ({ cls := "java/lang/Math", name := "min", desc := "(II)I" } : Jvm.MethodName)) ∈ lw_tbl := List.mem_of_getElem? (l := lw_tbl) (i := 1757) (by decide +kernel)
theorem lk_X12_345 : Cond.methodLink RX12 345 Lib.Math.min.name ∈ lw_tbl := tw_1584
theorem tw_1585 : (Jvm.Cond.methodLink "MouthHouseLaw" (104 : Nat) ({ cls := "MouthHouseModel", name := "yawns", desc := "(II)I" } : Jvm.MethodName)) ∈ lw_tbl := List.mem_of_getElem? (l := lw_tbl) (i := 1758) (by decide +kernel)
theorem lk_L_104 : am_lk RL 104 yX12_yawns := Or.inl tw_1585
theorem tw_1589 : (Jvm.Cond.methodLink "MouthHouseModel" (350 : Nat) ({ cls := "java/lang/Math", name := "max", desc := "(II)I" } : Jvm.MethodName)) ∈ lw_tbl := List.mem_of_getElem? (l := lw_tbl) (i := 1762) (by decide +kernel)
theorem lk_X12_350 : Cond.methodLink RX12 350 Lib.Math.max.name ∈ lw_tbl := tw_1589
theorem tw_1590 : (Jvm.Cond.methodLink "MouthHouseLaw" (108 : Nat) ({ cls := "MouthHouseModel", name := "ill", desc := "()I" } : Jvm.MethodName)) ∈ lw_tbl := List.mem_of_getElem? (l := lw_tbl) (i := 1763) (by decide +kernel)
theorem lk_L_108 : am_lk RL 108 yX12_ill := Or.inl tw_1590
theorem tw_1595 : (Jvm.Cond.methodLink "MouthHouseModel" (359 : Nat) ({ cls := "MouthHouseModel", name := "illOf", desc := "()I" } : Jvm.MethodName)) ∈ lw_tbl := List.mem_of_getElem? (l := lw_tbl) (i := 1768) (by decide +kernel)
theorem lk_X12_359 : am_lk RX12 359 yX12_illOf := Or.inl tw_1595
theorem tw_1599 : (Jvm.Cond.methodLink "MouthHouseModel" (352 : Nat) ({ cls := "MouthHouseModel", name := "illBeside", desc := "(III)I" } : Jvm.MethodName)) ∈ lw_tbl := List.mem_of_getElem? (l := lw_tbl) (i := 1772) (by decide +kernel)
theorem lk_X12_352 : am_lk RX12 352 yX12_illBeside := Or.inl tw_1599
theorem tw_1603 : (Jvm.Cond.methodLink "MouthHouseModel" (355 : Nat) ({ cls := "MouthHouseModel", name := "worthOf", desc := "(I)I" } : Jvm.MethodName)) ∈ lw_tbl := List.mem_of_getElem? (l := lw_tbl) (i := 1776) (by decide +kernel)
theorem lk_X12_355 : am_lk RX12 355 yX12_worthOf := Or.inl tw_1603
theorem tw_1607 : (Jvm.Cond.methodLink "MouthHouseModel" (211 : Nat) ({ cls := "MouthHouseModel", name := "workOut", desc := "(III)I" } : Jvm.MethodName)) ∈ lw_tbl := List.mem_of_getElem? (l := lw_tbl) (i := 1780) (by decide +kernel)
theorem lk_X12_211 : am_lk RX12 211 yX12_workOut := Or.inl tw_1607
theorem tw_1611 : (Jvm.Cond.methodLink "MouthHouseModel" (207 : Nat) ({ cls := "MouthHouseModel", name := "worked", desc := "(IJJ)I" } : Jvm.MethodName)) ∈ lw_tbl := List.mem_of_getElem? (l := lw_tbl) (i := 1784) (by decide +kernel)
theorem lk_X12_207 : am_lk RX12 207 yX12_worked := Or.inl tw_1611
theorem tw_1614 : (Jvm.Cond.methodLink "MouthHouseModel" (203 : Nat) ({ cls := "MouthHouseModel", name := "bounded", desc := "(J)I" } : Jvm.MethodName)) ∈ lw_tbl := List.mem_of_getElem? (l := lw_tbl) (i := 1787) (by decide +kernel)
theorem lk_X12_203 : am_lk RX12 203 yX12_bounded := Or.inl tw_1614
theorem tw_1619 : (Jvm.Cond.methodLink "MouthHouseModel" (194 : Nat) ({ cls := "java/lang/Math", name := "min", desc := "(JJ)J" } : Jvm.MethodName)) ∈ lw_tbl := List.mem_of_getElem? (l := lw_tbl) (i := 1792) (by decide +kernel)
theorem lk_X12_194 : Cond.methodLink RX12 194 Lib.MathLoose.min_long.x ∈ lw_tbl := tw_1619
theorem tw_1622 : (Jvm.Cond.methodLink "MouthHouseModel" (200 : Nat) ({ cls := "java/lang/Math", name := "max", desc := "(JJ)J" } : Jvm.MethodName)) ∈ lw_tbl := List.mem_of_getElem? (l := lw_tbl) (i := 1795) (by decide +kernel)
theorem lk_X12_200 : Cond.methodLink RX12 200 Lib.MathLoose.max_long.x ∈ lw_tbl := tw_1622
theorem tw_1625 : (Jvm.Cond.methodLink "MouthHouseLaw" (112 : Nat) ({ cls := "MouthHouseModel", name := "best", desc := "(II)I" } : Jvm.MethodName)) ∈ lw_tbl := List.mem_of_getElem? (l := lw_tbl) (i := 1798) (by decide +kernel)
theorem lk_L_112 : am_lk RL 112 yX12_best := Or.inl tw_1625
theorem tw_1629 : (Jvm.Cond.methodLink "MouthHouseModel" (368 : Nat) ({ cls := "MouthHouseModel", name := "digits", desc := "()I" } : Jvm.MethodName)) ∈ lw_tbl := List.mem_of_getElem? (l := lw_tbl) (i := 1802) (by decide +kernel)
theorem lk_X12_368 : am_lk RX12 368 yX12_digits := Or.inl tw_1629
theorem tw_1633 : (Jvm.Cond.methodLink "MouthHouseModel" (371 : Nat) ({ cls := "MouthHouseModel", name := "laySeatings", desc := "()V" } : Jvm.MethodName)) ∈ lw_tbl := List.mem_of_getElem? (l := lw_tbl) (i := 1806) (by decide +kernel)
theorem lk_X12_371 : am_lk RX12 371 yX12_laySeatings := Or.inl tw_1633
theorem tw_1637 : (Jvm.Cond.methodLink "MouthHouseModel" (365 : Nat) ({ cls := "MouthHouseModel", name := "build", desc := "(II)V" } : Jvm.MethodName)) ∈ lw_tbl := List.mem_of_getElem? (l := lw_tbl) (i := 1810) (by decide +kernel)
theorem lk_X12_365 : am_lk RX12 365 yX12_build := Or.inl tw_1637
theorem tw_1641 : (Jvm.Cond.methodLink "MouthHouseModel" (374 : Nat) ({ cls := "MouthHouseModel", name := "wished", desc := "(I)I" } : Jvm.MethodName)) ∈ lw_tbl := List.mem_of_getElem? (l := lw_tbl) (i := 1814) (by decide +kernel)
theorem lk_X12_374 : am_lk RX12 374 yX12_wished := Or.inl tw_1641
theorem tw_1645 : (Jvm.Cond.methodLink "MouthHouseLaw" (116 : Nat) ({ cls := "MouthHouseModel", name := "changes", desc := "(I)I" } : Jvm.MethodName)) ∈ lw_tbl := List.mem_of_getElem? (l := lw_tbl) (i := 1818) (by decide +kernel)
theorem lk_L_116 : am_lk RL 116 yX12_changes := Or.inl tw_1645
theorem tw_1649 : (Jvm.Cond.methodLink "MouthHouseModel" (377 : Nat) ({ cls := "MouthHouseModel", name := "numberOf", desc := "(I)I" } : Jvm.MethodName)) ∈ lw_tbl := List.mem_of_getElem? (l := lw_tbl) (i := 1822) (by decide +kernel)
theorem lk_X12_377 : am_lk RX12 377 yX12_numberOf := Or.inl tw_1649
theorem tw_1653 : (Jvm.Cond.methodLink "MouthHouseModel" (380 : Nat) ({ cls := "MouthHouseModel", name := "isAllHeard", desc := "()Z" } : Jvm.MethodName)) ∈ lw_tbl := List.mem_of_getElem? (l := lw_tbl) (i := 1826) (by decide +kernel)
theorem lk_X12_380 : am_lk RX12 380 yX12_isAllHeard := Or.inl tw_1653
theorem tw_1657 : (Jvm.Cond.methodLink "MouthHouseModel" (384 : Nat) ({ cls := "MouthHouseModel", name := "reachOn", desc := "(I)Z" } : Jvm.MethodName)) ∈ lw_tbl := List.mem_of_getElem? (l := lw_tbl) (i := 1830) (by decide +kernel)
theorem lk_X12_384 : am_lk RX12 384 yX12_reachOn := Or.inl tw_1657
theorem tw_1661 : (Jvm.Cond.methodLink "MouthHouseLaw" (121 : Nat) ({ cls := "MouthHouseModel", name := "know", desc := "(IZ)I" } : Jvm.MethodName)) ∈ lw_tbl := List.mem_of_getElem? (l := lw_tbl) (i := 1834) (by decide +kernel)
theorem lk_L_121 : am_lk RL 121 yX12_know := Or.inl tw_1661
theorem tw_1665 : (Jvm.Cond.methodLink "MouthHouseLaw" (125 : Nat) ({ cls := "MouthHouseModel", name := "fits", desc := "(I)I" } : Jvm.MethodName)) ∈ lw_tbl := List.mem_of_getElem? (l := lw_tbl) (i := 1838) (by decide +kernel)
theorem lk_L_125 : am_lk RL 125 yX12_fits := Or.inl tw_1665
theorem tw_1669 : (Jvm.Cond.methodLink "MouthHouseModel" (387 : Nat) ({ cls := "MouthHouseModel", name := "laySpeaks", desc := "()V" } : Jvm.MethodName)) ∈ lw_tbl := List.mem_of_getElem? (l := lw_tbl) (i := 1842) (by decide +kernel)
theorem lk_X12_387 : am_lk RX12 387 yX12_laySpeaks := Or.inl tw_1669
theorem tw_1673 : (Jvm.Cond.methodLink "MouthHouseModel" (390 : Nat) ({ cls := "MouthHouseModel", name := "agrees", desc := "(I)Z" } : Jvm.MethodName)) ∈ lw_tbl := List.mem_of_getElem? (l := lw_tbl) (i := 1846) (by decide +kernel)
theorem lk_X12_390 : am_lk RX12 390 yX12_agrees := Or.inl tw_1673
theorem tw_1677 : (Jvm.Cond.methodLink "MouthHouseLaw" (130 : Nat) ({ cls := "MouthHouseModel", name := "sure", desc := "(Z)I" } : Jvm.MethodName)) ∈ lw_tbl := List.mem_of_getElem? (l := lw_tbl) (i := 1850) (by decide +kernel)
theorem lk_L_130 : am_lk RL 130 yX12_sure := Or.inl tw_1677
theorem tw_1681 : (Jvm.Cond.methodLink "MouthHouseLaw" (137 : Nat) ({ cls := "MouthHouseModel", name := "seed", desc := "(J)Z" } : Jvm.MethodName)) ∈ lw_tbl := List.mem_of_getElem? (l := lw_tbl) (i := 1854) (by decide +kernel)
theorem lk_L_137 : am_lk RL 137 yX12_seed := Or.inl tw_1681
theorem tw_1685 : (Jvm.Cond.methodLink "MouthHouseLaw" (141 : Nat) ({ cls := "MouthHouseModel", name := "sitting", desc := "()I" } : Jvm.MethodName)) ∈ lw_tbl := List.mem_of_getElem? (l := lw_tbl) (i := 1858) (by decide +kernel)
theorem lk_L_141 : am_lk RL 141 yX12_sitting := Or.inl tw_1685
theorem tw_1691 : (Jvm.Cond.methodLink "MouthHouseLaw" (145 : Nat) ({ cls := "MouthHouseModel", name := "sat", desc := "(II)I" } : Jvm.MethodName)) ∈ lw_tbl := List.mem_of_getElem? (l := lw_tbl) (i := 1864) (by decide +kernel)
theorem lk_L_145 : am_lk RL 145 yX12_sat := Or.inl tw_1691
theorem tw_1695 : (Jvm.Cond.methodLink "MouthHouseLaw" (149 : Nat) ({ cls := "MouthHouseModel", name := "undo", desc := "()I" } : Jvm.MethodName)) ∈ lw_tbl := List.mem_of_getElem? (l := lw_tbl) (i := 1868) (by decide +kernel)
theorem lk_L_149 : am_lk RL 149 yX12_undo := Or.inl tw_1695
theorem tw_1699 : (Jvm.Cond.methodLink "MouthHouseLaw" (153 : Nat) ({ cls := "MouthHouseModel", name := "image", desc := "()I" } : Jvm.MethodName)) ∈ lw_tbl := List.mem_of_getElem? (l := lw_tbl) (i := 1872) (by decide +kernel)
theorem lk_L_153 : am_lk RL 153 yX12_image := Or.inl tw_1699
theorem tw_1703 : (Jvm.Cond.methodLink "MouthHouseLaw" (157 : Nat) ({ cls := "MouthHouseModel", name := "back", desc := "()I" } : Jvm.MethodName)) ∈ lw_tbl := List.mem_of_getElem? (l := lw_tbl) (i := 1876) (by decide +kernel)
theorem lk_L_157 : am_lk RL 157 yX12_back := Or.inl tw_1703
theorem tw_1707 : (Jvm.Cond.methodLink "MouthHouseLaw" (161 : Nat) ({ cls := "MouthHouseModel", name := "count", desc := "(I)I" } : Jvm.MethodName)) ∈ lw_tbl := List.mem_of_getElem? (l := lw_tbl) (i := 1880) (by decide +kernel)
theorem lk_L_161 : am_lk RL 161 yX12_count := Or.inl tw_1707
theorem tw_1711 : (Jvm.Cond.methodLink "MouthHouseModel" (406 : Nat) ({ cls := "MouthHouseModel", name := "passedMany", desc := "()I" } : Jvm.MethodName)) ∈ lw_tbl := List.mem_of_getElem? (l := lw_tbl) (i := 1884) (by decide +kernel)
theorem lk_X12_406 : am_lk RX12 406 yX12_passedMany := Or.inl tw_1711
theorem tw_28 : (Jvm.Cond.instanceMethod ({ cls := "java/lang/Object", name := "<init>", desc := "()V" } : Jvm.MethodName)) ∈ lw_tbl := List.mem_of_getElem? (l := lw_tbl) (i := 201) (by decide +kernel)
theorem wd_oi : Cond.instanceMethod objectInit ∈ lw_tbl := tw_28
theorem tw_29 : (Jvm.Cond.code ({ cls := "java/lang/Object", name := "<init>", desc := "()V" } : Jvm.MethodName) object_method_1_code (1 : Nat) (Option.none : Option Jvm.ClassFile.FieldType)) ∈ lw_tbl := List.mem_of_getElem? (l := lw_tbl) (i := 202) (by decide +kernel)
theorem wd_oc : Cond.code objectInit ⟨#[0xb1]⟩ 1 none ∈ lw_tbl := tw_29
theorem tw_532 : (Jvm.Cond.native ({ cls := "java/lang/System", name := "arraycopy", desc := "(Ljava/lang/Object;ILjava/lang/Object;II)V" } : Jvm.MethodName)) ∈ lw_tbl := List.mem_of_getElem? (l := lw_tbl) (i := 705) (by decide +kernel)
theorem wd_an : Cond.native arraycopyName ∈ lw_tbl := tw_532
theorem tw_531 : (Jvm.Cond.static ({ cls := "java/lang/System", name := "arraycopy", desc := "(Ljava/lang/Object;ILjava/lang/Object;II)V" } : Jvm.MethodName)) ∈ lw_tbl := List.mem_of_getElem? (l := lw_tbl) (i := 704) (by decide +kernel)
theorem wd_as : Cond.static arraycopyName ∈ lw_tbl := tw_531
theorem tw_14 : (Jvm.Cond.initialized "java/lang/System") ∈ lw_tbl := List.mem_of_getElem? (l := lw_tbl) (i := 187) (by decide +kernel)
theorem wd_ai : Cond.initialized "java/lang/System" ∈ lw_tbl := tw_14
theorem tw_51 : (Jvm.Cond.arrayClass Jvm.ClassFile.FieldType.int) ∈ lw_tbl := List.mem_of_getElem? (l := lw_tbl) (i := 224) (by decide +kernel)
theorem wd_int : Cond.arrayClass .int ∈ lw_tbl := tw_51
theorem tw_178 : (Jvm.Cond.arrayClass Jvm.ClassFile.FieldType.long) ∈ lw_tbl := List.mem_of_getElem? (l := lw_tbl) (i := 351) (by decide +kernel)
theorem wd_long : Cond.arrayClass .long ∈ lw_tbl := tw_178
theorem tw_179 : (Jvm.Cond.arrayClass Jvm.ClassFile.FieldType.boolean) ∈ lw_tbl := List.mem_of_getElem? (l := lw_tbl) (i := 352) (by decide +kernel)
theorem wd_boolean : Cond.arrayClass .boolean ∈ lw_tbl := tw_179
theorem tw_0 : (Jvm.Cond.initialized "MouthHouseLaw") ∈ lw_tbl := List.mem_of_getElem? (l := lw_tbl) (i := 173) (by decide +kernel)
theorem in_L : Cond.initialized RL ∈ lw_tbl := tw_0
theorem tw_1 : (Jvm.Cond.initialized "MouthHouse") ∈ lw_tbl := List.mem_of_getElem? (l := lw_tbl) (i := 174) (by decide +kernel)
theorem in_X11 : Cond.initialized RX11 ∈ lw_tbl := tw_1
theorem tw_2 : (Jvm.Cond.initialized "MouthHouse$Tape") ∈ lw_tbl := List.mem_of_getElem? (l := lw_tbl) (i := 175) (by decide +kernel)
theorem in_X9 : Cond.initialized RX9 ∈ lw_tbl := tw_2
theorem tw_3 : (Jvm.Cond.initialized "MouthHouse$HouseReader") ∈ lw_tbl := List.mem_of_getElem? (l := lw_tbl) (i := 176) (by decide +kernel)
theorem in_X2 : Cond.initialized RX2 ∈ lw_tbl := tw_3
theorem tw_4 : (Jvm.Cond.initialized "MouthHouse$Members") ∈ lw_tbl := List.mem_of_getElem? (l := lw_tbl) (i := 177) (by decide +kernel)
theorem in_X5 : Cond.initialized RX5 ∈ lw_tbl := tw_4
theorem tw_5 : (Jvm.Cond.initialized "MouthHouse$MannersReader") ∈ lw_tbl := List.mem_of_getElem? (l := lw_tbl) (i := 178) (by decide +kernel)
theorem in_X4 : Cond.initialized RX4 ∈ lw_tbl := tw_5
theorem tw_6 : (Jvm.Cond.initialized "MouthHouse$Seating") ∈ lw_tbl := List.mem_of_getElem? (l := lw_tbl) (i := 179) (by decide +kernel)
theorem in_X6 : Cond.initialized RX6 ∈ lw_tbl := tw_6
theorem tw_7 : (Jvm.Cond.initialized "MouthHouse$Talk") ∈ lw_tbl := List.mem_of_getElem? (l := lw_tbl) (i := 180) (by decide +kernel)
theorem in_X8 : Cond.initialized RX8 ∈ lw_tbl := tw_7
theorem tw_8 : (Jvm.Cond.initialized "MouthHouse$Votes") ∈ lw_tbl := List.mem_of_getElem? (l := lw_tbl) (i := 181) (by decide +kernel)
theorem in_X10 : Cond.initialized RX10 ∈ lw_tbl := tw_8
theorem tw_9 : (Jvm.Cond.initialized "MouthHouse$Best") ∈ lw_tbl := List.mem_of_getElem? (l := lw_tbl) (i := 182) (by decide +kernel)
theorem in_X0 : Cond.initialized RX0 ∈ lw_tbl := tw_9
theorem tw_10 : (Jvm.Cond.initialized "MouthHouse$Manners") ∈ lw_tbl := List.mem_of_getElem? (l := lw_tbl) (i := 183) (by decide +kernel)
theorem in_X3 : Cond.initialized RX3 ∈ lw_tbl := tw_10
theorem tw_11 : (Jvm.Cond.initialized "MouthHouse$Changes") ∈ lw_tbl := List.mem_of_getElem? (l := lw_tbl) (i := 184) (by decide +kernel)
theorem in_X1 : Cond.initialized RX1 ∈ lw_tbl := tw_11
theorem tw_12 : (Jvm.Cond.initialized "MouthHouse$Sittings") ∈ lw_tbl := List.mem_of_getElem? (l := lw_tbl) (i := 185) (by decide +kernel)
theorem in_X7 : Cond.initialized RX7 ∈ lw_tbl := tw_12
theorem tw_13 : (Jvm.Cond.initialized "MouthHouseModel") ∈ lw_tbl := List.mem_of_getElem? (l := lw_tbl) (i := 186) (by decide +kernel)
theorem in_X12 : Cond.initialized RX12 ∈ lw_tbl := tw_13
theorem in_J10 : Cond.initialized RJ10 ∈ lw_tbl := tw_14
theorem tw_15 : (Jvm.Cond.initialized "java/lang/Math") ∈ lw_tbl := List.mem_of_getElem? (l := lw_tbl) (i := 188) (by decide +kernel)
theorem in_J9 : Cond.initialized RJ9 ∈ lw_tbl := tw_15
theorem tw_20 : (Jvm.Cond.initialized "java/lang/Integer") ∈ lw_tbl := List.mem_of_getElem? (l := lw_tbl) (i := 193) (by decide +kernel)
theorem in_J6 : Cond.initialized RJ6 ∈ lw_tbl := tw_20
theorem tw_21 : (Jvm.Cond.initialized "java/util/Arrays") ∈ lw_tbl := List.mem_of_getElem? (l := lw_tbl) (i := 194) (by decide +kernel)
theorem in_J7 : Cond.initialized RJ7 ∈ lw_tbl := tw_21
theorem tw_22 : (Jvm.Cond.classLink "MouthHouseLaw" (8 : Nat) "MouthHouse") ∈ lw_tbl := List.mem_of_getElem? (l := lw_tbl) (i := 195) (by decide +kernel)
theorem cl_L_8 : Cond.classLink RL 8 RX11 ∈ lw_tbl := tw_22
theorem tw_23 : (Jvm.Cond.instantiable "MouthHouse" (17 : Nat)) ∈ lw_tbl := List.mem_of_getElem? (l := lw_tbl) (i := 196) (by decide +kernel)
theorem it_X11 : Cond.instantiable RX11 (am_nf 11) ∈ lw_tbl := tw_23
theorem tw_30 : (Jvm.Cond.classLink "MouthHouse" (7 : Nat) "MouthHouse$Tape") ∈ lw_tbl := List.mem_of_getElem? (l := lw_tbl) (i := 203) (by decide +kernel)
theorem cl_X11_7 : Cond.classLink RX11 7 RX9 ∈ lw_tbl := tw_30
theorem tw_31 : (Jvm.Cond.instantiable "MouthHouse$Tape" (3 : Nat)) ∈ lw_tbl := List.mem_of_getElem? (l := lw_tbl) (i := 204) (by decide +kernel)
theorem it_X9 : Cond.instantiable RX9 (am_nf 9) ∈ lw_tbl := tw_31
theorem tw_52 : (Jvm.Cond.classLink "MouthHouse" (16 : Nat) "MouthHouse$HouseReader") ∈ lw_tbl := List.mem_of_getElem? (l := lw_tbl) (i := 225) (by decide +kernel)
theorem cl_X11_16 : Cond.classLink RX11 16 RX2 ∈ lw_tbl := tw_52
theorem tw_53 : (Jvm.Cond.instantiable "MouthHouse$HouseReader" (2 : Nat)) ∈ lw_tbl := List.mem_of_getElem? (l := lw_tbl) (i := 226) (by decide +kernel)
theorem it_X2 : Cond.instantiable RX2 (am_nf 2) ∈ lw_tbl := tw_53
theorem tw_58 : (Jvm.Cond.classLink "MouthHouse$HouseReader" (15 : Nat) "MouthHouse$Members") ∈ lw_tbl := List.mem_of_getElem? (l := lw_tbl) (i := 231) (by decide +kernel)
theorem cl_X2_15 : Cond.classLink RX2 15 RX5 ∈ lw_tbl := tw_58
theorem tw_59 : (Jvm.Cond.instantiable "MouthHouse$Members" (3 : Nat)) ∈ lw_tbl := List.mem_of_getElem? (l := lw_tbl) (i := 232) (by decide +kernel)
theorem it_X5 : Cond.instantiable RX5 (am_nf 5) ∈ lw_tbl := tw_59
