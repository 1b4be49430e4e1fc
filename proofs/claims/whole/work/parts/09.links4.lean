theorem tw_1039 : (Jvm.Cond.methodLink "MouthHouse$Sittings" (34 : Nat) ({ cls := "MouthHouse$Sittings", name := "isFull", desc := "()Z" } : Jvm.MethodName)) ∈ lw_tbl := List.mem_of_getElem? (l := lw_tbl) (i := 1212) (by decide +kernel)
theorem lk_X7_34 : am_lk RX7 34 yX7_isFull := Or.inl tw_1039
theorem tw_1040 : (Jvm.Cond.methodLink "MouthHouseLaw" (142 : Nat) ({ cls := "MouthHouse", name := "sat", desc := "(II)I" } : Jvm.MethodName)) ∈ lw_tbl := List.mem_of_getElem? (l := lw_tbl) (i := 1213) (by decide +kernel)
theorem lk_L_142 : am_lk RL 142 yX11_sat := Or.inl tw_1040
theorem tw_1044 : (Jvm.Cond.methodLinkNest "MouthHouse" (310 : Nat) ({ cls := "MouthHouse$Sittings", name := "yesOf", desc := "(I)I" } : Jvm.MethodName) "MouthHouse") ∈ lw_tbl := List.mem_of_getElem? (l := lw_tbl) (i := 1217) (by decide +kernel)
theorem lk_X11_310 : am_lk RX11 310 yX7_yesOf := Or.inr ⟨_, tw_1044⟩
theorem tw_1048 : (Jvm.Cond.methodLinkNest "MouthHouse" (313 : Nat) ({ cls := "MouthHouse$Sittings", name := "passedOf", desc := "(I)I" } : Jvm.MethodName) "MouthHouse") ∈ lw_tbl := List.mem_of_getElem? (l := lw_tbl) (i := 1221) (by decide +kernel)
theorem lk_X11_313 : am_lk RX11 313 yX7_passedOf := Or.inr ⟨_, tw_1048⟩
theorem tw_1052 : (Jvm.Cond.methodLink "MouthHouseLaw" (146 : Nat) ({ cls := "MouthHouse", name := "undo", desc := "()I" } : Jvm.MethodName)) ∈ lw_tbl := List.mem_of_getElem? (l := lw_tbl) (i := 1225) (by decide +kernel)
theorem lk_L_146 : am_lk RL 146 yX11_undo := Or.inl tw_1052
theorem tw_1056 : (Jvm.Cond.methodLinkNest "MouthHouse" (316 : Nat) ({ cls := "MouthHouse$Sittings", name := "takeBack", desc := "()I" } : Jvm.MethodName) "MouthHouse") ∈ lw_tbl := List.mem_of_getElem? (l := lw_tbl) (i := 1229) (by decide +kernel)
theorem lk_X11_316 : am_lk RX11 316 yX7_takeBack := Or.inr ⟨_, tw_1056⟩
theorem tw_1060 : (Jvm.Cond.methodLink "MouthHouseLaw" (150 : Nat) ({ cls := "MouthHouse", name := "image", desc := "()I" } : Jvm.MethodName)) ∈ lw_tbl := List.mem_of_getElem? (l := lw_tbl) (i := 1233) (by decide +kernel)
theorem lk_L_150 : am_lk RL 150 yX11_image := Or.inl tw_1060
theorem tw_1064 : (Jvm.Cond.methodLinkNest "MouthHouse" (319 : Nat) ({ cls := "MouthHouse$Seating", name := "copyFrom", desc := "(LMouthHouse$Seating;)V" } : Jvm.MethodName) "MouthHouse") ∈ lw_tbl := List.mem_of_getElem? (l := lw_tbl) (i := 1237) (by decide +kernel)
theorem lk_X11_319 : am_lk RX11 319 yX6_copyFrom := Or.inr ⟨_, tw_1064⟩
theorem tw_1065 : (Jvm.Cond.methodLinkNest "MouthHouse" (322 : Nat) ({ cls := "MouthHouse$Sittings", name := "copyFrom", desc := "(LMouthHouse$Sittings;)V" } : Jvm.MethodName) "MouthHouse") ∈ lw_tbl := List.mem_of_getElem? (l := lw_tbl) (i := 1238) (by decide +kernel)
theorem lk_X11_322 : am_lk RX11 322 yX7_copyFrom := Or.inr ⟨_, tw_1065⟩
theorem tw_1069 : (Jvm.Cond.methodLink "MouthHouse$Sittings" (38 : Nat) ({ cls := "java/lang/System", name := "arraycopy", desc := "(Ljava/lang/Object;ILjava/lang/Object;II)V" } : Jvm.MethodName)) ∈ lw_tbl := List.mem_of_getElem? (l := lw_tbl) (i := 1242) (by decide +kernel)
theorem lc_X7_38 : Cond.methodLink RX7 38 arraycopyName ∈ lw_tbl := tw_1069
theorem tw_1070 : (Jvm.Cond.methodLink "MouthHouseLaw" (154 : Nat) ({ cls := "MouthHouse", name := "back", desc := "()I" } : Jvm.MethodName)) ∈ lw_tbl := List.mem_of_getElem? (l := lw_tbl) (i := 1243) (by decide +kernel)
theorem lk_L_154 : am_lk RL 154 yX11_back := Or.inl tw_1070
theorem tw_1074 : (Jvm.Cond.methodLink "MouthHouseLaw" (158 : Nat) ({ cls := "MouthHouse", name := "count", desc := "(I)I" } : Jvm.MethodName)) ∈ lw_tbl := List.mem_of_getElem? (l := lw_tbl) (i := 1247) (by decide +kernel)
theorem lk_L_158 : am_lk RL 158 yX11_count := Or.inl tw_1074
theorem tw_1078 : (Jvm.Cond.methodLinkNest "MouthHouse" (328 : Nat) ({ cls := "MouthHouse$Seating", name := "digits", desc := "()I" } : Jvm.MethodName) "MouthHouse") ∈ lw_tbl := List.mem_of_getElem? (l := lw_tbl) (i := 1251) (by decide +kernel)
theorem lk_X11_328 : am_lk RX11 328 yX6_digits := Or.inr ⟨_, tw_1078⟩
theorem tw_1079 : (Jvm.Cond.methodLinkNest "MouthHouse" (334 : Nat) ({ cls := "MouthHouse$Sittings", name := "passedOnes", desc := "()I" } : Jvm.MethodName) "MouthHouse") ∈ lw_tbl := List.mem_of_getElem? (l := lw_tbl) (i := 1252) (by decide +kernel)
theorem lk_X11_334 : am_lk RX11 334 yX7_passedOnes := Or.inr ⟨_, tw_1079⟩
theorem tw_1083 : (Jvm.Cond.methodLink "MouthHouseLaw" (38 : Nat) ({ cls := "MouthHouseLaw", name := "member", desc := "(LMouthHouse;II[J)I" } : Jvm.MethodName)) ∈ lw_tbl := List.mem_of_getElem? (l := lw_tbl) (i := 1256) (by decide +kernel)
theorem lk_L_38 : am_lk RL 38 yL_member := Or.inl tw_1083
theorem tw_1087 : (Jvm.Cond.methodLink "MouthHouseLaw" (7 : Nat) ({ cls := "MouthHouse", name := "member", desc := "(II)I" } : Jvm.MethodName)) ∈ lw_tbl := List.mem_of_getElem? (l := lw_tbl) (i := 1260) (by decide +kernel)
theorem lk_L_7 : am_lk RL 7 yX11_member := Or.inl tw_1087
theorem tw_1152 : (Jvm.Cond.methodLinkNest "MouthHouse" (171 : Nat) ({ cls := "MouthHouse$Seating", name := "seatOf", desc := "(I)I" } : Jvm.MethodName) "MouthHouse") ∈ lw_tbl := List.mem_of_getElem? (l := lw_tbl) (i := 1325) (by decide +kernel)
theorem lk_X11_171 : am_lk RX11 171 yX6_seatOf := Or.inr ⟨_, tw_1152⟩
theorem tw_1155 : (Jvm.Cond.methodLink "MouthHouseLaw" (18 : Nat) ({ cls := "MouthHouseModel", name := "<init>", desc := "()V" } : Jvm.MethodName)) ∈ lw_tbl := List.mem_of_getElem? (l := lw_tbl) (i := 1328) (by decide +kernel)
theorem lk_L_18 : am_lk RL 18 yX12_init := Or.inl tw_1155
theorem tw_1158 : (Jvm.Cond.methodLink "MouthHouseModel" (3 : Nat) ({ cls := "java/lang/Object", name := "<init>", desc := "()V" } : Jvm.MethodName)) ∈ lw_tbl := List.mem_of_getElem? (l := lw_tbl) (i := 1331) (by decide +kernel)
theorem lo_X12_3 : Cond.methodLink RX12 3 objectInit ∈ lw_tbl := tw_1158
theorem tw_1313 : (Jvm.Cond.methodLink "MouthHouseLaw" (44 : Nat) ({ cls := "MouthHouseModel", name := "thrown", desc := "()I" } : Jvm.MethodName)) ∈ lw_tbl := List.mem_of_getElem? (l := lw_tbl) (i := 1486) (by decide +kernel)
theorem lk_L_44 : am_lk RL 44 yX12_thrown := Or.inl tw_1313
theorem tw_1317 : (Jvm.Cond.methodLink "MouthHouseLaw" (23 : Nat) ({ cls := "MouthHouseModel", name := "feed", desc := "(IIIII)I" } : Jvm.MethodName)) ∈ lw_tbl := List.mem_of_getElem? (l := lw_tbl) (i := 1490) (by decide +kernel)
theorem lk_L_23 : am_lk RL 23 yX12_feed := Or.inl tw_1317
theorem tw_1321 : (Jvm.Cond.methodLink "MouthHouseModel" (103 : Nat) ({ cls := "MouthHouseModel", name := "byteOf", desc := "(IIIIII)I" } : Jvm.MethodName)) ∈ lw_tbl := List.mem_of_getElem? (l := lw_tbl) (i := 1494) (by decide +kernel)
theorem lk_X12_103 : am_lk RX12 103 yX12_byteOf := Or.inl tw_1321
theorem tw_1324 : (Jvm.Cond.methodLink "MouthHouseLaw" (28 : Nat) ({ cls := "MouthHouseModel", name := "end", desc := "(I)Z" } : Jvm.MethodName)) ∈ lw_tbl := List.mem_of_getElem? (l := lw_tbl) (i := 1497) (by decide +kernel)
theorem lk_L_28 : am_lk RL 28 yX12_end := Or.inl tw_1324
theorem tw_1328 : (Jvm.Cond.methodLink "MouthHouseLaw" (33 : Nat) ({ cls := "MouthHouseModel", name := "fault", desc := "(I)I" } : Jvm.MethodName)) ∈ lw_tbl := List.mem_of_getElem? (l := lw_tbl) (i := 1501) (by decide +kernel)
theorem lk_L_33 : am_lk RL 33 yX12_fault := Or.inl tw_1328
theorem tw_1332 : (Jvm.Cond.methodLink "MouthHouseModel" (246 : Nat) ({ cls := "MouthHouseModel", name := "readHouse", desc := "()I" } : Jvm.MethodName)) ∈ lw_tbl := List.mem_of_getElem? (l := lw_tbl) (i := 1505) (by decide +kernel)
theorem lk_X12_246 : am_lk RX12 246 yX12_readHouse := Or.inl tw_1332
theorem tw_1336 : (Jvm.Cond.methodLink "MouthHouseModel" (129 : Nat) ({ cls := "MouthHouseModel", name := "look", desc := "()I" } : Jvm.MethodName)) ∈ lw_tbl := List.mem_of_getElem? (l := lw_tbl) (i := 1509) (by decide +kernel)
theorem lk_X12_129 : am_lk RX12 129 yX12_look := Or.inl tw_1336
theorem tw_1340 : (Jvm.Cond.methodLink "MouthHouseModel" (113 : Nat) ({ cls := "MouthHouseModel", name := "here", desc := "()I" } : Jvm.MethodName)) ∈ lw_tbl := List.mem_of_getElem? (l := lw_tbl) (i := 1513) (by decide +kernel)
theorem lk_X12_113 : am_lk RX12 113 yX12_here := Or.inl tw_1340
theorem tw_1344 : (Jvm.Cond.methodLink "MouthHouseModel" (243 : Nat) ({ cls := "MouthHouseModel", name := "memberText", desc := "()V" } : Jvm.MethodName)) ∈ lw_tbl := List.mem_of_getElem? (l := lw_tbl) (i := 1517) (by decide +kernel)
theorem lk_X12_243 : am_lk RX12 243 yX12_memberText := Or.inl tw_1344
theorem tw_1348 : (Jvm.Cond.methodLink "MouthHouseModel" (222 : Nat) ({ cls := "MouthHouseModel", name := "usual", desc := "(I)I" } : Jvm.MethodName)) ∈ lw_tbl := List.mem_of_getElem? (l := lw_tbl) (i := 1521) (by decide +kernel)
theorem lk_X12_222 : am_lk RX12 222 yX12_usual := Or.inl tw_1348
theorem tw_1351 : (Jvm.Cond.methodLink "MouthHouseModel" (225 : Nat) ({ cls := "MouthHouseModel", name := "itemOf", desc := "(I)I" } : Jvm.MethodName)) ∈ lw_tbl := List.mem_of_getElem? (l := lw_tbl) (i := 1524) (by decide +kernel)
theorem lk_X12_225 : am_lk RX12 225 yX12_itemOf := Or.inl tw_1351
theorem tw_1354 : (Jvm.Cond.methodLink "MouthHouseModel" (228 : Nat) ({ cls := "MouthHouseModel", name := "has", desc := "(II)Z" } : Jvm.MethodName)) ∈ lw_tbl := List.mem_of_getElem? (l := lw_tbl) (i := 1527) (by decide +kernel)
theorem lk_X12_228 : am_lk RX12 228 yX12_has := Or.inl tw_1354
theorem tw_1357 : (Jvm.Cond.methodLink "MouthHouseModel" (232 : Nat) ({ cls := "MouthHouseModel", name := "highest", desc := "(I)I" } : Jvm.MethodName)) ∈ lw_tbl := List.mem_of_getElem? (l := lw_tbl) (i := 1530) (by decide +kernel)
theorem lk_X12_232 : am_lk RX12 232 yX12_highest := Or.inl tw_1357
theorem tw_1360 : (Jvm.Cond.methodLink "MouthHouseModel" (235 : Nat) ({ cls := "MouthHouseModel", name := "number", desc := "(II)I" } : Jvm.MethodName)) ∈ lw_tbl := List.mem_of_getElem? (l := lw_tbl) (i := 1533) (by decide +kernel)
theorem lk_X12_235 : am_lk RX12 235 yX12_number := Or.inl tw_1360
theorem tw_1364 : (Jvm.Cond.methodLink "MouthHouseModel" (132 : Nat) ({ cls := "MouthHouseModel", name := "isDigit", desc := "(I)Z" } : Jvm.MethodName)) ∈ lw_tbl := List.mem_of_getElem? (l := lw_tbl) (i := 1537) (by decide +kernel)
theorem lk_X12_132 : am_lk RX12 132 yX12_isDigit := Or.inl tw_1364
theorem tw_1367 : (Jvm.Cond.methodLink "MouthHouseModel" (126 : Nat) ({ cls := "MouthHouseModel", name := "bad", desc := "()V" } : Jvm.MethodName)) ∈ lw_tbl := List.mem_of_getElem? (l := lw_tbl) (i := 1540) (by decide +kernel)
theorem lk_X12_126 : am_lk RX12 126 yX12_bad := Or.inl tw_1367
theorem tw_1371 : (Jvm.Cond.methodLink "MouthHouseModel" (215 : Nat) ({ cls := "MouthHouseModel", name := "in", desc := "(III)Z" } : Jvm.MethodName)) ∈ lw_tbl := List.mem_of_getElem? (l := lw_tbl) (i := 1544) (by decide +kernel)
theorem lk_X12_215 : am_lk RX12 215 yX12_in := Or.inl tw_1371
theorem tw_1374 : (Jvm.Cond.methodLink "MouthHouseModel" (249 : Nat) ({ cls := "MouthHouseModel", name := "readLaw", desc := "(I)I" } : Jvm.MethodName)) ∈ lw_tbl := List.mem_of_getElem? (l := lw_tbl) (i := 1547) (by decide +kernel)
theorem lk_X12_249 : am_lk RX12 249 yX12_readLaw := Or.inl tw_1374
theorem tw_1378 : (Jvm.Cond.methodLink "MouthHouseModel" (181 : Nat) ({ cls := "MouthHouseModel", name := "open", desc := "(I)V" } : Jvm.MethodName)) ∈ lw_tbl := List.mem_of_getElem? (l := lw_tbl) (i := 1551) (by decide +kernel)
theorem lk_X12_181 : am_lk RX12 181 yX12_open := Or.inl tw_1378
theorem tw_1382 : (Jvm.Cond.methodLink "MouthHouseModel" (184 : Nat) ({ cls := "MouthHouseModel", name := "clause", desc := "()V" } : Jvm.MethodName)) ∈ lw_tbl := List.mem_of_getElem? (l := lw_tbl) (i := 1555) (by decide +kernel)
theorem lk_X12_184 : am_lk RX12 184 yX12_clause := Or.inl tw_1382
theorem tw_1386 : (Jvm.Cond.methodLink "MouthHouseModel" (169 : Nat) ({ cls := "MouthHouseModel", name := "condition", desc := "()V" } : Jvm.MethodName)) ∈ lw_tbl := List.mem_of_getElem? (l := lw_tbl) (i := 1559) (by decide +kernel)
theorem lk_X12_169 : am_lk RX12 169 yX12_condition := Or.inl tw_1386
theorem tw_1390 : (Jvm.Cond.methodLink "MouthHouseModel" (166 : Nat) ({ cls := "MouthHouseModel", name := "unit", desc := "()V" } : Jvm.MethodName)) ∈ lw_tbl := List.mem_of_getElem? (l := lw_tbl) (i := 1563) (by decide +kernel)
theorem lk_X12_166 : am_lk RX12 166 yX12_unit := Or.inl tw_1390
theorem tw_1394 : (Jvm.Cond.methodLink "MouthHouseModel" (147 : Nat) ({ cls := "MouthHouseModel", name := "opens", desc := "()V" } : Jvm.MethodName)) ∈ lw_tbl := List.mem_of_getElem? (l := lw_tbl) (i := 1567) (by decide +kernel)
theorem lk_X12_147 : am_lk RX12 147 yX12_opens := Or.inl tw_1394
theorem tw_1398 : (Jvm.Cond.methodLink "MouthHouseModel" (139 : Nat) ({ cls := "MouthHouseModel", name := "put", desc := "(II)V" } : Jvm.MethodName)) ∈ lw_tbl := List.mem_of_getElem? (l := lw_tbl) (i := 1571) (by decide +kernel)
theorem lk_X12_139 : am_lk RX12 139 yX12_put := Or.inl tw_1398
theorem tw_1402 : (Jvm.Cond.methodLink "MouthHouseModel" (153 : Nat) ({ cls := "MouthHouseModel", name := "closes", desc := "(I)V" } : Jvm.MethodName)) ∈ lw_tbl := List.mem_of_getElem? (l := lw_tbl) (i := 1575) (by decide +kernel)
theorem lk_X12_153 : am_lk RX12 153 yX12_closes := Or.inl tw_1402
theorem tw_1406 : (Jvm.Cond.methodLink "MouthHouseModel" (150 : Nat) ({ cls := "MouthHouseModel", name := "sum", desc := "()V" } : Jvm.MethodName)) ∈ lw_tbl := List.mem_of_getElem? (l := lw_tbl) (i := 1579) (by decide +kernel)
theorem lk_X12_150 : am_lk RX12 150 yX12_sum := Or.inl tw_1406
theorem tw_1410 : (Jvm.Cond.methodLink "MouthHouseModel" (160 : Nat) ({ cls := "MouthHouseModel", name := "term", desc := "()V" } : Jvm.MethodName)) ∈ lw_tbl := List.mem_of_getElem? (l := lw_tbl) (i := 1583) (by decide +kernel)
theorem lk_X12_160 : am_lk RX12 160 yX12_term := Or.inl tw_1410
theorem tw_1414 : (Jvm.Cond.methodLink "MouthHouseModel" (157 : Nat) ({ cls := "MouthHouseModel", name := "atom", desc := "()V" } : Jvm.MethodName)) ∈ lw_tbl := List.mem_of_getElem? (l := lw_tbl) (i := 1587) (by decide +kernel)
theorem lk_X12_157 : am_lk RX12 157 yX12_atom := Or.inl tw_1414
theorem tw_1418 : (Jvm.Cond.methodLink "MouthHouseModel" (136 : Nat) ({ cls := "MouthHouseModel", name := "plainNumber", desc := "()I" } : Jvm.MethodName)) ∈ lw_tbl := List.mem_of_getElem? (l := lw_tbl) (i := 1591) (by decide +kernel)
theorem lk_X12_136 : am_lk RX12 136 yX12_plainNumber := Or.inl tw_1418
theorem tw_1422 : (Jvm.Cond.methodLink "MouthHouseModel" (143 : Nat) ({ cls := "MouthHouseModel", name := "letterOf", desc := "(I)I" } : Jvm.MethodName)) ∈ lw_tbl := List.mem_of_getElem? (l := lw_tbl) (i := 1595) (by decide +kernel)
theorem lk_X12_143 : am_lk RX12 143 yX12_letterOf := Or.inl tw_1422
theorem tw_1425 : (Jvm.Cond.methodLink "MouthHouseModel" (172 : Nat) ({ cls := "MouthHouseModel", name := "compare", desc := "()V" } : Jvm.MethodName)) ∈ lw_tbl := List.mem_of_getElem? (l := lw_tbl) (i := 1598) (by decide +kernel)
theorem lk_X12_172 : am_lk RX12 172 yX12_compare := Or.inl tw_1425
theorem tw_1429 : (Jvm.Cond.methodLink "MouthHouseModel" (163 : Nat) ({ cls := "MouthHouseModel", name := "isSign", desc := "(I)Z" } : Jvm.MethodName)) ∈ lw_tbl := List.mem_of_getElem? (l := lw_tbl) (i := 1602) (by decide +kernel)
theorem lk_X12_163 : am_lk RX12 163 yX12_isSign := Or.inl tw_1429
theorem tw_1432 : (Jvm.Cond.methodLink "MouthHouseModel" (175 : Nat) ({ cls := "MouthHouseModel", name := "goOnAnd", desc := "()V" } : Jvm.MethodName)) ∈ lw_tbl := List.mem_of_getElem? (l := lw_tbl) (i := 1605) (by decide +kernel)
theorem lk_X12_175 : am_lk RX12 175 yX12_goOnAnd := Or.inl tw_1432
theorem tw_1436 : (Jvm.Cond.methodLink "MouthHouseModel" (178 : Nat) ({ cls := "MouthHouseModel", name := "goOnOr", desc := "()V" } : Jvm.MethodName)) ∈ lw_tbl := List.mem_of_getElem? (l := lw_tbl) (i := 1609) (by decide +kernel)
theorem lk_X12_178 : am_lk RX12 178 yX12_goOnOr := Or.inl tw_1436
theorem tw_1440 : (Jvm.Cond.methodLink "MouthHouseModel" (187 : Nat) ({ cls := "MouthHouseModel", name := "atEnd", desc := "()I" } : Jvm.MethodName)) ∈ lw_tbl := List.mem_of_getElem? (l := lw_tbl) (i := 1613) (by decide +kernel)
theorem lk_X12_187 : am_lk RX12 187 yX12_atEnd := Or.inl tw_1440
theorem tw_1444 : (Jvm.Cond.methodLink "MouthHouseLaw" (37 : Nat) ({ cls := "MouthHouseModel", name := "text", desc := "(I)I" } : Jvm.MethodName)) ∈ lw_tbl := List.mem_of_getElem? (l := lw_tbl) (i := 1617) (by decide +kernel)
theorem lk_L_37 : am_lk RL 37 yX12_text := Or.inl tw_1444
theorem tw_1448 : (Jvm.Cond.methodLink "MouthHouseModel" (270 : Nat) ({ cls := "MouthHouseModel", name := "takeHouse", desc := "()I" } : Jvm.MethodName)) ∈ lw_tbl := List.mem_of_getElem? (l := lw_tbl) (i := 1621) (by decide +kernel)
theorem lk_X12_270 : am_lk RX12 270 yX12_takeHouse := Or.inl tw_1448
theorem tw_1452 : (Jvm.Cond.methodLink "MouthHouseModel" (258 : Nat) ({ cls := "MouthHouseModel", name := "of", desc := "(II)I" } : Jvm.MethodName)) ∈ lw_tbl := List.mem_of_getElem? (l := lw_tbl) (i := 1625) (by decide +kernel)
theorem lk_X12_258 : am_lk RX12 258 yX12_of := Or.inl tw_1452
theorem tw_1456 : (Jvm.Cond.methodLink "MouthHouseLaw" (43 : Nat) ({ cls := "MouthHouseModel", name := "member", desc := "(II)I" } : Jvm.MethodName)) ∈ lw_tbl := List.mem_of_getElem? (l := lw_tbl) (i := 1629) (by decide +kernel)
theorem lk_L_43 : am_lk RL 43 yX12_member := Or.inl tw_1456
theorem tw_1460 : (Jvm.Cond.methodLink "MouthHouseModel" (288 : Nat) ({ cls := "MouthHouseModel", name := "isMember", desc := "(I)Z" } : Jvm.MethodName)) ∈ lw_tbl := List.mem_of_getElem? (l := lw_tbl) (i := 1633) (by decide +kernel)
theorem lk_X12_288 : am_lk RX12 288 yX12_isMember := Or.inl tw_1460
theorem tw_1464 : (Jvm.Cond.methodLink "MouthHouseModel" (276 : Nat) ({ cls := "MouthHouseModel", name := "seatOf", desc := "(I)I" } : Jvm.MethodName)) ∈ lw_tbl := List.mem_of_getElem? (l := lw_tbl) (i := 1637) (by decide +kernel)
theorem lk_X12_276 : am_lk RX12 276 yX12_seatOf := Or.inl tw_1464
theorem tw_1468 : (Jvm.Cond.methodLink "MouthHouseModel" (282 : Nat) ({ cls := "MouthHouseModel", name := "mouthOf", desc := "(I)I" } : Jvm.MethodName)) ∈ lw_tbl := List.mem_of_getElem? (l := lw_tbl) (i := 1641) (by decide +kernel)
theorem lk_X12_282 : am_lk RX12 282 yX12_mouthOf := Or.inl tw_1468
theorem tw_1472 : (Jvm.Cond.methodLink "MouthHouseModel" (279 : Nat) ({ cls := "MouthHouseModel", name := "leftOf", desc := "(I)I" } : Jvm.MethodName)) ∈ lw_tbl := List.mem_of_getElem? (l := lw_tbl) (i := 1645) (by decide +kernel)
theorem lk_X12_279 : am_lk RX12 279 yX12_leftOf := Or.inl tw_1472
theorem tw_1476 : (Jvm.Cond.methodLink "MouthHouseModel" (291 : Nat) ({ cls := "MouthHouseModel", name := "isHeard", desc := "(I)Z" } : Jvm.MethodName)) ∈ lw_tbl := List.mem_of_getElem? (l := lw_tbl) (i := 1649) (by decide +kernel)
theorem lk_X12_291 : am_lk RX12 291 yX12_isHeard := Or.inl tw_1476
theorem tw_1480 : (Jvm.Cond.methodLink "MouthHouseModel" (285 : Nat) ({ cls := "MouthHouseModel", name := "isSwallowed", desc := "(II)Z" } : Jvm.MethodName)) ∈ lw_tbl := List.mem_of_getElem? (l := lw_tbl) (i := 1653) (by decide +kernel)
theorem lk_X12_285 : am_lk RX12 285 yX12_isSwallowed := Or.inl tw_1480
theorem tw_1484 : (Jvm.Cond.methodLink "MouthHouseLaw" (51 : Nat) ({ cls := "MouthHouseModel", name := "seat", desc := "(I)I" } : Jvm.MethodName)) ∈ lw_tbl := List.mem_of_getElem? (l := lw_tbl) (i := 1657) (by decide +kernel)
theorem lk_L_51 : am_lk RL 51 yX12_seat := Or.inl tw_1484
theorem tw_1488 : (Jvm.Cond.methodLink "MouthHouseLaw" (55 : Nat) ({ cls := "MouthHouseModel", name := "manners", desc := "(I)Z" } : Jvm.MethodName)) ∈ lw_tbl := List.mem_of_getElem? (l := lw_tbl) (i := 1661) (by decide +kernel)
theorem lk_L_55 : am_lk RL 55 yX12_manners := Or.inl tw_1488
theorem tw_1492 : (Jvm.Cond.methodLink "MouthHouseLaw" (60 : Nat) ({ cls := "MouthHouseModel", name := "set", desc := "(III)Z" } : Jvm.MethodName)) ∈ lw_tbl := List.mem_of_getElem? (l := lw_tbl) (i := 1665) (by decide +kernel)
theorem lk_L_60 : am_lk RL 60 yX12_set := Or.inl tw_1492
theorem tw_1496 : (Jvm.Cond.methodLink "MouthHouseLaw" (65 : Nat) ({ cls := "MouthHouseModel", name := "change", desc := "(II)Z" } : Jvm.MethodName)) ∈ lw_tbl := List.mem_of_getElem? (l := lw_tbl) (i := 1669) (by decide +kernel)
theorem lk_L_65 : am_lk RL 65 yX12_change := Or.inl tw_1496
theorem tw_1500 : (Jvm.Cond.methodLink "MouthHouseModel" (294 : Nat) ({ cls := "MouthHouseModel", name := "swap", desc := "(II)V" } : Jvm.MethodName)) ∈ lw_tbl := List.mem_of_getElem? (l := lw_tbl) (i := 1673) (by decide +kernel)
theorem lk_X12_294 : am_lk RX12 294 yX12_swap := Or.inl tw_1500
theorem tw_1504 : (Jvm.Cond.methodLink "MouthHouseLaw" (69 : Nat) ({ cls := "MouthHouseModel", name := "sit", desc := "(I)Z" } : Jvm.MethodName)) ∈ lw_tbl := List.mem_of_getElem? (l := lw_tbl) (i := 1677) (by decide +kernel)
theorem lk_L_69 : am_lk RL 69 yX12_sit := Or.inl tw_1504
theorem tw_1508 : (Jvm.Cond.methodLink "MouthHouseModel" (297 : Nat) ({ cls := "MouthHouseModel", name := "ten", desc := "(I)I" } : Jvm.MethodName)) ∈ lw_tbl := List.mem_of_getElem? (l := lw_tbl) (i := 1681) (by decide +kernel)
theorem lk_X12_297 : am_lk RX12 297 yX12_ten := Or.inl tw_1508
theorem tw_1511 : (Jvm.Cond.methodLink "MouthHouseModel" (300 : Nat) ({ cls := "MouthHouseModel", name := "write", desc := "(I)V" } : Jvm.MethodName)) ∈ lw_tbl := List.mem_of_getElem? (l := lw_tbl) (i := 1684) (by decide +kernel)
theorem lk_X12_300 : am_lk RX12 300 yX12_write := Or.inl tw_1511
theorem tw_1515 : (Jvm.Cond.methodLink "MouthHouseLaw" (74 : Nat) ({ cls := "MouthHouseModel", name := "round", desc := "(III)J" } : Jvm.MethodName)) ∈ lw_tbl := List.mem_of_getElem? (l := lw_tbl) (i := 1688) (by decide +kernel)
theorem lk_L_74 : am_lk RL 74 yX12_round := Or.inl tw_1515
theorem tw_1520 : (Jvm.Cond.methodLink "MouthHouseModel" (323 : Nat) ({ cls := "MouthHouseModel", name := "goRound", desc := "(II)V" } : Jvm.MethodName)) ∈ lw_tbl := List.mem_of_getElem? (l := lw_tbl) (i := 1693) (by decide +kernel)
theorem lk_X12_323 : am_lk RX12 323 yX12_goRound := Or.inl tw_1520
theorem tw_1524 : (Jvm.Cond.methodLink "MouthHouseModel" (316 : Nat) ({ cls := "MouthHouseModel", name := "errorOf", desc := "(I)I" } : Jvm.MethodName)) ∈ lw_tbl := List.mem_of_getElem? (l := lw_tbl) (i := 1697) (by decide +kernel)
theorem lk_X12_316 : am_lk RX12 316 yX12_errorOf := Or.inl tw_1524
theorem tw_1529 : (Jvm.Cond.methodLink "MouthHouseLaw" (78 : Nat) ({ cls := "MouthHouseModel", name := "tally", desc := "(I)I" } : Jvm.MethodName)) ∈ lw_tbl := List.mem_of_getElem? (l := lw_tbl) (i := 1702) (by decide +kernel)
theorem lk_L_78 : am_lk RL 78 yX12_tally := Or.inl tw_1529
theorem tw_1533 : (Jvm.Cond.methodLink "MouthHouseModel" (326 : Nat) ({ cls := "MouthHouseModel", name := "heardMany", desc := "()I" } : Jvm.MethodName)) ∈ lw_tbl := List.mem_of_getElem? (l := lw_tbl) (i := 1706) (by decide +kernel)
theorem lk_X12_326 : am_lk RX12 326 yX12_heardMany := Or.inl tw_1533
theorem tw_1537 : (Jvm.Cond.methodLink "MouthHouseModel" (329 : Nat) ({ cls := "MouthHouseModel", name := "yesMany", desc := "(I)I" } : Jvm.MethodName)) ∈ lw_tbl := List.mem_of_getElem? (l := lw_tbl) (i := 1710) (by decide +kernel)
theorem lk_X12_329 : am_lk RX12 329 yX12_yesMany := Or.inl tw_1537
theorem tw_1541 : (Jvm.Cond.methodLink "MouthHouseLaw" (83 : Nat) ({ cls := "MouthHouseModel", name := "odds", desc := "(I)J" } : Jvm.MethodName)) ∈ lw_tbl := List.mem_of_getElem? (l := lw_tbl) (i := 1714) (by decide +kernel)
theorem lk_L_83 : am_lk RL 83 yX12_odds := Or.inl tw_1541
theorem tw_1545 : (Jvm.Cond.methodLink "MouthHouseModel" (332 : Nat) ({ cls := "MouthHouseModel", name := "layParts", desc := "(I)V" } : Jvm.MethodName)) ∈ lw_tbl := List.mem_of_getElem? (l := lw_tbl) (i := 1718) (by decide +kernel)
theorem lk_X12_332 : am_lk RX12 332 yX12_layParts := Or.inl tw_1545
theorem tw_1549 : (Jvm.Cond.methodLink "MouthHouseLaw" (88 : Nat) ({ cls := "MouthHouseModel", name := "passed", desc := "()J" } : Jvm.MethodName)) ∈ lw_tbl := List.mem_of_getElem? (l := lw_tbl) (i := 1722) (by decide +kernel)
theorem lk_L_88 : am_lk RL 88 yX12_passed := Or.inl tw_1549
theorem tw_1553 : (Jvm.Cond.methodLink "MouthHouseModel" (335 : Nat) ({ cls := "MouthHouseModel", name := "passedParts", desc := "(Z)J" } : Jvm.MethodName)) ∈ lw_tbl := List.mem_of_getElem? (l := lw_tbl) (i := 1726) (by decide +kernel)
theorem lk_X12_335 : am_lk RX12 335 yX12_passedParts := Or.inl tw_1553
theorem tw_1557 : (Jvm.Cond.methodLink "MouthHouseLaw" (92 : Nat) ({ cls := "MouthHouseModel", name := "turner", desc := "()I" } : Jvm.MethodName)) ∈ lw_tbl := List.mem_of_getElem? (l := lw_tbl) (i := 1730) (by decide +kernel)
theorem lk_L_92 : am_lk RL 92 yX12_turner := Or.inl tw_1557
theorem tw_1561 : (Jvm.Cond.methodLink "MouthHouseModel" (339 : Nat) ({ cls := "MouthHouseModel", name := "doesPass", desc := "(I)Z" } : Jvm.MethodName)) ∈ lw_tbl := List.mem_of_getElem? (l := lw_tbl) (i := 1734) (by decide +kernel)
theorem lk_X12_339 : am_lk RX12 339 yX12_doesPass := Or.inl tw_1561
theorem tw_1565 : (Jvm.Cond.methodLink "MouthHouseLaw" (96 : Nat) ({ cls := "MouthHouseModel", name := "bribe", desc := "(I)I" } : Jvm.MethodName)) ∈ lw_tbl := List.mem_of_getElem? (l := lw_tbl) (i := 1738) (by decide +kernel)
theorem lk_L_96 : am_lk RL 96 yX12_bribe := Or.inl tw_1565
theorem tw_1569 : (Jvm.Cond.methodLink "MouthHouseLaw" (100 : Nat) ({ cls := "MouthHouseModel", name := "yawn", desc := "(II)I" } : Jvm.MethodName)) ∈ lw_tbl := List.mem_of_getElem? (l := lw_tbl) (i := 1742) (by decide +kernel)
theorem lk_L_100 : am_lk RL 100 yX12_yawn := Or.inl tw_1569
theorem tw_1573 : (Jvm.Cond.methodLink "MouthHouseModel" (347 : Nat) ({ cls := "MouthHouseModel", name := "layYawns", desc := "(I)V" } : Jvm.MethodName)) ∈ lw_tbl := List.mem_of_getElem? (l := lw_tbl) (i := 1746) (by decide +kernel)
theorem lk_X12_347 : am_lk RX12 347 yX12_layYawns := Or.inl tw_1573
theorem tw_1577 : (Jvm.Cond.methodLink "MouthHouseModel" (342 : Nat) ({ cls := "MouthHouseModel", name := "catchYawn", desc := "(II)V" } : Jvm.MethodName)) ∈ lw_tbl := List.mem_of_getElem? (l := lw_tbl) (i := 1750) (by decide +kernel)
theorem lk_X12_342 : am_lk RX12 342 yX12_catchYawn := Or.inl tw_1577
theorem tw_1581 : (Jvm.Cond.methodLink "MouthHouseModel" (345 : Nat) ({ cls := "java/lang/Math", name := "min", desc := "(II)I" } : Jvm.MethodName)) ∈ lw_tbl := List.mem_of_getElem? (l := lw_tbl) (i := 1754) (by decide +kernel)
theorem lk_X12_345 : Cond.methodLink RX12 345 Lib.Math.min.name ∈ lw_tbl := tw_1581
theorem tw_1582 : (Jvm.Cond.methodLink "MouthHouseLaw" (104 : Nat) ({ cls := "MouthHouseModel", name := "yawns", desc := "(II)I" } : Jvm.MethodName)) ∈ lw_tbl := List.mem_of_getElem? (l := lw_tbl) (i := 1755) (by decide +kernel)
theorem lk_L_104 : am_lk RL 104 yX12_yawns := Or.inl tw_1582
theorem tw_1586 : (Jvm.Cond.methodLink "MouthHouseModel" (350 : Nat) ({ cls := "java/lang/Math", name := "max", desc := "(II)I" } : Jvm.MethodName)) ∈ lw_tbl := List.mem_of_getElem? (l := lw_tbl) (i := 1759) (by decide +kernel)
theorem lk_X12_350 : Cond.methodLink RX12 350 Lib.Math.max.name ∈ lw_tbl := tw_1586
theorem tw_1587 : (Jvm.Cond.methodLink "MouthHouseLaw" (108 : Nat) ({ cls := "MouthHouseModel", name := "ill", desc := "()I" } : Jvm.MethodName)) ∈ lw_tbl := List.mem_of_getElem? (l := lw_tbl) (i := 1760) (by decide +kernel)
theorem lk_L_108 : am_lk RL 108 yX12_ill := Or.inl tw_1587
theorem tw_1592 : (Jvm.Cond.methodLink "MouthHouseModel" (359 : Nat) ({ cls := "MouthHouseModel", name := "illOf", desc := "()I" } : Jvm.MethodName)) ∈ lw_tbl := List.mem_of_getElem? (l := lw_tbl) (i := 1765) (by decide +kernel)
theorem lk_X12_359 : am_lk RX12 359 yX12_illOf := Or.inl tw_1592
theorem tw_1596 : (Jvm.Cond.methodLink "MouthHouseModel" (352 : Nat) ({ cls := "MouthHouseModel", name := "illBeside", desc := "(III)I" } : Jvm.MethodName)) ∈ lw_tbl := List.mem_of_getElem? (l := lw_tbl) (i := 1769) (by decide +kernel)
theorem lk_X12_352 : am_lk RX12 352 yX12_illBeside := Or.inl tw_1596
theorem tw_1600 : (Jvm.Cond.methodLink "MouthHouseModel" (355 : Nat) ({ cls := "MouthHouseModel", name := "worthOf", desc := "(I)I" } : Jvm.MethodName)) ∈ lw_tbl := List.mem_of_getElem? (l := lw_tbl) (i := 1773) (by decide +kernel)
theorem lk_X12_355 : am_lk RX12 355 yX12_worthOf := Or.inl tw_1600
theorem tw_1604 : (Jvm.Cond.methodLink "MouthHouseModel" (211 : Nat) ({ cls := "MouthHouseModel", name := "workOut", desc := "(III)I" } : Jvm.MethodName)) ∈ lw_tbl := List.mem_of_getElem? (l := lw_tbl) (i := 1777) (by decide +kernel)
theorem lk_X12_211 : am_lk RX12 211 yX12_workOut := Or.inl tw_1604
theorem tw_1608 : (Jvm.Cond.methodLink "MouthHouseModel" (207 : Nat) ({ cls := "MouthHouseModel", name := "worked", desc := "(IJJ)I" } : Jvm.MethodName)) ∈ lw_tbl := List.mem_of_getElem? (l := lw_tbl) (i := 1781) (by decide +kernel)
theorem lk_X12_207 : am_lk RX12 207 yX12_worked := Or.inl tw_1608
theorem tw_1611 : (Jvm.Cond.methodLink "MouthHouseModel" (203 : Nat) ({ cls := "MouthHouseModel", name := "bounded", desc := "(J)I" } : Jvm.MethodName)) ∈ lw_tbl := List.mem_of_getElem? (l := lw_tbl) (i := 1784) (by decide +kernel)
theorem lk_X12_203 : am_lk RX12 203 yX12_bounded := Or.inl tw_1611
theorem tw_1616 : (Jvm.Cond.methodLink "MouthHouseModel" (194 : Nat) ({ cls := "java/lang/Math", name := "min", desc := "(JJ)J" } : Jvm.MethodName)) ∈ lw_tbl := List.mem_of_getElem? (l := lw_tbl) (i := 1789) (by decide +kernel)
theorem lk_X12_194 : Cond.methodLink RX12 194 Lib.MathLoose.min_long.x ∈ lw_tbl := tw_1616
theorem tw_1619 : (Jvm.Cond.methodLink "MouthHouseModel" (200 : Nat) ({ cls := "java/lang/Math", name := "max", desc := "(JJ)J" } : Jvm.MethodName)) ∈ lw_tbl := List.mem_of_getElem? (l := lw_tbl) (i := 1792) (by decide +kernel)
theorem lk_X12_200 : Cond.methodLink RX12 200 Lib.MathLoose.max_long.x ∈ lw_tbl := tw_1619
theorem tw_1622 : (Jvm.Cond.methodLink "MouthHouseLaw" (112 : Nat) ({ cls := "MouthHouseModel", name := "best", desc := "(II)I" } : Jvm.MethodName)) ∈ lw_tbl := List.mem_of_getElem? (l := lw_tbl) (i := 1795) (by decide +kernel)
theorem lk_L_112 : am_lk RL 112 yX12_best := Or.inl tw_1622
theorem tw_1626 : (Jvm.Cond.methodLink "MouthHouseModel" (368 : Nat) ({ cls := "MouthHouseModel", name := "digits", desc := "()I" } : Jvm.MethodName)) ∈ lw_tbl := List.mem_of_getElem? (l := lw_tbl) (i := 1799) (by decide +kernel)
theorem lk_X12_368 : am_lk RX12 368 yX12_digits := Or.inl tw_1626
theorem tw_1630 : (Jvm.Cond.methodLink "MouthHouseModel" (371 : Nat) ({ cls := "MouthHouseModel", name := "laySeatings", desc := "()V" } : Jvm.MethodName)) ∈ lw_tbl := List.mem_of_getElem? (l := lw_tbl) (i := 1803) (by decide +kernel)
theorem lk_X12_371 : am_lk RX12 371 yX12_laySeatings := Or.inl tw_1630
theorem tw_1634 : (Jvm.Cond.methodLink "MouthHouseModel" (365 : Nat) ({ cls := "MouthHouseModel", name := "build", desc := "(II)V" } : Jvm.MethodName)) ∈ lw_tbl := List.mem_of_getElem? (l := lw_tbl) (i := 1807) (by decide +kernel)
theorem lk_X12_365 : am_lk RX12 365 yX12_build := Or.inl tw_1634
theorem tw_1638 : (Jvm.Cond.methodLink "MouthHouseModel" (374 : Nat) ({ cls := "MouthHouseModel", name := "wished", desc := "(I)I" } : Jvm.MethodName)) ∈ lw_tbl := List.mem_of_getElem? (l := lw_tbl) (i := 1811) (by decide +kernel)
theorem lk_X12_374 : am_lk RX12 374 yX12_wished := Or.inl tw_1638
theorem tw_1642 : (Jvm.Cond.methodLink "MouthHouseLaw" (116 : Nat) ({ cls := "MouthHouseModel", name := "changes", desc := "(I)I" } : Jvm.MethodName)) ∈ lw_tbl := List.mem_of_getElem? (l := lw_tbl) (i := 1815) (by decide +kernel)
theorem lk_L_116 : am_lk RL 116 yX12_changes := Or.inl tw_1642
theorem tw_1646 : (Jvm.Cond.methodLink "MouthHouseModel" (377 : Nat) ({ cls := "MouthHouseModel", name := "numberOf", desc := "(I)I" } : Jvm.MethodName)) ∈ lw_tbl := List.mem_of_getElem? (l := lw_tbl) (i := 1819) (by decide +kernel)
theorem lk_X12_377 : am_lk RX12 377 yX12_numberOf := Or.inl tw_1646
theorem tw_1650 : (Jvm.Cond.methodLink "MouthHouseModel" (380 : Nat) ({ cls := "MouthHouseModel", name := "isAllHeard", desc := "()Z" } : Jvm.MethodName)) ∈ lw_tbl := List.mem_of_getElem? (l := lw_tbl) (i := 1823) (by decide +kernel)
theorem lk_X12_380 : am_lk RX12 380 yX12_isAllHeard := Or.inl tw_1650
theorem tw_1654 : (Jvm.Cond.methodLink "MouthHouseModel" (384 : Nat) ({ cls := "MouthHouseModel", name := "reachOn", desc := "(I)Z" } : Jvm.MethodName)) ∈ lw_tbl := List.mem_of_getElem? (l := lw_tbl) (i := 1827) (by decide +kernel)
theorem lk_X12_384 : am_lk RX12 384 yX12_reachOn := Or.inl tw_1654
theorem tw_1658 : (Jvm.Cond.methodLink "MouthHouseLaw" (121 : Nat) ({ cls := "MouthHouseModel", name := "know", desc := "(IZ)I" } : Jvm.MethodName)) ∈ lw_tbl := List.mem_of_getElem? (l := lw_tbl) (i := 1831) (by decide +kernel)
theorem lk_L_121 : am_lk RL 121 yX12_know := Or.inl tw_1658
theorem tw_1662 : (Jvm.Cond.methodLink "MouthHouseLaw" (125 : Nat) ({ cls := "MouthHouseModel", name := "fits", desc := "(I)I" } : Jvm.MethodName)) ∈ lw_tbl := List.mem_of_getElem? (l := lw_tbl) (i := 1835) (by decide +kernel)
theorem lk_L_125 : am_lk RL 125 yX12_fits := Or.inl tw_1662
theorem tw_1666 : (Jvm.Cond.methodLink "MouthHouseModel" (387 : Nat) ({ cls := "MouthHouseModel", name := "laySpeaks", desc := "()V" } : Jvm.MethodName)) ∈ lw_tbl := List.mem_of_getElem? (l := lw_tbl) (i := 1839) (by decide +kernel)
theorem lk_X12_387 : am_lk RX12 387 yX12_laySpeaks := Or.inl tw_1666
theorem tw_1670 : (Jvm.Cond.methodLink "MouthHouseModel" (390 : Nat) ({ cls := "MouthHouseModel", name := "agrees", desc := "(I)Z" } : Jvm.MethodName)) ∈ lw_tbl := List.mem_of_getElem? (l := lw_tbl) (i := 1843) (by decide +kernel)
theorem lk_X12_390 : am_lk RX12 390 yX12_agrees := Or.inl tw_1670
theorem tw_1674 : (Jvm.Cond.methodLink "MouthHouseLaw" (130 : Nat) ({ cls := "MouthHouseModel", name := "sure", desc := "(Z)I" } : Jvm.MethodName)) ∈ lw_tbl := List.mem_of_getElem? (l := lw_tbl) (i := 1847) (by decide +kernel)
theorem lk_L_130 : am_lk RL 130 yX12_sure := Or.inl tw_1674
theorem tw_1678 : (Jvm.Cond.methodLink "MouthHouseLaw" (137 : Nat) ({ cls := "MouthHouseModel", name := "seed", desc := "(J)Z" } : Jvm.MethodName)) ∈ lw_tbl := List.mem_of_getElem? (l := lw_tbl) (i := 1851) (by decide +kernel)
theorem lk_L_137 : am_lk RL 137 yX12_seed := Or.inl tw_1678
theorem tw_1682 : (Jvm.Cond.methodLink "MouthHouseLaw" (141 : Nat) ({ cls := "MouthHouseModel", name := "sitting", desc := "()I" } : Jvm.MethodName)) ∈ lw_tbl := List.mem_of_getElem? (l := lw_tbl) (i := 1855) (by decide +kernel)
theorem lk_L_141 : am_lk RL 141 yX12_sitting := Or.inl tw_1682
theorem tw_1688 : (Jvm.Cond.methodLink "MouthHouseLaw" (145 : Nat) ({ cls := "MouthHouseModel", name := "sat", desc := "(II)I" } : Jvm.MethodName)) ∈ lw_tbl := List.mem_of_getElem? (l := lw_tbl) (i := 1861) (by decide +kernel)
theorem lk_L_145 : am_lk RL 145 yX12_sat := Or.inl tw_1688
theorem tw_1692 : (Jvm.Cond.methodLink "MouthHouseLaw" (149 : Nat) ({ cls := "MouthHouseModel", name := "undo", desc := "()I" } : Jvm.MethodName)) ∈ lw_tbl := List.mem_of_getElem? (l := lw_tbl) (i := 1865) (by decide +kernel)
theorem lk_L_149 : am_lk RL 149 yX12_undo := Or.inl tw_1692
theorem tw_1696 : (Jvm.Cond.methodLink "MouthHouseLaw" (153 : Nat) ({ cls := "MouthHouseModel", name := "image", desc := "()I" } : Jvm.MethodName)) ∈ lw_tbl := List.mem_of_getElem? (l := lw_tbl) (i := 1869) (by decide +kernel)
theorem lk_L_153 : am_lk RL 153 yX12_image := Or.inl tw_1696
theorem tw_1700 : (Jvm.Cond.methodLink "MouthHouseLaw" (157 : Nat) ({ cls := "MouthHouseModel", name := "back", desc := "()I" } : Jvm.MethodName)) ∈ lw_tbl := List.mem_of_getElem? (l := lw_tbl) (i := 1873) (by decide +kernel)
theorem lk_L_157 : am_lk RL 157 yX12_back := Or.inl tw_1700
theorem tw_1704 : (Jvm.Cond.methodLink "MouthHouseLaw" (161 : Nat) ({ cls := "MouthHouseModel", name := "count", desc := "(I)I" } : Jvm.MethodName)) ∈ lw_tbl := List.mem_of_getElem? (l := lw_tbl) (i := 1877) (by decide +kernel)
theorem lk_L_161 : am_lk RL 161 yX12_count := Or.inl tw_1704
theorem tw_1708 : (Jvm.Cond.methodLink "MouthHouseModel" (406 : Nat) ({ cls := "MouthHouseModel", name := "passedMany", desc := "()I" } : Jvm.MethodName)) ∈ lw_tbl := List.mem_of_getElem? (l := lw_tbl) (i := 1881) (by decide +kernel)
theorem lk_X12_406 : am_lk RX12 406 yX12_passedMany := Or.inl tw_1708
theorem tw_28 : (Jvm.Cond.instanceMethod ({ cls := "java/lang/Object", name := "<init>", desc := "()V" } : Jvm.MethodName)) ∈ lw_tbl := List.mem_of_getElem? (l := lw_tbl) (i := 201) (by decide +kernel)
theorem wd_oi : Cond.instanceMethod objectInit ∈ lw_tbl := tw_28
theorem tw_29 : (Jvm.Cond.code ({ cls := "java/lang/Object", name := "<init>", desc := "()V" } : Jvm.MethodName) object_method_1_code (1 : Nat) (Option.none : Option Jvm.ClassFile.FieldType)) ∈ lw_tbl := List.mem_of_getElem? (l := lw_tbl) (i := 202) (by decide +kernel)
theorem wd_oc : Cond.code objectInit ⟨#[0xb1]⟩ 1 none ∈ lw_tbl := tw_29
theorem tw_529 : (Jvm.Cond.native ({ cls := "java/lang/System", name := "arraycopy", desc := "(Ljava/lang/Object;ILjava/lang/Object;II)V" } : Jvm.MethodName)) ∈ lw_tbl := List.mem_of_getElem? (l := lw_tbl) (i := 702) (by decide +kernel)
theorem wd_an : Cond.native arraycopyName ∈ lw_tbl := tw_529
theorem tw_528 : (Jvm.Cond.static ({ cls := "java/lang/System", name := "arraycopy", desc := "(Ljava/lang/Object;ILjava/lang/Object;II)V" } : Jvm.MethodName)) ∈ lw_tbl := List.mem_of_getElem? (l := lw_tbl) (i := 701) (by decide +kernel)
theorem wd_as : Cond.static arraycopyName ∈ lw_tbl := tw_528
theorem tw_14 : (Jvm.Cond.initialized "java/lang/System") ∈ lw_tbl := List.mem_of_getElem? (l := lw_tbl) (i := 187) (by decide +kernel)
theorem wd_ai : Cond.initialized "java/lang/System" ∈ lw_tbl := tw_14
theorem tw_49 : (Jvm.Cond.arrayClass Jvm.ClassFile.FieldType.int) ∈ lw_tbl := List.mem_of_getElem? (l := lw_tbl) (i := 222) (by decide +kernel)
theorem wd_int : Cond.arrayClass .int ∈ lw_tbl := tw_49
theorem tw_176 : (Jvm.Cond.arrayClass Jvm.ClassFile.FieldType.long) ∈ lw_tbl := List.mem_of_getElem? (l := lw_tbl) (i := 349) (by decide +kernel)
theorem wd_long : Cond.arrayClass .long ∈ lw_tbl := tw_176
theorem tw_177 : (Jvm.Cond.arrayClass Jvm.ClassFile.FieldType.boolean) ∈ lw_tbl := List.mem_of_getElem? (l := lw_tbl) (i := 350) (by decide +kernel)
theorem wd_boolean : Cond.arrayClass .boolean ∈ lw_tbl := tw_177
theorem tw_0 : (Jvm.Cond.initialized "MouthHouseLaw") ∈ lw_tbl := List.mem_of_getElem? (l := lw_tbl) (i := 173) (by decide +kernel)
theorem in_L : Cond.initialized RL ∈ lw_tbl := tw_0
theorem tw_1 : (Jvm.Cond.initialized "MouthHouse") ∈ lw_tbl := List.mem_of_getElem? (l := lw_tbl) (i := 174) (by decide +kernel)
theorem in_X11 : Cond.initialized RX11 ∈ lw_tbl := tw_1
theorem tw_2 : (Jvm.Cond.initialized "MouthHouse$Tape") ∈ lw_tbl := List.mem_of_getElem? (l := lw_tbl) (i := 175) (by decide +kernel)
theorem in_X9 : Cond.initialized RX9 ∈ lw_tbl := tw_2
theorem tw_3 : (Jvm.Cond.initialized "MouthHouse$HouseReader") ∈ lw_tbl := List.mem_of_getElem? (l := lw_tbl) (i := 176) (by decide +kernel)
theorem in_X2 : Cond.initialized RX2 ∈ lw_tbl := tw_3
theorem tw_4 : (Jvm.Cond.initialized "MouthHouse$Members") ∈ lw_tbl := List.mem_of_getElem? (l := lw_tbl) (i := 177) (by decide +kernel)
theorem in_X5 : Cond.initialized RX5 ∈ lw_tbl := tw_4
theorem tw_5 : (Jvm.Cond.initialized "MouthHouse$MannersReader") ∈ lw_tbl := List.mem_of_getElem? (l := lw_tbl) (i := 178) (by decide +kernel)
theorem in_X4 : Cond.initialized RX4 ∈ lw_tbl := tw_5
theorem tw_6 : (Jvm.Cond.initialized "MouthHouse$Seating") ∈ lw_tbl := List.mem_of_getElem? (l := lw_tbl) (i := 179) (by decide +kernel)
theorem in_X6 : Cond.initialized RX6 ∈ lw_tbl := tw_6
theorem tw_7 : (Jvm.Cond.initialized "MouthHouse$Talk") ∈ lw_tbl := List.mem_of_getElem? (l := lw_tbl) (i := 180) (by decide +kernel)
theorem in_X8 : Cond.initialized RX8 ∈ lw_tbl := tw_7
theorem tw_8 : (Jvm.Cond.initialized "MouthHouse$Votes") ∈ lw_tbl := List.mem_of_getElem? (l := lw_tbl) (i := 181) (by decide +kernel)
theorem in_X10 : Cond.initialized RX10 ∈ lw_tbl := tw_8
theorem tw_9 : (Jvm.Cond.initialized "MouthHouse$Best") ∈ lw_tbl := List.mem_of_getElem? (l := lw_tbl) (i := 182) (by decide +kernel)
theorem in_X0 : Cond.initialized RX0 ∈ lw_tbl := tw_9
theorem tw_10 : (Jvm.Cond.initialized "MouthHouse$Manners") ∈ lw_tbl := List.mem_of_getElem? (l := lw_tbl) (i := 183) (by decide +kernel)
theorem in_X3 : Cond.initialized RX3 ∈ lw_tbl := tw_10
theorem tw_11 : (Jvm.Cond.initialized "MouthHouse$Changes") ∈ lw_tbl := List.mem_of_getElem? (l := lw_tbl) (i := 184) (by decide +kernel)
theorem in_X1 : Cond.initialized RX1 ∈ lw_tbl := tw_11
theorem tw_12 : (Jvm.Cond.initialized "MouthHouse$Sittings") ∈ lw_tbl := List.mem_of_getElem? (l := lw_tbl) (i := 185) (by decide +kernel)
theorem in_X7 : Cond.initialized RX7 ∈ lw_tbl := tw_12
theorem tw_13 : (Jvm.Cond.initialized "MouthHouseModel") ∈ lw_tbl := List.mem_of_getElem? (l := lw_tbl) (i := 186) (by decide +kernel)
theorem in_X12 : Cond.initialized RX12 ∈ lw_tbl := tw_13
theorem in_J10 : Cond.initialized RJ10 ∈ lw_tbl := tw_14
theorem tw_15 : (Jvm.Cond.initialized "java/lang/Math") ∈ lw_tbl := List.mem_of_getElem? (l := lw_tbl) (i := 188) (by decide +kernel)
theorem in_J9 : Cond.initialized RJ9 ∈ lw_tbl := tw_15
theorem tw_20 : (Jvm.Cond.initialized "java/lang/Integer") ∈ lw_tbl := List.mem_of_getElem? (l := lw_tbl) (i := 193) (by decide +kernel)
theorem in_J6 : Cond.initialized RJ6 ∈ lw_tbl := tw_20
theorem tw_21 : (Jvm.Cond.initialized "java/util/Arrays") ∈ lw_tbl := List.mem_of_getElem? (l := lw_tbl) (i := 194) (by decide +kernel)
theorem in_J7 : Cond.initialized RJ7 ∈ lw_tbl := tw_21
theorem tw_22 : (Jvm.Cond.classLink "MouthHouseLaw" (8 : Nat) "MouthHouse") ∈ lw_tbl := List.mem_of_getElem? (l := lw_tbl) (i := 195) (by decide +kernel)
theorem cl_L_8 : Cond.classLink RL 8 RX11 ∈ lw_tbl := tw_22
theorem tw_23 : (Jvm.Cond.instantiable "MouthHouse" (17 : Nat)) ∈ lw_tbl := List.mem_of_getElem? (l := lw_tbl) (i := 196) (by decide +kernel)
theorem it_X11 : Cond.instantiable RX11 (am_nf 11) ∈ lw_tbl := tw_23
theorem tw_30 : (Jvm.Cond.classLink "MouthHouse" (7 : Nat) "MouthHouse$Tape") ∈ lw_tbl := List.mem_of_getElem? (l := lw_tbl) (i := 203) (by decide +kernel)
theorem cl_X11_7 : Cond.classLink RX11 7 RX9 ∈ lw_tbl := tw_30
theorem tw_31 : (Jvm.Cond.instantiable "MouthHouse$Tape" (3 : Nat)) ∈ lw_tbl := List.mem_of_getElem? (l := lw_tbl) (i := 204) (by decide +kernel)
theorem it_X9 : Cond.instantiable RX9 (am_nf 9) ∈ lw_tbl := tw_31
theorem tw_50 : (Jvm.Cond.classLink "MouthHouse" (16 : Nat) "MouthHouse$HouseReader") ∈ lw_tbl := List.mem_of_getElem? (l := lw_tbl) (i := 223) (by decide +kernel)
theorem cl_X11_16 : Cond.classLink RX11 16 RX2 ∈ lw_tbl := tw_50
theorem tw_51 : (Jvm.Cond.instantiable "MouthHouse$HouseReader" (2 : Nat)) ∈ lw_tbl := List.mem_of_getElem? (l := lw_tbl) (i := 224) (by decide +kernel)
theorem it_X2 : Cond.instantiable RX2 (am_nf 2) ∈ lw_tbl := tw_51
theorem tw_56 : (Jvm.Cond.classLink "MouthHouse$HouseReader" (15 : Nat) "MouthHouse$Members") ∈ lw_tbl := List.mem_of_getElem? (l := lw_tbl) (i := 229) (by decide +kernel)
theorem cl_X2_15 : Cond.classLink RX2 15 RX5 ∈ lw_tbl := tw_56
theorem tw_57 : (Jvm.Cond.instantiable "MouthHouse$Members" (3 : Nat)) ∈ lw_tbl := List.mem_of_getElem? (l := lw_tbl) (i := 230) (by decide +kernel)
theorem it_X5 : Cond.instantiable RX5 (am_nf 5) ∈ lw_tbl := tw_57
theorem tw_91 : (Jvm.Cond.classLink "MouthHouse" (25 : Nat) "MouthHouse$MannersReader") ∈ lw_tbl := List.mem_of_getElem? (l := lw_tbl) (i := 264) (by decide +kernel)
theorem cl_X11_25 : Cond.classLink RX11 25 RX4 ∈ lw_tbl := tw_91
theorem tw_92 : (Jvm.Cond.instantiable "MouthHouse$MannersReader" (3 : Nat)) ∈ lw_tbl := List.mem_of_getElem? (l := lw_tbl) (i := 265) (by decide +kernel)
theorem it_X4 : Cond.instantiable RX4 (am_nf 4) ∈ lw_tbl := tw_92
