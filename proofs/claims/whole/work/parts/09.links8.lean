theorem tw_1423 : (Jvm.Cond.static ({ cls := "MouthHouseModel", name := "letterOf", desc := "(I)I" } : Jvm.MethodName)) ∈ lw_tbl := List.mem_of_getElem? (l := lw_tbl) (i := 1596) (by decide +kernel)
theorem mS_X12_letterOf : am_mS m_X12_letterOf 1 := ⟨⟨tw_1424, tw_13, by decide +kernel, ⟨by decide +kernel, by decide +kernel, by decide +kernel⟩, by decide⟩, tw_1423⟩
abbrev m_X12_compare : am_M := (yX12_compare, cX12_compare, 2, none)
theorem tw_1428 : (Jvm.Cond.code ({ cls := "MouthHouseModel", name := "compare", desc := "()V" } : Jvm.MethodName) prog_14_method_21_code (2 : Nat) (Option.none : Option Jvm.ClassFile.FieldType)) ∈ lw_tbl := List.mem_of_getElem? (l := lw_tbl) (i := 1601) (by decide +kernel)
theorem tw_1427 : (Jvm.Cond.instanceMethod ({ cls := "MouthHouseModel", name := "compare", desc := "()V" } : Jvm.MethodName)) ∈ lw_tbl := List.mem_of_getElem? (l := lw_tbl) (i := 1600) (by decide +kernel)
theorem mV_X12_compare : am_mV m_X12_compare 0 := ⟨⟨tw_1428, tw_13, by decide +kernel, ⟨by decide +kernel, by decide +kernel, by decide +kernel⟩, by decide⟩, tw_1427, List.mem_of_getElem? (l := lw_tbl) (i := 136) (by decide +kernel)⟩
abbrev m_X12_isSign : am_M := (yX12_isSign, cX12_isSign, 1, some .boolean)
theorem tw_1431 : (Jvm.Cond.code ({ cls := "MouthHouseModel", name := "isSign", desc := "(I)Z" } : Jvm.MethodName) prog_14_method_20_code (1 : Nat) (Option.some Jvm.ClassFile.FieldType.boolean)) ∈ lw_tbl := List.mem_of_getElem? (l := lw_tbl) (i := 1604) (by decide +kernel)
theorem tw_1430 : (Jvm.Cond.static ({ cls := "MouthHouseModel", name := "isSign", desc := "(I)Z" } : Jvm.MethodName)) ∈ lw_tbl := List.mem_of_getElem? (l := lw_tbl) (i := 1603) (by decide +kernel)
theorem mS_X12_isSign : am_mS m_X12_isSign 1 := ⟨⟨tw_1431, tw_13, by decide +kernel, ⟨by decide +kernel, by decide +kernel, by decide +kernel⟩, by decide⟩, tw_1430⟩
abbrev m_X12_goOnAnd : am_M := (yX12_goOnAnd, cX12_goOnAnd, 1, none)
theorem tw_1435 : (Jvm.Cond.code ({ cls := "MouthHouseModel", name := "goOnAnd", desc := "()V" } : Jvm.MethodName) prog_14_method_23_code (1 : Nat) (Option.none : Option Jvm.ClassFile.FieldType)) ∈ lw_tbl := List.mem_of_getElem? (l := lw_tbl) (i := 1608) (by decide +kernel)
theorem tw_1434 : (Jvm.Cond.instanceMethod ({ cls := "MouthHouseModel", name := "goOnAnd", desc := "()V" } : Jvm.MethodName)) ∈ lw_tbl := List.mem_of_getElem? (l := lw_tbl) (i := 1607) (by decide +kernel)
theorem mV_X12_goOnAnd : am_mV m_X12_goOnAnd 0 := ⟨⟨tw_1435, tw_13, by decide +kernel, ⟨by decide +kernel, by decide +kernel, by decide +kernel⟩, by decide⟩, tw_1434, List.mem_of_getElem? (l := lw_tbl) (i := 137) (by decide +kernel)⟩
abbrev m_X12_goOnOr : am_M := (yX12_goOnOr, cX12_goOnOr, 1, none)
theorem tw_1439 : (Jvm.Cond.code ({ cls := "MouthHouseModel", name := "goOnOr", desc := "()V" } : Jvm.MethodName) prog_14_method_24_code (1 : Nat) (Option.none : Option Jvm.ClassFile.FieldType)) ∈ lw_tbl := List.mem_of_getElem? (l := lw_tbl) (i := 1612) (by decide +kernel)
theorem tw_1438 : (Jvm.Cond.instanceMethod ({ cls := "MouthHouseModel", name := "goOnOr", desc := "()V" } : Jvm.MethodName)) ∈ lw_tbl := List.mem_of_getElem? (l := lw_tbl) (i := 1611) (by decide +kernel)
theorem mV_X12_goOnOr : am_mV m_X12_goOnOr 0 := ⟨⟨tw_1439, tw_13, by decide +kernel, ⟨by decide +kernel, by decide +kernel, by decide +kernel⟩, by decide⟩, tw_1438, List.mem_of_getElem? (l := lw_tbl) (i := 138) (by decide +kernel)⟩
abbrev m_X12_atEnd : am_M := (yX12_atEnd, cX12_atEnd, 1, some .int)
theorem tw_1443 : (Jvm.Cond.code ({ cls := "MouthHouseModel", name := "atEnd", desc := "()I" } : Jvm.MethodName) prog_14_method_28_code (1 : Nat) (Option.some Jvm.ClassFile.FieldType.int)) ∈ lw_tbl := List.mem_of_getElem? (l := lw_tbl) (i := 1616) (by decide +kernel)
theorem tw_1442 : (Jvm.Cond.instanceMethod ({ cls := "MouthHouseModel", name := "atEnd", desc := "()I" } : Jvm.MethodName)) ∈ lw_tbl := List.mem_of_getElem? (l := lw_tbl) (i := 1615) (by decide +kernel)
theorem mV_X12_atEnd : am_mV m_X12_atEnd 0 := ⟨⟨tw_1443, tw_13, by decide +kernel, ⟨by decide +kernel, by decide +kernel, by decide +kernel⟩, by decide⟩, tw_1442, List.mem_of_getElem? (l := lw_tbl) (i := 139) (by decide +kernel)⟩
abbrev m_X12_text : am_M := (yX12_text, cX12_text, 2, some .int)
theorem tw_1447 : (Jvm.Cond.code ({ cls := "MouthHouseModel", name := "text", desc := "(I)I" } : Jvm.MethodName) prog_14_method_42_code (2 : Nat) (Option.some Jvm.ClassFile.FieldType.int)) ∈ lw_tbl := List.mem_of_getElem? (l := lw_tbl) (i := 1620) (by decide +kernel)
theorem tw_1446 : (Jvm.Cond.selects "MouthHouseModel" ({ cls := "MouthHouseModel", name := "text", desc := "(I)I" } : Jvm.MethodName) ({ cls := "MouthHouseModel", name := "text", desc := "(I)I" } : Jvm.MethodName)) ∈ lw_tbl := List.mem_of_getElem? (l := lw_tbl) (i := 1619) (by decide +kernel)
theorem tw_1445 : (Jvm.Cond.instanceMethod ({ cls := "MouthHouseModel", name := "text", desc := "(I)I" } : Jvm.MethodName)) ∈ lw_tbl := List.mem_of_getElem? (l := lw_tbl) (i := 1618) (by decide +kernel)
theorem mV_X12_text : am_mV m_X12_text 1 := ⟨⟨tw_1447, tw_13, by decide +kernel, ⟨by decide +kernel, by decide +kernel, by decide +kernel⟩, by decide⟩, tw_1445, tw_1446⟩
abbrev m_X12_takeHouse : am_M := (yX12_takeHouse, cX12_takeHouse, 2, some .int)
theorem tw_1451 : (Jvm.Cond.code ({ cls := "MouthHouseModel", name := "takeHouse", desc := "()I" } : Jvm.MethodName) prog_14_method_41_code (2 : Nat) (Option.some Jvm.ClassFile.FieldType.int)) ∈ lw_tbl := List.mem_of_getElem? (l := lw_tbl) (i := 1624) (by decide +kernel)
theorem tw_1450 : (Jvm.Cond.instanceMethod ({ cls := "MouthHouseModel", name := "takeHouse", desc := "()I" } : Jvm.MethodName)) ∈ lw_tbl := List.mem_of_getElem? (l := lw_tbl) (i := 1623) (by decide +kernel)
theorem mV_X12_takeHouse : am_mV m_X12_takeHouse 0 := ⟨⟨tw_1451, tw_13, by decide +kernel, ⟨by decide +kernel, by decide +kernel, by decide +kernel⟩, by decide⟩, tw_1450, List.mem_of_getElem? (l := lw_tbl) (i := 140) (by decide +kernel)⟩
abbrev m_X12_of : am_M := (yX12_of, cX12_of, 3, some .int)
theorem tw_1455 : (Jvm.Cond.code ({ cls := "MouthHouseModel", name := "of", desc := "(II)I" } : Jvm.MethodName) prog_14_method_43_code (3 : Nat) (Option.some Jvm.ClassFile.FieldType.int)) ∈ lw_tbl := List.mem_of_getElem? (l := lw_tbl) (i := 1628) (by decide +kernel)
theorem tw_1454 : (Jvm.Cond.instanceMethod ({ cls := "MouthHouseModel", name := "of", desc := "(II)I" } : Jvm.MethodName)) ∈ lw_tbl := List.mem_of_getElem? (l := lw_tbl) (i := 1627) (by decide +kernel)
theorem mV_X12_of : am_mV m_X12_of 2 := ⟨⟨tw_1455, tw_13, by decide +kernel, ⟨by decide +kernel, by decide +kernel, by decide +kernel⟩, by decide⟩, tw_1454, List.mem_of_getElem? (l := lw_tbl) (i := 141) (by decide +kernel)⟩
abbrev m_X12_member : am_M := (yX12_member, cX12_member, 3, some .int)
theorem tw_1459 : (Jvm.Cond.code ({ cls := "MouthHouseModel", name := "member", desc := "(II)I" } : Jvm.MethodName) prog_14_method_51_code (3 : Nat) (Option.some Jvm.ClassFile.FieldType.int)) ∈ lw_tbl := List.mem_of_getElem? (l := lw_tbl) (i := 1632) (by decide +kernel)
theorem tw_1458 : (Jvm.Cond.selects "MouthHouseModel" ({ cls := "MouthHouseModel", name := "member", desc := "(II)I" } : Jvm.MethodName) ({ cls := "MouthHouseModel", name := "member", desc := "(II)I" } : Jvm.MethodName)) ∈ lw_tbl := List.mem_of_getElem? (l := lw_tbl) (i := 1631) (by decide +kernel)
theorem tw_1457 : (Jvm.Cond.instanceMethod ({ cls := "MouthHouseModel", name := "member", desc := "(II)I" } : Jvm.MethodName)) ∈ lw_tbl := List.mem_of_getElem? (l := lw_tbl) (i := 1630) (by decide +kernel)
theorem mV_X12_member : am_mV m_X12_member 2 := ⟨⟨tw_1459, tw_13, by decide +kernel, ⟨by decide +kernel, by decide +kernel, by decide +kernel⟩, by decide⟩, tw_1457, tw_1458⟩
abbrev m_X12_isMember : am_M := (yX12_isMember, cX12_isMember, 2, some .boolean)
theorem tw_1463 : (Jvm.Cond.code ({ cls := "MouthHouseModel", name := "isMember", desc := "(I)Z" } : Jvm.MethodName) prog_14_method_44_code (2 : Nat) (Option.some Jvm.ClassFile.FieldType.boolean)) ∈ lw_tbl := List.mem_of_getElem? (l := lw_tbl) (i := 1636) (by decide +kernel)
theorem tw_1462 : (Jvm.Cond.instanceMethod ({ cls := "MouthHouseModel", name := "isMember", desc := "(I)Z" } : Jvm.MethodName)) ∈ lw_tbl := List.mem_of_getElem? (l := lw_tbl) (i := 1635) (by decide +kernel)
theorem mV_X12_isMember : am_mV m_X12_isMember 1 := ⟨⟨tw_1463, tw_13, by decide +kernel, ⟨by decide +kernel, by decide +kernel, by decide +kernel⟩, by decide⟩, tw_1462, List.mem_of_getElem? (l := lw_tbl) (i := 142) (by decide +kernel)⟩
abbrev m_X12_seatOf : am_M := (yX12_seatOf, cX12_seatOf, 4, some .int)
theorem tw_1467 : (Jvm.Cond.code ({ cls := "MouthHouseModel", name := "seatOf", desc := "(I)I" } : Jvm.MethodName) prog_14_method_45_code (4 : Nat) (Option.some Jvm.ClassFile.FieldType.int)) ∈ lw_tbl := List.mem_of_getElem? (l := lw_tbl) (i := 1640) (by decide +kernel)
theorem tw_1466 : (Jvm.Cond.instanceMethod ({ cls := "MouthHouseModel", name := "seatOf", desc := "(I)I" } : Jvm.MethodName)) ∈ lw_tbl := List.mem_of_getElem? (l := lw_tbl) (i := 1639) (by decide +kernel)
theorem mV_X12_seatOf : am_mV m_X12_seatOf 1 := ⟨⟨tw_1467, tw_13, by decide +kernel, ⟨by decide +kernel, by decide +kernel, by decide +kernel⟩, by decide⟩, tw_1466, List.mem_of_getElem? (l := lw_tbl) (i := 143) (by decide +kernel)⟩
abbrev m_X12_mouthOf : am_M := (yX12_mouthOf, cX12_mouthOf, 3, some .int)
theorem tw_1471 : (Jvm.Cond.code ({ cls := "MouthHouseModel", name := "mouthOf", desc := "(I)I" } : Jvm.MethodName) prog_14_method_47_code (3 : Nat) (Option.some Jvm.ClassFile.FieldType.int)) ∈ lw_tbl := List.mem_of_getElem? (l := lw_tbl) (i := 1644) (by decide +kernel)
theorem tw_1470 : (Jvm.Cond.instanceMethod ({ cls := "MouthHouseModel", name := "mouthOf", desc := "(I)I" } : Jvm.MethodName)) ∈ lw_tbl := List.mem_of_getElem? (l := lw_tbl) (i := 1643) (by decide +kernel)
theorem mV_X12_mouthOf : am_mV m_X12_mouthOf 1 := ⟨⟨tw_1471, tw_13, by decide +kernel, ⟨by decide +kernel, by decide +kernel, by decide +kernel⟩, by decide⟩, tw_1470, List.mem_of_getElem? (l := lw_tbl) (i := 144) (by decide +kernel)⟩
abbrev m_X12_leftOf : am_M := (yX12_leftOf, cX12_leftOf, 2, some .int)
theorem tw_1475 : (Jvm.Cond.code ({ cls := "MouthHouseModel", name := "leftOf", desc := "(I)I" } : Jvm.MethodName) prog_14_method_46_code (2 : Nat) (Option.some Jvm.ClassFile.FieldType.int)) ∈ lw_tbl := List.mem_of_getElem? (l := lw_tbl) (i := 1648) (by decide +kernel)
theorem tw_1474 : (Jvm.Cond.instanceMethod ({ cls := "MouthHouseModel", name := "leftOf", desc := "(I)I" } : Jvm.MethodName)) ∈ lw_tbl := List.mem_of_getElem? (l := lw_tbl) (i := 1647) (by decide +kernel)
theorem mV_X12_leftOf : am_mV m_X12_leftOf 1 := ⟨⟨tw_1475, tw_13, by decide +kernel, ⟨by decide +kernel, by decide +kernel, by decide +kernel⟩, by decide⟩, tw_1474, List.mem_of_getElem? (l := lw_tbl) (i := 145) (by decide +kernel)⟩
abbrev m_X12_isHeard : am_M := (yX12_isHeard, cX12_isHeard, 3, some .boolean)
theorem tw_1479 : (Jvm.Cond.code ({ cls := "MouthHouseModel", name := "isHeard", desc := "(I)Z" } : Jvm.MethodName) prog_14_method_49_code (3 : Nat) (Option.some Jvm.ClassFile.FieldType.boolean)) ∈ lw_tbl := List.mem_of_getElem? (l := lw_tbl) (i := 1652) (by decide +kernel)
theorem tw_1478 : (Jvm.Cond.instanceMethod ({ cls := "MouthHouseModel", name := "isHeard", desc := "(I)Z" } : Jvm.MethodName)) ∈ lw_tbl := List.mem_of_getElem? (l := lw_tbl) (i := 1651) (by decide +kernel)
theorem mV_X12_isHeard : am_mV m_X12_isHeard 1 := ⟨⟨tw_1479, tw_13, by decide +kernel, ⟨by decide +kernel, by decide +kernel, by decide +kernel⟩, by decide⟩, tw_1478, List.mem_of_getElem? (l := lw_tbl) (i := 146) (by decide +kernel)⟩
abbrev m_X12_isSwallowed : am_M := (yX12_isSwallowed, cX12_isSwallowed, 3, some .boolean)
theorem tw_1483 : (Jvm.Cond.code ({ cls := "MouthHouseModel", name := "isSwallowed", desc := "(II)Z" } : Jvm.MethodName) prog_14_method_48_code (3 : Nat) (Option.some Jvm.ClassFile.FieldType.boolean)) ∈ lw_tbl := List.mem_of_getElem? (l := lw_tbl) (i := 1656) (by decide +kernel)
theorem tw_1482 : (Jvm.Cond.instanceMethod ({ cls := "MouthHouseModel", name := "isSwallowed", desc := "(II)Z" } : Jvm.MethodName)) ∈ lw_tbl := List.mem_of_getElem? (l := lw_tbl) (i := 1655) (by decide +kernel)
theorem mV_X12_isSwallowed : am_mV m_X12_isSwallowed 2 := ⟨⟨tw_1483, tw_13, by decide +kernel, ⟨by decide +kernel, by decide +kernel, by decide +kernel⟩, by decide⟩, tw_1482, List.mem_of_getElem? (l := lw_tbl) (i := 147) (by decide +kernel)⟩
abbrev m_X12_seat : am_M := (yX12_seat, cX12_seat, 2, some .int)
theorem tw_1487 : (Jvm.Cond.code ({ cls := "MouthHouseModel", name := "seat", desc := "(I)I" } : Jvm.MethodName) prog_14_method_52_code (2 : Nat) (Option.some Jvm.ClassFile.FieldType.int)) ∈ lw_tbl := List.mem_of_getElem? (l := lw_tbl) (i := 1660) (by decide +kernel)
theorem tw_1486 : (Jvm.Cond.selects "MouthHouseModel" ({ cls := "MouthHouseModel", name := "seat", desc := "(I)I" } : Jvm.MethodName) ({ cls := "MouthHouseModel", name := "seat", desc := "(I)I" } : Jvm.MethodName)) ∈ lw_tbl := List.mem_of_getElem? (l := lw_tbl) (i := 1659) (by decide +kernel)
theorem tw_1485 : (Jvm.Cond.instanceMethod ({ cls := "MouthHouseModel", name := "seat", desc := "(I)I" } : Jvm.MethodName)) ∈ lw_tbl := List.mem_of_getElem? (l := lw_tbl) (i := 1658) (by decide +kernel)
theorem mV_X12_seat : am_mV m_X12_seat 1 := ⟨⟨tw_1487, tw_13, by decide +kernel, ⟨by decide +kernel, by decide +kernel, by decide +kernel⟩, by decide⟩, tw_1485, tw_1486⟩
abbrev m_X12_manners : am_M := (yX12_manners, cX12_manners, 2, some .boolean)
theorem tw_1491 : (Jvm.Cond.code ({ cls := "MouthHouseModel", name := "manners", desc := "(I)Z" } : Jvm.MethodName) prog_14_method_53_code (2 : Nat) (Option.some Jvm.ClassFile.FieldType.boolean)) ∈ lw_tbl := List.mem_of_getElem? (l := lw_tbl) (i := 1664) (by decide +kernel)
theorem tw_1490 : (Jvm.Cond.selects "MouthHouseModel" ({ cls := "MouthHouseModel", name := "manners", desc := "(I)Z" } : Jvm.MethodName) ({ cls := "MouthHouseModel", name := "manners", desc := "(I)Z" } : Jvm.MethodName)) ∈ lw_tbl := List.mem_of_getElem? (l := lw_tbl) (i := 1663) (by decide +kernel)
theorem tw_1489 : (Jvm.Cond.instanceMethod ({ cls := "MouthHouseModel", name := "manners", desc := "(I)Z" } : Jvm.MethodName)) ∈ lw_tbl := List.mem_of_getElem? (l := lw_tbl) (i := 1662) (by decide +kernel)
theorem mV_X12_manners : am_mV m_X12_manners 1 := ⟨⟨tw_1491, tw_13, by decide +kernel, ⟨by decide +kernel, by decide +kernel, by decide +kernel⟩, by decide⟩, tw_1489, tw_1490⟩
abbrev m_X12_set : am_M := (yX12_set, cX12_set, 5, some .boolean)
theorem tw_1495 : (Jvm.Cond.code ({ cls := "MouthHouseModel", name := "set", desc := "(III)Z" } : Jvm.MethodName) prog_14_method_54_code (5 : Nat) (Option.some Jvm.ClassFile.FieldType.boolean)) ∈ lw_tbl := List.mem_of_getElem? (l := lw_tbl) (i := 1668) (by decide +kernel)
theorem tw_1494 : (Jvm.Cond.selects "MouthHouseModel" ({ cls := "MouthHouseModel", name := "set", desc := "(III)Z" } : Jvm.MethodName) ({ cls := "MouthHouseModel", name := "set", desc := "(III)Z" } : Jvm.MethodName)) ∈ lw_tbl := List.mem_of_getElem? (l := lw_tbl) (i := 1667) (by decide +kernel)
theorem tw_1493 : (Jvm.Cond.instanceMethod ({ cls := "MouthHouseModel", name := "set", desc := "(III)Z" } : Jvm.MethodName)) ∈ lw_tbl := List.mem_of_getElem? (l := lw_tbl) (i := 1666) (by decide +kernel)
theorem mV_X12_set : am_mV m_X12_set 3 := ⟨⟨tw_1495, tw_13, by decide +kernel, ⟨by decide +kernel, by decide +kernel, by decide +kernel⟩, by decide⟩, tw_1493, tw_1494⟩
abbrev m_X12_change : am_M := (yX12_change, cX12_change, 3, some .boolean)
theorem tw_1499 : (Jvm.Cond.code ({ cls := "MouthHouseModel", name := "change", desc := "(II)Z" } : Jvm.MethodName) prog_14_method_56_code (3 : Nat) (Option.some Jvm.ClassFile.FieldType.boolean)) ∈ lw_tbl := List.mem_of_getElem? (l := lw_tbl) (i := 1672) (by decide +kernel)
theorem tw_1498 : (Jvm.Cond.selects "MouthHouseModel" ({ cls := "MouthHouseModel", name := "change", desc := "(II)Z" } : Jvm.MethodName) ({ cls := "MouthHouseModel", name := "change", desc := "(II)Z" } : Jvm.MethodName)) ∈ lw_tbl := List.mem_of_getElem? (l := lw_tbl) (i := 1671) (by decide +kernel)
theorem tw_1497 : (Jvm.Cond.instanceMethod ({ cls := "MouthHouseModel", name := "change", desc := "(II)Z" } : Jvm.MethodName)) ∈ lw_tbl := List.mem_of_getElem? (l := lw_tbl) (i := 1670) (by decide +kernel)
theorem mV_X12_change : am_mV m_X12_change 2 := ⟨⟨tw_1499, tw_13, by decide +kernel, ⟨by decide +kernel, by decide +kernel, by decide +kernel⟩, by decide⟩, tw_1497, tw_1498⟩
abbrev m_X12_swap : am_M := (yX12_swap, cX12_swap, 4, none)
theorem tw_1503 : (Jvm.Cond.code ({ cls := "MouthHouseModel", name := "swap", desc := "(II)V" } : Jvm.MethodName) prog_14_method_55_code (4 : Nat) (Option.none : Option Jvm.ClassFile.FieldType)) ∈ lw_tbl := List.mem_of_getElem? (l := lw_tbl) (i := 1676) (by decide +kernel)
theorem tw_1502 : (Jvm.Cond.instanceMethod ({ cls := "MouthHouseModel", name := "swap", desc := "(II)V" } : Jvm.MethodName)) ∈ lw_tbl := List.mem_of_getElem? (l := lw_tbl) (i := 1675) (by decide +kernel)
theorem mV_X12_swap : am_mV m_X12_swap 2 := ⟨⟨tw_1503, tw_13, by decide +kernel, ⟨by decide +kernel, by decide +kernel, by decide +kernel⟩, by decide⟩, tw_1502, List.mem_of_getElem? (l := lw_tbl) (i := 148) (by decide +kernel)⟩
abbrev m_X12_sit : am_M := (yX12_sit, cX12_sit, 4, some .boolean)
theorem tw_1507 : (Jvm.Cond.code ({ cls := "MouthHouseModel", name := "sit", desc := "(I)Z" } : Jvm.MethodName) prog_14_method_60_code (4 : Nat) (Option.some Jvm.ClassFile.FieldType.boolean)) ∈ lw_tbl := List.mem_of_getElem? (l := lw_tbl) (i := 1680) (by decide +kernel)
theorem tw_1506 : (Jvm.Cond.selects "MouthHouseModel" ({ cls := "MouthHouseModel", name := "sit", desc := "(I)Z" } : Jvm.MethodName) ({ cls := "MouthHouseModel", name := "sit", desc := "(I)Z" } : Jvm.MethodName)) ∈ lw_tbl := List.mem_of_getElem? (l := lw_tbl) (i := 1679) (by decide +kernel)
theorem tw_1505 : (Jvm.Cond.instanceMethod ({ cls := "MouthHouseModel", name := "sit", desc := "(I)Z" } : Jvm.MethodName)) ∈ lw_tbl := List.mem_of_getElem? (l := lw_tbl) (i := 1678) (by decide +kernel)
theorem mV_X12_sit : am_mV m_X12_sit 1 := ⟨⟨tw_1507, tw_13, by decide +kernel, ⟨by decide +kernel, by decide +kernel, by decide +kernel⟩, by decide⟩, tw_1505, tw_1506⟩
abbrev m_X12_ten : am_M := (yX12_ten, cX12_ten, 3, some .int)
theorem tw_1510 : (Jvm.Cond.code ({ cls := "MouthHouseModel", name := "ten", desc := "(I)I" } : Jvm.MethodName) prog_14_method_57_code (3 : Nat) (Option.some Jvm.ClassFile.FieldType.int)) ∈ lw_tbl := List.mem_of_getElem? (l := lw_tbl) (i := 1683) (by decide +kernel)
theorem tw_1509 : (Jvm.Cond.static ({ cls := "MouthHouseModel", name := "ten", desc := "(I)I" } : Jvm.MethodName)) ∈ lw_tbl := List.mem_of_getElem? (l := lw_tbl) (i := 1682) (by decide +kernel)
theorem mS_X12_ten : am_mS m_X12_ten 1 := ⟨⟨tw_1510, tw_13, by decide +kernel, ⟨by decide +kernel, by decide +kernel, by decide +kernel⟩, by decide⟩, tw_1509⟩
abbrev m_X12_write : am_M := (yX12_write, cX12_write, 3, none)
theorem tw_1514 : (Jvm.Cond.code ({ cls := "MouthHouseModel", name := "write", desc := "(I)V" } : Jvm.MethodName) prog_14_method_58_code (3 : Nat) (Option.none : Option Jvm.ClassFile.FieldType)) ∈ lw_tbl := List.mem_of_getElem? (l := lw_tbl) (i := 1687) (by decide +kernel)
theorem tw_1513 : (Jvm.Cond.instanceMethod ({ cls := "MouthHouseModel", name := "write", desc := "(I)V" } : Jvm.MethodName)) ∈ lw_tbl := List.mem_of_getElem? (l := lw_tbl) (i := 1686) (by decide +kernel)
theorem mV_X12_write : am_mV m_X12_write 1 := ⟨⟨tw_1514, tw_13, by decide +kernel, ⟨by decide +kernel, by decide +kernel, by decide +kernel⟩, by decide⟩, tw_1513, List.mem_of_getElem? (l := lw_tbl) (i := 149) (by decide +kernel)⟩
abbrev m_X12_round : am_M := (yX12_round, cX12_round, 4, some .long)
theorem tw_1518 : (Jvm.Cond.code ({ cls := "MouthHouseModel", name := "round", desc := "(III)J" } : Jvm.MethodName) prog_14_method_62_code (4 : Nat) (Option.some Jvm.ClassFile.FieldType.long)) ∈ lw_tbl := List.mem_of_getElem? (l := lw_tbl) (i := 1691) (by decide +kernel)
theorem tw_1517 : (Jvm.Cond.selects "MouthHouseModel" ({ cls := "MouthHouseModel", name := "round", desc := "(III)J" } : Jvm.MethodName) ({ cls := "MouthHouseModel", name := "round", desc := "(III)J" } : Jvm.MethodName)) ∈ lw_tbl := List.mem_of_getElem? (l := lw_tbl) (i := 1690) (by decide +kernel)
theorem tw_1516 : (Jvm.Cond.instanceMethod ({ cls := "MouthHouseModel", name := "round", desc := "(III)J" } : Jvm.MethodName)) ∈ lw_tbl := List.mem_of_getElem? (l := lw_tbl) (i := 1689) (by decide +kernel)
theorem mV_X12_round : am_mV m_X12_round 3 := ⟨⟨tw_1518, tw_13, by decide +kernel, ⟨by decide +kernel, by decide +kernel, by decide +kernel⟩, by decide⟩, tw_1516, tw_1517⟩
abbrev m_X12_goRound : am_M := (yX12_goRound, cX12_goRound, 7, none)
theorem tw_1523 : (Jvm.Cond.code ({ cls := "MouthHouseModel", name := "goRound", desc := "(II)V" } : Jvm.MethodName) prog_14_method_61_code (7 : Nat) (Option.none : Option Jvm.ClassFile.FieldType)) ∈ lw_tbl := List.mem_of_getElem? (l := lw_tbl) (i := 1696) (by decide +kernel)
theorem tw_1522 : (Jvm.Cond.instanceMethod ({ cls := "MouthHouseModel", name := "goRound", desc := "(II)V" } : Jvm.MethodName)) ∈ lw_tbl := List.mem_of_getElem? (l := lw_tbl) (i := 1695) (by decide +kernel)
theorem mV_X12_goRound : am_mV m_X12_goRound 2 := ⟨⟨tw_1523, tw_13, by decide +kernel, ⟨by decide +kernel, by decide +kernel, by decide +kernel⟩, by decide⟩, tw_1522, List.mem_of_getElem? (l := lw_tbl) (i := 150) (by decide +kernel)⟩
abbrev m_X12_errorOf : am_M := (yX12_errorOf, cX12_errorOf, 2, some .int)
theorem tw_1527 : (Jvm.Cond.code ({ cls := "MouthHouseModel", name := "errorOf", desc := "(I)I" } : Jvm.MethodName) prog_14_method_50_code (2 : Nat) (Option.some Jvm.ClassFile.FieldType.int)) ∈ lw_tbl := List.mem_of_getElem? (l := lw_tbl) (i := 1700) (by decide +kernel)
theorem tw_1526 : (Jvm.Cond.instanceMethod ({ cls := "MouthHouseModel", name := "errorOf", desc := "(I)I" } : Jvm.MethodName)) ∈ lw_tbl := List.mem_of_getElem? (l := lw_tbl) (i := 1699) (by decide +kernel)
theorem mV_X12_errorOf : am_mV m_X12_errorOf 1 := ⟨⟨tw_1527, tw_13, by decide +kernel, ⟨by decide +kernel, by decide +kernel, by decide +kernel⟩, by decide⟩, tw_1526, List.mem_of_getElem? (l := lw_tbl) (i := 151) (by decide +kernel)⟩
abbrev m_X12_tally : am_M := (yX12_tally, cX12_tally, 2, some .int)
theorem tw_1532 : (Jvm.Cond.code ({ cls := "MouthHouseModel", name := "tally", desc := "(I)I" } : Jvm.MethodName) prog_14_method_65_code (2 : Nat) (Option.some Jvm.ClassFile.FieldType.int)) ∈ lw_tbl := List.mem_of_getElem? (l := lw_tbl) (i := 1705) (by decide +kernel)
theorem tw_1531 : (Jvm.Cond.selects "MouthHouseModel" ({ cls := "MouthHouseModel", name := "tally", desc := "(I)I" } : Jvm.MethodName) ({ cls := "MouthHouseModel", name := "tally", desc := "(I)I" } : Jvm.MethodName)) ∈ lw_tbl := List.mem_of_getElem? (l := lw_tbl) (i := 1704) (by decide +kernel)
theorem tw_1530 : (Jvm.Cond.instanceMethod ({ cls := "MouthHouseModel", name := "tally", desc := "(I)I" } : Jvm.MethodName)) ∈ lw_tbl := List.mem_of_getElem? (l := lw_tbl) (i := 1703) (by decide +kernel)
theorem mV_X12_tally : am_mV m_X12_tally 1 := ⟨⟨tw_1532, tw_13, by decide +kernel, ⟨by decide +kernel, by decide +kernel, by decide +kernel⟩, by decide⟩, tw_1530, tw_1531⟩
abbrev m_X12_heardMany : am_M := (yX12_heardMany, cX12_heardMany, 3, some .int)
theorem tw_1536 : (Jvm.Cond.code ({ cls := "MouthHouseModel", name := "heardMany", desc := "()I" } : Jvm.MethodName) prog_14_method_63_code (3 : Nat) (Option.some Jvm.ClassFile.FieldType.int)) ∈ lw_tbl := List.mem_of_getElem? (l := lw_tbl) (i := 1709) (by decide +kernel)
theorem tw_1535 : (Jvm.Cond.instanceMethod ({ cls := "MouthHouseModel", name := "heardMany", desc := "()I" } : Jvm.MethodName)) ∈ lw_tbl := List.mem_of_getElem? (l := lw_tbl) (i := 1708) (by decide +kernel)
theorem mV_X12_heardMany : am_mV m_X12_heardMany 0 := ⟨⟨tw_1536, tw_13, by decide +kernel, ⟨by decide +kernel, by decide +kernel, by decide +kernel⟩, by decide⟩, tw_1535, List.mem_of_getElem? (l := lw_tbl) (i := 152) (by decide +kernel)⟩
abbrev m_X12_yesMany : am_M := (yX12_yesMany, cX12_yesMany, 4, some .int)
theorem tw_1540 : (Jvm.Cond.code ({ cls := "MouthHouseModel", name := "yesMany", desc := "(I)I" } : Jvm.MethodName) prog_14_method_64_code (4 : Nat) (Option.some Jvm.ClassFile.FieldType.int)) ∈ lw_tbl := List.mem_of_getElem? (l := lw_tbl) (i := 1713) (by decide +kernel)
theorem tw_1539 : (Jvm.Cond.instanceMethod ({ cls := "MouthHouseModel", name := "yesMany", desc := "(I)I" } : Jvm.MethodName)) ∈ lw_tbl := List.mem_of_getElem? (l := lw_tbl) (i := 1712) (by decide +kernel)
theorem mV_X12_yesMany : am_mV m_X12_yesMany 1 := ⟨⟨tw_1540, tw_13, by decide +kernel, ⟨by decide +kernel, by decide +kernel, by decide +kernel⟩, by decide⟩, tw_1539, List.mem_of_getElem? (l := lw_tbl) (i := 153) (by decide +kernel)⟩
abbrev m_X12_odds : am_M := (yX12_odds, cX12_odds, 2, some .long)
theorem tw_1544 : (Jvm.Cond.code ({ cls := "MouthHouseModel", name := "odds", desc := "(I)J" } : Jvm.MethodName) prog_14_method_67_code (2 : Nat) (Option.some Jvm.ClassFile.FieldType.long)) ∈ lw_tbl := List.mem_of_getElem? (l := lw_tbl) (i := 1717) (by decide +kernel)
theorem tw_1543 : (Jvm.Cond.selects "MouthHouseModel" ({ cls := "MouthHouseModel", name := "odds", desc := "(I)J" } : Jvm.MethodName) ({ cls := "MouthHouseModel", name := "odds", desc := "(I)J" } : Jvm.MethodName)) ∈ lw_tbl := List.mem_of_getElem? (l := lw_tbl) (i := 1716) (by decide +kernel)
theorem tw_1542 : (Jvm.Cond.instanceMethod ({ cls := "MouthHouseModel", name := "odds", desc := "(I)J" } : Jvm.MethodName)) ∈ lw_tbl := List.mem_of_getElem? (l := lw_tbl) (i := 1715) (by decide +kernel)
theorem mV_X12_odds : am_mV m_X12_odds 1 := ⟨⟨tw_1544, tw_13, by decide +kernel, ⟨by decide +kernel, by decide +kernel, by decide +kernel⟩, by decide⟩, tw_1542, tw_1543⟩
abbrev m_X12_layParts : am_M := (yX12_layParts, cX12_layParts, 6, none)
theorem tw_1548 : (Jvm.Cond.code ({ cls := "MouthHouseModel", name := "layParts", desc := "(I)V" } : Jvm.MethodName) prog_14_method_66_code (6 : Nat) (Option.none : Option Jvm.ClassFile.FieldType)) ∈ lw_tbl := List.mem_of_getElem? (l := lw_tbl) (i := 1721) (by decide +kernel)
theorem tw_1547 : (Jvm.Cond.instanceMethod ({ cls := "MouthHouseModel", name := "layParts", desc := "(I)V" } : Jvm.MethodName)) ∈ lw_tbl := List.mem_of_getElem? (l := lw_tbl) (i := 1720) (by decide +kernel)
theorem mV_X12_layParts : am_mV m_X12_layParts 1 := ⟨⟨tw_1548, tw_13, by decide +kernel, ⟨by decide +kernel, by decide +kernel, by decide +kernel⟩, by decide⟩, tw_1547, List.mem_of_getElem? (l := lw_tbl) (i := 154) (by decide +kernel)⟩
abbrev m_X12_passed : am_M := (yX12_passed, cX12_passed, 1, some .long)
theorem tw_1552 : (Jvm.Cond.code ({ cls := "MouthHouseModel", name := "passed", desc := "()J" } : Jvm.MethodName) prog_14_method_69_code (1 : Nat) (Option.some Jvm.ClassFile.FieldType.long)) ∈ lw_tbl := List.mem_of_getElem? (l := lw_tbl) (i := 1725) (by decide +kernel)
theorem tw_1551 : (Jvm.Cond.selects "MouthHouseModel" ({ cls := "MouthHouseModel", name := "passed", desc := "()J" } : Jvm.MethodName) ({ cls := "MouthHouseModel", name := "passed", desc := "()J" } : Jvm.MethodName)) ∈ lw_tbl := List.mem_of_getElem? (l := lw_tbl) (i := 1724) (by decide +kernel)
theorem tw_1550 : (Jvm.Cond.instanceMethod ({ cls := "MouthHouseModel", name := "passed", desc := "()J" } : Jvm.MethodName)) ∈ lw_tbl := List.mem_of_getElem? (l := lw_tbl) (i := 1723) (by decide +kernel)
theorem mV_X12_passed : am_mV m_X12_passed 0 := ⟨⟨tw_1552, tw_13, by decide +kernel, ⟨by decide +kernel, by decide +kernel, by decide +kernel⟩, by decide⟩, tw_1550, tw_1551⟩
abbrev m_X12_passedParts : am_M := (yX12_passedParts, cX12_passedParts, 6, some .long)
theorem tw_1556 : (Jvm.Cond.code ({ cls := "MouthHouseModel", name := "passedParts", desc := "(Z)J" } : Jvm.MethodName) prog_14_method_68_code (6 : Nat) (Option.some Jvm.ClassFile.FieldType.long)) ∈ lw_tbl := List.mem_of_getElem? (l := lw_tbl) (i := 1729) (by decide +kernel)
theorem tw_1555 : (Jvm.Cond.instanceMethod ({ cls := "MouthHouseModel", name := "passedParts", desc := "(Z)J" } : Jvm.MethodName)) ∈ lw_tbl := List.mem_of_getElem? (l := lw_tbl) (i := 1728) (by decide +kernel)
theorem mV_X12_passedParts : am_mV m_X12_passedParts 1 := ⟨⟨tw_1556, tw_13, by decide +kernel, ⟨by decide +kernel, by decide +kernel, by decide +kernel⟩, by decide⟩, tw_1555, List.mem_of_getElem? (l := lw_tbl) (i := 155) (by decide +kernel)⟩
abbrev m_X12_turner : am_M := (yX12_turner, cX12_turner, 7, some .int)
theorem tw_1560 : (Jvm.Cond.code ({ cls := "MouthHouseModel", name := "turner", desc := "()I" } : Jvm.MethodName) prog_14_method_71_code (7 : Nat) (Option.some Jvm.ClassFile.FieldType.int)) ∈ lw_tbl := List.mem_of_getElem? (l := lw_tbl) (i := 1733) (by decide +kernel)
theorem tw_1559 : (Jvm.Cond.selects "MouthHouseModel" ({ cls := "MouthHouseModel", name := "turner", desc := "()I" } : Jvm.MethodName) ({ cls := "MouthHouseModel", name := "turner", desc := "()I" } : Jvm.MethodName)) ∈ lw_tbl := List.mem_of_getElem? (l := lw_tbl) (i := 1732) (by decide +kernel)
theorem tw_1558 : (Jvm.Cond.instanceMethod ({ cls := "MouthHouseModel", name := "turner", desc := "()I" } : Jvm.MethodName)) ∈ lw_tbl := List.mem_of_getElem? (l := lw_tbl) (i := 1731) (by decide +kernel)
theorem mV_X12_turner : am_mV m_X12_turner 0 := ⟨⟨tw_1560, tw_13, by decide +kernel, ⟨by decide +kernel, by decide +kernel, by decide +kernel⟩, by decide⟩, tw_1558, tw_1559⟩
abbrev m_X12_doesPass : am_M := (yX12_doesPass, cX12_doesPass, 2, some .boolean)
theorem tw_1564 : (Jvm.Cond.code ({ cls := "MouthHouseModel", name := "doesPass", desc := "(I)Z" } : Jvm.MethodName) prog_14_method_70_code (2 : Nat) (Option.some Jvm.ClassFile.FieldType.boolean)) ∈ lw_tbl := List.mem_of_getElem? (l := lw_tbl) (i := 1737) (by decide +kernel)
theorem tw_1563 : (Jvm.Cond.instanceMethod ({ cls := "MouthHouseModel", name := "doesPass", desc := "(I)Z" } : Jvm.MethodName)) ∈ lw_tbl := List.mem_of_getElem? (l := lw_tbl) (i := 1736) (by decide +kernel)
theorem mV_X12_doesPass : am_mV m_X12_doesPass 1 := ⟨⟨tw_1564, tw_13, by decide +kernel, ⟨by decide +kernel, by decide +kernel, by decide +kernel⟩, by decide⟩, tw_1563, List.mem_of_getElem? (l := lw_tbl) (i := 156) (by decide +kernel)⟩
abbrev m_X12_bribe : am_M := (yX12_bribe, cX12_bribe, 8, some .int)
theorem tw_1568 : (Jvm.Cond.code ({ cls := "MouthHouseModel", name := "bribe", desc := "(I)I" } : Jvm.MethodName) prog_14_method_72_code (8 : Nat) (Option.some Jvm.ClassFile.FieldType.int)) ∈ lw_tbl := List.mem_of_getElem? (l := lw_tbl) (i := 1741) (by decide +kernel)
theorem tw_1567 : (Jvm.Cond.selects "MouthHouseModel" ({ cls := "MouthHouseModel", name := "bribe", desc := "(I)I" } : Jvm.MethodName) ({ cls := "MouthHouseModel", name := "bribe", desc := "(I)I" } : Jvm.MethodName)) ∈ lw_tbl := List.mem_of_getElem? (l := lw_tbl) (i := 1740) (by decide +kernel)
theorem tw_1566 : (Jvm.Cond.instanceMethod ({ cls := "MouthHouseModel", name := "bribe", desc := "(I)I" } : Jvm.MethodName)) ∈ lw_tbl := List.mem_of_getElem? (l := lw_tbl) (i := 1739) (by decide +kernel)
theorem mV_X12_bribe : am_mV m_X12_bribe 1 := ⟨⟨tw_1568, tw_13, by decide +kernel, ⟨by decide +kernel, by decide +kernel, by decide +kernel⟩, by decide⟩, tw_1566, tw_1567⟩
abbrev m_X12_yawn : am_M := (yX12_yawn, cX12_yawn, 3, some .int)
theorem tw_1572 : (Jvm.Cond.code ({ cls := "MouthHouseModel", name := "yawn", desc := "(II)I" } : Jvm.MethodName) prog_14_method_75_code (3 : Nat) (Option.some Jvm.ClassFile.FieldType.int)) ∈ lw_tbl := List.mem_of_getElem? (l := lw_tbl) (i := 1745) (by decide +kernel)
theorem tw_1571 : (Jvm.Cond.selects "MouthHouseModel" ({ cls := "MouthHouseModel", name := "yawn", desc := "(II)I" } : Jvm.MethodName) ({ cls := "MouthHouseModel", name := "yawn", desc := "(II)I" } : Jvm.MethodName)) ∈ lw_tbl := List.mem_of_getElem? (l := lw_tbl) (i := 1744) (by decide +kernel)
theorem tw_1570 : (Jvm.Cond.instanceMethod ({ cls := "MouthHouseModel", name := "yawn", desc := "(II)I" } : Jvm.MethodName)) ∈ lw_tbl := List.mem_of_getElem? (l := lw_tbl) (i := 1743) (by decide +kernel)
theorem mV_X12_yawn : am_mV m_X12_yawn 2 := ⟨⟨tw_1572, tw_13, by decide +kernel, ⟨by decide +kernel, by decide +kernel, by decide +kernel⟩, by decide⟩, tw_1570, tw_1571⟩
abbrev m_X12_layYawns : am_M := (yX12_layYawns, cX12_layYawns, 5, none)
theorem tw_1576 : (Jvm.Cond.code ({ cls := "MouthHouseModel", name := "layYawns", desc := "(I)V" } : Jvm.MethodName) prog_14_method_73_code (5 : Nat) (Option.none : Option Jvm.ClassFile.FieldType)) ∈ lw_tbl := List.mem_of_getElem? (l := lw_tbl) (i := 1749) (by decide +kernel)
theorem tw_1575 : (Jvm.Cond.instanceMethod ({ cls := "MouthHouseModel", name := "layYawns", desc := "(I)V" } : Jvm.MethodName)) ∈ lw_tbl := List.mem_of_getElem? (l := lw_tbl) (i := 1748) (by decide +kernel)
theorem mV_X12_layYawns : am_mV m_X12_layYawns 1 := ⟨⟨tw_1576, tw_13, by decide +kernel, ⟨by decide +kernel, by decide +kernel, by decide +kernel⟩, by decide⟩, tw_1575, List.mem_of_getElem? (l := lw_tbl) (i := 157) (by decide +kernel)⟩
abbrev m_X12_catchYawn : am_M := (yX12_catchYawn, cX12_catchYawn, 4, none)
theorem tw_1580 : (Jvm.Cond.code ({ cls := "MouthHouseModel", name := "catchYawn", desc := "(II)V" } : Jvm.MethodName) prog_14_method_74_code (4 : Nat) (Option.none : Option Jvm.ClassFile.FieldType)) ∈ lw_tbl := List.mem_of_getElem? (l := lw_tbl) (i := 1753) (by decide +kernel)
theorem tw_1579 : (Jvm.Cond.instanceMethod ({ cls := "MouthHouseModel", name := "catchYawn", desc := "(II)V" } : Jvm.MethodName)) ∈ lw_tbl := List.mem_of_getElem? (l := lw_tbl) (i := 1752) (by decide +kernel)
theorem mV_X12_catchYawn : am_mV m_X12_catchYawn 2 := ⟨⟨tw_1580, tw_13, by decide +kernel, ⟨by decide +kernel, by decide +kernel, by decide +kernel⟩, by decide⟩, tw_1579, List.mem_of_getElem? (l := lw_tbl) (i := 158) (by decide +kernel)⟩
abbrev m_X12_yawns : am_M := (yX12_yawns, cX12_yawns, 6, some .int)
theorem tw_1585 : (Jvm.Cond.code ({ cls := "MouthHouseModel", name := "yawns", desc := "(II)I" } : Jvm.MethodName) prog_14_method_76_code (6 : Nat) (Option.some Jvm.ClassFile.FieldType.int)) ∈ lw_tbl := List.mem_of_getElem? (l := lw_tbl) (i := 1758) (by decide +kernel)
theorem tw_1584 : (Jvm.Cond.selects "MouthHouseModel" ({ cls := "MouthHouseModel", name := "yawns", desc := "(II)I" } : Jvm.MethodName) ({ cls := "MouthHouseModel", name := "yawns", desc := "(II)I" } : Jvm.MethodName)) ∈ lw_tbl := List.mem_of_getElem? (l := lw_tbl) (i := 1757) (by decide +kernel)
theorem tw_1583 : (Jvm.Cond.instanceMethod ({ cls := "MouthHouseModel", name := "yawns", desc := "(II)I" } : Jvm.MethodName)) ∈ lw_tbl := List.mem_of_getElem? (l := lw_tbl) (i := 1756) (by decide +kernel)
theorem mV_X12_yawns : am_mV m_X12_yawns 2 := ⟨⟨tw_1585, tw_13, by decide +kernel, ⟨by decide +kernel, by decide +kernel, by decide +kernel⟩, by decide⟩, tw_1583, tw_1584⟩
abbrev m_X12_ill : am_M := (yX12_ill, cX12_ill, 1, some .int)
theorem tw_1590 : (Jvm.Cond.code ({ cls := "MouthHouseModel", name := "ill", desc := "()I" } : Jvm.MethodName) prog_14_method_79_code (1 : Nat) (Option.some Jvm.ClassFile.FieldType.int)) ∈ lw_tbl := List.mem_of_getElem? (l := lw_tbl) (i := 1763) (by decide +kernel)
theorem tw_1589 : (Jvm.Cond.selects "MouthHouseModel" ({ cls := "MouthHouseModel", name := "ill", desc := "()I" } : Jvm.MethodName) ({ cls := "MouthHouseModel", name := "ill", desc := "()I" } : Jvm.MethodName)) ∈ lw_tbl := List.mem_of_getElem? (l := lw_tbl) (i := 1762) (by decide +kernel)
theorem tw_1588 : (Jvm.Cond.instanceMethod ({ cls := "MouthHouseModel", name := "ill", desc := "()I" } : Jvm.MethodName)) ∈ lw_tbl := List.mem_of_getElem? (l := lw_tbl) (i := 1761) (by decide +kernel)
theorem mV_X12_ill : am_mV m_X12_ill 0 := ⟨⟨tw_1590, tw_13, by decide +kernel, ⟨by decide +kernel, by decide +kernel, by decide +kernel⟩, by decide⟩, tw_1588, tw_1589⟩
abbrev m_X12_illOf : am_M := (yX12_illOf, cX12_illOf, 4, some .int)
theorem tw_1595 : (Jvm.Cond.code ({ cls := "MouthHouseModel", name := "illOf", desc := "()I" } : Jvm.MethodName) prog_14_method_77_code (4 : Nat) (Option.some Jvm.ClassFile.FieldType.int)) ∈ lw_tbl := List.mem_of_getElem? (l := lw_tbl) (i := 1768) (by decide +kernel)
theorem tw_1594 : (Jvm.Cond.instanceMethod ({ cls := "MouthHouseModel", name := "illOf", desc := "()I" } : Jvm.MethodName)) ∈ lw_tbl := List.mem_of_getElem? (l := lw_tbl) (i := 1767) (by decide +kernel)
theorem mV_X12_illOf : am_mV m_X12_illOf 0 := ⟨⟨tw_1595, tw_13, by decide +kernel, ⟨by decide +kernel, by decide +kernel, by decide +kernel⟩, by decide⟩, tw_1594, List.mem_of_getElem? (l := lw_tbl) (i := 159) (by decide +kernel)⟩
abbrev m_X12_illBeside : am_M := (yX12_illBeside, cX12_illBeside, 5, some .int)
theorem tw_1599 : (Jvm.Cond.code ({ cls := "MouthHouseModel", name := "illBeside", desc := "(III)I" } : Jvm.MethodName) prog_14_method_78_code (5 : Nat) (Option.some Jvm.ClassFile.FieldType.int)) ∈ lw_tbl := List.mem_of_getElem? (l := lw_tbl) (i := 1772) (by decide +kernel)
theorem tw_1598 : (Jvm.Cond.instanceMethod ({ cls := "MouthHouseModel", name := "illBeside", desc := "(III)I" } : Jvm.MethodName)) ∈ lw_tbl := List.mem_of_getElem? (l := lw_tbl) (i := 1771) (by decide +kernel)
theorem mV_X12_illBeside : am_mV m_X12_illBeside 3 := ⟨⟨tw_1599, tw_13, by decide +kernel, ⟨by decide +kernel, by decide +kernel, by decide +kernel⟩, by decide⟩, tw_1598, List.mem_of_getElem? (l := lw_tbl) (i := 160) (by decide +kernel)⟩
abbrev m_X12_worthOf : am_M := (yX12_worthOf, cX12_worthOf, 3, some .int)
theorem tw_1603 : (Jvm.Cond.code ({ cls := "MouthHouseModel", name := "worthOf", desc := "(I)I" } : Jvm.MethodName) prog_14_method_33_code (3 : Nat) (Option.some Jvm.ClassFile.FieldType.int)) ∈ lw_tbl := List.mem_of_getElem? (l := lw_tbl) (i := 1776) (by decide +kernel)
theorem tw_1602 : (Jvm.Cond.instanceMethod ({ cls := "MouthHouseModel", name := "worthOf", desc := "(I)I" } : Jvm.MethodName)) ∈ lw_tbl := List.mem_of_getElem? (l := lw_tbl) (i := 1775) (by decide +kernel)
theorem mV_X12_worthOf : am_mV m_X12_worthOf 1 := ⟨⟨tw_1603, tw_13, by decide +kernel, ⟨by decide +kernel, by decide +kernel, by decide +kernel⟩, by decide⟩, tw_1602, List.mem_of_getElem? (l := lw_tbl) (i := 161) (by decide +kernel)⟩
abbrev m_X12_workOut : am_M := (yX12_workOut, cX12_workOut, 6, some .int)
theorem tw_1607 : (Jvm.Cond.code ({ cls := "MouthHouseModel", name := "workOut", desc := "(III)I" } : Jvm.MethodName) prog_14_method_32_code (6 : Nat) (Option.some Jvm.ClassFile.FieldType.int)) ∈ lw_tbl := List.mem_of_getElem? (l := lw_tbl) (i := 1780) (by decide +kernel)
theorem tw_1606 : (Jvm.Cond.instanceMethod ({ cls := "MouthHouseModel", name := "workOut", desc := "(III)I" } : Jvm.MethodName)) ∈ lw_tbl := List.mem_of_getElem? (l := lw_tbl) (i := 1779) (by decide +kernel)
theorem mV_X12_workOut : am_mV m_X12_workOut 3 := ⟨⟨tw_1607, tw_13, by decide +kernel, ⟨by decide +kernel, by decide +kernel, by decide +kernel⟩, by decide⟩, tw_1606, List.mem_of_getElem? (l := lw_tbl) (i := 162) (by decide +kernel)⟩
abbrev m_X12_worked : am_M := (yX12_worked, cX12_worked, 5, some .int)
theorem tw_1610 : (Jvm.Cond.code ({ cls := "MouthHouseModel", name := "worked", desc := "(IJJ)I" } : Jvm.MethodName) prog_14_method_31_code (5 : Nat) (Option.some Jvm.ClassFile.FieldType.int)) ∈ lw_tbl := List.mem_of_getElem? (l := lw_tbl) (i := 1783) (by decide +kernel)
theorem tw_1609 : (Jvm.Cond.static ({ cls := "MouthHouseModel", name := "worked", desc := "(IJJ)I" } : Jvm.MethodName)) ∈ lw_tbl := List.mem_of_getElem? (l := lw_tbl) (i := 1782) (by decide +kernel)
theorem mS_X12_worked : am_mS m_X12_worked 3 := ⟨⟨tw_1610, tw_13, by decide +kernel, ⟨by decide +kernel, by decide +kernel, by decide +kernel⟩, by decide⟩, tw_1609⟩
abbrev m_X12_bounded : am_M := (yX12_bounded, cX12_bounded, 2, some .int)
theorem tw_1613 : (Jvm.Cond.code ({ cls := "MouthHouseModel", name := "bounded", desc := "(J)I" } : Jvm.MethodName) prog_14_method_30_code (2 : Nat) (Option.some Jvm.ClassFile.FieldType.int)) ∈ lw_tbl := List.mem_of_getElem? (l := lw_tbl) (i := 1786) (by decide +kernel)
theorem tw_1612 : (Jvm.Cond.static ({ cls := "MouthHouseModel", name := "bounded", desc := "(J)I" } : Jvm.MethodName)) ∈ lw_tbl := List.mem_of_getElem? (l := lw_tbl) (i := 1785) (by decide +kernel)
theorem mS_X12_bounded : am_mS m_X12_bounded 1 := ⟨⟨tw_1613, tw_13, by decide +kernel, ⟨by decide +kernel, by decide +kernel, by decide +kernel⟩, by decide⟩, tw_1612⟩
theorem tw_1618 : (Jvm.Cond.code ({ cls := "java/lang/Math", name := "min", desc := "(JJ)J" } : Jvm.MethodName) prog_18_method_70_code (4 : Nat) (Option.some Jvm.ClassFile.FieldType.long)) ∈ lw_tbl := List.mem_of_getElem? (l := lw_tbl) (i := 1791) (by decide +kernel)
theorem jc_J9_min_f86c9 : Cond.code Lib.MathLoose.min_long.x Lib.MathLoose.min_long.code 4 (some .long) ∈ lw_tbl := tw_1618
theorem tw_1617 : (Jvm.Cond.static ({ cls := "java/lang/Math", name := "min", desc := "(JJ)J" } : Jvm.MethodName)) ∈ lw_tbl := List.mem_of_getElem? (l := lw_tbl) (i := 1790) (by decide +kernel)
theorem js_J9_min_f86c9 : Cond.static Lib.MathLoose.min_long.x ∈ lw_tbl := tw_1617
theorem tw_1621 : (Jvm.Cond.code ({ cls := "java/lang/Math", name := "max", desc := "(JJ)J" } : Jvm.MethodName) prog_18_method_66_code (4 : Nat) (Option.some Jvm.ClassFile.FieldType.long)) ∈ lw_tbl := List.mem_of_getElem? (l := lw_tbl) (i := 1794) (by decide +kernel)
theorem jc_J9_max_f86c9 : Cond.code Lib.MathLoose.max_long.x Lib.MathLoose.max_long.code 4 (some .long) ∈ lw_tbl := tw_1621
theorem tw_1620 : (Jvm.Cond.static ({ cls := "java/lang/Math", name := "max", desc := "(JJ)J" } : Jvm.MethodName)) ∈ lw_tbl := List.mem_of_getElem? (l := lw_tbl) (i := 1793) (by decide +kernel)
theorem js_J9_max_f86c9 : Cond.static Lib.MathLoose.max_long.x ∈ lw_tbl := tw_1620
abbrev m_X12_best : am_M := (yX12_best, cX12_best, 8, some .int)
theorem tw_1625 : (Jvm.Cond.code ({ cls := "MouthHouseModel", name := "best", desc := "(II)I" } : Jvm.MethodName) prog_14_method_83_code (8 : Nat) (Option.some Jvm.ClassFile.FieldType.int)) ∈ lw_tbl := List.mem_of_getElem? (l := lw_tbl) (i := 1798) (by decide +kernel)
theorem tw_1624 : (Jvm.Cond.selects "MouthHouseModel" ({ cls := "MouthHouseModel", name := "best", desc := "(II)I" } : Jvm.MethodName) ({ cls := "MouthHouseModel", name := "best", desc := "(II)I" } : Jvm.MethodName)) ∈ lw_tbl := List.mem_of_getElem? (l := lw_tbl) (i := 1797) (by decide +kernel)
theorem tw_1623 : (Jvm.Cond.instanceMethod ({ cls := "MouthHouseModel", name := "best", desc := "(II)I" } : Jvm.MethodName)) ∈ lw_tbl := List.mem_of_getElem? (l := lw_tbl) (i := 1796) (by decide +kernel)
theorem mV_X12_best : am_mV m_X12_best 2 := ⟨⟨tw_1625, tw_13, by decide +kernel, ⟨by decide +kernel, by decide +kernel, by decide +kernel⟩, by decide⟩, tw_1623, tw_1624⟩
abbrev m_X12_digits : am_M := (yX12_digits, cX12_digits, 3, some .int)
theorem tw_1629 : (Jvm.Cond.code ({ cls := "MouthHouseModel", name := "digits", desc := "()I" } : Jvm.MethodName) prog_14_method_59_code (3 : Nat) (Option.some Jvm.ClassFile.FieldType.int)) ∈ lw_tbl := List.mem_of_getElem? (l := lw_tbl) (i := 1802) (by decide +kernel)
theorem tw_1628 : (Jvm.Cond.instanceMethod ({ cls := "MouthHouseModel", name := "digits", desc := "()I" } : Jvm.MethodName)) ∈ lw_tbl := List.mem_of_getElem? (l := lw_tbl) (i := 1801) (by decide +kernel)
theorem mV_X12_digits : am_mV m_X12_digits 0 := ⟨⟨tw_1629, tw_13, by decide +kernel, ⟨by decide +kernel, by decide +kernel, by decide +kernel⟩, by decide⟩, tw_1628, List.mem_of_getElem? (l := lw_tbl) (i := 163) (by decide +kernel)⟩
abbrev m_X12_laySeatings : am_M := (yX12_laySeatings, cX12_laySeatings, 1, none)
theorem tw_1633 : (Jvm.Cond.code ({ cls := "MouthHouseModel", name := "laySeatings", desc := "()V" } : Jvm.MethodName) prog_14_method_82_code (1 : Nat) (Option.none : Option Jvm.ClassFile.FieldType)) ∈ lw_tbl := List.mem_of_getElem? (l := lw_tbl) (i := 1806) (by decide +kernel)
theorem tw_1632 : (Jvm.Cond.instanceMethod ({ cls := "MouthHouseModel", name := "laySeatings", desc := "()V" } : Jvm.MethodName)) ∈ lw_tbl := List.mem_of_getElem? (l := lw_tbl) (i := 1805) (by decide +kernel)
theorem mV_X12_laySeatings : am_mV m_X12_laySeatings 0 := ⟨⟨tw_1633, tw_13, by decide +kernel, ⟨by decide +kernel, by decide +kernel, by decide +kernel⟩, by decide⟩, tw_1632, List.mem_of_getElem? (l := lw_tbl) (i := 164) (by decide +kernel)⟩
abbrev m_X12_build : am_M := (yX12_build, cX12_build, 4, none)
theorem tw_1637 : (Jvm.Cond.code ({ cls := "MouthHouseModel", name := "build", desc := "(II)V" } : Jvm.MethodName) prog_14_method_81_code (4 : Nat) (Option.none : Option Jvm.ClassFile.FieldType)) ∈ lw_tbl := List.mem_of_getElem? (l := lw_tbl) (i := 1810) (by decide +kernel)
theorem tw_1636 : (Jvm.Cond.instanceMethod ({ cls := "MouthHouseModel", name := "build", desc := "(II)V" } : Jvm.MethodName)) ∈ lw_tbl := List.mem_of_getElem? (l := lw_tbl) (i := 1809) (by decide +kernel)
theorem mV_X12_build : am_mV m_X12_build 2 := ⟨⟨tw_1637, tw_13, by decide +kernel, ⟨by decide +kernel, by decide +kernel, by decide +kernel⟩, by decide⟩, tw_1636, List.mem_of_getElem? (l := lw_tbl) (i := 165) (by decide +kernel)⟩
abbrev m_X12_wished : am_M := (yX12_wished, cX12_wished, 2, some .int)
theorem tw_1641 : (Jvm.Cond.code ({ cls := "MouthHouseModel", name := "wished", desc := "(I)I" } : Jvm.MethodName) prog_14_method_80_code (2 : Nat) (Option.some Jvm.ClassFile.FieldType.int)) ∈ lw_tbl := List.mem_of_getElem? (l := lw_tbl) (i := 1814) (by decide +kernel)
theorem tw_1640 : (Jvm.Cond.instanceMethod ({ cls := "MouthHouseModel", name := "wished", desc := "(I)I" } : Jvm.MethodName)) ∈ lw_tbl := List.mem_of_getElem? (l := lw_tbl) (i := 1813) (by decide +kernel)
theorem mV_X12_wished : am_mV m_X12_wished 1 := ⟨⟨tw_1641, tw_13, by decide +kernel, ⟨by decide +kernel, by decide +kernel, by decide +kernel⟩, by decide⟩, tw_1640, List.mem_of_getElem? (l := lw_tbl) (i := 166) (by decide +kernel)⟩
abbrev m_X12_changes : am_M := (yX12_changes, cX12_changes, 7, some .int)
theorem tw_1645 : (Jvm.Cond.code ({ cls := "MouthHouseModel", name := "changes", desc := "(I)I" } : Jvm.MethodName) prog_14_method_86_code (7 : Nat) (Option.some Jvm.ClassFile.FieldType.int)) ∈ lw_tbl := List.mem_of_getElem? (l := lw_tbl) (i := 1818) (by decide +kernel)
theorem tw_1644 : (Jvm.Cond.selects "MouthHouseModel" ({ cls := "MouthHouseModel", name := "changes", desc := "(I)I" } : Jvm.MethodName) ({ cls := "MouthHouseModel", name := "changes", desc := "(I)I" } : Jvm.MethodName)) ∈ lw_tbl := List.mem_of_getElem? (l := lw_tbl) (i := 1817) (by decide +kernel)
theorem tw_1643 : (Jvm.Cond.instanceMethod ({ cls := "MouthHouseModel", name := "changes", desc := "(I)I" } : Jvm.MethodName)) ∈ lw_tbl := List.mem_of_getElem? (l := lw_tbl) (i := 1816) (by decide +kernel)
theorem mV_X12_changes : am_mV m_X12_changes 1 := ⟨⟨tw_1645, tw_13, by decide +kernel, ⟨by decide +kernel, by decide +kernel, by decide +kernel⟩, by decide⟩, tw_1643, tw_1644⟩
abbrev m_X12_numberOf : am_M := (yX12_numberOf, cX12_numberOf, 5, some .int)
theorem tw_1649 : (Jvm.Cond.code ({ cls := "MouthHouseModel", name := "numberOf", desc := "(I)I" } : Jvm.MethodName) prog_14_method_84_code (5 : Nat) (Option.some Jvm.ClassFile.FieldType.int)) ∈ lw_tbl := List.mem_of_getElem? (l := lw_tbl) (i := 1822) (by decide +kernel)
theorem tw_1648 : (Jvm.Cond.instanceMethod ({ cls := "MouthHouseModel", name := "numberOf", desc := "(I)I" } : Jvm.MethodName)) ∈ lw_tbl := List.mem_of_getElem? (l := lw_tbl) (i := 1821) (by decide +kernel)
theorem mV_X12_numberOf : am_mV m_X12_numberOf 1 := ⟨⟨tw_1649, tw_13, by decide +kernel, ⟨by decide +kernel, by decide +kernel, by decide +kernel⟩, by decide⟩, tw_1648, List.mem_of_getElem? (l := lw_tbl) (i := 167) (by decide +kernel)⟩
abbrev m_X12_isAllHeard : am_M := (yX12_isAllHeard, cX12_isAllHeard, 3, some .boolean)
theorem tw_1653 : (Jvm.Cond.code ({ cls := "MouthHouseModel", name := "isAllHeard", desc := "()Z" } : Jvm.MethodName) prog_14_method_85_code (3 : Nat) (Option.some Jvm.ClassFile.FieldType.boolean)) ∈ lw_tbl := List.mem_of_getElem? (l := lw_tbl) (i := 1826) (by decide +kernel)
theorem tw_1652 : (Jvm.Cond.instanceMethod ({ cls := "MouthHouseModel", name := "isAllHeard", desc := "()Z" } : Jvm.MethodName)) ∈ lw_tbl := List.mem_of_getElem? (l := lw_tbl) (i := 1825) (by decide +kernel)
theorem mV_X12_isAllHeard : am_mV m_X12_isAllHeard 0 := ⟨⟨tw_1653, tw_13, by decide +kernel, ⟨by decide +kernel, by decide +kernel, by decide +kernel⟩, by decide⟩, tw_1652, List.mem_of_getElem? (l := lw_tbl) (i := 168) (by decide +kernel)⟩
abbrev m_X12_reachOn : am_M := (yX12_reachOn, cX12_reachOn, 6, some .boolean)
theorem tw_1657 : (Jvm.Cond.code ({ cls := "MouthHouseModel", name := "reachOn", desc := "(I)Z" } : Jvm.MethodName) prog_14_method_87_code (6 : Nat) (Option.some Jvm.ClassFile.FieldType.boolean)) ∈ lw_tbl := List.mem_of_getElem? (l := lw_tbl) (i := 1830) (by decide +kernel)
theorem tw_1656 : (Jvm.Cond.instanceMethod ({ cls := "MouthHouseModel", name := "reachOn", desc := "(I)Z" } : Jvm.MethodName)) ∈ lw_tbl := List.mem_of_getElem? (l := lw_tbl) (i := 1829) (by decide +kernel)
theorem mV_X12_reachOn : am_mV m_X12_reachOn 1 := ⟨⟨tw_1657, tw_13, by decide +kernel, ⟨by decide +kernel, by decide +kernel, by decide +kernel⟩, by decide⟩, tw_1656, List.mem_of_getElem? (l := lw_tbl) (i := 169) (by decide +kernel)⟩
abbrev m_X12_know : am_M := (yX12_know, cX12_know, 3, some .int)
theorem tw_1661 : (Jvm.Cond.code ({ cls := "MouthHouseModel", name := "know", desc := "(IZ)I" } : Jvm.MethodName) prog_14_method_88_code (3 : Nat) (Option.some Jvm.ClassFile.FieldType.int)) ∈ lw_tbl := List.mem_of_getElem? (l := lw_tbl) (i := 1834) (by decide +kernel)
theorem tw_1660 : (Jvm.Cond.selects "MouthHouseModel" ({ cls := "MouthHouseModel", name := "know", desc := "(IZ)I" } : Jvm.MethodName) ({ cls := "MouthHouseModel", name := "know", desc := "(IZ)I" } : Jvm.MethodName)) ∈ lw_tbl := List.mem_of_getElem? (l := lw_tbl) (i := 1833) (by decide +kernel)
theorem tw_1659 : (Jvm.Cond.instanceMethod ({ cls := "MouthHouseModel", name := "know", desc := "(IZ)I" } : Jvm.MethodName)) ∈ lw_tbl := List.mem_of_getElem? (l := lw_tbl) (i := 1832) (by decide +kernel)
theorem mV_X12_know : am_mV m_X12_know 2 := ⟨⟨tw_1661, tw_13, by decide +kernel, ⟨by decide +kernel, by decide +kernel, by decide +kernel⟩, by decide⟩, tw_1659, tw_1660⟩
abbrev m_X12_fits : am_M := (yX12_fits, cX12_fits, 4, some .int)
theorem tw_1665 : (Jvm.Cond.code ({ cls := "MouthHouseModel", name := "fits", desc := "(I)I" } : Jvm.MethodName) prog_14_method_91_code (4 : Nat) (Option.some Jvm.ClassFile.FieldType.int)) ∈ lw_tbl := List.mem_of_getElem? (l := lw_tbl) (i := 1838) (by decide +kernel)
theorem tw_1664 : (Jvm.Cond.selects "MouthHouseModel" ({ cls := "MouthHouseModel", name := "fits", desc := "(I)I" } : Jvm.MethodName) ({ cls := "MouthHouseModel", name := "fits", desc := "(I)I" } : Jvm.MethodName)) ∈ lw_tbl := List.mem_of_getElem? (l := lw_tbl) (i := 1837) (by decide +kernel)
theorem tw_1663 : (Jvm.Cond.instanceMethod ({ cls := "MouthHouseModel", name := "fits", desc := "(I)I" } : Jvm.MethodName)) ∈ lw_tbl := List.mem_of_getElem? (l := lw_tbl) (i := 1836) (by decide +kernel)
theorem mV_X12_fits : am_mV m_X12_fits 1 := ⟨⟨tw_1665, tw_13, by decide +kernel, ⟨by decide +kernel, by decide +kernel, by decide +kernel⟩, by decide⟩, tw_1663, tw_1664⟩
abbrev m_X12_laySpeaks : am_M := (yX12_laySpeaks, cX12_laySpeaks, 2, none)
theorem tw_1669 : (Jvm.Cond.code ({ cls := "MouthHouseModel", name := "laySpeaks", desc := "()V" } : Jvm.MethodName) prog_14_method_89_code (2 : Nat) (Option.none : Option Jvm.ClassFile.FieldType)) ∈ lw_tbl := List.mem_of_getElem? (l := lw_tbl) (i := 1842) (by decide +kernel)
theorem tw_1668 : (Jvm.Cond.instanceMethod ({ cls := "MouthHouseModel", name := "laySpeaks", desc := "()V" } : Jvm.MethodName)) ∈ lw_tbl := List.mem_of_getElem? (l := lw_tbl) (i := 1841) (by decide +kernel)
theorem mV_X12_laySpeaks : am_mV m_X12_laySpeaks 0 := ⟨⟨tw_1669, tw_13, by decide +kernel, ⟨by decide +kernel, by decide +kernel, by decide +kernel⟩, by decide⟩, tw_1668, List.mem_of_getElem? (l := lw_tbl) (i := 170) (by decide +kernel)⟩
abbrev m_X12_agrees : am_M := (yX12_agrees, cX12_agrees, 4, some .boolean)
theorem tw_1673 : (Jvm.Cond.code ({ cls := "MouthHouseModel", name := "agrees", desc := "(I)Z" } : Jvm.MethodName) prog_14_method_90_code (4 : Nat) (Option.some Jvm.ClassFile.FieldType.boolean)) ∈ lw_tbl := List.mem_of_getElem? (l := lw_tbl) (i := 1846) (by decide +kernel)
theorem tw_1672 : (Jvm.Cond.instanceMethod ({ cls := "MouthHouseModel", name := "agrees", desc := "(I)Z" } : Jvm.MethodName)) ∈ lw_tbl := List.mem_of_getElem? (l := lw_tbl) (i := 1845) (by decide +kernel)
theorem mV_X12_agrees : am_mV m_X12_agrees 1 := ⟨⟨tw_1673, tw_13, by decide +kernel, ⟨by decide +kernel, by decide +kernel, by decide +kernel⟩, by decide⟩, tw_1672, List.mem_of_getElem? (l := lw_tbl) (i := 171) (by decide +kernel)⟩
abbrev m_X12_sure : am_M := (yX12_sure, cX12_sure, 6, some .int)
theorem tw_1677 : (Jvm.Cond.code ({ cls := "MouthHouseModel", name := "sure", desc := "(Z)I" } : Jvm.MethodName) prog_14_method_92_code (6 : Nat) (Option.some Jvm.ClassFile.FieldType.int)) ∈ lw_tbl := List.mem_of_getElem? (l := lw_tbl) (i := 1850) (by decide +kernel)
theorem tw_1676 : (Jvm.Cond.selects "MouthHouseModel" ({ cls := "MouthHouseModel", name := "sure", desc := "(Z)I" } : Jvm.MethodName) ({ cls := "MouthHouseModel", name := "sure", desc := "(Z)I" } : Jvm.MethodName)) ∈ lw_tbl := List.mem_of_getElem? (l := lw_tbl) (i := 1849) (by decide +kernel)
theorem tw_1675 : (Jvm.Cond.instanceMethod ({ cls := "MouthHouseModel", name := "sure", desc := "(Z)I" } : Jvm.MethodName)) ∈ lw_tbl := List.mem_of_getElem? (l := lw_tbl) (i := 1848) (by decide +kernel)
theorem mV_X12_sure : am_mV m_X12_sure 1 := ⟨⟨tw_1677, tw_13, by decide +kernel, ⟨by decide +kernel, by decide +kernel, by decide +kernel⟩, by decide⟩, tw_1675, tw_1676⟩
abbrev m_X12_seed : am_M := (yX12_seed, cX12_seed, 3, some .boolean)
theorem tw_1681 : (Jvm.Cond.code ({ cls := "MouthHouseModel", name := "seed", desc := "(J)Z" } : Jvm.MethodName) prog_14_method_93_code (3 : Nat) (Option.some Jvm.ClassFile.FieldType.boolean)) ∈ lw_tbl := List.mem_of_getElem? (l := lw_tbl) (i := 1854) (by decide +kernel)
theorem tw_1680 : (Jvm.Cond.selects "MouthHouseModel" ({ cls := "MouthHouseModel", name := "seed", desc := "(J)Z" } : Jvm.MethodName) ({ cls := "MouthHouseModel", name := "seed", desc := "(J)Z" } : Jvm.MethodName)) ∈ lw_tbl := List.mem_of_getElem? (l := lw_tbl) (i := 1853) (by decide +kernel)
theorem tw_1679 : (Jvm.Cond.instanceMethod ({ cls := "MouthHouseModel", name := "seed", desc := "(J)Z" } : Jvm.MethodName)) ∈ lw_tbl := List.mem_of_getElem? (l := lw_tbl) (i := 1852) (by decide +kernel)
theorem mV_X12_seed : am_mV m_X12_seed 1 := ⟨⟨tw_1681, tw_13, by decide +kernel, ⟨by decide +kernel, by decide +kernel, by decide +kernel⟩, by decide⟩, tw_1679, tw_1680⟩
abbrev m_X12_sitting : am_M := (yX12_sitting, cX12_sitting, 4, some .int)
theorem tw_1685 : (Jvm.Cond.code ({ cls := "MouthHouseModel", name := "sitting", desc := "()I" } : Jvm.MethodName) prog_14_method_94_code (4 : Nat) (Option.some Jvm.ClassFile.FieldType.int)) ∈ lw_tbl := List.mem_of_getElem? (l := lw_tbl) (i := 1858) (by decide +kernel)
theorem tw_1684 : (Jvm.Cond.selects "MouthHouseModel" ({ cls := "MouthHouseModel", name := "sitting", desc := "()I" } : Jvm.MethodName) ({ cls := "MouthHouseModel", name := "sitting", desc := "()I" } : Jvm.MethodName)) ∈ lw_tbl := List.mem_of_getElem? (l := lw_tbl) (i := 1857) (by decide +kernel)
theorem tw_1683 : (Jvm.Cond.instanceMethod ({ cls := "MouthHouseModel", name := "sitting", desc := "()I" } : Jvm.MethodName)) ∈ lw_tbl := List.mem_of_getElem? (l := lw_tbl) (i := 1856) (by decide +kernel)
theorem mV_X12_sitting : am_mV m_X12_sitting 0 := ⟨⟨tw_1685, tw_13, by decide +kernel, ⟨by decide +kernel, by decide +kernel, by decide +kernel⟩, by decide⟩, tw_1683, tw_1684⟩
abbrev m_X12_sat : am_M := (yX12_sat, cX12_sat, 3, some .int)
theorem tw_1691 : (Jvm.Cond.code ({ cls := "MouthHouseModel", name := "sat", desc := "(II)I" } : Jvm.MethodName) prog_14_method_95_code (3 : Nat) (Option.some Jvm.ClassFile.FieldType.int)) ∈ lw_tbl := List.mem_of_getElem? (l := lw_tbl) (i := 1864) (by decide +kernel)
theorem tw_1690 : (Jvm.Cond.selects "MouthHouseModel" ({ cls := "MouthHouseModel", name := "sat", desc := "(II)I" } : Jvm.MethodName) ({ cls := "MouthHouseModel", name := "sat", desc := "(II)I" } : Jvm.MethodName)) ∈ lw_tbl := List.mem_of_getElem? (l := lw_tbl) (i := 1863) (by decide +kernel)
theorem tw_1689 : (Jvm.Cond.instanceMethod ({ cls := "MouthHouseModel", name := "sat", desc := "(II)I" } : Jvm.MethodName)) ∈ lw_tbl := List.mem_of_getElem? (l := lw_tbl) (i := 1862) (by decide +kernel)
theorem mV_X12_sat : am_mV m_X12_sat 2 := ⟨⟨tw_1691, tw_13, by decide +kernel, ⟨by decide +kernel, by decide +kernel, by decide +kernel⟩, by decide⟩, tw_1689, tw_1690⟩
abbrev m_X12_undo : am_M := (yX12_undo, cX12_undo, 1, some .int)
theorem tw_1695 : (Jvm.Cond.code ({ cls := "MouthHouseModel", name := "undo", desc := "()I" } : Jvm.MethodName) prog_14_method_96_code (1 : Nat) (Option.some Jvm.ClassFile.FieldType.int)) ∈ lw_tbl := List.mem_of_getElem? (l := lw_tbl) (i := 1868) (by decide +kernel)
theorem tw_1694 : (Jvm.Cond.selects "MouthHouseModel" ({ cls := "MouthHouseModel", name := "undo", desc := "()I" } : Jvm.MethodName) ({ cls := "MouthHouseModel", name := "undo", desc := "()I" } : Jvm.MethodName)) ∈ lw_tbl := List.mem_of_getElem? (l := lw_tbl) (i := 1867) (by decide +kernel)
theorem tw_1693 : (Jvm.Cond.instanceMethod ({ cls := "MouthHouseModel", name := "undo", desc := "()I" } : Jvm.MethodName)) ∈ lw_tbl := List.mem_of_getElem? (l := lw_tbl) (i := 1866) (by decide +kernel)
theorem mV_X12_undo : am_mV m_X12_undo 0 := ⟨⟨tw_1695, tw_13, by decide +kernel, ⟨by decide +kernel, by decide +kernel, by decide +kernel⟩, by decide⟩, tw_1693, tw_1694⟩
abbrev m_X12_image : am_M := (yX12_image, cX12_image, 2, some .int)
theorem tw_1699 : (Jvm.Cond.code ({ cls := "MouthHouseModel", name := "image", desc := "()I" } : Jvm.MethodName) prog_14_method_97_code (2 : Nat) (Option.some Jvm.ClassFile.FieldType.int)) ∈ lw_tbl := List.mem_of_getElem? (l := lw_tbl) (i := 1872) (by decide +kernel)
theorem tw_1698 : (Jvm.Cond.selects "MouthHouseModel" ({ cls := "MouthHouseModel", name := "image", desc := "()I" } : Jvm.MethodName) ({ cls := "MouthHouseModel", name := "image", desc := "()I" } : Jvm.MethodName)) ∈ lw_tbl := List.mem_of_getElem? (l := lw_tbl) (i := 1871) (by decide +kernel)
theorem tw_1697 : (Jvm.Cond.instanceMethod ({ cls := "MouthHouseModel", name := "image", desc := "()I" } : Jvm.MethodName)) ∈ lw_tbl := List.mem_of_getElem? (l := lw_tbl) (i := 1870) (by decide +kernel)
theorem mV_X12_image : am_mV m_X12_image 0 := ⟨⟨tw_1699, tw_13, by decide +kernel, ⟨by decide +kernel, by decide +kernel, by decide +kernel⟩, by decide⟩, tw_1697, tw_1698⟩
abbrev m_X12_back : am_M := (yX12_back, cX12_back, 2, some .int)
theorem tw_1703 : (Jvm.Cond.code ({ cls := "MouthHouseModel", name := "back", desc := "()I" } : Jvm.MethodName) prog_14_method_98_code (2 : Nat) (Option.some Jvm.ClassFile.FieldType.int)) ∈ lw_tbl := List.mem_of_getElem? (l := lw_tbl) (i := 1876) (by decide +kernel)
theorem tw_1702 : (Jvm.Cond.selects "MouthHouseModel" ({ cls := "MouthHouseModel", name := "back", desc := "()I" } : Jvm.MethodName) ({ cls := "MouthHouseModel", name := "back", desc := "()I" } : Jvm.MethodName)) ∈ lw_tbl := List.mem_of_getElem? (l := lw_tbl) (i := 1875) (by decide +kernel)
theorem tw_1701 : (Jvm.Cond.instanceMethod ({ cls := "MouthHouseModel", name := "back", desc := "()I" } : Jvm.MethodName)) ∈ lw_tbl := List.mem_of_getElem? (l := lw_tbl) (i := 1874) (by decide +kernel)
theorem mV_X12_back : am_mV m_X12_back 0 := ⟨⟨tw_1703, tw_13, by decide +kernel, ⟨by decide +kernel, by decide +kernel, by decide +kernel⟩, by decide⟩, tw_1701, tw_1702⟩
abbrev m_X12_count : am_M := (yX12_count, cX12_count, 2, some .int)
theorem tw_1707 : (Jvm.Cond.code ({ cls := "MouthHouseModel", name := "count", desc := "(I)I" } : Jvm.MethodName) prog_14_method_100_code (2 : Nat) (Option.some Jvm.ClassFile.FieldType.int)) ∈ lw_tbl := List.mem_of_getElem? (l := lw_tbl) (i := 1880) (by decide +kernel)
theorem tw_1706 : (Jvm.Cond.selects "MouthHouseModel" ({ cls := "MouthHouseModel", name := "count", desc := "(I)I" } : Jvm.MethodName) ({ cls := "MouthHouseModel", name := "count", desc := "(I)I" } : Jvm.MethodName)) ∈ lw_tbl := List.mem_of_getElem? (l := lw_tbl) (i := 1879) (by decide +kernel)
theorem tw_1705 : (Jvm.Cond.instanceMethod ({ cls := "MouthHouseModel", name := "count", desc := "(I)I" } : Jvm.MethodName)) ∈ lw_tbl := List.mem_of_getElem? (l := lw_tbl) (i := 1878) (by decide +kernel)
theorem mV_X12_count : am_mV m_X12_count 1 := ⟨⟨tw_1707, tw_13, by decide +kernel, ⟨by decide +kernel, by decide +kernel, by decide +kernel⟩, by decide⟩, tw_1705, tw_1706⟩
abbrev m_X12_passedMany : am_M := (yX12_passedMany, cX12_passedMany, 3, some .int)
theorem tw_1711 : (Jvm.Cond.code ({ cls := "MouthHouseModel", name := "passedMany", desc := "()I" } : Jvm.MethodName) prog_14_method_99_code (3 : Nat) (Option.some Jvm.ClassFile.FieldType.int)) ∈ lw_tbl := List.mem_of_getElem? (l := lw_tbl) (i := 1884) (by decide +kernel)
theorem tw_1710 : (Jvm.Cond.instanceMethod ({ cls := "MouthHouseModel", name := "passedMany", desc := "()I" } : Jvm.MethodName)) ∈ lw_tbl := List.mem_of_getElem? (l := lw_tbl) (i := 1883) (by decide +kernel)
theorem mV_X12_passedMany : am_mV m_X12_passedMany 0 := ⟨⟨tw_1711, tw_13, by decide +kernel, ⟨by decide +kernel, by decide +kernel, by decide +kernel⟩, by decide⟩, tw_1710, List.mem_of_getElem? (l := lw_tbl) (i := 172) (by decide +kernel)⟩
