theorem tw_542 : (Jvm.Cond.code ({ cls := "java/lang/Math", name := "max", desc := "(II)I" } : Jvm.MethodName) prog_18_method_65_code (2 : Nat) (Option.some Jvm.ClassFile.FieldType.int)) ∈ lw_tbl := List.mem_of_getElem? (l := lw_tbl) (i := 715) (by decide +kernel)
theorem jc_J9_max_7cf53 : Cond.code Lib.Math.max.name Lib.Math.max.code 2 (some .int) ∈ lw_tbl := tw_542
theorem tw_541 : (Jvm.Cond.static ({ cls := "java/lang/Math", name := "max", desc := "(II)I" } : Jvm.MethodName)) ∈ lw_tbl := List.mem_of_getElem? (l := lw_tbl) (i := 714) (by decide +kernel)
theorem js_J9_max_7cf53 : Cond.static Lib.Math.max.name ∈ lw_tbl := tw_541
abbrev m_X6_put : am_M := (yX6_put, cX6_put, 3, none)
theorem tw_546 : (Jvm.Cond.code ({ cls := "MouthHouse$Seating", name := "put", desc := "(II)V" } : Jvm.MethodName) prog_8_method_7_code (3 : Nat) (Option.none : Option Jvm.ClassFile.FieldType)) ∈ lw_tbl := List.mem_of_getElem? (l := lw_tbl) (i := 719) (by decide +kernel)
theorem tw_545 : (Jvm.Cond.instanceMethod ({ cls := "MouthHouse$Seating", name := "put", desc := "(II)V" } : Jvm.MethodName)) ∈ lw_tbl := List.mem_of_getElem? (l := lw_tbl) (i := 718) (by decide +kernel)
theorem mV_X6_put : am_mV m_X6_put 2 := ⟨⟨tw_546, tw_6, by decide +kernel, ⟨by decide +kernel, by decide +kernel, by decide +kernel⟩, by decide⟩, tw_545, List.mem_of_getElem? (l := lw_tbl) (i := 33) (by decide +kernel)⟩
abbrev m_X6_has : am_M := (yX6_has, cX6_has, 2, some .boolean)
theorem tw_550 : (Jvm.Cond.code ({ cls := "MouthHouse$Seating", name := "has", desc := "(I)Z" } : Jvm.MethodName) prog_8_method_4_code (2 : Nat) (Option.some Jvm.ClassFile.FieldType.boolean)) ∈ lw_tbl := List.mem_of_getElem? (l := lw_tbl) (i := 723) (by decide +kernel)
theorem tw_549 : (Jvm.Cond.instanceMethod ({ cls := "MouthHouse$Seating", name := "has", desc := "(I)Z" } : Jvm.MethodName)) ∈ lw_tbl := List.mem_of_getElem? (l := lw_tbl) (i := 722) (by decide +kernel)
theorem mV_X6_has : am_mV m_X6_has 1 := ⟨⟨tw_550, tw_6, by decide +kernel, ⟨by decide +kernel, by decide +kernel, by decide +kernel⟩, by decide⟩, tw_549, List.mem_of_getElem? (l := lw_tbl) (i := 34) (by decide +kernel)⟩
abbrev m_X10_forgetKnown : am_M := (yX10_forgetKnown, cX10_forgetKnown, 1, none)
theorem tw_554 : (Jvm.Cond.code ({ cls := "MouthHouse$Votes", name := "forgetKnown", desc := "()V" } : Jvm.MethodName) prog_12_method_14_code (1 : Nat) (Option.none : Option Jvm.ClassFile.FieldType)) ∈ lw_tbl := List.mem_of_getElem? (l := lw_tbl) (i := 727) (by decide +kernel)
theorem tw_553 : (Jvm.Cond.instanceMethod ({ cls := "MouthHouse$Votes", name := "forgetKnown", desc := "()V" } : Jvm.MethodName)) ∈ lw_tbl := List.mem_of_getElem? (l := lw_tbl) (i := 726) (by decide +kernel)
theorem mV_X10_forgetKnown : am_mV m_X10_forgetKnown 0 := ⟨⟨tw_554, tw_8, by decide +kernel, ⟨by decide +kernel, by decide +kernel, by decide +kernel⟩, by decide⟩, tw_553, List.mem_of_getElem? (l := lw_tbl) (i := 35) (by decide +kernel)⟩
abbrev m_X11_forgetAnswers : am_M := (yX11_forgetAnswers, cX11_forgetAnswers, 1, none)
theorem tw_558 : (Jvm.Cond.code ({ cls := "MouthHouse", name := "forgetAnswers", desc := "()V" } : Jvm.MethodName) prog_1_method_7_code (1 : Nat) (Option.none : Option Jvm.ClassFile.FieldType)) ∈ lw_tbl := List.mem_of_getElem? (l := lw_tbl) (i := 731) (by decide +kernel)
theorem tw_557 : (Jvm.Cond.instanceMethod ({ cls := "MouthHouse", name := "forgetAnswers", desc := "()V" } : Jvm.MethodName)) ∈ lw_tbl := List.mem_of_getElem? (l := lw_tbl) (i := 730) (by decide +kernel)
theorem mV_X11_forgetAnswers : am_mV m_X11_forgetAnswers 0 := ⟨⟨tw_558, tw_1, by decide +kernel, ⟨by decide +kernel, by decide +kernel, by decide +kernel⟩, by decide⟩, tw_557, List.mem_of_getElem? (l := lw_tbl) (i := 36) (by decide +kernel)⟩
abbrev m_X0_forget : am_M := (yX0_forget, cX0_forget, 2, none)
theorem tw_562 : (Jvm.Cond.code ({ cls := "MouthHouse$Best", name := "forget", desc := "()V" } : Jvm.MethodName) prog_2_method_2_code (2 : Nat) (Option.none : Option Jvm.ClassFile.FieldType)) ∈ lw_tbl := List.mem_of_getElem? (l := lw_tbl) (i := 735) (by decide +kernel)
theorem tw_561 : (Jvm.Cond.instanceMethod ({ cls := "MouthHouse$Best", name := "forget", desc := "()V" } : Jvm.MethodName)) ∈ lw_tbl := List.mem_of_getElem? (l := lw_tbl) (i := 734) (by decide +kernel)
theorem mV_X0_forget : am_mV m_X0_forget 0 := ⟨⟨tw_562, tw_9, by decide +kernel, ⟨by decide +kernel, by decide +kernel, by decide +kernel⟩, by decide⟩, tw_561, List.mem_of_getElem? (l := lw_tbl) (i := 37) (by decide +kernel)⟩
abbrev m_X1_forget : am_M := (yX1_forget, cX1_forget, 1, none)
theorem tw_566 : (Jvm.Cond.code ({ cls := "MouthHouse$Changes", name := "forget", desc := "()V" } : Jvm.MethodName) prog_3_method_2_code (1 : Nat) (Option.none : Option Jvm.ClassFile.FieldType)) ∈ lw_tbl := List.mem_of_getElem? (l := lw_tbl) (i := 739) (by decide +kernel)
theorem tw_565 : (Jvm.Cond.instanceMethod ({ cls := "MouthHouse$Changes", name := "forget", desc := "()V" } : Jvm.MethodName)) ∈ lw_tbl := List.mem_of_getElem? (l := lw_tbl) (i := 738) (by decide +kernel)
theorem mV_X1_forget : am_mV m_X1_forget 0 := ⟨⟨tw_566, tw_11, by decide +kernel, ⟨by decide +kernel, by decide +kernel, by decide +kernel⟩, by decide⟩, tw_565, List.mem_of_getElem? (l := lw_tbl) (i := 38) (by decide +kernel)⟩
abbrev m_X4_written : am_M := (yX4_written, cX4_written, 1, some (.object "MouthHouse$Manners"))
theorem tw_570 : (Jvm.Cond.code ({ cls := "MouthHouse$MannersReader", name := "written", desc := "()LMouthHouse$Manners;" } : Jvm.MethodName) prog_6_method_3_code (1 : Nat) (Option.some (Jvm.ClassFile.FieldType.object "MouthHouse$Manners"))) ∈ lw_tbl := List.mem_of_getElem? (l := lw_tbl) (i := 743) (by decide +kernel)
theorem tw_569 : (Jvm.Cond.instanceMethod ({ cls := "MouthHouse$MannersReader", name := "written", desc := "()LMouthHouse$Manners;" } : Jvm.MethodName)) ∈ lw_tbl := List.mem_of_getElem? (l := lw_tbl) (i := 742) (by decide +kernel)
theorem mV_X4_written : am_mV m_X4_written 0 := ⟨⟨tw_570, tw_5, by decide +kernel, ⟨by decide +kernel, by decide +kernel, by decide +kernel⟩, by decide⟩, tw_569, List.mem_of_getElem? (l := lw_tbl) (i := 39) (by decide +kernel)⟩
abbrev m_X3_init : am_M := (yX3_init, cX3_init, 4, none)
theorem tw_575 : (Jvm.Cond.code ({ cls := "MouthHouse$Manners", name := "<init>", desc := "([II)V" } : Jvm.MethodName) prog_5_method_1_code (4 : Nat) (Option.none : Option Jvm.ClassFile.FieldType)) ∈ lw_tbl := List.mem_of_getElem? (l := lw_tbl) (i := 748) (by decide +kernel)
theorem tw_574 : (Jvm.Cond.instanceMethod ({ cls := "MouthHouse$Manners", name := "<init>", desc := "([II)V" } : Jvm.MethodName)) ∈ lw_tbl := List.mem_of_getElem? (l := lw_tbl) (i := 747) (by decide +kernel)
theorem mI_X3_init : am_mI m_X3_init 2 := ⟨⟨tw_575, tw_10, by decide +kernel, ⟨by decide +kernel, by decide +kernel, by decide +kernel⟩, by decide⟩, rfl, tw_574, rfl⟩
abbrev m_X11_seat : am_M := (yX11_seat, cX11_seat, 2, some .int)
theorem tw_593 : (Jvm.Cond.code ({ cls := "MouthHouse", name := "seat", desc := "(I)I" } : Jvm.MethodName) prog_1_method_9_code (2 : Nat) (Option.some Jvm.ClassFile.FieldType.int)) ∈ lw_tbl := List.mem_of_getElem? (l := lw_tbl) (i := 766) (by decide +kernel)
theorem tw_592 : (Jvm.Cond.selects "MouthHouse" ({ cls := "MouthHouse", name := "seat", desc := "(I)I" } : Jvm.MethodName) ({ cls := "MouthHouse", name := "seat", desc := "(I)I" } : Jvm.MethodName)) ∈ lw_tbl := List.mem_of_getElem? (l := lw_tbl) (i := 765) (by decide +kernel)
theorem tw_591 : (Jvm.Cond.instanceMethod ({ cls := "MouthHouse", name := "seat", desc := "(I)I" } : Jvm.MethodName)) ∈ lw_tbl := List.mem_of_getElem? (l := lw_tbl) (i := 764) (by decide +kernel)
theorem mV_X11_seat : am_mV m_X11_seat 1 := ⟨⟨tw_593, tw_1, by decide +kernel, ⟨by decide +kernel, by decide +kernel, by decide +kernel⟩, by decide⟩, tw_591, tw_592⟩
abbrev m_X6_memberOn : am_M := (yX6_memberOn, cX6_memberOn, 2, some .int)
theorem tw_597 : (Jvm.Cond.code ({ cls := "MouthHouse$Seating", name := "memberOn", desc := "(I)I" } : Jvm.MethodName) prog_8_method_5_code (2 : Nat) (Option.some Jvm.ClassFile.FieldType.int)) ∈ lw_tbl := List.mem_of_getElem? (l := lw_tbl) (i := 770) (by decide +kernel)
theorem tw_596 : (Jvm.Cond.instanceMethod ({ cls := "MouthHouse$Seating", name := "memberOn", desc := "(I)I" } : Jvm.MethodName)) ∈ lw_tbl := List.mem_of_getElem? (l := lw_tbl) (i := 769) (by decide +kernel)
theorem mV_X6_memberOn : am_mV m_X6_memberOn 1 := ⟨⟨tw_597, tw_6, by decide +kernel, ⟨by decide +kernel, by decide +kernel, by decide +kernel⟩, by decide⟩, tw_596, List.mem_of_getElem? (l := lw_tbl) (i := 40) (by decide +kernel)⟩
abbrev m_X11_manners : am_M := (yX11_manners, cX11_manners, 2, some .boolean)
theorem tw_601 : (Jvm.Cond.code ({ cls := "MouthHouse", name := "manners", desc := "(I)Z" } : Jvm.MethodName) prog_1_method_10_code (2 : Nat) (Option.some Jvm.ClassFile.FieldType.boolean)) ∈ lw_tbl := List.mem_of_getElem? (l := lw_tbl) (i := 774) (by decide +kernel)
theorem tw_600 : (Jvm.Cond.selects "MouthHouse" ({ cls := "MouthHouse", name := "manners", desc := "(I)Z" } : Jvm.MethodName) ({ cls := "MouthHouse", name := "manners", desc := "(I)Z" } : Jvm.MethodName)) ∈ lw_tbl := List.mem_of_getElem? (l := lw_tbl) (i := 773) (by decide +kernel)
theorem tw_599 : (Jvm.Cond.instanceMethod ({ cls := "MouthHouse", name := "manners", desc := "(I)Z" } : Jvm.MethodName)) ∈ lw_tbl := List.mem_of_getElem? (l := lw_tbl) (i := 772) (by decide +kernel)
theorem mV_X11_manners : am_mV m_X11_manners 1 := ⟨⟨tw_601, tw_1, by decide +kernel, ⟨by decide +kernel, by decide +kernel, by decide +kernel⟩, by decide⟩, tw_599, tw_600⟩
abbrev m_X0_hold : am_M := (yX0_hold, cX0_hold, 2, none)
theorem tw_605 : (Jvm.Cond.code ({ cls := "MouthHouse$Best", name := "hold", desc := "(LMouthHouse$Manners;)V" } : Jvm.MethodName) prog_2_method_3_code (2 : Nat) (Option.none : Option Jvm.ClassFile.FieldType)) ∈ lw_tbl := List.mem_of_getElem? (l := lw_tbl) (i := 778) (by decide +kernel)
theorem tw_604 : (Jvm.Cond.instanceMethod ({ cls := "MouthHouse$Best", name := "hold", desc := "(LMouthHouse$Manners;)V" } : Jvm.MethodName)) ∈ lw_tbl := List.mem_of_getElem? (l := lw_tbl) (i := 777) (by decide +kernel)
theorem mV_X0_hold : am_mV m_X0_hold 1 := ⟨⟨tw_605, tw_9, by decide +kernel, ⟨by decide +kernel, by decide +kernel, by decide +kernel⟩, by decide⟩, tw_604, List.mem_of_getElem? (l := lw_tbl) (i := 41) (by decide +kernel)⟩
abbrev m_X11_set : am_M := (yX11_set, cX11_set, 5, some .boolean)
theorem tw_610 : (Jvm.Cond.code ({ cls := "MouthHouse", name := "set", desc := "(III)Z" } : Jvm.MethodName) prog_1_method_11_code (5 : Nat) (Option.some Jvm.ClassFile.FieldType.boolean)) ∈ lw_tbl := List.mem_of_getElem? (l := lw_tbl) (i := 783) (by decide +kernel)
theorem tw_609 : (Jvm.Cond.selects "MouthHouse" ({ cls := "MouthHouse", name := "set", desc := "(III)Z" } : Jvm.MethodName) ({ cls := "MouthHouse", name := "set", desc := "(III)Z" } : Jvm.MethodName)) ∈ lw_tbl := List.mem_of_getElem? (l := lw_tbl) (i := 782) (by decide +kernel)
theorem tw_608 : (Jvm.Cond.instanceMethod ({ cls := "MouthHouse", name := "set", desc := "(III)Z" } : Jvm.MethodName)) ∈ lw_tbl := List.mem_of_getElem? (l := lw_tbl) (i := 781) (by decide +kernel)
theorem mV_X11_set : am_mV m_X11_set 3 := ⟨⟨tw_610, tw_1, by decide +kernel, ⟨by decide +kernel, by decide +kernel, by decide +kernel⟩, by decide⟩, tw_608, tw_609⟩
abbrev m_X11_change : am_M := (yX11_change, cX11_change, 3, some .boolean)
theorem tw_618 : (Jvm.Cond.code ({ cls := "MouthHouse", name := "change", desc := "(II)Z" } : Jvm.MethodName) prog_1_method_12_code (3 : Nat) (Option.some Jvm.ClassFile.FieldType.boolean)) ∈ lw_tbl := List.mem_of_getElem? (l := lw_tbl) (i := 791) (by decide +kernel)
theorem tw_617 : (Jvm.Cond.selects "MouthHouse" ({ cls := "MouthHouse", name := "change", desc := "(II)Z" } : Jvm.MethodName) ({ cls := "MouthHouse", name := "change", desc := "(II)Z" } : Jvm.MethodName)) ∈ lw_tbl := List.mem_of_getElem? (l := lw_tbl) (i := 790) (by decide +kernel)
theorem tw_616 : (Jvm.Cond.instanceMethod ({ cls := "MouthHouse", name := "change", desc := "(II)Z" } : Jvm.MethodName)) ∈ lw_tbl := List.mem_of_getElem? (l := lw_tbl) (i := 789) (by decide +kernel)
theorem mV_X11_change : am_mV m_X11_change 2 := ⟨⟨tw_618, tw_1, by decide +kernel, ⟨by decide +kernel, by decide +kernel, by decide +kernel⟩, by decide⟩, tw_616, tw_617⟩
abbrev m_X6_exchange : am_M := (yX6_exchange, cX6_exchange, 5, none)
theorem tw_623 : (Jvm.Cond.code ({ cls := "MouthHouse$Seating", name := "exchange", desc := "(II)V" } : Jvm.MethodName) prog_8_method_8_code (5 : Nat) (Option.none : Option Jvm.ClassFile.FieldType)) ∈ lw_tbl := List.mem_of_getElem? (l := lw_tbl) (i := 796) (by decide +kernel)
theorem tw_622 : (Jvm.Cond.instanceMethod ({ cls := "MouthHouse$Seating", name := "exchange", desc := "(II)V" } : Jvm.MethodName)) ∈ lw_tbl := List.mem_of_getElem? (l := lw_tbl) (i := 795) (by decide +kernel)
theorem mV_X6_exchange : am_mV m_X6_exchange 2 := ⟨⟨tw_623, tw_6, by decide +kernel, ⟨by decide +kernel, by decide +kernel, by decide +kernel⟩, by decide⟩, tw_622, List.mem_of_getElem? (l := lw_tbl) (i := 42) (by decide +kernel)⟩
abbrev m_X11_sit : am_M := (yX11_sit, cX11_sit, 2, some .boolean)
theorem tw_628 : (Jvm.Cond.code ({ cls := "MouthHouse", name := "sit", desc := "(I)Z" } : Jvm.MethodName) prog_1_method_13_code (2 : Nat) (Option.some Jvm.ClassFile.FieldType.boolean)) ∈ lw_tbl := List.mem_of_getElem? (l := lw_tbl) (i := 801) (by decide +kernel)
theorem tw_627 : (Jvm.Cond.selects "MouthHouse" ({ cls := "MouthHouse", name := "sit", desc := "(I)Z" } : Jvm.MethodName) ({ cls := "MouthHouse", name := "sit", desc := "(I)Z" } : Jvm.MethodName)) ∈ lw_tbl := List.mem_of_getElem? (l := lw_tbl) (i := 800) (by decide +kernel)
theorem tw_626 : (Jvm.Cond.instanceMethod ({ cls := "MouthHouse", name := "sit", desc := "(I)Z" } : Jvm.MethodName)) ∈ lw_tbl := List.mem_of_getElem? (l := lw_tbl) (i := 799) (by decide +kernel)
theorem mV_X11_sit : am_mV m_X11_sit 1 := ⟨⟨tw_628, tw_1, by decide +kernel, ⟨by decide +kernel, by decide +kernel, by decide +kernel⟩, by decide⟩, tw_626, tw_627⟩
abbrev m_X6_isSeating : am_M := (yX6_isSeating, cX6_isSeating, 5, some .boolean)
theorem tw_632 : (Jvm.Cond.code ({ cls := "MouthHouse$Seating", name := "isSeating", desc := "(I)Z" } : Jvm.MethodName) prog_8_method_12_code (5 : Nat) (Option.some Jvm.ClassFile.FieldType.boolean)) ∈ lw_tbl := List.mem_of_getElem? (l := lw_tbl) (i := 805) (by decide +kernel)
theorem tw_631 : (Jvm.Cond.instanceMethod ({ cls := "MouthHouse$Seating", name := "isSeating", desc := "(I)Z" } : Jvm.MethodName)) ∈ lw_tbl := List.mem_of_getElem? (l := lw_tbl) (i := 804) (by decide +kernel)
theorem mV_X6_isSeating : am_mV m_X6_isSeating 1 := ⟨⟨tw_632, tw_6, by decide +kernel, ⟨by decide +kernel, by decide +kernel, by decide +kernel⟩, by decide⟩, tw_631, List.mem_of_getElem? (l := lw_tbl) (i := 43) (by decide +kernel)⟩
abbrev m_X6_take : am_M := (yX6_take, cX6_take, 4, none)
theorem tw_636 : (Jvm.Cond.code ({ cls := "MouthHouse$Seating", name := "take", desc := "(I)V" } : Jvm.MethodName) prog_8_method_13_code (4 : Nat) (Option.none : Option Jvm.ClassFile.FieldType)) ∈ lw_tbl := List.mem_of_getElem? (l := lw_tbl) (i := 809) (by decide +kernel)
theorem tw_635 : (Jvm.Cond.instanceMethod ({ cls := "MouthHouse$Seating", name := "take", desc := "(I)V" } : Jvm.MethodName)) ∈ lw_tbl := List.mem_of_getElem? (l := lw_tbl) (i := 808) (by decide +kernel)
theorem mV_X6_take : am_mV m_X6_take 1 := ⟨⟨tw_636, tw_6, by decide +kernel, ⟨by decide +kernel, by decide +kernel, by decide +kernel⟩, by decide⟩, tw_635, List.mem_of_getElem? (l := lw_tbl) (i := 44) (by decide +kernel)⟩
abbrev m_X11_round : am_M := (yX11_round, cX11_round, 4, some .long)
theorem tw_640 : (Jvm.Cond.code ({ cls := "MouthHouse", name := "round", desc := "(III)J" } : Jvm.MethodName) prog_1_method_14_code (4 : Nat) (Option.some Jvm.ClassFile.FieldType.long)) ∈ lw_tbl := List.mem_of_getElem? (l := lw_tbl) (i := 813) (by decide +kernel)
theorem tw_639 : (Jvm.Cond.selects "MouthHouse" ({ cls := "MouthHouse", name := "round", desc := "(III)J" } : Jvm.MethodName) ({ cls := "MouthHouse", name := "round", desc := "(III)J" } : Jvm.MethodName)) ∈ lw_tbl := List.mem_of_getElem? (l := lw_tbl) (i := 812) (by decide +kernel)
theorem tw_638 : (Jvm.Cond.instanceMethod ({ cls := "MouthHouse", name := "round", desc := "(III)J" } : Jvm.MethodName)) ∈ lw_tbl := List.mem_of_getElem? (l := lw_tbl) (i := 811) (by decide +kernel)
theorem mV_X11_round : am_mV m_X11_round 3 := ⟨⟨tw_640, tw_1, by decide +kernel, ⟨by decide +kernel, by decide +kernel, by decide +kernel⟩, by decide⟩, tw_638, tw_639⟩
abbrev m_X5_lives : am_M := (yX5_lives, cX5_lives, 3, some .boolean)
theorem tw_644 : (Jvm.Cond.code ({ cls := "MouthHouse$Members", name := "lives", desc := "(I)Z" } : Jvm.MethodName) prog_7_method_10_code (3 : Nat) (Option.some Jvm.ClassFile.FieldType.boolean)) ∈ lw_tbl := List.mem_of_getElem? (l := lw_tbl) (i := 817) (by decide +kernel)
theorem tw_643 : (Jvm.Cond.instanceMethod ({ cls := "MouthHouse$Members", name := "lives", desc := "(I)Z" } : Jvm.MethodName)) ∈ lw_tbl := List.mem_of_getElem? (l := lw_tbl) (i := 816) (by decide +kernel)
theorem mV_X5_lives : am_mV m_X5_lives 1 := ⟨⟨tw_644, tw_4, by decide +kernel, ⟨by decide +kernel, by decide +kernel, by decide +kernel⟩, by decide⟩, tw_643, List.mem_of_getElem? (l := lw_tbl) (i := 45) (by decide +kernel)⟩
abbrev m_X8_wordOf : am_M := (yX8_wordOf, cX8_wordOf, 14, some .long)
theorem tw_649 : (Jvm.Cond.code ({ cls := "MouthHouse$Talk", name := "wordOf", desc := "(III)J" } : Jvm.MethodName) prog_10_method_7_code (14 : Nat) (Option.some Jvm.ClassFile.FieldType.long)) ∈ lw_tbl := List.mem_of_getElem? (l := lw_tbl) (i := 822) (by decide +kernel)
theorem tw_648 : (Jvm.Cond.instanceMethod ({ cls := "MouthHouse$Talk", name := "wordOf", desc := "(III)J" } : Jvm.MethodName)) ∈ lw_tbl := List.mem_of_getElem? (l := lw_tbl) (i := 821) (by decide +kernel)
theorem mV_X8_wordOf : am_mV m_X8_wordOf 3 := ⟨⟨tw_649, tw_7, by decide +kernel, ⟨by decide +kernel, by decide +kernel, by decide +kernel⟩, by decide⟩, tw_648, List.mem_of_getElem? (l := lw_tbl) (i := 46) (by decide +kernel)⟩
abbrev m_X8_isHeard : am_M := (yX8_isHeard, cX8_isHeard, 3, some .boolean)
theorem tw_653 : (Jvm.Cond.code ({ cls := "MouthHouse$Talk", name := "isHeard", desc := "(I)Z" } : Jvm.MethodName) prog_10_method_3_code (3 : Nat) (Option.some Jvm.ClassFile.FieldType.boolean)) ∈ lw_tbl := List.mem_of_getElem? (l := lw_tbl) (i := 826) (by decide +kernel)
theorem tw_652 : (Jvm.Cond.instanceMethod ({ cls := "MouthHouse$Talk", name := "isHeard", desc := "(I)Z" } : Jvm.MethodName)) ∈ lw_tbl := List.mem_of_getElem? (l := lw_tbl) (i := 825) (by decide +kernel)
theorem mV_X8_isHeard : am_mV m_X8_isHeard 1 := ⟨⟨tw_653, tw_7, by decide +kernel, ⟨by decide +kernel, by decide +kernel, by decide +kernel⟩, by decide⟩, tw_652, List.mem_of_getElem? (l := lw_tbl) (i := 47) (by decide +kernel)⟩
abbrev m_X8_mouthOf : am_M := (yX8_mouthOf, cX8_mouthOf, 5, some .int)
theorem tw_657 : (Jvm.Cond.code ({ cls := "MouthHouse$Talk", name := "mouthOf", desc := "(I)I" } : Jvm.MethodName) prog_10_method_2_code (5 : Nat) (Option.some Jvm.ClassFile.FieldType.int)) ∈ lw_tbl := List.mem_of_getElem? (l := lw_tbl) (i := 830) (by decide +kernel)
theorem tw_656 : (Jvm.Cond.instanceMethod ({ cls := "MouthHouse$Talk", name := "mouthOf", desc := "(I)I" } : Jvm.MethodName)) ∈ lw_tbl := List.mem_of_getElem? (l := lw_tbl) (i := 829) (by decide +kernel)
theorem mV_X8_mouthOf : am_mV m_X8_mouthOf 1 := ⟨⟨tw_657, tw_7, by decide +kernel, ⟨by decide +kernel, by decide +kernel, by decide +kernel⟩, by decide⟩, tw_656, List.mem_of_getElem? (l := lw_tbl) (i := 48) (by decide +kernel)⟩
abbrev m_X6_seatOf : am_M := (yX6_seatOf, cX6_seatOf, 2, some .int)
theorem tw_662 : (Jvm.Cond.code ({ cls := "MouthHouse$Seating", name := "seatOf", desc := "(I)I" } : Jvm.MethodName) prog_8_method_6_code (2 : Nat) (Option.some Jvm.ClassFile.FieldType.int)) ∈ lw_tbl := List.mem_of_getElem? (l := lw_tbl) (i := 835) (by decide +kernel)
theorem tw_661 : (Jvm.Cond.instanceMethod ({ cls := "MouthHouse$Seating", name := "seatOf", desc := "(I)I" } : Jvm.MethodName)) ∈ lw_tbl := List.mem_of_getElem? (l := lw_tbl) (i := 834) (by decide +kernel)
theorem mV_X6_seatOf : am_mV m_X6_seatOf 1 := ⟨⟨tw_662, tw_6, by decide +kernel, ⟨by decide +kernel, by decide +kernel, by decide +kernel⟩, by decide⟩, tw_661, List.mem_of_getElem? (l := lw_tbl) (i := 49) (by decide +kernel)⟩
abbrev m_X6_leftOf : am_M := (yX6_leftOf, cX6_leftOf, 3, some .int)
theorem tw_666 : (Jvm.Cond.code ({ cls := "MouthHouse$Seating", name := "leftOf", desc := "(IZ)I" } : Jvm.MethodName) prog_8_method_9_code (3 : Nat) (Option.some Jvm.ClassFile.FieldType.int)) ∈ lw_tbl := List.mem_of_getElem? (l := lw_tbl) (i := 839) (by decide +kernel)
theorem tw_665 : (Jvm.Cond.instanceMethod ({ cls := "MouthHouse$Seating", name := "leftOf", desc := "(IZ)I" } : Jvm.MethodName)) ∈ lw_tbl := List.mem_of_getElem? (l := lw_tbl) (i := 838) (by decide +kernel)
theorem mV_X6_leftOf : am_mV m_X6_leftOf 2 := ⟨⟨tw_666, tw_6, by decide +kernel, ⟨by decide +kernel, by decide +kernel, by decide +kernel⟩, by decide⟩, tw_665, List.mem_of_getElem? (l := lw_tbl) (i := 50) (by decide +kernel)⟩
abbrev m_X5_swallows : am_M := (yX5_swallows, cX5_swallows, 3, some .boolean)
theorem tw_671 : (Jvm.Cond.code ({ cls := "MouthHouse$Members", name := "swallows", desc := "(II)Z" } : Jvm.MethodName) prog_7_method_12_code (3 : Nat) (Option.some Jvm.ClassFile.FieldType.boolean)) ∈ lw_tbl := List.mem_of_getElem? (l := lw_tbl) (i := 844) (by decide +kernel)
theorem tw_670 : (Jvm.Cond.instanceMethod ({ cls := "MouthHouse$Members", name := "swallows", desc := "(II)Z" } : Jvm.MethodName)) ∈ lw_tbl := List.mem_of_getElem? (l := lw_tbl) (i := 843) (by decide +kernel)
theorem mV_X5_swallows : am_mV m_X5_swallows 2 := ⟨⟨tw_671, tw_4, by decide +kernel, ⟨by decide +kernel, by decide +kernel, by decide +kernel⟩, by decide⟩, tw_670, List.mem_of_getElem? (l := lw_tbl) (i := 51) (by decide +kernel)⟩
abbrev m_X8_slipOf : am_M := (yX8_slipOf, cX8_slipOf, 2, some .int)
theorem tw_676 : (Jvm.Cond.code ({ cls := "MouthHouse$Talk", name := "slipOf", desc := "(I)I" } : Jvm.MethodName) prog_10_method_4_code (2 : Nat) (Option.some Jvm.ClassFile.FieldType.int)) ∈ lw_tbl := List.mem_of_getElem? (l := lw_tbl) (i := 849) (by decide +kernel)
theorem tw_675 : (Jvm.Cond.instanceMethod ({ cls := "MouthHouse$Talk", name := "slipOf", desc := "(I)I" } : Jvm.MethodName)) ∈ lw_tbl := List.mem_of_getElem? (l := lw_tbl) (i := 848) (by decide +kernel)
theorem mV_X8_slipOf : am_mV m_X8_slipOf 1 := ⟨⟨tw_676, tw_7, by decide +kernel, ⟨by decide +kernel, by decide +kernel, by decide +kernel⟩, by decide⟩, tw_675, List.mem_of_getElem? (l := lw_tbl) (i := 52) (by decide +kernel)⟩
abbrev m_X11_tally : am_M := (yX11_tally, cX11_tally, 2, some .int)
theorem tw_682 : (Jvm.Cond.code ({ cls := "MouthHouse", name := "tally", desc := "(I)I" } : Jvm.MethodName) prog_1_method_15_code (2 : Nat) (Option.some Jvm.ClassFile.FieldType.int)) ∈ lw_tbl := List.mem_of_getElem? (l := lw_tbl) (i := 855) (by decide +kernel)
theorem tw_681 : (Jvm.Cond.selects "MouthHouse" ({ cls := "MouthHouse", name := "tally", desc := "(I)I" } : Jvm.MethodName) ({ cls := "MouthHouse", name := "tally", desc := "(I)I" } : Jvm.MethodName)) ∈ lw_tbl := List.mem_of_getElem? (l := lw_tbl) (i := 854) (by decide +kernel)
theorem tw_680 : (Jvm.Cond.instanceMethod ({ cls := "MouthHouse", name := "tally", desc := "(I)I" } : Jvm.MethodName)) ∈ lw_tbl := List.mem_of_getElem? (l := lw_tbl) (i := 853) (by decide +kernel)
theorem mV_X11_tally : am_mV m_X11_tally 1 := ⟨⟨tw_682, tw_1, by decide +kernel, ⟨by decide +kernel, by decide +kernel, by decide +kernel⟩, by decide⟩, tw_680, tw_681⟩
abbrev m_X10_heard : am_M := (yX10_heard, cX10_heard, 1, some .int)
theorem tw_686 : (Jvm.Cond.code ({ cls := "MouthHouse$Votes", name := "heard", desc := "()I" } : Jvm.MethodName) prog_12_method_5_code (1 : Nat) (Option.some Jvm.ClassFile.FieldType.int)) ∈ lw_tbl := List.mem_of_getElem? (l := lw_tbl) (i := 859) (by decide +kernel)
theorem tw_685 : (Jvm.Cond.instanceMethod ({ cls := "MouthHouse$Votes", name := "heard", desc := "()I" } : Jvm.MethodName)) ∈ lw_tbl := List.mem_of_getElem? (l := lw_tbl) (i := 858) (by decide +kernel)
theorem mV_X10_heard : am_mV m_X10_heard 0 := ⟨⟨tw_686, tw_8, by decide +kernel, ⟨by decide +kernel, by decide +kernel, by decide +kernel⟩, by decide⟩, tw_685, List.mem_of_getElem? (l := lw_tbl) (i := 53) (by decide +kernel)⟩
abbrev m_X10_heardBits : am_M := (yX10_heardBits, cX10_heardBits, 3, some .int)
theorem tw_690 : (Jvm.Cond.code ({ cls := "MouthHouse$Votes", name := "heardBits", desc := "()I" } : Jvm.MethodName) prog_12_method_3_code (3 : Nat) (Option.some Jvm.ClassFile.FieldType.int)) ∈ lw_tbl := List.mem_of_getElem? (l := lw_tbl) (i := 863) (by decide +kernel)
theorem tw_689 : (Jvm.Cond.instanceMethod ({ cls := "MouthHouse$Votes", name := "heardBits", desc := "()I" } : Jvm.MethodName)) ∈ lw_tbl := List.mem_of_getElem? (l := lw_tbl) (i := 862) (by decide +kernel)
theorem mV_X10_heardBits : am_mV m_X10_heardBits 0 := ⟨⟨tw_690, tw_8, by decide +kernel, ⟨by decide +kernel, by decide +kernel, by decide +kernel⟩, by decide⟩, tw_689, List.mem_of_getElem? (l := lw_tbl) (i := 54) (by decide +kernel)⟩
abbrev m_J6_bitCount_0f7a4 : am_M := (yJ6_bitCount_0f7a4, cJ6_bitCount_0f7a4, 1, some .int)
theorem tw_694 : (Jvm.Cond.code ({ cls := "java/lang/Integer", name := "bitCount", desc := "(I)I" } : Jvm.MethodName) prog_17_method_49_code (1 : Nat) (Option.some Jvm.ClassFile.FieldType.int)) ∈ lw_tbl := List.mem_of_getElem? (l := lw_tbl) (i := 867) (by decide +kernel)
theorem tw_693 : (Jvm.Cond.static ({ cls := "java/lang/Integer", name := "bitCount", desc := "(I)I" } : Jvm.MethodName)) ∈ lw_tbl := List.mem_of_getElem? (l := lw_tbl) (i := 866) (by decide +kernel)
theorem mS_J6_bitCount_0f7a4 : am_mS m_J6_bitCount_0f7a4 1 := ⟨⟨tw_694, tw_20, by decide +kernel, ⟨by decide +kernel, by decide +kernel, by decide +kernel⟩, by decide⟩, tw_693⟩
abbrev m_X10_plainYes : am_M := (yX10_plainYes, cX10_plainYes, 1, some .int)
theorem tw_701 : (Jvm.Cond.code ({ cls := "MouthHouse$Votes", name := "plainYes", desc := "()I" } : Jvm.MethodName) prog_12_method_6_code (1 : Nat) (Option.some Jvm.ClassFile.FieldType.int)) ∈ lw_tbl := List.mem_of_getElem? (l := lw_tbl) (i := 874) (by decide +kernel)
theorem tw_700 : (Jvm.Cond.instanceMethod ({ cls := "MouthHouse$Votes", name := "plainYes", desc := "()I" } : Jvm.MethodName)) ∈ lw_tbl := List.mem_of_getElem? (l := lw_tbl) (i := 873) (by decide +kernel)
theorem mV_X10_plainYes : am_mV m_X10_plainYes 0 := ⟨⟨tw_701, tw_8, by decide +kernel, ⟨by decide +kernel, by decide +kernel, by decide +kernel⟩, by decide⟩, tw_700, List.mem_of_getElem? (l := lw_tbl) (i := 55) (by decide +kernel)⟩
abbrev m_X10_yesBits : am_M := (yX10_yesBits, cX10_yesBits, 3, some .int)
theorem tw_705 : (Jvm.Cond.code ({ cls := "MouthHouse$Votes", name := "yesBits", desc := "()I" } : Jvm.MethodName) prog_12_method_4_code (3 : Nat) (Option.some Jvm.ClassFile.FieldType.int)) ∈ lw_tbl := List.mem_of_getElem? (l := lw_tbl) (i := 878) (by decide +kernel)
theorem tw_704 : (Jvm.Cond.instanceMethod ({ cls := "MouthHouse$Votes", name := "yesBits", desc := "()I" } : Jvm.MethodName)) ∈ lw_tbl := List.mem_of_getElem? (l := lw_tbl) (i := 877) (by decide +kernel)
theorem mV_X10_yesBits : am_mV m_X10_yesBits 0 := ⟨⟨tw_705, tw_8, by decide +kernel, ⟨by decide +kernel, by decide +kernel, by decide +kernel⟩, by decide⟩, tw_704, List.mem_of_getElem? (l := lw_tbl) (i := 56) (by decide +kernel)⟩
abbrev m_X11_odds : am_M := (yX11_odds, cX11_odds, 2, some .long)
theorem tw_710 : (Jvm.Cond.code ({ cls := "MouthHouse", name := "odds", desc := "(I)J" } : Jvm.MethodName) prog_1_method_16_code (2 : Nat) (Option.some Jvm.ClassFile.FieldType.long)) ∈ lw_tbl := List.mem_of_getElem? (l := lw_tbl) (i := 883) (by decide +kernel)
theorem tw_709 : (Jvm.Cond.selects "MouthHouse" ({ cls := "MouthHouse", name := "odds", desc := "(I)J" } : Jvm.MethodName) ({ cls := "MouthHouse", name := "odds", desc := "(I)J" } : Jvm.MethodName)) ∈ lw_tbl := List.mem_of_getElem? (l := lw_tbl) (i := 882) (by decide +kernel)
theorem tw_708 : (Jvm.Cond.instanceMethod ({ cls := "MouthHouse", name := "odds", desc := "(I)J" } : Jvm.MethodName)) ∈ lw_tbl := List.mem_of_getElem? (l := lw_tbl) (i := 881) (by decide +kernel)
theorem mV_X11_odds : am_mV m_X11_odds 1 := ⟨⟨tw_710, tw_1, by decide +kernel, ⟨by decide +kernel, by decide +kernel, by decide +kernel⟩, by decide⟩, tw_708, tw_709⟩
abbrev m_X10_partsOf : am_M := (yX10_partsOf, cX10_partsOf, 2, some .long)
theorem tw_714 : (Jvm.Cond.code ({ cls := "MouthHouse$Votes", name := "partsOf", desc := "(I)J" } : Jvm.MethodName) prog_12_method_9_code (2 : Nat) (Option.some Jvm.ClassFile.FieldType.long)) ∈ lw_tbl := List.mem_of_getElem? (l := lw_tbl) (i := 887) (by decide +kernel)
theorem tw_713 : (Jvm.Cond.instanceMethod ({ cls := "MouthHouse$Votes", name := "partsOf", desc := "(I)J" } : Jvm.MethodName)) ∈ lw_tbl := List.mem_of_getElem? (l := lw_tbl) (i := 886) (by decide +kernel)
theorem mV_X10_partsOf : am_mV m_X10_partsOf 1 := ⟨⟨tw_714, tw_8, by decide +kernel, ⟨by decide +kernel, by decide +kernel, by decide +kernel⟩, by decide⟩, tw_713, List.mem_of_getElem? (l := lw_tbl) (i := 57) (by decide +kernel)⟩
abbrev m_X10_spread : am_M := (yX10_spread, cX10_spread, 5, some .int)
theorem tw_718 : (Jvm.Cond.code ({ cls := "MouthHouse$Votes", name := "spread", desc := "(I)I" } : Jvm.MethodName) prog_12_method_7_code (5 : Nat) (Option.some Jvm.ClassFile.FieldType.int)) ∈ lw_tbl := List.mem_of_getElem? (l := lw_tbl) (i := 891) (by decide +kernel)
theorem tw_717 : (Jvm.Cond.instanceMethod ({ cls := "MouthHouse$Votes", name := "spread", desc := "(I)I" } : Jvm.MethodName)) ∈ lw_tbl := List.mem_of_getElem? (l := lw_tbl) (i := 890) (by decide +kernel)
theorem mV_X10_spread : am_mV m_X10_spread 1 := ⟨⟨tw_718, tw_8, by decide +kernel, ⟨by decide +kernel, by decide +kernel, by decide +kernel⟩, by decide⟩, tw_717, List.mem_of_getElem? (l := lw_tbl) (i := 58) (by decide +kernel)⟩
abbrev m_X10_hear : am_M := (yX10_hear, cX10_hear, 5, none)
theorem tw_724 : (Jvm.Cond.code ({ cls := "MouthHouse$Votes", name := "hear", desc := "(I)V" } : Jvm.MethodName) prog_12_method_8_code (5 : Nat) (Option.none : Option Jvm.ClassFile.FieldType)) ∈ lw_tbl := List.mem_of_getElem? (l := lw_tbl) (i := 897) (by decide +kernel)
theorem tw_723 : (Jvm.Cond.instanceMethod ({ cls := "MouthHouse$Votes", name := "hear", desc := "(I)V" } : Jvm.MethodName)) ∈ lw_tbl := List.mem_of_getElem? (l := lw_tbl) (i := 896) (by decide +kernel)
theorem mV_X10_hear : am_mV m_X10_hear 1 := ⟨⟨tw_724, tw_8, by decide +kernel, ⟨by decide +kernel, by decide +kernel, by decide +kernel⟩, by decide⟩, tw_723, List.mem_of_getElem? (l := lw_tbl) (i := 59) (by decide +kernel)⟩
abbrev m_X11_passed : am_M := (yX11_passed, cX11_passed, 1, some .long)
theorem tw_728 : (Jvm.Cond.code ({ cls := "MouthHouse", name := "passed", desc := "()J" } : Jvm.MethodName) prog_1_method_17_code (1 : Nat) (Option.some Jvm.ClassFile.FieldType.long)) ∈ lw_tbl := List.mem_of_getElem? (l := lw_tbl) (i := 901) (by decide +kernel)
theorem tw_727 : (Jvm.Cond.selects "MouthHouse" ({ cls := "MouthHouse", name := "passed", desc := "()J" } : Jvm.MethodName) ({ cls := "MouthHouse", name := "passed", desc := "()J" } : Jvm.MethodName)) ∈ lw_tbl := List.mem_of_getElem? (l := lw_tbl) (i := 900) (by decide +kernel)
theorem tw_726 : (Jvm.Cond.instanceMethod ({ cls := "MouthHouse", name := "passed", desc := "()J" } : Jvm.MethodName)) ∈ lw_tbl := List.mem_of_getElem? (l := lw_tbl) (i := 899) (by decide +kernel)
theorem mV_X11_passed : am_mV m_X11_passed 0 := ⟨⟨tw_728, tw_1, by decide +kernel, ⟨by decide +kernel, by decide +kernel, by decide +kernel⟩, by decide⟩, tw_726, tw_727⟩
abbrev m_X10_passingParts : am_M := (yX10_passingParts, cX10_passingParts, 6, some .long)
theorem tw_732 : (Jvm.Cond.code ({ cls := "MouthHouse$Votes", name := "passingParts", desc := "(I)J" } : Jvm.MethodName) prog_12_method_10_code (6 : Nat) (Option.some Jvm.ClassFile.FieldType.long)) ∈ lw_tbl := List.mem_of_getElem? (l := lw_tbl) (i := 905) (by decide +kernel)
theorem tw_731 : (Jvm.Cond.instanceMethod ({ cls := "MouthHouse$Votes", name := "passingParts", desc := "(I)J" } : Jvm.MethodName)) ∈ lw_tbl := List.mem_of_getElem? (l := lw_tbl) (i := 904) (by decide +kernel)
theorem mV_X10_passingParts : am_mV m_X10_passingParts 1 := ⟨⟨tw_732, tw_8, by decide +kernel, ⟨by decide +kernel, by decide +kernel, by decide +kernel⟩, by decide⟩, tw_731, List.mem_of_getElem? (l := lw_tbl) (i := 60) (by decide +kernel)⟩
abbrev m_X10_passes : am_M := (yX10_passes, cX10_passes, 2, some .boolean)
theorem tw_735 : (Jvm.Cond.code ({ cls := "MouthHouse$Votes", name := "passes", desc := "(II)Z" } : Jvm.MethodName) prog_12_method_2_code (2 : Nat) (Option.some Jvm.ClassFile.FieldType.boolean)) ∈ lw_tbl := List.mem_of_getElem? (l := lw_tbl) (i := 908) (by decide +kernel)
theorem tw_734 : (Jvm.Cond.static ({ cls := "MouthHouse$Votes", name := "passes", desc := "(II)Z" } : Jvm.MethodName)) ∈ lw_tbl := List.mem_of_getElem? (l := lw_tbl) (i := 907) (by decide +kernel)
theorem mS_X10_passes : am_mS m_X10_passes 2 := ⟨⟨tw_735, tw_8, by decide +kernel, ⟨by decide +kernel, by decide +kernel, by decide +kernel⟩, by decide⟩, tw_734⟩
abbrev m_X11_turner : am_M := (yX11_turner, cX11_turner, 1, some .int)
theorem tw_739 : (Jvm.Cond.code ({ cls := "MouthHouse", name := "turner", desc := "()I" } : Jvm.MethodName) prog_1_method_18_code (1 : Nat) (Option.some Jvm.ClassFile.FieldType.int)) ∈ lw_tbl := List.mem_of_getElem? (l := lw_tbl) (i := 912) (by decide +kernel)
theorem tw_738 : (Jvm.Cond.selects "MouthHouse" ({ cls := "MouthHouse", name := "turner", desc := "()I" } : Jvm.MethodName) ({ cls := "MouthHouse", name := "turner", desc := "()I" } : Jvm.MethodName)) ∈ lw_tbl := List.mem_of_getElem? (l := lw_tbl) (i := 911) (by decide +kernel)
theorem tw_737 : (Jvm.Cond.instanceMethod ({ cls := "MouthHouse", name := "turner", desc := "()I" } : Jvm.MethodName)) ∈ lw_tbl := List.mem_of_getElem? (l := lw_tbl) (i := 910) (by decide +kernel)
theorem mV_X11_turner : am_mV m_X11_turner 0 := ⟨⟨tw_739, tw_1, by decide +kernel, ⟨by decide +kernel, by decide +kernel, by decide +kernel⟩, by decide⟩, tw_737, tw_738⟩
abbrev m_X10_whoTurns : am_M := (yX10_whoTurns, cX10_whoTurns, 11, some .int)
theorem tw_743 : (Jvm.Cond.code ({ cls := "MouthHouse$Votes", name := "whoTurns", desc := "()I" } : Jvm.MethodName) prog_12_method_11_code (11 : Nat) (Option.some Jvm.ClassFile.FieldType.int)) ∈ lw_tbl := List.mem_of_getElem? (l := lw_tbl) (i := 916) (by decide +kernel)
theorem tw_742 : (Jvm.Cond.instanceMethod ({ cls := "MouthHouse$Votes", name := "whoTurns", desc := "()I" } : Jvm.MethodName)) ∈ lw_tbl := List.mem_of_getElem? (l := lw_tbl) (i := 915) (by decide +kernel)
theorem mV_X10_whoTurns : am_mV m_X10_whoTurns 0 := ⟨⟨tw_743, tw_8, by decide +kernel, ⟨by decide +kernel, by decide +kernel, by decide +kernel⟩, by decide⟩, tw_742, List.mem_of_getElem? (l := lw_tbl) (i := 61) (by decide +kernel)⟩
abbrev m_X11_bribe : am_M := (yX11_bribe, cX11_bribe, 3, some .int)
theorem tw_750 : (Jvm.Cond.code ({ cls := "MouthHouse", name := "bribe", desc := "(I)I" } : Jvm.MethodName) prog_1_method_19_code (3 : Nat) (Option.some Jvm.ClassFile.FieldType.int)) ∈ lw_tbl := List.mem_of_getElem? (l := lw_tbl) (i := 923) (by decide +kernel)
theorem tw_749 : (Jvm.Cond.selects "MouthHouse" ({ cls := "MouthHouse", name := "bribe", desc := "(I)I" } : Jvm.MethodName) ({ cls := "MouthHouse", name := "bribe", desc := "(I)I" } : Jvm.MethodName)) ∈ lw_tbl := List.mem_of_getElem? (l := lw_tbl) (i := 922) (by decide +kernel)
theorem tw_748 : (Jvm.Cond.instanceMethod ({ cls := "MouthHouse", name := "bribe", desc := "(I)I" } : Jvm.MethodName)) ∈ lw_tbl := List.mem_of_getElem? (l := lw_tbl) (i := 921) (by decide +kernel)
theorem mV_X11_bribe : am_mV m_X11_bribe 1 := ⟨⟨tw_750, tw_1, by decide +kernel, ⟨by decide +kernel, by decide +kernel, by decide +kernel⟩, by decide⟩, tw_748, tw_749⟩
abbrev m_X10_cheapest : am_M := (yX10_cheapest, cX10_cheapest, 10, some .int)
theorem tw_754 : (Jvm.Cond.code ({ cls := "MouthHouse$Votes", name := "cheapest", desc := "()I" } : Jvm.MethodName) prog_12_method_12_code (10 : Nat) (Option.some Jvm.ClassFile.FieldType.int)) ∈ lw_tbl := List.mem_of_getElem? (l := lw_tbl) (i := 927) (by decide +kernel)
theorem tw_753 : (Jvm.Cond.instanceMethod ({ cls := "MouthHouse$Votes", name := "cheapest", desc := "()I" } : Jvm.MethodName)) ∈ lw_tbl := List.mem_of_getElem? (l := lw_tbl) (i := 926) (by decide +kernel)
theorem mV_X10_cheapest : am_mV m_X10_cheapest 0 := ⟨⟨tw_754, tw_8, by decide +kernel, ⟨by decide +kernel, by decide +kernel, by decide +kernel⟩, by decide⟩, tw_753, List.mem_of_getElem? (l := lw_tbl) (i := 62) (by decide +kernel)⟩
abbrev m_X5_living : am_M := (yX5_living, cX5_living, 3, some .int)
theorem tw_758 : (Jvm.Cond.code ({ cls := "MouthHouse$Members", name := "living", desc := "()I" } : Jvm.MethodName) prog_7_method_11_code (3 : Nat) (Option.some Jvm.ClassFile.FieldType.int)) ∈ lw_tbl := List.mem_of_getElem? (l := lw_tbl) (i := 931) (by decide +kernel)
theorem tw_757 : (Jvm.Cond.instanceMethod ({ cls := "MouthHouse$Members", name := "living", desc := "()I" } : Jvm.MethodName)) ∈ lw_tbl := List.mem_of_getElem? (l := lw_tbl) (i := 930) (by decide +kernel)
theorem mV_X5_living : am_mV m_X5_living 0 := ⟨⟨tw_758, tw_4, by decide +kernel, ⟨by decide +kernel, by decide +kernel, by decide +kernel⟩, by decide⟩, tw_757, List.mem_of_getElem? (l := lw_tbl) (i := 63) (by decide +kernel)⟩
abbrev m_X10_costOf : am_M := (yX10_costOf, cX10_costOf, 4, some .int)
theorem tw_763 : (Jvm.Cond.code ({ cls := "MouthHouse$Votes", name := "costOf", desc := "(I)I" } : Jvm.MethodName) prog_12_method_13_code (4 : Nat) (Option.some Jvm.ClassFile.FieldType.int)) ∈ lw_tbl := List.mem_of_getElem? (l := lw_tbl) (i := 936) (by decide +kernel)
theorem tw_762 : (Jvm.Cond.instanceMethod ({ cls := "MouthHouse$Votes", name := "costOf", desc := "(I)I" } : Jvm.MethodName)) ∈ lw_tbl := List.mem_of_getElem? (l := lw_tbl) (i := 935) (by decide +kernel)
theorem mV_X10_costOf : am_mV m_X10_costOf 1 := ⟨⟨tw_763, tw_8, by decide +kernel, ⟨by decide +kernel, by decide +kernel, by decide +kernel⟩, by decide⟩, tw_762, List.mem_of_getElem? (l := lw_tbl) (i := 64) (by decide +kernel)⟩
abbrev m_X11_yawn : am_M := (yX11_yawn, cX11_yawn, 3, some .int)
theorem tw_768 : (Jvm.Cond.code ({ cls := "MouthHouse", name := "yawn", desc := "(II)I" } : Jvm.MethodName) prog_1_method_20_code (3 : Nat) (Option.some Jvm.ClassFile.FieldType.int)) ∈ lw_tbl := List.mem_of_getElem? (l := lw_tbl) (i := 941) (by decide +kernel)
theorem tw_767 : (Jvm.Cond.selects "MouthHouse" ({ cls := "MouthHouse", name := "yawn", desc := "(II)I" } : Jvm.MethodName) ({ cls := "MouthHouse", name := "yawn", desc := "(II)I" } : Jvm.MethodName)) ∈ lw_tbl := List.mem_of_getElem? (l := lw_tbl) (i := 940) (by decide +kernel)
theorem tw_766 : (Jvm.Cond.instanceMethod ({ cls := "MouthHouse", name := "yawn", desc := "(II)I" } : Jvm.MethodName)) ∈ lw_tbl := List.mem_of_getElem? (l := lw_tbl) (i := 939) (by decide +kernel)
theorem mV_X11_yawn : am_mV m_X11_yawn 2 := ⟨⟨tw_768, tw_1, by decide +kernel, ⟨by decide +kernel, by decide +kernel, by decide +kernel⟩, by decide⟩, tw_766, tw_767⟩
abbrev m_X8_spreadYawn : am_M := (yX8_spreadYawn, cX8_spreadYawn, 5, none)
theorem tw_772 : (Jvm.Cond.code ({ cls := "MouthHouse$Talk", name := "spreadYawn", desc := "(I)V" } : Jvm.MethodName) prog_10_method_8_code (5 : Nat) (Option.none : Option Jvm.ClassFile.FieldType)) ∈ lw_tbl := List.mem_of_getElem? (l := lw_tbl) (i := 945) (by decide +kernel)
theorem tw_771 : (Jvm.Cond.instanceMethod ({ cls := "MouthHouse$Talk", name := "spreadYawn", desc := "(I)V" } : Jvm.MethodName)) ∈ lw_tbl := List.mem_of_getElem? (l := lw_tbl) (i := 944) (by decide +kernel)
theorem mV_X8_spreadYawn : am_mV m_X8_spreadYawn 1 := ⟨⟨tw_772, tw_7, by decide +kernel, ⟨by decide +kernel, by decide +kernel, by decide +kernel⟩, by decide⟩, tw_771, List.mem_of_getElem? (l := lw_tbl) (i := 65) (by decide +kernel)⟩
abbrev m_X8_catchYawn : am_M := (yX8_catchYawn, cX8_catchYawn, 5, none)
theorem tw_776 : (Jvm.Cond.code ({ cls := "MouthHouse$Talk", name := "catchYawn", desc := "(II)V" } : Jvm.MethodName) prog_10_method_9_code (5 : Nat) (Option.none : Option Jvm.ClassFile.FieldType)) ∈ lw_tbl := List.mem_of_getElem? (l := lw_tbl) (i := 949) (by decide +kernel)
theorem tw_775 : (Jvm.Cond.instanceMethod ({ cls := "MouthHouse$Talk", name := "catchYawn", desc := "(II)V" } : Jvm.MethodName)) ∈ lw_tbl := List.mem_of_getElem? (l := lw_tbl) (i := 948) (by decide +kernel)
theorem mV_X8_catchYawn : am_mV m_X8_catchYawn 2 := ⟨⟨tw_776, tw_7, by decide +kernel, ⟨by decide +kernel, by decide +kernel, by decide +kernel⟩, by decide⟩, tw_775, List.mem_of_getElem? (l := lw_tbl) (i := 66) (by decide +kernel)⟩
abbrev m_X8_yawnedAt : am_M := (yX8_yawnedAt, cX8_yawnedAt, 2, some .int)
theorem tw_780 : (Jvm.Cond.code ({ cls := "MouthHouse$Talk", name := "yawnedAt", desc := "(I)I" } : Jvm.MethodName) prog_10_method_10_code (2 : Nat) (Option.some Jvm.ClassFile.FieldType.int)) ∈ lw_tbl := List.mem_of_getElem? (l := lw_tbl) (i := 953) (by decide +kernel)
theorem tw_779 : (Jvm.Cond.instanceMethod ({ cls := "MouthHouse$Talk", name := "yawnedAt", desc := "(I)I" } : Jvm.MethodName)) ∈ lw_tbl := List.mem_of_getElem? (l := lw_tbl) (i := 952) (by decide +kernel)
theorem mV_X8_yawnedAt : am_mV m_X8_yawnedAt 1 := ⟨⟨tw_780, tw_7, by decide +kernel, ⟨by decide +kernel, by decide +kernel, by decide +kernel⟩, by decide⟩, tw_779, List.mem_of_getElem? (l := lw_tbl) (i := 67) (by decide +kernel)⟩
abbrev m_X6_rightOf : am_M := (yX6_rightOf, cX6_rightOf, 3, some .int)
theorem tw_785 : (Jvm.Cond.code ({ cls := "MouthHouse$Seating", name := "rightOf", desc := "(IZ)I" } : Jvm.MethodName) prog_8_method_10_code (3 : Nat) (Option.some Jvm.ClassFile.FieldType.int)) ∈ lw_tbl := List.mem_of_getElem? (l := lw_tbl) (i := 958) (by decide +kernel)
theorem tw_784 : (Jvm.Cond.instanceMethod ({ cls := "MouthHouse$Seating", name := "rightOf", desc := "(IZ)I" } : Jvm.MethodName)) ∈ lw_tbl := List.mem_of_getElem? (l := lw_tbl) (i := 957) (by decide +kernel)
theorem mV_X6_rightOf : am_mV m_X6_rightOf 2 := ⟨⟨tw_785, tw_6, by decide +kernel, ⟨by decide +kernel, by decide +kernel, by decide +kernel⟩, by decide⟩, tw_784, List.mem_of_getElem? (l := lw_tbl) (i := 68) (by decide +kernel)⟩
abbrev m_X11_yawns : am_M := (yX11_yawns, cX11_yawns, 3, some .int)
theorem tw_790 : (Jvm.Cond.code ({ cls := "MouthHouse", name := "yawns", desc := "(II)I" } : Jvm.MethodName) prog_1_method_21_code (3 : Nat) (Option.some Jvm.ClassFile.FieldType.int)) ∈ lw_tbl := List.mem_of_getElem? (l := lw_tbl) (i := 963) (by decide +kernel)
theorem tw_789 : (Jvm.Cond.selects "MouthHouse" ({ cls := "MouthHouse", name := "yawns", desc := "(II)I" } : Jvm.MethodName) ({ cls := "MouthHouse", name := "yawns", desc := "(II)I" } : Jvm.MethodName)) ∈ lw_tbl := List.mem_of_getElem? (l := lw_tbl) (i := 962) (by decide +kernel)
theorem tw_788 : (Jvm.Cond.instanceMethod ({ cls := "MouthHouse", name := "yawns", desc := "(II)I" } : Jvm.MethodName)) ∈ lw_tbl := List.mem_of_getElem? (l := lw_tbl) (i := 961) (by decide +kernel)
theorem mV_X11_yawns : am_mV m_X11_yawns 2 := ⟨⟨tw_790, tw_1, by decide +kernel, ⟨by decide +kernel, by decide +kernel, by decide +kernel⟩, by decide⟩, tw_788, tw_789⟩
abbrev m_X8_lastYawn : am_M := (yX8_lastYawn, cX8_lastYawn, 3, some .int)
theorem tw_794 : (Jvm.Cond.code ({ cls := "MouthHouse$Talk", name := "lastYawn", desc := "()I" } : Jvm.MethodName) prog_10_method_11_code (3 : Nat) (Option.some Jvm.ClassFile.FieldType.int)) ∈ lw_tbl := List.mem_of_getElem? (l := lw_tbl) (i := 967) (by decide +kernel)
theorem tw_793 : (Jvm.Cond.instanceMethod ({ cls := "MouthHouse$Talk", name := "lastYawn", desc := "()I" } : Jvm.MethodName)) ∈ lw_tbl := List.mem_of_getElem? (l := lw_tbl) (i := 966) (by decide +kernel)
theorem mV_X8_lastYawn : am_mV m_X8_lastYawn 0 := ⟨⟨tw_794, tw_7, by decide +kernel, ⟨by decide +kernel, by decide +kernel, by decide +kernel⟩, by decide⟩, tw_793, List.mem_of_getElem? (l := lw_tbl) (i := 69) (by decide +kernel)⟩
abbrev m_X8_sleepy : am_M := (yX8_sleepy, cX8_sleepy, 3, some .int)
theorem tw_799 : (Jvm.Cond.code ({ cls := "MouthHouse$Talk", name := "sleepy", desc := "()I" } : Jvm.MethodName) prog_10_method_12_code (3 : Nat) (Option.some Jvm.ClassFile.FieldType.int)) ∈ lw_tbl := List.mem_of_getElem? (l := lw_tbl) (i := 972) (by decide +kernel)
theorem tw_798 : (Jvm.Cond.instanceMethod ({ cls := "MouthHouse$Talk", name := "sleepy", desc := "()I" } : Jvm.MethodName)) ∈ lw_tbl := List.mem_of_getElem? (l := lw_tbl) (i := 971) (by decide +kernel)
theorem mV_X8_sleepy : am_mV m_X8_sleepy 0 := ⟨⟨tw_799, tw_7, by decide +kernel, ⟨by decide +kernel, by decide +kernel, by decide +kernel⟩, by decide⟩, tw_798, List.mem_of_getElem? (l := lw_tbl) (i := 70) (by decide +kernel)⟩
abbrev m_X11_ill : am_M := (yX11_ill, cX11_ill, 1, some .int)
theorem tw_803 : (Jvm.Cond.code ({ cls := "MouthHouse", name := "ill", desc := "()I" } : Jvm.MethodName) prog_1_method_22_code (1 : Nat) (Option.some Jvm.ClassFile.FieldType.int)) ∈ lw_tbl := List.mem_of_getElem? (l := lw_tbl) (i := 976) (by decide +kernel)
theorem tw_802 : (Jvm.Cond.selects "MouthHouse" ({ cls := "MouthHouse", name := "ill", desc := "()I" } : Jvm.MethodName) ({ cls := "MouthHouse", name := "ill", desc := "()I" } : Jvm.MethodName)) ∈ lw_tbl := List.mem_of_getElem? (l := lw_tbl) (i := 975) (by decide +kernel)
theorem tw_801 : (Jvm.Cond.instanceMethod ({ cls := "MouthHouse", name := "ill", desc := "()I" } : Jvm.MethodName)) ∈ lw_tbl := List.mem_of_getElem? (l := lw_tbl) (i := 974) (by decide +kernel)
theorem mV_X11_ill : am_mV m_X11_ill 0 := ⟨⟨tw_803, tw_1, by decide +kernel, ⟨by decide +kernel, by decide +kernel, by decide +kernel⟩, by decide⟩, tw_801, tw_802⟩
abbrev m_X0_illOf : am_M := (yX0_illOf, cX0_illOf, 5, some .int)
theorem tw_808 : (Jvm.Cond.code ({ cls := "MouthHouse$Best", name := "illOf", desc := "(LMouthHouse$Seating;)I" } : Jvm.MethodName) prog_2_method_4_code (5 : Nat) (Option.some Jvm.ClassFile.FieldType.int)) ∈ lw_tbl := List.mem_of_getElem? (l := lw_tbl) (i := 981) (by decide +kernel)
theorem tw_807 : (Jvm.Cond.instanceMethod ({ cls := "MouthHouse$Best", name := "illOf", desc := "(LMouthHouse$Seating;)I" } : Jvm.MethodName)) ∈ lw_tbl := List.mem_of_getElem? (l := lw_tbl) (i := 980) (by decide +kernel)
theorem mV_X0_illOf : am_mV m_X0_illOf 1 := ⟨⟨tw_808, tw_9, by decide +kernel, ⟨by decide +kernel, by decide +kernel, by decide +kernel⟩, by decide⟩, tw_807, List.mem_of_getElem? (l := lw_tbl) (i := 71) (by decide +kernel)⟩
abbrev m_X0_worthOf : am_M := (yX0_worthOf, cX0_worthOf, 5, some .int)
theorem tw_814 : (Jvm.Cond.code ({ cls := "MouthHouse$Best", name := "worthOf", desc := "(III)I" } : Jvm.MethodName) prog_2_method_5_code (5 : Nat) (Option.some Jvm.ClassFile.FieldType.int)) ∈ lw_tbl := List.mem_of_getElem? (l := lw_tbl) (i := 987) (by decide +kernel)
theorem tw_813 : (Jvm.Cond.instanceMethod ({ cls := "MouthHouse$Best", name := "worthOf", desc := "(III)I" } : Jvm.MethodName)) ∈ lw_tbl := List.mem_of_getElem? (l := lw_tbl) (i := 986) (by decide +kernel)
theorem mV_X0_worthOf : am_mV m_X0_worthOf 3 := ⟨⟨tw_814, tw_9, by decide +kernel, ⟨by decide +kernel, by decide +kernel, by decide +kernel⟩, by decide⟩, tw_813, List.mem_of_getElem? (l := lw_tbl) (i := 72) (by decide +kernel)⟩
abbrev m_X5_areEnemies : am_M := (yX5_areEnemies, cX5_areEnemies, 3, some .boolean)
theorem tw_818 : (Jvm.Cond.code ({ cls := "MouthHouse$Members", name := "areEnemies", desc := "(II)Z" } : Jvm.MethodName) prog_7_method_13_code (3 : Nat) (Option.some Jvm.ClassFile.FieldType.boolean)) ∈ lw_tbl := List.mem_of_getElem? (l := lw_tbl) (i := 991) (by decide +kernel)
theorem tw_817 : (Jvm.Cond.instanceMethod ({ cls := "MouthHouse$Members", name := "areEnemies", desc := "(II)Z" } : Jvm.MethodName)) ∈ lw_tbl := List.mem_of_getElem? (l := lw_tbl) (i := 990) (by decide +kernel)
theorem mV_X5_areEnemies : am_mV m_X5_areEnemies 2 := ⟨⟨tw_818, tw_4, by decide +kernel, ⟨by decide +kernel, by decide +kernel, by decide +kernel⟩, by decide⟩, tw_817, List.mem_of_getElem? (l := lw_tbl) (i := 73) (by decide +kernel)⟩
abbrev m_X3_worthBy : am_M := (yX3_worthBy, cX3_worthBy, 4, some .int)
theorem tw_823 : (Jvm.Cond.code ({ cls := "MouthHouse$Manners", name := "worthBy", desc := "([I)I" } : Jvm.MethodName) prog_5_method_3_code (4 : Nat) (Option.some Jvm.ClassFile.FieldType.int)) ∈ lw_tbl := List.mem_of_getElem? (l := lw_tbl) (i := 996) (by decide +kernel)
theorem tw_822 : (Jvm.Cond.instanceMethod ({ cls := "MouthHouse$Manners", name := "worthBy", desc := "([I)I" } : Jvm.MethodName)) ∈ lw_tbl := List.mem_of_getElem? (l := lw_tbl) (i := 995) (by decide +kernel)
theorem mV_X3_worthBy : am_mV m_X3_worthBy 1 := ⟨⟨tw_823, tw_10, by decide +kernel, ⟨by decide +kernel, by decide +kernel, by decide +kernel⟩, by decide⟩, tw_822, List.mem_of_getElem? (l := lw_tbl) (i := 74) (by decide +kernel)⟩
abbrev m_X3_push : am_M := (yX3_push, cX3_push, 2, none)
theorem tw_827 : (Jvm.Cond.code ({ cls := "MouthHouse$Manners", name := "push", desc := "(I)V" } : Jvm.MethodName) prog_5_method_5_code (2 : Nat) (Option.none : Option Jvm.ClassFile.FieldType)) ∈ lw_tbl := List.mem_of_getElem? (l := lw_tbl) (i := 1000) (by decide +kernel)
theorem tw_826 : (Jvm.Cond.instanceMethod ({ cls := "MouthHouse$Manners", name := "push", desc := "(I)V" } : Jvm.MethodName)) ∈ lw_tbl := List.mem_of_getElem? (l := lw_tbl) (i := 999) (by decide +kernel)
theorem mV_X3_push : am_mV m_X3_push 1 := ⟨⟨tw_827, tw_10, by decide +kernel, ⟨by decide +kernel, by decide +kernel, by decide +kernel⟩, by decide⟩, tw_826, List.mem_of_getElem? (l := lw_tbl) (i := 75) (by decide +kernel)⟩
abbrev m_X3_pop : am_M := (yX3_pop, cX3_pop, 1, some .int)
theorem tw_831 : (Jvm.Cond.code ({ cls := "MouthHouse$Manners", name := "pop", desc := "()I" } : Jvm.MethodName) prog_5_method_6_code (1 : Nat) (Option.some Jvm.ClassFile.FieldType.int)) ∈ lw_tbl := List.mem_of_getElem? (l := lw_tbl) (i := 1004) (by decide +kernel)
theorem tw_830 : (Jvm.Cond.instanceMethod ({ cls := "MouthHouse$Manners", name := "pop", desc := "()I" } : Jvm.MethodName)) ∈ lw_tbl := List.mem_of_getElem? (l := lw_tbl) (i := 1003) (by decide +kernel)
theorem mV_X3_pop : am_mV m_X3_pop 0 := ⟨⟨tw_831, tw_10, by decide +kernel, ⟨by decide +kernel, by decide +kernel, by decide +kernel⟩, by decide⟩, tw_830, List.mem_of_getElem? (l := lw_tbl) (i := 76) (by decide +kernel)⟩
abbrev m_X3_work : am_M := (yX3_work, cX3_work, 6, none)
theorem tw_835 : (Jvm.Cond.code ({ cls := "MouthHouse$Manners", name := "work", desc := "(I[I)V" } : Jvm.MethodName) prog_5_method_4_code (6 : Nat) (Option.none : Option Jvm.ClassFile.FieldType)) ∈ lw_tbl := List.mem_of_getElem? (l := lw_tbl) (i := 1008) (by decide +kernel)
theorem tw_834 : (Jvm.Cond.instanceMethod ({ cls := "MouthHouse$Manners", name := "work", desc := "(I[I)V" } : Jvm.MethodName)) ∈ lw_tbl := List.mem_of_getElem? (l := lw_tbl) (i := 1007) (by decide +kernel)
theorem mV_X3_work : am_mV m_X3_work 2 := ⟨⟨tw_835, tw_10, by decide +kernel, ⟨by decide +kernel, by decide +kernel, by decide +kernel⟩, by decide⟩, tw_834, List.mem_of_getElem? (l := lw_tbl) (i := 77) (by decide +kernel)⟩
abbrev m_X3_isTruthSign : am_M := (yX3_isTruthSign, cX3_isTruthSign, 1, some .boolean)
theorem tw_839 : (Jvm.Cond.code ({ cls := "MouthHouse$Manners", name := "isTruthSign", desc := "(I)Z" } : Jvm.MethodName) prog_5_method_7_code (1 : Nat) (Option.some Jvm.ClassFile.FieldType.boolean)) ∈ lw_tbl := List.mem_of_getElem? (l := lw_tbl) (i := 1012) (by decide +kernel)
theorem tw_838 : (Jvm.Cond.static ({ cls := "MouthHouse$Manners", name := "isTruthSign", desc := "(I)Z" } : Jvm.MethodName)) ∈ lw_tbl := List.mem_of_getElem? (l := lw_tbl) (i := 1011) (by decide +kernel)
theorem mS_X3_isTruthSign : am_mS m_X3_isTruthSign 1 := ⟨⟨tw_839, tw_10, by decide +kernel, ⟨by decide +kernel, by decide +kernel, by decide +kernel⟩, by decide⟩, tw_838⟩
abbrev m_X3_truth : am_M := (yX3_truth, cX3_truth, 3, some .int)
theorem tw_842 : (Jvm.Cond.code ({ cls := "MouthHouse$Manners", name := "truth", desc := "(III)I" } : Jvm.MethodName) prog_5_method_8_code (3 : Nat) (Option.some Jvm.ClassFile.FieldType.int)) ∈ lw_tbl := List.mem_of_getElem? (l := lw_tbl) (i := 1015) (by decide +kernel)
theorem tw_841 : (Jvm.Cond.static ({ cls := "MouthHouse$Manners", name := "truth", desc := "(III)I" } : Jvm.MethodName)) ∈ lw_tbl := List.mem_of_getElem? (l := lw_tbl) (i := 1014) (by decide +kernel)
theorem mS_X3_truth : am_mS m_X3_truth 3 := ⟨⟨tw_842, tw_10, by decide +kernel, ⟨by decide +kernel, by decide +kernel, by decide +kernel⟩, by decide⟩, tw_841⟩
abbrev m_X3_bounded : am_M := (yX3_bounded, cX3_bounded, 7, some .int)
theorem tw_845 : (Jvm.Cond.code ({ cls := "MouthHouse$Manners", name := "bounded", desc := "(IJJ)I" } : Jvm.MethodName) prog_5_method_9_code (7 : Nat) (Option.some Jvm.ClassFile.FieldType.int)) ∈ lw_tbl := List.mem_of_getElem? (l := lw_tbl) (i := 1018) (by decide +kernel)
theorem tw_844 : (Jvm.Cond.static ({ cls := "MouthHouse$Manners", name := "bounded", desc := "(IJJ)I" } : Jvm.MethodName)) ∈ lw_tbl := List.mem_of_getElem? (l := lw_tbl) (i := 1017) (by decide +kernel)
theorem mS_X3_bounded : am_mS m_X3_bounded 3 := ⟨⟨tw_845, tw_10, by decide +kernel, ⟨by decide +kernel, by decide +kernel, by decide +kernel⟩, by decide⟩, tw_844⟩
abbrev m_X11_best : am_M := (yX11_best, cX11_best, 3, some .int)
theorem tw_853 : (Jvm.Cond.code ({ cls := "MouthHouse", name := "best", desc := "(II)I" } : Jvm.MethodName) prog_1_method_23_code (3 : Nat) (Option.some Jvm.ClassFile.FieldType.int)) ∈ lw_tbl := List.mem_of_getElem? (l := lw_tbl) (i := 1026) (by decide +kernel)
theorem tw_852 : (Jvm.Cond.selects "MouthHouse" ({ cls := "MouthHouse", name := "best", desc := "(II)I" } : Jvm.MethodName) ({ cls := "MouthHouse", name := "best", desc := "(II)I" } : Jvm.MethodName)) ∈ lw_tbl := List.mem_of_getElem? (l := lw_tbl) (i := 1025) (by decide +kernel)
theorem tw_851 : (Jvm.Cond.instanceMethod ({ cls := "MouthHouse", name := "best", desc := "(II)I" } : Jvm.MethodName)) ∈ lw_tbl := List.mem_of_getElem? (l := lw_tbl) (i := 1024) (by decide +kernel)
theorem mV_X11_best : am_mV m_X11_best 2 := ⟨⟨tw_853, tw_1, by decide +kernel, ⟨by decide +kernel, by decide +kernel, by decide +kernel⟩, by decide⟩, tw_851, tw_852⟩
abbrev m_X0_search : am_M := (yX0_search, cX0_search, 2, none)
theorem tw_857 : (Jvm.Cond.code ({ cls := "MouthHouse$Best", name := "search", desc := "(I)V" } : Jvm.MethodName) prog_2_method_8_code (2 : Nat) (Option.none : Option Jvm.ClassFile.FieldType)) ∈ lw_tbl := List.mem_of_getElem? (l := lw_tbl) (i := 1030) (by decide +kernel)
theorem tw_856 : (Jvm.Cond.instanceMethod ({ cls := "MouthHouse$Best", name := "search", desc := "(I)V" } : Jvm.MethodName)) ∈ lw_tbl := List.mem_of_getElem? (l := lw_tbl) (i := 1029) (by decide +kernel)
theorem mV_X0_search : am_mV m_X0_search 1 := ⟨⟨tw_857, tw_9, by decide +kernel, ⟨by decide +kernel, by decide +kernel, by decide +kernel⟩, by decide⟩, tw_856, List.mem_of_getElem? (l := lw_tbl) (i := 78) (by decide +kernel)⟩
abbrev m_X0_fillWorths : am_M := (yX0_fillWorths, cX0_fillWorths, 3, none)
theorem tw_861 : (Jvm.Cond.code ({ cls := "MouthHouse$Best", name := "fillWorths", desc := "()V" } : Jvm.MethodName) prog_2_method_9_code (3 : Nat) (Option.none : Option Jvm.ClassFile.FieldType)) ∈ lw_tbl := List.mem_of_getElem? (l := lw_tbl) (i := 1034) (by decide +kernel)
theorem tw_860 : (Jvm.Cond.instanceMethod ({ cls := "MouthHouse$Best", name := "fillWorths", desc := "()V" } : Jvm.MethodName)) ∈ lw_tbl := List.mem_of_getElem? (l := lw_tbl) (i := 1033) (by decide +kernel)
theorem mV_X0_fillWorths : am_mV m_X0_fillWorths 0 := ⟨⟨tw_861, tw_9, by decide +kernel, ⟨by decide +kernel, by decide +kernel, by decide +kernel⟩, by decide⟩, tw_860, List.mem_of_getElem? (l := lw_tbl) (i := 79) (by decide +kernel)⟩
abbrev m_J7_fill_53178 : am_M := (yJ7_fill_53178, cJ7_fill_53178, 4, none)
theorem tw_864 : (Jvm.Cond.code ({ cls := "java/util/Arrays", name := "fill", desc := "([II)V" } : Jvm.MethodName) prog_22_method_103_code (4 : Nat) (Option.none : Option Jvm.ClassFile.FieldType)) ∈ lw_tbl := List.mem_of_getElem? (l := lw_tbl) (i := 1037) (by decide +kernel)
theorem tw_863 : (Jvm.Cond.static ({ cls := "java/util/Arrays", name := "fill", desc := "([II)V" } : Jvm.MethodName)) ∈ lw_tbl := List.mem_of_getElem? (l := lw_tbl) (i := 1036) (by decide +kernel)
theorem mS_J7_fill_53178 : am_mS m_J7_fill_53178 2 := ⟨⟨tw_864, tw_21, by decide +kernel, ⟨by decide +kernel, by decide +kernel, by decide +kernel⟩, by decide⟩, tw_863⟩
abbrev m_X0_fillWorthsAt : am_M := (yX0_fillWorthsAt, cX0_fillWorthsAt, 7, some .int)
theorem tw_868 : (Jvm.Cond.code ({ cls := "MouthHouse$Best", name := "fillWorthsAt", desc := "(I)I" } : Jvm.MethodName) prog_2_method_10_code (7 : Nat) (Option.some Jvm.ClassFile.FieldType.int)) ∈ lw_tbl := List.mem_of_getElem? (l := lw_tbl) (i := 1041) (by decide +kernel)
theorem tw_867 : (Jvm.Cond.instanceMethod ({ cls := "MouthHouse$Best", name := "fillWorthsAt", desc := "(I)I" } : Jvm.MethodName)) ∈ lw_tbl := List.mem_of_getElem? (l := lw_tbl) (i := 1040) (by decide +kernel)
theorem mV_X0_fillWorthsAt : am_mV m_X0_fillWorthsAt 1 := ⟨⟨tw_868, tw_9, by decide +kernel, ⟨by decide +kernel, by decide +kernel, by decide +kernel⟩, by decide⟩, tw_867, List.mem_of_getElem? (l := lw_tbl) (i := 80) (by decide +kernel)⟩
abbrev m_X0_roundHope : am_M := (yX0_roundHope, cX0_roundHope, 9, some .int)
theorem tw_875 : (Jvm.Cond.code ({ cls := "MouthHouse$Best", name := "roundHope", desc := "()I" } : Jvm.MethodName) prog_2_method_17_code (9 : Nat) (Option.some Jvm.ClassFile.FieldType.int)) ∈ lw_tbl := List.mem_of_getElem? (l := lw_tbl) (i := 1048) (by decide +kernel)
theorem tw_874 : (Jvm.Cond.instanceMethod ({ cls := "MouthHouse$Best", name := "roundHope", desc := "()I" } : Jvm.MethodName)) ∈ lw_tbl := List.mem_of_getElem? (l := lw_tbl) (i := 1047) (by decide +kernel)
theorem mV_X0_roundHope : am_mV m_X0_roundHope 0 := ⟨⟨tw_875, tw_9, by decide +kernel, ⟨by decide +kernel, by decide +kernel, by decide +kernel⟩, by decide⟩, tw_874, List.mem_of_getElem? (l := lw_tbl) (i := 81) (by decide +kernel)⟩
abbrev m_X0_quickest : am_M := (yX0_quickest, cX0_quickest, 5, some .int)
theorem tw_880 : (Jvm.Cond.code ({ cls := "MouthHouse$Best", name := "quickest", desc := "(I)I" } : Jvm.MethodName) prog_2_method_18_code (5 : Nat) (Option.some Jvm.ClassFile.FieldType.int)) ∈ lw_tbl := List.mem_of_getElem? (l := lw_tbl) (i := 1053) (by decide +kernel)
theorem tw_879 : (Jvm.Cond.instanceMethod ({ cls := "MouthHouse$Best", name := "quickest", desc := "(I)I" } : Jvm.MethodName)) ∈ lw_tbl := List.mem_of_getElem? (l := lw_tbl) (i := 1052) (by decide +kernel)
theorem mV_X0_quickest : am_mV m_X0_quickest 1 := ⟨⟨tw_880, tw_9, by decide +kernel, ⟨by decide +kernel, by decide +kernel, by decide +kernel⟩, by decide⟩, tw_879, List.mem_of_getElem? (l := lw_tbl) (i := 82) (by decide +kernel)⟩
abbrev m_X0_place : am_M := (yX0_place, cX0_place, 10, none)
theorem tw_884 : (Jvm.Cond.code ({ cls := "MouthHouse$Best", name := "place", desc := "(IIIII)V" } : Jvm.MethodName) prog_2_method_12_code (10 : Nat) (Option.none : Option Jvm.ClassFile.FieldType)) ∈ lw_tbl := List.mem_of_getElem? (l := lw_tbl) (i := 1057) (by decide +kernel)
theorem tw_883 : (Jvm.Cond.instanceMethod ({ cls := "MouthHouse$Best", name := "place", desc := "(IIIII)V" } : Jvm.MethodName)) ∈ lw_tbl := List.mem_of_getElem? (l := lw_tbl) (i := 1056) (by decide +kernel)
theorem mV_X0_place : am_mV m_X0_place 5 := ⟨⟨tw_884, tw_9, by decide +kernel, ⟨by decide +kernel, by decide +kernel, by decide +kernel⟩, by decide⟩, tw_883, List.mem_of_getElem? (l := lw_tbl) (i := 83) (by decide +kernel)⟩
abbrev m_X0_lastGain : am_M := (yX0_lastGain, cX0_lastGain, 4, some .int)
theorem tw_888 : (Jvm.Cond.code ({ cls := "MouthHouse$Best", name := "lastGain", desc := "(III)I" } : Jvm.MethodName) prog_2_method_15_code (4 : Nat) (Option.some Jvm.ClassFile.FieldType.int)) ∈ lw_tbl := List.mem_of_getElem? (l := lw_tbl) (i := 1061) (by decide +kernel)
theorem tw_887 : (Jvm.Cond.instanceMethod ({ cls := "MouthHouse$Best", name := "lastGain", desc := "(III)I" } : Jvm.MethodName)) ∈ lw_tbl := List.mem_of_getElem? (l := lw_tbl) (i := 1060) (by decide +kernel)
theorem mV_X0_lastGain : am_mV m_X0_lastGain 3 := ⟨⟨tw_888, tw_9, by decide +kernel, ⟨by decide +kernel, by decide +kernel, by decide +kernel⟩, by decide⟩, tw_887, List.mem_of_getElem? (l := lw_tbl) (i := 84) (by decide +kernel)⟩
abbrev m_X0_roundScore : am_M := (yX0_roundScore, cX0_roundScore, 6, some .int)
