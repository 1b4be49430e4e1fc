theorem js_J9_max_7cf53 : Cond.static Lib.Math.max.name ∈ lw_tbl := tw_538
abbrev m_X6_put : am_M := (yX6_put, cX6_put, 3, none)
theorem tw_543 : (Jvm.Cond.code ({ cls := "MouthHouse$Seating", name := "put", desc := "(II)V" } : Jvm.MethodName) prog_8_method_7_code (3 : Nat) (Option.none : Option Jvm.ClassFile.FieldType)) ∈ lw_tbl := List.mem_of_getElem? (l := lw_tbl) (i := 716) (by decide +kernel)
theorem tw_542 : (Jvm.Cond.instanceMethod ({ cls := "MouthHouse$Seating", name := "put", desc := "(II)V" } : Jvm.MethodName)) ∈ lw_tbl := List.mem_of_getElem? (l := lw_tbl) (i := 715) (by decide +kernel)
theorem mV_X6_put : am_mV m_X6_put 2 := ⟨⟨tw_543, tw_6, by decide +kernel, ⟨by decide +kernel, by decide +kernel, by decide +kernel⟩, by decide⟩, tw_542, List.mem_of_getElem? (l := lw_tbl) (i := 33) (by decide +kernel)⟩
abbrev m_X6_has : am_M := (yX6_has, cX6_has, 2, some .boolean)
theorem tw_547 : (Jvm.Cond.code ({ cls := "MouthHouse$Seating", name := "has", desc := "(I)Z" } : Jvm.MethodName) prog_8_method_4_code (2 : Nat) (Option.some Jvm.ClassFile.FieldType.boolean)) ∈ lw_tbl := List.mem_of_getElem? (l := lw_tbl) (i := 720) (by decide +kernel)
theorem tw_546 : (Jvm.Cond.instanceMethod ({ cls := "MouthHouse$Seating", name := "has", desc := "(I)Z" } : Jvm.MethodName)) ∈ lw_tbl := List.mem_of_getElem? (l := lw_tbl) (i := 719) (by decide +kernel)
theorem mV_X6_has : am_mV m_X6_has 1 := ⟨⟨tw_547, tw_6, by decide +kernel, ⟨by decide +kernel, by decide +kernel, by decide +kernel⟩, by decide⟩, tw_546, List.mem_of_getElem? (l := lw_tbl) (i := 34) (by decide +kernel)⟩
abbrev m_X10_forgetKnown : am_M := (yX10_forgetKnown, cX10_forgetKnown, 1, none)
theorem tw_551 : (Jvm.Cond.code ({ cls := "MouthHouse$Votes", name := "forgetKnown", desc := "()V" } : Jvm.MethodName) prog_12_method_14_code (1 : Nat) (Option.none : Option Jvm.ClassFile.FieldType)) ∈ lw_tbl := List.mem_of_getElem? (l := lw_tbl) (i := 724) (by decide +kernel)
theorem tw_550 : (Jvm.Cond.instanceMethod ({ cls := "MouthHouse$Votes", name := "forgetKnown", desc := "()V" } : Jvm.MethodName)) ∈ lw_tbl := List.mem_of_getElem? (l := lw_tbl) (i := 723) (by decide +kernel)
theorem mV_X10_forgetKnown : am_mV m_X10_forgetKnown 0 := ⟨⟨tw_551, tw_8, by decide +kernel, ⟨by decide +kernel, by decide +kernel, by decide +kernel⟩, by decide⟩, tw_550, List.mem_of_getElem? (l := lw_tbl) (i := 35) (by decide +kernel)⟩
abbrev m_X11_forgetAnswers : am_M := (yX11_forgetAnswers, cX11_forgetAnswers, 1, none)
theorem tw_555 : (Jvm.Cond.code ({ cls := "MouthHouse", name := "forgetAnswers", desc := "()V" } : Jvm.MethodName) prog_1_method_7_code (1 : Nat) (Option.none : Option Jvm.ClassFile.FieldType)) ∈ lw_tbl := List.mem_of_getElem? (l := lw_tbl) (i := 728) (by decide +kernel)
theorem tw_554 : (Jvm.Cond.instanceMethod ({ cls := "MouthHouse", name := "forgetAnswers", desc := "()V" } : Jvm.MethodName)) ∈ lw_tbl := List.mem_of_getElem? (l := lw_tbl) (i := 727) (by decide +kernel)
theorem mV_X11_forgetAnswers : am_mV m_X11_forgetAnswers 0 := ⟨⟨tw_555, tw_1, by decide +kernel, ⟨by decide +kernel, by decide +kernel, by decide +kernel⟩, by decide⟩, tw_554, List.mem_of_getElem? (l := lw_tbl) (i := 36) (by decide +kernel)⟩
abbrev m_X0_forget : am_M := (yX0_forget, cX0_forget, 2, none)
theorem tw_559 : (Jvm.Cond.code ({ cls := "MouthHouse$Best", name := "forget", desc := "()V" } : Jvm.MethodName) prog_2_method_2_code (2 : Nat) (Option.none : Option Jvm.ClassFile.FieldType)) ∈ lw_tbl := List.mem_of_getElem? (l := lw_tbl) (i := 732) (by decide +kernel)
theorem tw_558 : (Jvm.Cond.instanceMethod ({ cls := "MouthHouse$Best", name := "forget", desc := "()V" } : Jvm.MethodName)) ∈ lw_tbl := List.mem_of_getElem? (l := lw_tbl) (i := 731) (by decide +kernel)
theorem mV_X0_forget : am_mV m_X0_forget 0 := ⟨⟨tw_559, tw_9, by decide +kernel, ⟨by decide +kernel, by decide +kernel, by decide +kernel⟩, by decide⟩, tw_558, List.mem_of_getElem? (l := lw_tbl) (i := 37) (by decide +kernel)⟩
abbrev m_X1_forget : am_M := (yX1_forget, cX1_forget, 1, none)
theorem tw_563 : (Jvm.Cond.code ({ cls := "MouthHouse$Changes", name := "forget", desc := "()V" } : Jvm.MethodName) prog_3_method_2_code (1 : Nat) (Option.none : Option Jvm.ClassFile.FieldType)) ∈ lw_tbl := List.mem_of_getElem? (l := lw_tbl) (i := 736) (by decide +kernel)
theorem tw_562 : (Jvm.Cond.instanceMethod ({ cls := "MouthHouse$Changes", name := "forget", desc := "()V" } : Jvm.MethodName)) ∈ lw_tbl := List.mem_of_getElem? (l := lw_tbl) (i := 735) (by decide +kernel)
theorem mV_X1_forget : am_mV m_X1_forget 0 := ⟨⟨tw_563, tw_11, by decide +kernel, ⟨by decide +kernel, by decide +kernel, by decide +kernel⟩, by decide⟩, tw_562, List.mem_of_getElem? (l := lw_tbl) (i := 38) (by decide +kernel)⟩
abbrev m_X4_written : am_M := (yX4_written, cX4_written, 1, some (.object "MouthHouse$Manners"))
theorem tw_567 : (Jvm.Cond.code ({ cls := "MouthHouse$MannersReader", name := "written", desc := "()LMouthHouse$Manners;" } : Jvm.MethodName) prog_6_method_3_code (1 : Nat) (Option.some (Jvm.ClassFile.FieldType.object "MouthHouse$Manners"))) ∈ lw_tbl := List.mem_of_getElem? (l := lw_tbl) (i := 740) (by decide +kernel)
theorem tw_566 : (Jvm.Cond.instanceMethod ({ cls := "MouthHouse$MannersReader", name := "written", desc := "()LMouthHouse$Manners;" } : Jvm.MethodName)) ∈ lw_tbl := List.mem_of_getElem? (l := lw_tbl) (i := 739) (by decide +kernel)
theorem mV_X4_written : am_mV m_X4_written 0 := ⟨⟨tw_567, tw_5, by decide +kernel, ⟨by decide +kernel, by decide +kernel, by decide +kernel⟩, by decide⟩, tw_566, List.mem_of_getElem? (l := lw_tbl) (i := 39) (by decide +kernel)⟩
abbrev m_X3_init : am_M := (yX3_init, cX3_init, 4, none)
theorem tw_572 : (Jvm.Cond.code ({ cls := "MouthHouse$Manners", name := "<init>", desc := "([II)V" } : Jvm.MethodName) prog_5_method_1_code (4 : Nat) (Option.none : Option Jvm.ClassFile.FieldType)) ∈ lw_tbl := List.mem_of_getElem? (l := lw_tbl) (i := 745) (by decide +kernel)
theorem tw_571 : (Jvm.Cond.instanceMethod ({ cls := "MouthHouse$Manners", name := "<init>", desc := "([II)V" } : Jvm.MethodName)) ∈ lw_tbl := List.mem_of_getElem? (l := lw_tbl) (i := 744) (by decide +kernel)
theorem mI_X3_init : am_mI m_X3_init 2 := ⟨⟨tw_572, tw_10, by decide +kernel, ⟨by decide +kernel, by decide +kernel, by decide +kernel⟩, by decide⟩, rfl, tw_571, rfl⟩
abbrev m_X11_seat : am_M := (yX11_seat, cX11_seat, 2, some .int)
theorem tw_590 : (Jvm.Cond.code ({ cls := "MouthHouse", name := "seat", desc := "(I)I" } : Jvm.MethodName) prog_1_method_9_code (2 : Nat) (Option.some Jvm.ClassFile.FieldType.int)) ∈ lw_tbl := List.mem_of_getElem? (l := lw_tbl) (i := 763) (by decide +kernel)
theorem tw_589 : (Jvm.Cond.selects "MouthHouse" ({ cls := "MouthHouse", name := "seat", desc := "(I)I" } : Jvm.MethodName) ({ cls := "MouthHouse", name := "seat", desc := "(I)I" } : Jvm.MethodName)) ∈ lw_tbl := List.mem_of_getElem? (l := lw_tbl) (i := 762) (by decide +kernel)
theorem tw_588 : (Jvm.Cond.instanceMethod ({ cls := "MouthHouse", name := "seat", desc := "(I)I" } : Jvm.MethodName)) ∈ lw_tbl := List.mem_of_getElem? (l := lw_tbl) (i := 761) (by decide +kernel)
theorem mV_X11_seat : am_mV m_X11_seat 1 := ⟨⟨tw_590, tw_1, by decide +kernel, ⟨by decide +kernel, by decide +kernel, by decide +kernel⟩, by decide⟩, tw_588, tw_589⟩
abbrev m_X6_memberOn : am_M := (yX6_memberOn, cX6_memberOn, 2, some .int)
theorem tw_594 : (Jvm.Cond.code ({ cls := "MouthHouse$Seating", name := "memberOn", desc := "(I)I" } : Jvm.MethodName) prog_8_method_5_code (2 : Nat) (Option.some Jvm.ClassFile.FieldType.int)) ∈ lw_tbl := List.mem_of_getElem? (l := lw_tbl) (i := 767) (by decide +kernel)
theorem tw_593 : (Jvm.Cond.instanceMethod ({ cls := "MouthHouse$Seating", name := "memberOn", desc := "(I)I" } : Jvm.MethodName)) ∈ lw_tbl := List.mem_of_getElem? (l := lw_tbl) (i := 766) (by decide +kernel)
theorem mV_X6_memberOn : am_mV m_X6_memberOn 1 := ⟨⟨tw_594, tw_6, by decide +kernel, ⟨by decide +kernel, by decide +kernel, by decide +kernel⟩, by decide⟩, tw_593, List.mem_of_getElem? (l := lw_tbl) (i := 40) (by decide +kernel)⟩
abbrev m_X11_manners : am_M := (yX11_manners, cX11_manners, 2, some .boolean)
theorem tw_598 : (Jvm.Cond.code ({ cls := "MouthHouse", name := "manners", desc := "(I)Z" } : Jvm.MethodName) prog_1_method_10_code (2 : Nat) (Option.some Jvm.ClassFile.FieldType.boolean)) ∈ lw_tbl := List.mem_of_getElem? (l := lw_tbl) (i := 771) (by decide +kernel)
theorem tw_597 : (Jvm.Cond.selects "MouthHouse" ({ cls := "MouthHouse", name := "manners", desc := "(I)Z" } : Jvm.MethodName) ({ cls := "MouthHouse", name := "manners", desc := "(I)Z" } : Jvm.MethodName)) ∈ lw_tbl := List.mem_of_getElem? (l := lw_tbl) (i := 770) (by decide +kernel)
theorem tw_596 : (Jvm.Cond.instanceMethod ({ cls := "MouthHouse", name := "manners", desc := "(I)Z" } : Jvm.MethodName)) ∈ lw_tbl := List.mem_of_getElem? (l := lw_tbl) (i := 769) (by decide +kernel)
theorem mV_X11_manners : am_mV m_X11_manners 1 := ⟨⟨tw_598, tw_1, by decide +kernel, ⟨by decide +kernel, by decide +kernel, by decide +kernel⟩, by decide⟩, tw_596, tw_597⟩
abbrev m_X0_hold : am_M := (yX0_hold, cX0_hold, 2, none)
theorem tw_602 : (Jvm.Cond.code ({ cls := "MouthHouse$Best", name := "hold", desc := "(LMouthHouse$Manners;)V" } : Jvm.MethodName) prog_2_method_3_code (2 : Nat) (Option.none : Option Jvm.ClassFile.FieldType)) ∈ lw_tbl := List.mem_of_getElem? (l := lw_tbl) (i := 775) (by decide +kernel)
theorem tw_601 : (Jvm.Cond.instanceMethod ({ cls := "MouthHouse$Best", name := "hold", desc := "(LMouthHouse$Manners;)V" } : Jvm.MethodName)) ∈ lw_tbl := List.mem_of_getElem? (l := lw_tbl) (i := 774) (by decide +kernel)
theorem mV_X0_hold : am_mV m_X0_hold 1 := ⟨⟨tw_602, tw_9, by decide +kernel, ⟨by decide +kernel, by decide +kernel, by decide +kernel⟩, by decide⟩, tw_601, List.mem_of_getElem? (l := lw_tbl) (i := 41) (by decide +kernel)⟩
abbrev m_X11_set : am_M := (yX11_set, cX11_set, 5, some .boolean)
theorem tw_607 : (Jvm.Cond.code ({ cls := "MouthHouse", name := "set", desc := "(III)Z" } : Jvm.MethodName) prog_1_method_11_code (5 : Nat) (Option.some Jvm.ClassFile.FieldType.boolean)) ∈ lw_tbl := List.mem_of_getElem? (l := lw_tbl) (i := 780) (by decide +kernel)
theorem tw_606 : (Jvm.Cond.selects "MouthHouse" ({ cls := "MouthHouse", name := "set", desc := "(III)Z" } : Jvm.MethodName) ({ cls := "MouthHouse", name := "set", desc := "(III)Z" } : Jvm.MethodName)) ∈ lw_tbl := List.mem_of_getElem? (l := lw_tbl) (i := 779) (by decide +kernel)
theorem tw_605 : (Jvm.Cond.instanceMethod ({ cls := "MouthHouse", name := "set", desc := "(III)Z" } : Jvm.MethodName)) ∈ lw_tbl := List.mem_of_getElem? (l := lw_tbl) (i := 778) (by decide +kernel)
theorem mV_X11_set : am_mV m_X11_set 3 := ⟨⟨tw_607, tw_1, by decide +kernel, ⟨by decide +kernel, by decide +kernel, by decide +kernel⟩, by decide⟩, tw_605, tw_606⟩
abbrev m_X11_change : am_M := (yX11_change, cX11_change, 3, some .boolean)
theorem tw_615 : (Jvm.Cond.code ({ cls := "MouthHouse", name := "change", desc := "(II)Z" } : Jvm.MethodName) prog_1_method_12_code (3 : Nat) (Option.some Jvm.ClassFile.FieldType.boolean)) ∈ lw_tbl := List.mem_of_getElem? (l := lw_tbl) (i := 788) (by decide +kernel)
theorem tw_614 : (Jvm.Cond.selects "MouthHouse" ({ cls := "MouthHouse", name := "change", desc := "(II)Z" } : Jvm.MethodName) ({ cls := "MouthHouse", name := "change", desc := "(II)Z" } : Jvm.MethodName)) ∈ lw_tbl := List.mem_of_getElem? (l := lw_tbl) (i := 787) (by decide +kernel)
theorem tw_613 : (Jvm.Cond.instanceMethod ({ cls := "MouthHouse", name := "change", desc := "(II)Z" } : Jvm.MethodName)) ∈ lw_tbl := List.mem_of_getElem? (l := lw_tbl) (i := 786) (by decide +kernel)
theorem mV_X11_change : am_mV m_X11_change 2 := ⟨⟨tw_615, tw_1, by decide +kernel, ⟨by decide +kernel, by decide +kernel, by decide +kernel⟩, by decide⟩, tw_613, tw_614⟩
abbrev m_X6_exchange : am_M := (yX6_exchange, cX6_exchange, 5, none)
theorem tw_620 : (Jvm.Cond.code ({ cls := "MouthHouse$Seating", name := "exchange", desc := "(II)V" } : Jvm.MethodName) prog_8_method_8_code (5 : Nat) (Option.none : Option Jvm.ClassFile.FieldType)) ∈ lw_tbl := List.mem_of_getElem? (l := lw_tbl) (i := 793) (by decide +kernel)
theorem tw_619 : (Jvm.Cond.instanceMethod ({ cls := "MouthHouse$Seating", name := "exchange", desc := "(II)V" } : Jvm.MethodName)) ∈ lw_tbl := List.mem_of_getElem? (l := lw_tbl) (i := 792) (by decide +kernel)
theorem mV_X6_exchange : am_mV m_X6_exchange 2 := ⟨⟨tw_620, tw_6, by decide +kernel, ⟨by decide +kernel, by decide +kernel, by decide +kernel⟩, by decide⟩, tw_619, List.mem_of_getElem? (l := lw_tbl) (i := 42) (by decide +kernel)⟩
abbrev m_X11_sit : am_M := (yX11_sit, cX11_sit, 2, some .boolean)
theorem tw_625 : (Jvm.Cond.code ({ cls := "MouthHouse", name := "sit", desc := "(I)Z" } : Jvm.MethodName) prog_1_method_13_code (2 : Nat) (Option.some Jvm.ClassFile.FieldType.boolean)) ∈ lw_tbl := List.mem_of_getElem? (l := lw_tbl) (i := 798) (by decide +kernel)
theorem tw_624 : (Jvm.Cond.selects "MouthHouse" ({ cls := "MouthHouse", name := "sit", desc := "(I)Z" } : Jvm.MethodName) ({ cls := "MouthHouse", name := "sit", desc := "(I)Z" } : Jvm.MethodName)) ∈ lw_tbl := List.mem_of_getElem? (l := lw_tbl) (i := 797) (by decide +kernel)
theorem tw_623 : (Jvm.Cond.instanceMethod ({ cls := "MouthHouse", name := "sit", desc := "(I)Z" } : Jvm.MethodName)) ∈ lw_tbl := List.mem_of_getElem? (l := lw_tbl) (i := 796) (by decide +kernel)
theorem mV_X11_sit : am_mV m_X11_sit 1 := ⟨⟨tw_625, tw_1, by decide +kernel, ⟨by decide +kernel, by decide +kernel, by decide +kernel⟩, by decide⟩, tw_623, tw_624⟩
abbrev m_X6_isSeating : am_M := (yX6_isSeating, cX6_isSeating, 5, some .boolean)
theorem tw_629 : (Jvm.Cond.code ({ cls := "MouthHouse$Seating", name := "isSeating", desc := "(I)Z" } : Jvm.MethodName) prog_8_method_12_code (5 : Nat) (Option.some Jvm.ClassFile.FieldType.boolean)) ∈ lw_tbl := List.mem_of_getElem? (l := lw_tbl) (i := 802) (by decide +kernel)
theorem tw_628 : (Jvm.Cond.instanceMethod ({ cls := "MouthHouse$Seating", name := "isSeating", desc := "(I)Z" } : Jvm.MethodName)) ∈ lw_tbl := List.mem_of_getElem? (l := lw_tbl) (i := 801) (by decide +kernel)
theorem mV_X6_isSeating : am_mV m_X6_isSeating 1 := ⟨⟨tw_629, tw_6, by decide +kernel, ⟨by decide +kernel, by decide +kernel, by decide +kernel⟩, by decide⟩, tw_628, List.mem_of_getElem? (l := lw_tbl) (i := 43) (by decide +kernel)⟩
abbrev m_X6_take : am_M := (yX6_take, cX6_take, 4, none)
theorem tw_633 : (Jvm.Cond.code ({ cls := "MouthHouse$Seating", name := "take", desc := "(I)V" } : Jvm.MethodName) prog_8_method_13_code (4 : Nat) (Option.none : Option Jvm.ClassFile.FieldType)) ∈ lw_tbl := List.mem_of_getElem? (l := lw_tbl) (i := 806) (by decide +kernel)
theorem tw_632 : (Jvm.Cond.instanceMethod ({ cls := "MouthHouse$Seating", name := "take", desc := "(I)V" } : Jvm.MethodName)) ∈ lw_tbl := List.mem_of_getElem? (l := lw_tbl) (i := 805) (by decide +kernel)
theorem mV_X6_take : am_mV m_X6_take 1 := ⟨⟨tw_633, tw_6, by decide +kernel, ⟨by decide +kernel, by decide +kernel, by decide +kernel⟩, by decide⟩, tw_632, List.mem_of_getElem? (l := lw_tbl) (i := 44) (by decide +kernel)⟩
abbrev m_X11_round : am_M := (yX11_round, cX11_round, 4, some .long)
theorem tw_637 : (Jvm.Cond.code ({ cls := "MouthHouse", name := "round", desc := "(III)J" } : Jvm.MethodName) prog_1_method_14_code (4 : Nat) (Option.some Jvm.ClassFile.FieldType.long)) ∈ lw_tbl := List.mem_of_getElem? (l := lw_tbl) (i := 810) (by decide +kernel)
theorem tw_636 : (Jvm.Cond.selects "MouthHouse" ({ cls := "MouthHouse", name := "round", desc := "(III)J" } : Jvm.MethodName) ({ cls := "MouthHouse", name := "round", desc := "(III)J" } : Jvm.MethodName)) ∈ lw_tbl := List.mem_of_getElem? (l := lw_tbl) (i := 809) (by decide +kernel)
theorem tw_635 : (Jvm.Cond.instanceMethod ({ cls := "MouthHouse", name := "round", desc := "(III)J" } : Jvm.MethodName)) ∈ lw_tbl := List.mem_of_getElem? (l := lw_tbl) (i := 808) (by decide +kernel)
theorem mV_X11_round : am_mV m_X11_round 3 := ⟨⟨tw_637, tw_1, by decide +kernel, ⟨by decide +kernel, by decide +kernel, by decide +kernel⟩, by decide⟩, tw_635, tw_636⟩
abbrev m_X5_lives : am_M := (yX5_lives, cX5_lives, 3, some .boolean)
theorem tw_641 : (Jvm.Cond.code ({ cls := "MouthHouse$Members", name := "lives", desc := "(I)Z" } : Jvm.MethodName) prog_7_method_10_code (3 : Nat) (Option.some Jvm.ClassFile.FieldType.boolean)) ∈ lw_tbl := List.mem_of_getElem? (l := lw_tbl) (i := 814) (by decide +kernel)
theorem tw_640 : (Jvm.Cond.instanceMethod ({ cls := "MouthHouse$Members", name := "lives", desc := "(I)Z" } : Jvm.MethodName)) ∈ lw_tbl := List.mem_of_getElem? (l := lw_tbl) (i := 813) (by decide +kernel)
theorem mV_X5_lives : am_mV m_X5_lives 1 := ⟨⟨tw_641, tw_4, by decide +kernel, ⟨by decide +kernel, by decide +kernel, by decide +kernel⟩, by decide⟩, tw_640, List.mem_of_getElem? (l := lw_tbl) (i := 45) (by decide +kernel)⟩
abbrev m_X8_wordOf : am_M := (yX8_wordOf, cX8_wordOf, 14, some .long)
theorem tw_646 : (Jvm.Cond.code ({ cls := "MouthHouse$Talk", name := "wordOf", desc := "(III)J" } : Jvm.MethodName) prog_10_method_7_code (14 : Nat) (Option.some Jvm.ClassFile.FieldType.long)) ∈ lw_tbl := List.mem_of_getElem? (l := lw_tbl) (i := 819) (by decide +kernel)
theorem tw_645 : (Jvm.Cond.instanceMethod ({ cls := "MouthHouse$Talk", name := "wordOf", desc := "(III)J" } : Jvm.MethodName)) ∈ lw_tbl := List.mem_of_getElem? (l := lw_tbl) (i := 818) (by decide +kernel)
theorem mV_X8_wordOf : am_mV m_X8_wordOf 3 := ⟨⟨tw_646, tw_7, by decide +kernel, ⟨by decide +kernel, by decide +kernel, by decide +kernel⟩, by decide⟩, tw_645, List.mem_of_getElem? (l := lw_tbl) (i := 46) (by decide +kernel)⟩
abbrev m_X8_isHeard : am_M := (yX8_isHeard, cX8_isHeard, 3, some .boolean)
theorem tw_650 : (Jvm.Cond.code ({ cls := "MouthHouse$Talk", name := "isHeard", desc := "(I)Z" } : Jvm.MethodName) prog_10_method_3_code (3 : Nat) (Option.some Jvm.ClassFile.FieldType.boolean)) ∈ lw_tbl := List.mem_of_getElem? (l := lw_tbl) (i := 823) (by decide +kernel)
theorem tw_649 : (Jvm.Cond.instanceMethod ({ cls := "MouthHouse$Talk", name := "isHeard", desc := "(I)Z" } : Jvm.MethodName)) ∈ lw_tbl := List.mem_of_getElem? (l := lw_tbl) (i := 822) (by decide +kernel)
theorem mV_X8_isHeard : am_mV m_X8_isHeard 1 := ⟨⟨tw_650, tw_7, by decide +kernel, ⟨by decide +kernel, by decide +kernel, by decide +kernel⟩, by decide⟩, tw_649, List.mem_of_getElem? (l := lw_tbl) (i := 47) (by decide +kernel)⟩
abbrev m_X8_mouthOf : am_M := (yX8_mouthOf, cX8_mouthOf, 5, some .int)
theorem tw_654 : (Jvm.Cond.code ({ cls := "MouthHouse$Talk", name := "mouthOf", desc := "(I)I" } : Jvm.MethodName) prog_10_method_2_code (5 : Nat) (Option.some Jvm.ClassFile.FieldType.int)) ∈ lw_tbl := List.mem_of_getElem? (l := lw_tbl) (i := 827) (by decide +kernel)
theorem tw_653 : (Jvm.Cond.instanceMethod ({ cls := "MouthHouse$Talk", name := "mouthOf", desc := "(I)I" } : Jvm.MethodName)) ∈ lw_tbl := List.mem_of_getElem? (l := lw_tbl) (i := 826) (by decide +kernel)
theorem mV_X8_mouthOf : am_mV m_X8_mouthOf 1 := ⟨⟨tw_654, tw_7, by decide +kernel, ⟨by decide +kernel, by decide +kernel, by decide +kernel⟩, by decide⟩, tw_653, List.mem_of_getElem? (l := lw_tbl) (i := 48) (by decide +kernel)⟩
abbrev m_X6_seatOf : am_M := (yX6_seatOf, cX6_seatOf, 2, some .int)
theorem tw_659 : (Jvm.Cond.code ({ cls := "MouthHouse$Seating", name := "seatOf", desc := "(I)I" } : Jvm.MethodName) prog_8_method_6_code (2 : Nat) (Option.some Jvm.ClassFile.FieldType.int)) ∈ lw_tbl := List.mem_of_getElem? (l := lw_tbl) (i := 832) (by decide +kernel)
theorem tw_658 : (Jvm.Cond.instanceMethod ({ cls := "MouthHouse$Seating", name := "seatOf", desc := "(I)I" } : Jvm.MethodName)) ∈ lw_tbl := List.mem_of_getElem? (l := lw_tbl) (i := 831) (by decide +kernel)
theorem mV_X6_seatOf : am_mV m_X6_seatOf 1 := ⟨⟨tw_659, tw_6, by decide +kernel, ⟨by decide +kernel, by decide +kernel, by decide +kernel⟩, by decide⟩, tw_658, List.mem_of_getElem? (l := lw_tbl) (i := 49) (by decide +kernel)⟩
abbrev m_X6_leftOf : am_M := (yX6_leftOf, cX6_leftOf, 3, some .int)
theorem tw_663 : (Jvm.Cond.code ({ cls := "MouthHouse$Seating", name := "leftOf", desc := "(IZ)I" } : Jvm.MethodName) prog_8_method_9_code (3 : Nat) (Option.some Jvm.ClassFile.FieldType.int)) ∈ lw_tbl := List.mem_of_getElem? (l := lw_tbl) (i := 836) (by decide +kernel)
theorem tw_662 : (Jvm.Cond.instanceMethod ({ cls := "MouthHouse$Seating", name := "leftOf", desc := "(IZ)I" } : Jvm.MethodName)) ∈ lw_tbl := List.mem_of_getElem? (l := lw_tbl) (i := 835) (by decide +kernel)
theorem mV_X6_leftOf : am_mV m_X6_leftOf 2 := ⟨⟨tw_663, tw_6, by decide +kernel, ⟨by decide +kernel, by decide +kernel, by decide +kernel⟩, by decide⟩, tw_662, List.mem_of_getElem? (l := lw_tbl) (i := 50) (by decide +kernel)⟩
abbrev m_X5_swallows : am_M := (yX5_swallows, cX5_swallows, 3, some .boolean)
theorem tw_668 : (Jvm.Cond.code ({ cls := "MouthHouse$Members", name := "swallows", desc := "(II)Z" } : Jvm.MethodName) prog_7_method_12_code (3 : Nat) (Option.some Jvm.ClassFile.FieldType.boolean)) ∈ lw_tbl := List.mem_of_getElem? (l := lw_tbl) (i := 841) (by decide +kernel)
theorem tw_667 : (Jvm.Cond.instanceMethod ({ cls := "MouthHouse$Members", name := "swallows", desc := "(II)Z" } : Jvm.MethodName)) ∈ lw_tbl := List.mem_of_getElem? (l := lw_tbl) (i := 840) (by decide +kernel)
theorem mV_X5_swallows : am_mV m_X5_swallows 2 := ⟨⟨tw_668, tw_4, by decide +kernel, ⟨by decide +kernel, by decide +kernel, by decide +kernel⟩, by decide⟩, tw_667, List.mem_of_getElem? (l := lw_tbl) (i := 51) (by decide +kernel)⟩
abbrev m_X8_slipOf : am_M := (yX8_slipOf, cX8_slipOf, 2, some .int)
theorem tw_673 : (Jvm.Cond.code ({ cls := "MouthHouse$Talk", name := "slipOf", desc := "(I)I" } : Jvm.MethodName) prog_10_method_4_code (2 : Nat) (Option.some Jvm.ClassFile.FieldType.int)) ∈ lw_tbl := List.mem_of_getElem? (l := lw_tbl) (i := 846) (by decide +kernel)
theorem tw_672 : (Jvm.Cond.instanceMethod ({ cls := "MouthHouse$Talk", name := "slipOf", desc := "(I)I" } : Jvm.MethodName)) ∈ lw_tbl := List.mem_of_getElem? (l := lw_tbl) (i := 845) (by decide +kernel)
theorem mV_X8_slipOf : am_mV m_X8_slipOf 1 := ⟨⟨tw_673, tw_7, by decide +kernel, ⟨by decide +kernel, by decide +kernel, by decide +kernel⟩, by decide⟩, tw_672, List.mem_of_getElem? (l := lw_tbl) (i := 52) (by decide +kernel)⟩
abbrev m_X11_tally : am_M := (yX11_tally, cX11_tally, 2, some .int)
theorem tw_679 : (Jvm.Cond.code ({ cls := "MouthHouse", name := "tally", desc := "(I)I" } : Jvm.MethodName) prog_1_method_15_code (2 : Nat) (Option.some Jvm.ClassFile.FieldType.int)) ∈ lw_tbl := List.mem_of_getElem? (l := lw_tbl) (i := 852) (by decide +kernel)
theorem tw_678 : (Jvm.Cond.selects "MouthHouse" ({ cls := "MouthHouse", name := "tally", desc := "(I)I" } : Jvm.MethodName) ({ cls := "MouthHouse", name := "tally", desc := "(I)I" } : Jvm.MethodName)) ∈ lw_tbl := List.mem_of_getElem? (l := lw_tbl) (i := 851) (by decide +kernel)
theorem tw_677 : (Jvm.Cond.instanceMethod ({ cls := "MouthHouse", name := "tally", desc := "(I)I" } : Jvm.MethodName)) ∈ lw_tbl := List.mem_of_getElem? (l := lw_tbl) (i := 850) (by decide +kernel)
theorem mV_X11_tally : am_mV m_X11_tally 1 := ⟨⟨tw_679, tw_1, by decide +kernel, ⟨by decide +kernel, by decide +kernel, by decide +kernel⟩, by decide⟩, tw_677, tw_678⟩
abbrev m_X10_heard : am_M := (yX10_heard, cX10_heard, 1, some .int)
theorem tw_683 : (Jvm.Cond.code ({ cls := "MouthHouse$Votes", name := "heard", desc := "()I" } : Jvm.MethodName) prog_12_method_5_code (1 : Nat) (Option.some Jvm.ClassFile.FieldType.int)) ∈ lw_tbl := List.mem_of_getElem? (l := lw_tbl) (i := 856) (by decide +kernel)
theorem tw_682 : (Jvm.Cond.instanceMethod ({ cls := "MouthHouse$Votes", name := "heard", desc := "()I" } : Jvm.MethodName)) ∈ lw_tbl := List.mem_of_getElem? (l := lw_tbl) (i := 855) (by decide +kernel)
theorem mV_X10_heard : am_mV m_X10_heard 0 := ⟨⟨tw_683, tw_8, by decide +kernel, ⟨by decide +kernel, by decide +kernel, by decide +kernel⟩, by decide⟩, tw_682, List.mem_of_getElem? (l := lw_tbl) (i := 53) (by decide +kernel)⟩
abbrev m_X10_heardBits : am_M := (yX10_heardBits, cX10_heardBits, 3, some .int)
theorem tw_687 : (Jvm.Cond.code ({ cls := "MouthHouse$Votes", name := "heardBits", desc := "()I" } : Jvm.MethodName) prog_12_method_3_code (3 : Nat) (Option.some Jvm.ClassFile.FieldType.int)) ∈ lw_tbl := List.mem_of_getElem? (l := lw_tbl) (i := 860) (by decide +kernel)
theorem tw_686 : (Jvm.Cond.instanceMethod ({ cls := "MouthHouse$Votes", name := "heardBits", desc := "()I" } : Jvm.MethodName)) ∈ lw_tbl := List.mem_of_getElem? (l := lw_tbl) (i := 859) (by decide +kernel)
theorem mV_X10_heardBits : am_mV m_X10_heardBits 0 := ⟨⟨tw_687, tw_8, by decide +kernel, ⟨by decide +kernel, by decide +kernel, by decide +kernel⟩, by decide⟩, tw_686, List.mem_of_getElem? (l := lw_tbl) (i := 54) (by decide +kernel)⟩
abbrev m_J6_bitCount_0f7a4 : am_M := (yJ6_bitCount_0f7a4, cJ6_bitCount_0f7a4, 1, some .int)
theorem tw_691 : (Jvm.Cond.code ({ cls := "java/lang/Integer", name := "bitCount", desc := "(I)I" } : Jvm.MethodName) prog_17_method_49_code (1 : Nat) (Option.some Jvm.ClassFile.FieldType.int)) ∈ lw_tbl := List.mem_of_getElem? (l := lw_tbl) (i := 864) (by decide +kernel)
theorem tw_690 : (Jvm.Cond.static ({ cls := "java/lang/Integer", name := "bitCount", desc := "(I)I" } : Jvm.MethodName)) ∈ lw_tbl := List.mem_of_getElem? (l := lw_tbl) (i := 863) (by decide +kernel)
theorem mS_J6_bitCount_0f7a4 : am_mS m_J6_bitCount_0f7a4 1 := ⟨⟨tw_691, tw_20, by decide +kernel, ⟨by decide +kernel, by decide +kernel, by decide +kernel⟩, by decide⟩, tw_690⟩
abbrev m_X10_plainYes : am_M := (yX10_plainYes, cX10_plainYes, 1, some .int)
theorem tw_698 : (Jvm.Cond.code ({ cls := "MouthHouse$Votes", name := "plainYes", desc := "()I" } : Jvm.MethodName) prog_12_method_6_code (1 : Nat) (Option.some Jvm.ClassFile.FieldType.int)) ∈ lw_tbl := List.mem_of_getElem? (l := lw_tbl) (i := 871) (by decide +kernel)
theorem tw_697 : (Jvm.Cond.instanceMethod ({ cls := "MouthHouse$Votes", name := "plainYes", desc := "()I" } : Jvm.MethodName)) ∈ lw_tbl := List.mem_of_getElem? (l := lw_tbl) (i := 870) (by decide +kernel)
theorem mV_X10_plainYes : am_mV m_X10_plainYes 0 := ⟨⟨tw_698, tw_8, by decide +kernel, ⟨by decide +kernel, by decide +kernel, by decide +kernel⟩, by decide⟩, tw_697, List.mem_of_getElem? (l := lw_tbl) (i := 55) (by decide +kernel)⟩
abbrev m_X10_yesBits : am_M := (yX10_yesBits, cX10_yesBits, 3, some .int)
theorem tw_702 : (Jvm.Cond.code ({ cls := "MouthHouse$Votes", name := "yesBits", desc := "()I" } : Jvm.MethodName) prog_12_method_4_code (3 : Nat) (Option.some Jvm.ClassFile.FieldType.int)) ∈ lw_tbl := List.mem_of_getElem? (l := lw_tbl) (i := 875) (by decide +kernel)
theorem tw_701 : (Jvm.Cond.instanceMethod ({ cls := "MouthHouse$Votes", name := "yesBits", desc := "()I" } : Jvm.MethodName)) ∈ lw_tbl := List.mem_of_getElem? (l := lw_tbl) (i := 874) (by decide +kernel)
theorem mV_X10_yesBits : am_mV m_X10_yesBits 0 := ⟨⟨tw_702, tw_8, by decide +kernel, ⟨by decide +kernel, by decide +kernel, by decide +kernel⟩, by decide⟩, tw_701, List.mem_of_getElem? (l := lw_tbl) (i := 56) (by decide +kernel)⟩
abbrev m_X11_odds : am_M := (yX11_odds, cX11_odds, 2, some .long)
theorem tw_707 : (Jvm.Cond.code ({ cls := "MouthHouse", name := "odds", desc := "(I)J" } : Jvm.MethodName) prog_1_method_16_code (2 : Nat) (Option.some Jvm.ClassFile.FieldType.long)) ∈ lw_tbl := List.mem_of_getElem? (l := lw_tbl) (i := 880) (by decide +kernel)
theorem tw_706 : (Jvm.Cond.selects "MouthHouse" ({ cls := "MouthHouse", name := "odds", desc := "(I)J" } : Jvm.MethodName) ({ cls := "MouthHouse", name := "odds", desc := "(I)J" } : Jvm.MethodName)) ∈ lw_tbl := List.mem_of_getElem? (l := lw_tbl) (i := 879) (by decide +kernel)
theorem tw_705 : (Jvm.Cond.instanceMethod ({ cls := "MouthHouse", name := "odds", desc := "(I)J" } : Jvm.MethodName)) ∈ lw_tbl := List.mem_of_getElem? (l := lw_tbl) (i := 878) (by decide +kernel)
theorem mV_X11_odds : am_mV m_X11_odds 1 := ⟨⟨tw_707, tw_1, by decide +kernel, ⟨by decide +kernel, by decide +kernel, by decide +kernel⟩, by decide⟩, tw_705, tw_706⟩
abbrev m_X10_partsOf : am_M := (yX10_partsOf, cX10_partsOf, 2, some .long)
theorem tw_711 : (Jvm.Cond.code ({ cls := "MouthHouse$Votes", name := "partsOf", desc := "(I)J" } : Jvm.MethodName) prog_12_method_9_code (2 : Nat) (Option.some Jvm.ClassFile.FieldType.long)) ∈ lw_tbl := List.mem_of_getElem? (l := lw_tbl) (i := 884) (by decide +kernel)
theorem tw_710 : (Jvm.Cond.instanceMethod ({ cls := "MouthHouse$Votes", name := "partsOf", desc := "(I)J" } : Jvm.MethodName)) ∈ lw_tbl := List.mem_of_getElem? (l := lw_tbl) (i := 883) (by decide +kernel)
theorem mV_X10_partsOf : am_mV m_X10_partsOf 1 := ⟨⟨tw_711, tw_8, by decide +kernel, ⟨by decide +kernel, by decide +kernel, by decide +kernel⟩, by decide⟩, tw_710, List.mem_of_getElem? (l := lw_tbl) (i := 57) (by decide +kernel)⟩
abbrev m_X10_spread : am_M := (yX10_spread, cX10_spread, 5, some .int)
theorem tw_715 : (Jvm.Cond.code ({ cls := "MouthHouse$Votes", name := "spread", desc := "(I)I" } : Jvm.MethodName) prog_12_method_7_code (5 : Nat) (Option.some Jvm.ClassFile.FieldType.int)) ∈ lw_tbl := List.mem_of_getElem? (l := lw_tbl) (i := 888) (by decide +kernel)
theorem tw_714 : (Jvm.Cond.instanceMethod ({ cls := "MouthHouse$Votes", name := "spread", desc := "(I)I" } : Jvm.MethodName)) ∈ lw_tbl := List.mem_of_getElem? (l := lw_tbl) (i := 887) (by decide +kernel)
theorem mV_X10_spread : am_mV m_X10_spread 1 := ⟨⟨tw_715, tw_8, by decide +kernel, ⟨by decide +kernel, by decide +kernel, by decide +kernel⟩, by decide⟩, tw_714, List.mem_of_getElem? (l := lw_tbl) (i := 58) (by decide +kernel)⟩
abbrev m_X10_hear : am_M := (yX10_hear, cX10_hear, 5, none)
theorem tw_721 : (Jvm.Cond.code ({ cls := "MouthHouse$Votes", name := "hear", desc := "(I)V" } : Jvm.MethodName) prog_12_method_8_code (5 : Nat) (Option.none : Option Jvm.ClassFile.FieldType)) ∈ lw_tbl := List.mem_of_getElem? (l := lw_tbl) (i := 894) (by decide +kernel)
theorem tw_720 : (Jvm.Cond.instanceMethod ({ cls := "MouthHouse$Votes", name := "hear", desc := "(I)V" } : Jvm.MethodName)) ∈ lw_tbl := List.mem_of_getElem? (l := lw_tbl) (i := 893) (by decide +kernel)
theorem mV_X10_hear : am_mV m_X10_hear 1 := ⟨⟨tw_721, tw_8, by decide +kernel, ⟨by decide +kernel, by decide +kernel, by decide +kernel⟩, by decide⟩, tw_720, List.mem_of_getElem? (l := lw_tbl) (i := 59) (by decide +kernel)⟩
abbrev m_X11_passed : am_M := (yX11_passed, cX11_passed, 1, some .long)
theorem tw_725 : (Jvm.Cond.code ({ cls := "MouthHouse", name := "passed", desc := "()J" } : Jvm.MethodName) prog_1_method_17_code (1 : Nat) (Option.some Jvm.ClassFile.FieldType.long)) ∈ lw_tbl := List.mem_of_getElem? (l := lw_tbl) (i := 898) (by decide +kernel)
theorem tw_724 : (Jvm.Cond.selects "MouthHouse" ({ cls := "MouthHouse", name := "passed", desc := "()J" } : Jvm.MethodName) ({ cls := "MouthHouse", name := "passed", desc := "()J" } : Jvm.MethodName)) ∈ lw_tbl := List.mem_of_getElem? (l := lw_tbl) (i := 897) (by decide +kernel)
theorem tw_723 : (Jvm.Cond.instanceMethod ({ cls := "MouthHouse", name := "passed", desc := "()J" } : Jvm.MethodName)) ∈ lw_tbl := List.mem_of_getElem? (l := lw_tbl) (i := 896) (by decide +kernel)
theorem mV_X11_passed : am_mV m_X11_passed 0 := ⟨⟨tw_725, tw_1, by decide +kernel, ⟨by decide +kernel, by decide +kernel, by decide +kernel⟩, by decide⟩, tw_723, tw_724⟩
abbrev m_X10_passingParts : am_M := (yX10_passingParts, cX10_passingParts, 6, some .long)
theorem tw_729 : (Jvm.Cond.code ({ cls := "MouthHouse$Votes", name := "passingParts", desc := "(I)J" } : Jvm.MethodName) prog_12_method_10_code (6 : Nat) (Option.some Jvm.ClassFile.FieldType.long)) ∈ lw_tbl := List.mem_of_getElem? (l := lw_tbl) (i := 902) (by decide +kernel)
theorem tw_728 : (Jvm.Cond.instanceMethod ({ cls := "MouthHouse$Votes", name := "passingParts", desc := "(I)J" } : Jvm.MethodName)) ∈ lw_tbl := List.mem_of_getElem? (l := lw_tbl) (i := 901) (by decide +kernel)
theorem mV_X10_passingParts : am_mV m_X10_passingParts 1 := ⟨⟨tw_729, tw_8, by decide +kernel, ⟨by decide +kernel, by decide +kernel, by decide +kernel⟩, by decide⟩, tw_728, List.mem_of_getElem? (l := lw_tbl) (i := 60) (by decide +kernel)⟩
abbrev m_X10_passes : am_M := (yX10_passes, cX10_passes, 2, some .boolean)
theorem tw_732 : (Jvm.Cond.code ({ cls := "MouthHouse$Votes", name := "passes", desc := "(II)Z" } : Jvm.MethodName) prog_12_method_2_code (2 : Nat) (Option.some Jvm.ClassFile.FieldType.boolean)) ∈ lw_tbl := List.mem_of_getElem? (l := lw_tbl) (i := 905) (by decide +kernel)
theorem tw_731 : (Jvm.Cond.static ({ cls := "MouthHouse$Votes", name := "passes", desc := "(II)Z" } : Jvm.MethodName)) ∈ lw_tbl := List.mem_of_getElem? (l := lw_tbl) (i := 904) (by decide +kernel)
theorem mS_X10_passes : am_mS m_X10_passes 2 := ⟨⟨tw_732, tw_8, by decide +kernel, ⟨by decide +kernel, by decide +kernel, by decide +kernel⟩, by decide⟩, tw_731⟩
abbrev m_X11_turner : am_M := (yX11_turner, cX11_turner, 1, some .int)
theorem tw_736 : (Jvm.Cond.code ({ cls := "MouthHouse", name := "turner", desc := "()I" } : Jvm.MethodName) prog_1_method_18_code (1 : Nat) (Option.some Jvm.ClassFile.FieldType.int)) ∈ lw_tbl := List.mem_of_getElem? (l := lw_tbl) (i := 909) (by decide +kernel)
theorem tw_735 : (Jvm.Cond.selects "MouthHouse" ({ cls := "MouthHouse", name := "turner", desc := "()I" } : Jvm.MethodName) ({ cls := "MouthHouse", name := "turner", desc := "()I" } : Jvm.MethodName)) ∈ lw_tbl := List.mem_of_getElem? (l := lw_tbl) (i := 908) (by decide +kernel)
theorem tw_734 : (Jvm.Cond.instanceMethod ({ cls := "MouthHouse", name := "turner", desc := "()I" } : Jvm.MethodName)) ∈ lw_tbl := List.mem_of_getElem? (l := lw_tbl) (i := 907) (by decide +kernel)
theorem mV_X11_turner : am_mV m_X11_turner 0 := ⟨⟨tw_736, tw_1, by decide +kernel, ⟨by decide +kernel, by decide +kernel, by decide +kernel⟩, by decide⟩, tw_734, tw_735⟩
abbrev m_X10_whoTurns : am_M := (yX10_whoTurns, cX10_whoTurns, 11, some .int)
theorem tw_740 : (Jvm.Cond.code ({ cls := "MouthHouse$Votes", name := "whoTurns", desc := "()I" } : Jvm.MethodName) prog_12_method_11_code (11 : Nat) (Option.some Jvm.ClassFile.FieldType.int)) ∈ lw_tbl := List.mem_of_getElem? (l := lw_tbl) (i := 913) (by decide +kernel)
theorem tw_739 : (Jvm.Cond.instanceMethod ({ cls := "MouthHouse$Votes", name := "whoTurns", desc := "()I" } : Jvm.MethodName)) ∈ lw_tbl := List.mem_of_getElem? (l := lw_tbl) (i := 912) (by decide +kernel)
theorem mV_X10_whoTurns : am_mV m_X10_whoTurns 0 := ⟨⟨tw_740, tw_8, by decide +kernel, ⟨by decide +kernel, by decide +kernel, by decide +kernel⟩, by decide⟩, tw_739, List.mem_of_getElem? (l := lw_tbl) (i := 61) (by decide +kernel)⟩
abbrev m_X11_bribe : am_M := (yX11_bribe, cX11_bribe, 3, some .int)
theorem tw_747 : (Jvm.Cond.code ({ cls := "MouthHouse", name := "bribe", desc := "(I)I" } : Jvm.MethodName) prog_1_method_19_code (3 : Nat) (Option.some Jvm.ClassFile.FieldType.int)) ∈ lw_tbl := List.mem_of_getElem? (l := lw_tbl) (i := 920) (by decide +kernel)
theorem tw_746 : (Jvm.Cond.selects "MouthHouse" ({ cls := "MouthHouse", name := "bribe", desc := "(I)I" } : Jvm.MethodName) ({ cls := "MouthHouse", name := "bribe", desc := "(I)I" } : Jvm.MethodName)) ∈ lw_tbl := List.mem_of_getElem? (l := lw_tbl) (i := 919) (by decide +kernel)
theorem tw_745 : (Jvm.Cond.instanceMethod ({ cls := "MouthHouse", name := "bribe", desc := "(I)I" } : Jvm.MethodName)) ∈ lw_tbl := List.mem_of_getElem? (l := lw_tbl) (i := 918) (by decide +kernel)
theorem mV_X11_bribe : am_mV m_X11_bribe 1 := ⟨⟨tw_747, tw_1, by decide +kernel, ⟨by decide +kernel, by decide +kernel, by decide +kernel⟩, by decide⟩, tw_745, tw_746⟩
abbrev m_X10_cheapest : am_M := (yX10_cheapest, cX10_cheapest, 10, some .int)
theorem tw_751 : (Jvm.Cond.code ({ cls := "MouthHouse$Votes", name := "cheapest", desc := "()I" } : Jvm.MethodName) prog_12_method_12_code (10 : Nat) (Option.some Jvm.ClassFile.FieldType.int)) ∈ lw_tbl := List.mem_of_getElem? (l := lw_tbl) (i := 924) (by decide +kernel)
theorem tw_750 : (Jvm.Cond.instanceMethod ({ cls := "MouthHouse$Votes", name := "cheapest", desc := "()I" } : Jvm.MethodName)) ∈ lw_tbl := List.mem_of_getElem? (l := lw_tbl) (i := 923) (by decide +kernel)
theorem mV_X10_cheapest : am_mV m_X10_cheapest 0 := ⟨⟨tw_751, tw_8, by decide +kernel, ⟨by decide +kernel, by decide +kernel, by decide +kernel⟩, by decide⟩, tw_750, List.mem_of_getElem? (l := lw_tbl) (i := 62) (by decide +kernel)⟩
abbrev m_X5_living : am_M := (yX5_living, cX5_living, 3, some .int)
theorem tw_755 : (Jvm.Cond.code ({ cls := "MouthHouse$Members", name := "living", desc := "()I" } : Jvm.MethodName) prog_7_method_11_code (3 : Nat) (Option.some Jvm.ClassFile.FieldType.int)) ∈ lw_tbl := List.mem_of_getElem? (l := lw_tbl) (i := 928) (by decide +kernel)
theorem tw_754 : (Jvm.Cond.instanceMethod ({ cls := "MouthHouse$Members", name := "living", desc := "()I" } : Jvm.MethodName)) ∈ lw_tbl := List.mem_of_getElem? (l := lw_tbl) (i := 927) (by decide +kernel)
theorem mV_X5_living : am_mV m_X5_living 0 := ⟨⟨tw_755, tw_4, by decide +kernel, ⟨by decide +kernel, by decide +kernel, by decide +kernel⟩, by decide⟩, tw_754, List.mem_of_getElem? (l := lw_tbl) (i := 63) (by decide +kernel)⟩
abbrev m_X10_costOf : am_M := (yX10_costOf, cX10_costOf, 4, some .int)
theorem tw_760 : (Jvm.Cond.code ({ cls := "MouthHouse$Votes", name := "costOf", desc := "(I)I" } : Jvm.MethodName) prog_12_method_13_code (4 : Nat) (Option.some Jvm.ClassFile.FieldType.int)) ∈ lw_tbl := List.mem_of_getElem? (l := lw_tbl) (i := 933) (by decide +kernel)
theorem tw_759 : (Jvm.Cond.instanceMethod ({ cls := "MouthHouse$Votes", name := "costOf", desc := "(I)I" } : Jvm.MethodName)) ∈ lw_tbl := List.mem_of_getElem? (l := lw_tbl) (i := 932) (by decide +kernel)
theorem mV_X10_costOf : am_mV m_X10_costOf 1 := ⟨⟨tw_760, tw_8, by decide +kernel, ⟨by decide +kernel, by decide +kernel, by decide +kernel⟩, by decide⟩, tw_759, List.mem_of_getElem? (l := lw_tbl) (i := 64) (by decide +kernel)⟩
abbrev m_X11_yawn : am_M := (yX11_yawn, cX11_yawn, 3, some .int)
theorem tw_765 : (Jvm.Cond.code ({ cls := "MouthHouse", name := "yawn", desc := "(II)I" } : Jvm.MethodName) prog_1_method_20_code (3 : Nat) (Option.some Jvm.ClassFile.FieldType.int)) ∈ lw_tbl := List.mem_of_getElem? (l := lw_tbl) (i := 938) (by decide +kernel)
theorem tw_764 : (Jvm.Cond.selects "MouthHouse" ({ cls := "MouthHouse", name := "yawn", desc := "(II)I" } : Jvm.MethodName) ({ cls := "MouthHouse", name := "yawn", desc := "(II)I" } : Jvm.MethodName)) ∈ lw_tbl := List.mem_of_getElem? (l := lw_tbl) (i := 937) (by decide +kernel)
theorem tw_763 : (Jvm.Cond.instanceMethod ({ cls := "MouthHouse", name := "yawn", desc := "(II)I" } : Jvm.MethodName)) ∈ lw_tbl := List.mem_of_getElem? (l := lw_tbl) (i := 936) (by decide +kernel)
theorem mV_X11_yawn : am_mV m_X11_yawn 2 := ⟨⟨tw_765, tw_1, by decide +kernel, ⟨by decide +kernel, by decide +kernel, by decide +kernel⟩, by decide⟩, tw_763, tw_764⟩
abbrev m_X8_spreadYawn : am_M := (yX8_spreadYawn, cX8_spreadYawn, 5, none)
theorem tw_769 : (Jvm.Cond.code ({ cls := "MouthHouse$Talk", name := "spreadYawn", desc := "(I)V" } : Jvm.MethodName) prog_10_method_8_code (5 : Nat) (Option.none : Option Jvm.ClassFile.FieldType)) ∈ lw_tbl := List.mem_of_getElem? (l := lw_tbl) (i := 942) (by decide +kernel)
theorem tw_768 : (Jvm.Cond.instanceMethod ({ cls := "MouthHouse$Talk", name := "spreadYawn", desc := "(I)V" } : Jvm.MethodName)) ∈ lw_tbl := List.mem_of_getElem? (l := lw_tbl) (i := 941) (by decide +kernel)
theorem mV_X8_spreadYawn : am_mV m_X8_spreadYawn 1 := ⟨⟨tw_769, tw_7, by decide +kernel, ⟨by decide +kernel, by decide +kernel, by decide +kernel⟩, by decide⟩, tw_768, List.mem_of_getElem? (l := lw_tbl) (i := 65) (by decide +kernel)⟩
abbrev m_X8_catchYawn : am_M := (yX8_catchYawn, cX8_catchYawn, 5, none)
theorem tw_773 : (Jvm.Cond.code ({ cls := "MouthHouse$Talk", name := "catchYawn", desc := "(II)V" } : Jvm.MethodName) prog_10_method_9_code (5 : Nat) (Option.none : Option Jvm.ClassFile.FieldType)) ∈ lw_tbl := List.mem_of_getElem? (l := lw_tbl) (i := 946) (by decide +kernel)
theorem tw_772 : (Jvm.Cond.instanceMethod ({ cls := "MouthHouse$Talk", name := "catchYawn", desc := "(II)V" } : Jvm.MethodName)) ∈ lw_tbl := List.mem_of_getElem? (l := lw_tbl) (i := 945) (by decide +kernel)
theorem mV_X8_catchYawn : am_mV m_X8_catchYawn 2 := ⟨⟨tw_773, tw_7, by decide +kernel, ⟨by decide +kernel, by decide +kernel, by decide +kernel⟩, by decide⟩, tw_772, List.mem_of_getElem? (l := lw_tbl) (i := 66) (by decide +kernel)⟩
abbrev m_X8_yawnedAt : am_M := (yX8_yawnedAt, cX8_yawnedAt, 2, some .int)
theorem tw_777 : (Jvm.Cond.code ({ cls := "MouthHouse$Talk", name := "yawnedAt", desc := "(I)I" } : Jvm.MethodName) prog_10_method_10_code (2 : Nat) (Option.some Jvm.ClassFile.FieldType.int)) ∈ lw_tbl := List.mem_of_getElem? (l := lw_tbl) (i := 950) (by decide +kernel)
theorem tw_776 : (Jvm.Cond.instanceMethod ({ cls := "MouthHouse$Talk", name := "yawnedAt", desc := "(I)I" } : Jvm.MethodName)) ∈ lw_tbl := List.mem_of_getElem? (l := lw_tbl) (i := 949) (by decide +kernel)
theorem mV_X8_yawnedAt : am_mV m_X8_yawnedAt 1 := ⟨⟨tw_777, tw_7, by decide +kernel, ⟨by decide +kernel, by decide +kernel, by decide +kernel⟩, by decide⟩, tw_776, List.mem_of_getElem? (l := lw_tbl) (i := 67) (by decide +kernel)⟩
abbrev m_X6_rightOf : am_M := (yX6_rightOf, cX6_rightOf, 3, some .int)
theorem tw_782 : (Jvm.Cond.code ({ cls := "MouthHouse$Seating", name := "rightOf", desc := "(IZ)I" } : Jvm.MethodName) prog_8_method_10_code (3 : Nat) (Option.some Jvm.ClassFile.FieldType.int)) ∈ lw_tbl := List.mem_of_getElem? (l := lw_tbl) (i := 955) (by decide +kernel)
theorem tw_781 : (Jvm.Cond.instanceMethod ({ cls := "MouthHouse$Seating", name := "rightOf", desc := "(IZ)I" } : Jvm.MethodName)) ∈ lw_tbl := List.mem_of_getElem? (l := lw_tbl) (i := 954) (by decide +kernel)
theorem mV_X6_rightOf : am_mV m_X6_rightOf 2 := ⟨⟨tw_782, tw_6, by decide +kernel, ⟨by decide +kernel, by decide +kernel, by decide +kernel⟩, by decide⟩, tw_781, List.mem_of_getElem? (l := lw_tbl) (i := 68) (by decide +kernel)⟩
abbrev m_X11_yawns : am_M := (yX11_yawns, cX11_yawns, 3, some .int)
theorem tw_787 : (Jvm.Cond.code ({ cls := "MouthHouse", name := "yawns", desc := "(II)I" } : Jvm.MethodName) prog_1_method_21_code (3 : Nat) (Option.some Jvm.ClassFile.FieldType.int)) ∈ lw_tbl := List.mem_of_getElem? (l := lw_tbl) (i := 960) (by decide +kernel)
theorem tw_786 : (Jvm.Cond.selects "MouthHouse" ({ cls := "MouthHouse", name := "yawns", desc := "(II)I" } : Jvm.MethodName) ({ cls := "MouthHouse", name := "yawns", desc := "(II)I" } : Jvm.MethodName)) ∈ lw_tbl := List.mem_of_getElem? (l := lw_tbl) (i := 959) (by decide +kernel)
theorem tw_785 : (Jvm.Cond.instanceMethod ({ cls := "MouthHouse", name := "yawns", desc := "(II)I" } : Jvm.MethodName)) ∈ lw_tbl := List.mem_of_getElem? (l := lw_tbl) (i := 958) (by decide +kernel)
theorem mV_X11_yawns : am_mV m_X11_yawns 2 := ⟨⟨tw_787, tw_1, by decide +kernel, ⟨by decide +kernel, by decide +kernel, by decide +kernel⟩, by decide⟩, tw_785, tw_786⟩
abbrev m_X8_lastYawn : am_M := (yX8_lastYawn, cX8_lastYawn, 3, some .int)
theorem tw_791 : (Jvm.Cond.code ({ cls := "MouthHouse$Talk", name := "lastYawn", desc := "()I" } : Jvm.MethodName) prog_10_method_11_code (3 : Nat) (Option.some Jvm.ClassFile.FieldType.int)) ∈ lw_tbl := List.mem_of_getElem? (l := lw_tbl) (i := 964) (by decide +kernel)
theorem tw_790 : (Jvm.Cond.instanceMethod ({ cls := "MouthHouse$Talk", name := "lastYawn", desc := "()I" } : Jvm.MethodName)) ∈ lw_tbl := List.mem_of_getElem? (l := lw_tbl) (i := 963) (by decide +kernel)
theorem mV_X8_lastYawn : am_mV m_X8_lastYawn 0 := ⟨⟨tw_791, tw_7, by decide +kernel, ⟨by decide +kernel, by decide +kernel, by decide +kernel⟩, by decide⟩, tw_790, List.mem_of_getElem? (l := lw_tbl) (i := 69) (by decide +kernel)⟩
abbrev m_X8_sleepy : am_M := (yX8_sleepy, cX8_sleepy, 3, some .int)
theorem tw_796 : (Jvm.Cond.code ({ cls := "MouthHouse$Talk", name := "sleepy", desc := "()I" } : Jvm.MethodName) prog_10_method_12_code (3 : Nat) (Option.some Jvm.ClassFile.FieldType.int)) ∈ lw_tbl := List.mem_of_getElem? (l := lw_tbl) (i := 969) (by decide +kernel)
theorem tw_795 : (Jvm.Cond.instanceMethod ({ cls := "MouthHouse$Talk", name := "sleepy", desc := "()I" } : Jvm.MethodName)) ∈ lw_tbl := List.mem_of_getElem? (l := lw_tbl) (i := 968) (by decide +kernel)
theorem mV_X8_sleepy : am_mV m_X8_sleepy 0 := ⟨⟨tw_796, tw_7, by decide +kernel, ⟨by decide +kernel, by decide +kernel, by decide +kernel⟩, by decide⟩, tw_795, List.mem_of_getElem? (l := lw_tbl) (i := 70) (by decide +kernel)⟩
abbrev m_X11_ill : am_M := (yX11_ill, cX11_ill, 1, some .int)
theorem tw_800 : (Jvm.Cond.code ({ cls := "MouthHouse", name := "ill", desc := "()I" } : Jvm.MethodName) prog_1_method_22_code (1 : Nat) (Option.some Jvm.ClassFile.FieldType.int)) ∈ lw_tbl := List.mem_of_getElem? (l := lw_tbl) (i := 973) (by decide +kernel)
theorem tw_799 : (Jvm.Cond.selects "MouthHouse" ({ cls := "MouthHouse", name := "ill", desc := "()I" } : Jvm.MethodName) ({ cls := "MouthHouse", name := "ill", desc := "()I" } : Jvm.MethodName)) ∈ lw_tbl := List.mem_of_getElem? (l := lw_tbl) (i := 972) (by decide +kernel)
theorem tw_798 : (Jvm.Cond.instanceMethod ({ cls := "MouthHouse", name := "ill", desc := "()I" } : Jvm.MethodName)) ∈ lw_tbl := List.mem_of_getElem? (l := lw_tbl) (i := 971) (by decide +kernel)
theorem mV_X11_ill : am_mV m_X11_ill 0 := ⟨⟨tw_800, tw_1, by decide +kernel, ⟨by decide +kernel, by decide +kernel, by decide +kernel⟩, by decide⟩, tw_798, tw_799⟩
abbrev m_X0_illOf : am_M := (yX0_illOf, cX0_illOf, 5, some .int)
theorem tw_805 : (Jvm.Cond.code ({ cls := "MouthHouse$Best", name := "illOf", desc := "(LMouthHouse$Seating;)I" } : Jvm.MethodName) prog_2_method_4_code (5 : Nat) (Option.some Jvm.ClassFile.FieldType.int)) ∈ lw_tbl := List.mem_of_getElem? (l := lw_tbl) (i := 978) (by decide +kernel)
theorem tw_804 : (Jvm.Cond.instanceMethod ({ cls := "MouthHouse$Best", name := "illOf", desc := "(LMouthHouse$Seating;)I" } : Jvm.MethodName)) ∈ lw_tbl := List.mem_of_getElem? (l := lw_tbl) (i := 977) (by decide +kernel)
theorem mV_X0_illOf : am_mV m_X0_illOf 1 := ⟨⟨tw_805, tw_9, by decide +kernel, ⟨by decide +kernel, by decide +kernel, by decide +kernel⟩, by decide⟩, tw_804, List.mem_of_getElem? (l := lw_tbl) (i := 71) (by decide +kernel)⟩
abbrev m_X0_worthOf : am_M := (yX0_worthOf, cX0_worthOf, 5, some .int)
theorem tw_811 : (Jvm.Cond.code ({ cls := "MouthHouse$Best", name := "worthOf", desc := "(III)I" } : Jvm.MethodName) prog_2_method_5_code (5 : Nat) (Option.some Jvm.ClassFile.FieldType.int)) ∈ lw_tbl := List.mem_of_getElem? (l := lw_tbl) (i := 984) (by decide +kernel)
theorem tw_810 : (Jvm.Cond.instanceMethod ({ cls := "MouthHouse$Best", name := "worthOf", desc := "(III)I" } : Jvm.MethodName)) ∈ lw_tbl := List.mem_of_getElem? (l := lw_tbl) (i := 983) (by decide +kernel)
theorem mV_X0_worthOf : am_mV m_X0_worthOf 3 := ⟨⟨tw_811, tw_9, by decide +kernel, ⟨by decide +kernel, by decide +kernel, by decide +kernel⟩, by decide⟩, tw_810, List.mem_of_getElem? (l := lw_tbl) (i := 72) (by decide +kernel)⟩
abbrev m_X5_areEnemies : am_M := (yX5_areEnemies, cX5_areEnemies, 3, some .boolean)
theorem tw_815 : (Jvm.Cond.code ({ cls := "MouthHouse$Members", name := "areEnemies", desc := "(II)Z" } : Jvm.MethodName) prog_7_method_13_code (3 : Nat) (Option.some Jvm.ClassFile.FieldType.boolean)) ∈ lw_tbl := List.mem_of_getElem? (l := lw_tbl) (i := 988) (by decide +kernel)
theorem tw_814 : (Jvm.Cond.instanceMethod ({ cls := "MouthHouse$Members", name := "areEnemies", desc := "(II)Z" } : Jvm.MethodName)) ∈ lw_tbl := List.mem_of_getElem? (l := lw_tbl) (i := 987) (by decide +kernel)
theorem mV_X5_areEnemies : am_mV m_X5_areEnemies 2 := ⟨⟨tw_815, tw_4, by decide +kernel, ⟨by decide +kernel, by decide +kernel, by decide +kernel⟩, by decide⟩, tw_814, List.mem_of_getElem? (l := lw_tbl) (i := 73) (by decide +kernel)⟩
abbrev m_X3_worthBy : am_M := (yX3_worthBy, cX3_worthBy, 4, some .int)
theorem tw_820 : (Jvm.Cond.code ({ cls := "MouthHouse$Manners", name := "worthBy", desc := "([I)I" } : Jvm.MethodName) prog_5_method_3_code (4 : Nat) (Option.some Jvm.ClassFile.FieldType.int)) ∈ lw_tbl := List.mem_of_getElem? (l := lw_tbl) (i := 993) (by decide +kernel)
theorem tw_819 : (Jvm.Cond.instanceMethod ({ cls := "MouthHouse$Manners", name := "worthBy", desc := "([I)I" } : Jvm.MethodName)) ∈ lw_tbl := List.mem_of_getElem? (l := lw_tbl) (i := 992) (by decide +kernel)
theorem mV_X3_worthBy : am_mV m_X3_worthBy 1 := ⟨⟨tw_820, tw_10, by decide +kernel, ⟨by decide +kernel, by decide +kernel, by decide +kernel⟩, by decide⟩, tw_819, List.mem_of_getElem? (l := lw_tbl) (i := 74) (by decide +kernel)⟩
abbrev m_X3_push : am_M := (yX3_push, cX3_push, 2, none)
theorem tw_824 : (Jvm.Cond.code ({ cls := "MouthHouse$Manners", name := "push", desc := "(I)V" } : Jvm.MethodName) prog_5_method_5_code (2 : Nat) (Option.none : Option Jvm.ClassFile.FieldType)) ∈ lw_tbl := List.mem_of_getElem? (l := lw_tbl) (i := 997) (by decide +kernel)
theorem tw_823 : (Jvm.Cond.instanceMethod ({ cls := "MouthHouse$Manners", name := "push", desc := "(I)V" } : Jvm.MethodName)) ∈ lw_tbl := List.mem_of_getElem? (l := lw_tbl) (i := 996) (by decide +kernel)
theorem mV_X3_push : am_mV m_X3_push 1 := ⟨⟨tw_824, tw_10, by decide +kernel, ⟨by decide +kernel, by decide +kernel, by decide +kernel⟩, by decide⟩, tw_823, List.mem_of_getElem? (l := lw_tbl) (i := 75) (by decide +kernel)⟩
abbrev m_X3_pop : am_M := (yX3_pop, cX3_pop, 1, some .int)
theorem tw_828 : (Jvm.Cond.code ({ cls := "MouthHouse$Manners", name := "pop", desc := "()I" } : Jvm.MethodName) prog_5_method_6_code (1 : Nat) (Option.some Jvm.ClassFile.FieldType.int)) ∈ lw_tbl := List.mem_of_getElem? (l := lw_tbl) (i := 1001) (by decide +kernel)
theorem tw_827 : (Jvm.Cond.instanceMethod ({ cls := "MouthHouse$Manners", name := "pop", desc := "()I" } : Jvm.MethodName)) ∈ lw_tbl := List.mem_of_getElem? (l := lw_tbl) (i := 1000) (by decide +kernel)
theorem mV_X3_pop : am_mV m_X3_pop 0 := ⟨⟨tw_828, tw_10, by decide +kernel, ⟨by decide +kernel, by decide +kernel, by decide +kernel⟩, by decide⟩, tw_827, List.mem_of_getElem? (l := lw_tbl) (i := 76) (by decide +kernel)⟩
abbrev m_X3_work : am_M := (yX3_work, cX3_work, 6, none)
theorem tw_832 : (Jvm.Cond.code ({ cls := "MouthHouse$Manners", name := "work", desc := "(I[I)V" } : Jvm.MethodName) prog_5_method_4_code (6 : Nat) (Option.none : Option Jvm.ClassFile.FieldType)) ∈ lw_tbl := List.mem_of_getElem? (l := lw_tbl) (i := 1005) (by decide +kernel)
theorem tw_831 : (Jvm.Cond.instanceMethod ({ cls := "MouthHouse$Manners", name := "work", desc := "(I[I)V" } : Jvm.MethodName)) ∈ lw_tbl := List.mem_of_getElem? (l := lw_tbl) (i := 1004) (by decide +kernel)
theorem mV_X3_work : am_mV m_X3_work 2 := ⟨⟨tw_832, tw_10, by decide +kernel, ⟨by decide +kernel, by decide +kernel, by decide +kernel⟩, by decide⟩, tw_831, List.mem_of_getElem? (l := lw_tbl) (i := 77) (by decide +kernel)⟩
abbrev m_X3_isTruthSign : am_M := (yX3_isTruthSign, cX3_isTruthSign, 1, some .boolean)
theorem tw_836 : (Jvm.Cond.code ({ cls := "MouthHouse$Manners", name := "isTruthSign", desc := "(I)Z" } : Jvm.MethodName) prog_5_method_7_code (1 : Nat) (Option.some Jvm.ClassFile.FieldType.boolean)) ∈ lw_tbl := List.mem_of_getElem? (l := lw_tbl) (i := 1009) (by decide +kernel)
theorem tw_835 : (Jvm.Cond.static ({ cls := "MouthHouse$Manners", name := "isTruthSign", desc := "(I)Z" } : Jvm.MethodName)) ∈ lw_tbl := List.mem_of_getElem? (l := lw_tbl) (i := 1008) (by decide +kernel)
theorem mS_X3_isTruthSign : am_mS m_X3_isTruthSign 1 := ⟨⟨tw_836, tw_10, by decide +kernel, ⟨by decide +kernel, by decide +kernel, by decide +kernel⟩, by decide⟩, tw_835⟩
abbrev m_X3_truth : am_M := (yX3_truth, cX3_truth, 3, some .int)
theorem tw_839 : (Jvm.Cond.code ({ cls := "MouthHouse$Manners", name := "truth", desc := "(III)I" } : Jvm.MethodName) prog_5_method_8_code (3 : Nat) (Option.some Jvm.ClassFile.FieldType.int)) ∈ lw_tbl := List.mem_of_getElem? (l := lw_tbl) (i := 1012) (by decide +kernel)
theorem tw_838 : (Jvm.Cond.static ({ cls := "MouthHouse$Manners", name := "truth", desc := "(III)I" } : Jvm.MethodName)) ∈ lw_tbl := List.mem_of_getElem? (l := lw_tbl) (i := 1011) (by decide +kernel)
theorem mS_X3_truth : am_mS m_X3_truth 3 := ⟨⟨tw_839, tw_10, by decide +kernel, ⟨by decide +kernel, by decide +kernel, by decide +kernel⟩, by decide⟩, tw_838⟩
abbrev m_X3_bounded : am_M := (yX3_bounded, cX3_bounded, 7, some .int)
theorem tw_842 : (Jvm.Cond.code ({ cls := "MouthHouse$Manners", name := "bounded", desc := "(IJJ)I" } : Jvm.MethodName) prog_5_method_9_code (7 : Nat) (Option.some Jvm.ClassFile.FieldType.int)) ∈ lw_tbl := List.mem_of_getElem? (l := lw_tbl) (i := 1015) (by decide +kernel)
theorem tw_841 : (Jvm.Cond.static ({ cls := "MouthHouse$Manners", name := "bounded", desc := "(IJJ)I" } : Jvm.MethodName)) ∈ lw_tbl := List.mem_of_getElem? (l := lw_tbl) (i := 1014) (by decide +kernel)
theorem mS_X3_bounded : am_mS m_X3_bounded 3 := ⟨⟨tw_842, tw_10, by decide +kernel, ⟨by decide +kernel, by decide +kernel, by decide +kernel⟩, by decide⟩, tw_841⟩
abbrev m_X11_best : am_M := (yX11_best, cX11_best, 3, some .int)
theorem tw_850 : (Jvm.Cond.code ({ cls := "MouthHouse", name := "best", desc := "(II)I" } : Jvm.MethodName) prog_1_method_23_code (3 : Nat) (Option.some Jvm.ClassFile.FieldType.int)) ∈ lw_tbl := List.mem_of_getElem? (l := lw_tbl) (i := 1023) (by decide +kernel)
theorem tw_849 : (Jvm.Cond.selects "MouthHouse" ({ cls := "MouthHouse", name := "best", desc := "(II)I" } : Jvm.MethodName) ({ cls := "MouthHouse", name := "best", desc := "(II)I" } : Jvm.MethodName)) ∈ lw_tbl := List.mem_of_getElem? (l := lw_tbl) (i := 1022) (by decide +kernel)
theorem tw_848 : (Jvm.Cond.instanceMethod ({ cls := "MouthHouse", name := "best", desc := "(II)I" } : Jvm.MethodName)) ∈ lw_tbl := List.mem_of_getElem? (l := lw_tbl) (i := 1021) (by decide +kernel)
theorem mV_X11_best : am_mV m_X11_best 2 := ⟨⟨tw_850, tw_1, by decide +kernel, ⟨by decide +kernel, by decide +kernel, by decide +kernel⟩, by decide⟩, tw_848, tw_849⟩
abbrev m_X0_search : am_M := (yX0_search, cX0_search, 2, none)
theorem tw_854 : (Jvm.Cond.code ({ cls := "MouthHouse$Best", name := "search", desc := "(I)V" } : Jvm.MethodName) prog_2_method_8_code (2 : Nat) (Option.none : Option Jvm.ClassFile.FieldType)) ∈ lw_tbl := List.mem_of_getElem? (l := lw_tbl) (i := 1027) (by decide +kernel)
theorem tw_853 : (Jvm.Cond.instanceMethod ({ cls := "MouthHouse$Best", name := "search", desc := "(I)V" } : Jvm.MethodName)) ∈ lw_tbl := List.mem_of_getElem? (l := lw_tbl) (i := 1026) (by decide +kernel)
theorem mV_X0_search : am_mV m_X0_search 1 := ⟨⟨tw_854, tw_9, by decide +kernel, ⟨by decide +kernel, by decide +kernel, by decide +kernel⟩, by decide⟩, tw_853, List.mem_of_getElem? (l := lw_tbl) (i := 78) (by decide +kernel)⟩
abbrev m_X0_fillWorths : am_M := (yX0_fillWorths, cX0_fillWorths, 3, none)
theorem tw_858 : (Jvm.Cond.code ({ cls := "MouthHouse$Best", name := "fillWorths", desc := "()V" } : Jvm.MethodName) prog_2_method_9_code (3 : Nat) (Option.none : Option Jvm.ClassFile.FieldType)) ∈ lw_tbl := List.mem_of_getElem? (l := lw_tbl) (i := 1031) (by decide +kernel)
theorem tw_857 : (Jvm.Cond.instanceMethod ({ cls := "MouthHouse$Best", name := "fillWorths", desc := "()V" } : Jvm.MethodName)) ∈ lw_tbl := List.mem_of_getElem? (l := lw_tbl) (i := 1030) (by decide +kernel)
theorem mV_X0_fillWorths : am_mV m_X0_fillWorths 0 := ⟨⟨tw_858, tw_9, by decide +kernel, ⟨by decide +kernel, by decide +kernel, by decide +kernel⟩, by decide⟩, tw_857, List.mem_of_getElem? (l := lw_tbl) (i := 79) (by decide +kernel)⟩
abbrev m_J7_fill_53178 : am_M := (yJ7_fill_53178, cJ7_fill_53178, 4, none)
theorem tw_861 : (Jvm.Cond.code ({ cls := "java/util/Arrays", name := "fill", desc := "([II)V" } : Jvm.MethodName) prog_22_method_103_code (4 : Nat) (Option.none : Option Jvm.ClassFile.FieldType)) ∈ lw_tbl := List.mem_of_getElem? (l := lw_tbl) (i := 1034) (by decide +kernel)
theorem tw_860 : (Jvm.Cond.static ({ cls := "java/util/Arrays", name := "fill", desc := "([II)V" } : Jvm.MethodName)) ∈ lw_tbl := List.mem_of_getElem? (l := lw_tbl) (i := 1033) (by decide +kernel)
theorem mS_J7_fill_53178 : am_mS m_J7_fill_53178 2 := ⟨⟨tw_861, tw_21, by decide +kernel, ⟨by decide +kernel, by decide +kernel, by decide +kernel⟩, by decide⟩, tw_860⟩
abbrev m_X0_fillWorthsAt : am_M := (yX0_fillWorthsAt, cX0_fillWorthsAt, 7, some .int)
theorem tw_865 : (Jvm.Cond.code ({ cls := "MouthHouse$Best", name := "fillWorthsAt", desc := "(I)I" } : Jvm.MethodName) prog_2_method_10_code (7 : Nat) (Option.some Jvm.ClassFile.FieldType.int)) ∈ lw_tbl := List.mem_of_getElem? (l := lw_tbl) (i := 1038) (by decide +kernel)
theorem tw_864 : (Jvm.Cond.instanceMethod ({ cls := "MouthHouse$Best", name := "fillWorthsAt", desc := "(I)I" } : Jvm.MethodName)) ∈ lw_tbl := List.mem_of_getElem? (l := lw_tbl) (i := 1037) (by decide +kernel)
theorem mV_X0_fillWorthsAt : am_mV m_X0_fillWorthsAt 1 := ⟨⟨tw_865, tw_9, by decide +kernel, ⟨by decide +kernel, by decide +kernel, by decide +kernel⟩, by decide⟩, tw_864, List.mem_of_getElem? (l := lw_tbl) (i := 80) (by decide +kernel)⟩
abbrev m_X0_roundHope : am_M := (yX0_roundHope, cX0_roundHope, 9, some .int)
theorem tw_872 : (Jvm.Cond.code ({ cls := "MouthHouse$Best", name := "roundHope", desc := "()I" } : Jvm.MethodName) prog_2_method_17_code (9 : Nat) (Option.some Jvm.ClassFile.FieldType.int)) ∈ lw_tbl := List.mem_of_getElem? (l := lw_tbl) (i := 1045) (by decide +kernel)
theorem tw_871 : (Jvm.Cond.instanceMethod ({ cls := "MouthHouse$Best", name := "roundHope", desc := "()I" } : Jvm.MethodName)) ∈ lw_tbl := List.mem_of_getElem? (l := lw_tbl) (i := 1044) (by decide +kernel)
theorem mV_X0_roundHope : am_mV m_X0_roundHope 0 := ⟨⟨tw_872, tw_9, by decide +kernel, ⟨by decide +kernel, by decide +kernel, by decide +kernel⟩, by decide⟩, tw_871, List.mem_of_getElem? (l := lw_tbl) (i := 81) (by decide +kernel)⟩
abbrev m_X0_quickest : am_M := (yX0_quickest, cX0_quickest, 5, some .int)
theorem tw_877 : (Jvm.Cond.code ({ cls := "MouthHouse$Best", name := "quickest", desc := "(I)I" } : Jvm.MethodName) prog_2_method_18_code (5 : Nat) (Option.some Jvm.ClassFile.FieldType.int)) ∈ lw_tbl := List.mem_of_getElem? (l := lw_tbl) (i := 1050) (by decide +kernel)
theorem tw_876 : (Jvm.Cond.instanceMethod ({ cls := "MouthHouse$Best", name := "quickest", desc := "(I)I" } : Jvm.MethodName)) ∈ lw_tbl := List.mem_of_getElem? (l := lw_tbl) (i := 1049) (by decide +kernel)
theorem mV_X0_quickest : am_mV m_X0_quickest 1 := ⟨⟨tw_877, tw_9, by decide +kernel, ⟨by decide +kernel, by decide +kernel, by decide +kernel⟩, by decide⟩, tw_876, List.mem_of_getElem? (l := lw_tbl) (i := 82) (by decide +kernel)⟩
abbrev m_X0_place : am_M := (yX0_place, cX0_place, 10, none)
theorem tw_881 : (Jvm.Cond.code ({ cls := "MouthHouse$Best", name := "place", desc := "(IIIII)V" } : Jvm.MethodName) prog_2_method_12_code (10 : Nat) (Option.none : Option Jvm.ClassFile.FieldType)) ∈ lw_tbl := List.mem_of_getElem? (l := lw_tbl) (i := 1054) (by decide +kernel)
theorem tw_880 : (Jvm.Cond.instanceMethod ({ cls := "MouthHouse$Best", name := "place", desc := "(IIIII)V" } : Jvm.MethodName)) ∈ lw_tbl := List.mem_of_getElem? (l := lw_tbl) (i := 1053) (by decide +kernel)
theorem mV_X0_place : am_mV m_X0_place 5 := ⟨⟨tw_881, tw_9, by decide +kernel, ⟨by decide +kernel, by decide +kernel, by decide +kernel⟩, by decide⟩, tw_880, List.mem_of_getElem? (l := lw_tbl) (i := 83) (by decide +kernel)⟩
abbrev m_X0_lastGain : am_M := (yX0_lastGain, cX0_lastGain, 4, some .int)
theorem tw_885 : (Jvm.Cond.code ({ cls := "MouthHouse$Best", name := "lastGain", desc := "(III)I" } : Jvm.MethodName) prog_2_method_15_code (4 : Nat) (Option.some Jvm.ClassFile.FieldType.int)) ∈ lw_tbl := List.mem_of_getElem? (l := lw_tbl) (i := 1058) (by decide +kernel)
theorem tw_884 : (Jvm.Cond.instanceMethod ({ cls := "MouthHouse$Best", name := "lastGain", desc := "(III)I" } : Jvm.MethodName)) ∈ lw_tbl := List.mem_of_getElem? (l := lw_tbl) (i := 1057) (by decide +kernel)
theorem mV_X0_lastGain : am_mV m_X0_lastGain 3 := ⟨⟨tw_885, tw_9, by decide +kernel, ⟨by decide +kernel, by decide +kernel, by decide +kernel⟩, by decide⟩, tw_884, List.mem_of_getElem? (l := lw_tbl) (i := 84) (by decide +kernel)⟩
abbrev m_X0_roundScore : am_M := (yX0_roundScore, cX0_roundScore, 6, some .int)
theorem tw_889 : (Jvm.Cond.code ({ cls := "MouthHouse$Best", name := "roundScore", desc := "(I)I" } : Jvm.MethodName) prog_2_method_19_code (6 : Nat) (Option.some Jvm.ClassFile.FieldType.int)) ∈ lw_tbl := List.mem_of_getElem? (l := lw_tbl) (i := 1062) (by decide +kernel)
theorem tw_888 : (Jvm.Cond.instanceMethod ({ cls := "MouthHouse$Best", name := "roundScore", desc := "(I)I" } : Jvm.MethodName)) ∈ lw_tbl := List.mem_of_getElem? (l := lw_tbl) (i := 1061) (by decide +kernel)
