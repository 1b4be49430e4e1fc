theorem lc_X5_33 : Cond.methodLink RX5 33 arraycopyName ∈ lw_tbl := tw_530
theorem tw_533 : (Jvm.Cond.methodLinkNest "MouthHouse" (149 : Nat) ({ cls := "MouthHouse$Seating", name := "startWith", desc := "(I)V" } : Jvm.MethodName) "MouthHouse") ∈ lw_tbl := List.mem_of_getElem? (l := lw_tbl) (i := 706) (by decide +kernel)
theorem lk_X11_149 : am_lk RX11 149 yX6_startWith := Or.inr ⟨_, tw_533⟩
theorem tw_537 : (Jvm.Cond.methodLink "MouthHouse$Seating" (22 : Nat) ({ cls := "java/lang/Math", name := "min", desc := "(II)I" } : Jvm.MethodName)) ∈ lw_tbl := List.mem_of_getElem? (l := lw_tbl) (i := 710) (by decide +kernel)
theorem lk_X6_22 : Cond.methodLink RX6 22 Lib.Math.min.name ∈ lw_tbl := tw_537
theorem tw_540 : (Jvm.Cond.methodLink "MouthHouse$Seating" (28 : Nat) ({ cls := "java/lang/Math", name := "max", desc := "(II)I" } : Jvm.MethodName)) ∈ lw_tbl := List.mem_of_getElem? (l := lw_tbl) (i := 713) (by decide +kernel)
theorem lk_X6_28 : Cond.methodLink RX6 28 Lib.Math.max.name ∈ lw_tbl := tw_540
theorem tw_543 : (Jvm.Cond.methodLink "MouthHouse$Seating" (31 : Nat) ({ cls := "MouthHouse$Seating", name := "put", desc := "(II)V" } : Jvm.MethodName)) ∈ lw_tbl := List.mem_of_getElem? (l := lw_tbl) (i := 716) (by decide +kernel)
theorem lk_X6_31 : am_lk RX6 31 yX6_put := Or.inl tw_543
theorem tw_547 : (Jvm.Cond.methodLink "MouthHouse$Seating" (41 : Nat) ({ cls := "MouthHouse$Seating", name := "has", desc := "(I)Z" } : Jvm.MethodName)) ∈ lw_tbl := List.mem_of_getElem? (l := lw_tbl) (i := 720) (by decide +kernel)
theorem lk_X6_41 : am_lk RX6 41 yX6_has := Or.inl tw_547
theorem tw_551 : (Jvm.Cond.methodLinkNest "MouthHouse" (152 : Nat) ({ cls := "MouthHouse$Votes", name := "forgetKnown", desc := "()V" } : Jvm.MethodName) "MouthHouse") ∈ lw_tbl := List.mem_of_getElem? (l := lw_tbl) (i := 724) (by decide +kernel)
theorem lk_X11_152 : am_lk RX11 152 yX10_forgetKnown := Or.inr ⟨_, tw_551⟩
theorem tw_555 : (Jvm.Cond.methodLink "MouthHouse" (158 : Nat) ({ cls := "MouthHouse", name := "forgetAnswers", desc := "()V" } : Jvm.MethodName)) ∈ lw_tbl := List.mem_of_getElem? (l := lw_tbl) (i := 728) (by decide +kernel)
theorem lk_X11_158 : am_lk RX11 158 yX11_forgetAnswers := Or.inl tw_555
theorem tw_559 : (Jvm.Cond.methodLinkNest "MouthHouse" (161 : Nat) ({ cls := "MouthHouse$Best", name := "forget", desc := "()V" } : Jvm.MethodName) "MouthHouse") ∈ lw_tbl := List.mem_of_getElem? (l := lw_tbl) (i := 732) (by decide +kernel)
theorem lk_X11_161 : am_lk RX11 161 yX0_forget := Or.inr ⟨_, tw_559⟩
theorem tw_563 : (Jvm.Cond.methodLinkNest "MouthHouse" (164 : Nat) ({ cls := "MouthHouse$Changes", name := "forget", desc := "()V" } : Jvm.MethodName) "MouthHouse") ∈ lw_tbl := List.mem_of_getElem? (l := lw_tbl) (i := 736) (by decide +kernel)
theorem lk_X11_164 : am_lk RX11 164 yX1_forget := Or.inr ⟨_, tw_563⟩
theorem tw_567 : (Jvm.Cond.methodLinkNest "MouthHouse" (136 : Nat) ({ cls := "MouthHouse$MannersReader", name := "written", desc := "()LMouthHouse$Manners;" } : Jvm.MethodName) "MouthHouse") ∈ lw_tbl := List.mem_of_getElem? (l := lw_tbl) (i := 740) (by decide +kernel)
theorem lk_X11_136 : am_lk RX11 136 yX4_written := Or.inr ⟨_, tw_567⟩
theorem tw_573 : (Jvm.Cond.methodLinkNest "MouthHouse$MannersReader" (48 : Nat) ({ cls := "MouthHouse$Manners", name := "<init>", desc := "([II)V" } : Jvm.MethodName) "MouthHouse") ∈ lw_tbl := List.mem_of_getElem? (l := lw_tbl) (i := 746) (by decide +kernel)
theorem lk_X4_48 : am_lk RX4 48 yX3_init := Or.inr ⟨_, tw_573⟩
theorem tw_576 : (Jvm.Cond.methodLink "MouthHouse$Manners" (3 : Nat) ({ cls := "java/lang/Object", name := "<init>", desc := "()V" } : Jvm.MethodName)) ∈ lw_tbl := List.mem_of_getElem? (l := lw_tbl) (i := 749) (by decide +kernel)
theorem lo_X3_3 : Cond.methodLink RX3 3 objectInit ∈ lw_tbl := tw_576
theorem tw_577 : (Jvm.Cond.methodLink "MouthHouse$Manners" (9 : Nat) ({ cls := "java/lang/Math", name := "min", desc := "(II)I" } : Jvm.MethodName)) ∈ lw_tbl := List.mem_of_getElem? (l := lw_tbl) (i := 750) (by decide +kernel)
theorem lk_X3_9 : Cond.methodLink RX3 9 Lib.Math.min.name ∈ lw_tbl := tw_577
theorem tw_578 : (Jvm.Cond.methodLink "MouthHouse$Manners" (15 : Nat) ({ cls := "java/lang/Math", name := "max", desc := "(II)I" } : Jvm.MethodName)) ∈ lw_tbl := List.mem_of_getElem? (l := lw_tbl) (i := 751) (by decide +kernel)
theorem lk_X3_15 : Cond.methodLink RX3 15 Lib.Math.max.name ∈ lw_tbl := tw_578
theorem tw_579 : (Jvm.Cond.methodLink "MouthHouse$Manners" (24 : Nat) ({ cls := "java/lang/System", name := "arraycopy", desc := "(Ljava/lang/Object;ILjava/lang/Object;II)V" } : Jvm.MethodName)) ∈ lw_tbl := List.mem_of_getElem? (l := lw_tbl) (i := 752) (by decide +kernel)
theorem lc_X3_24 : Cond.methodLink RX3 24 arraycopyName ∈ lw_tbl := tw_579
theorem tw_590 : (Jvm.Cond.methodLink "MouthHouseLaw" (48 : Nat) ({ cls := "MouthHouse", name := "seat", desc := "(I)I" } : Jvm.MethodName)) ∈ lw_tbl := List.mem_of_getElem? (l := lw_tbl) (i := 763) (by decide +kernel)
theorem lk_L_48 : am_lk RL 48 yX11_seat := Or.inl tw_590
theorem tw_594 : (Jvm.Cond.methodLinkNest "MouthHouse" (184 : Nat) ({ cls := "MouthHouse$Seating", name := "memberOn", desc := "(I)I" } : Jvm.MethodName) "MouthHouse") ∈ lw_tbl := List.mem_of_getElem? (l := lw_tbl) (i := 767) (by decide +kernel)
theorem lk_X11_184 : am_lk RX11 184 yX6_memberOn := Or.inr ⟨_, tw_594⟩
theorem tw_598 : (Jvm.Cond.methodLink "MouthHouseLaw" (52 : Nat) ({ cls := "MouthHouse", name := "manners", desc := "(I)Z" } : Jvm.MethodName)) ∈ lw_tbl := List.mem_of_getElem? (l := lw_tbl) (i := 771) (by decide +kernel)
theorem lk_L_52 : am_lk RL 52 yX11_manners := Or.inl tw_598
theorem tw_602 : (Jvm.Cond.methodLinkNest "MouthHouse" (187 : Nat) ({ cls := "MouthHouse$Best", name := "hold", desc := "(LMouthHouse$Manners;)V" } : Jvm.MethodName) "MouthHouse") ∈ lw_tbl := List.mem_of_getElem? (l := lw_tbl) (i := 775) (by decide +kernel)
theorem lk_X11_187 : am_lk RX11 187 yX0_hold := Or.inr ⟨_, tw_602⟩
theorem tw_606 : (Jvm.Cond.methodLink "MouthHouse$Best" (50 : Nat) ({ cls := "MouthHouse$Best", name := "forget", desc := "()V" } : Jvm.MethodName)) ∈ lw_tbl := List.mem_of_getElem? (l := lw_tbl) (i := 779) (by decide +kernel)
theorem lk_X0_50 : am_lk RX0 50 yX0_forget := Or.inl tw_606
theorem tw_607 : (Jvm.Cond.methodLink "MouthHouseLaw" (56 : Nat) ({ cls := "MouthHouse", name := "set", desc := "(III)Z" } : Jvm.MethodName)) ∈ lw_tbl := List.mem_of_getElem? (l := lw_tbl) (i := 780) (by decide +kernel)
theorem lk_L_56 : am_lk RL 56 yX11_set := Or.inl tw_607
theorem tw_611 : (Jvm.Cond.methodLinkNest "MouthHouse" (165 : Nat) ({ cls := "MouthHouse$Members", name := "has", desc := "(I)Z" } : Jvm.MethodName) "MouthHouse") ∈ lw_tbl := List.mem_of_getElem? (l := lw_tbl) (i := 784) (by decide +kernel)
theorem lk_X11_165 : am_lk RX11 165 yX5_has := Or.inr ⟨_, tw_611⟩
theorem tw_612 : (Jvm.Cond.methodLinkNest "MouthHouse" (191 : Nat) ({ cls := "MouthHouse$Members", name := "mostOf", desc := "(I)I" } : Jvm.MethodName) "MouthHouse") ∈ lw_tbl := List.mem_of_getElem? (l := lw_tbl) (i := 785) (by decide +kernel)
theorem lk_X11_191 : am_lk RX11 191 yX5_mostOf := Or.inr ⟨_, tw_612⟩
theorem tw_613 : (Jvm.Cond.methodLinkNest "MouthHouse" (180 : Nat) ({ cls := "MouthHouse$Members", name := "fact", desc := "(II)I" } : Jvm.MethodName) "MouthHouse") ∈ lw_tbl := List.mem_of_getElem? (l := lw_tbl) (i := 786) (by decide +kernel)
theorem lk_X11_180 : am_lk RX11 180 yX5_fact := Or.inr ⟨_, tw_613⟩
theorem tw_614 : (Jvm.Cond.methodLinkNest "MouthHouse" (194 : Nat) ({ cls := "MouthHouse$Members", name := "tell", desc := "(III)V" } : Jvm.MethodName) "MouthHouse") ∈ lw_tbl := List.mem_of_getElem? (l := lw_tbl) (i := 787) (by decide +kernel)
theorem lk_X11_194 : am_lk RX11 194 yX5_tell := Or.inr ⟨_, tw_614⟩
theorem tw_615 : (Jvm.Cond.methodLink "MouthHouseLaw" (61 : Nat) ({ cls := "MouthHouse", name := "change", desc := "(II)Z" } : Jvm.MethodName)) ∈ lw_tbl := List.mem_of_getElem? (l := lw_tbl) (i := 788) (by decide +kernel)
theorem lk_L_61 : am_lk RL 61 yX11_change := Or.inl tw_615
theorem tw_619 : (Jvm.Cond.methodLinkNest "MouthHouse" (198 : Nat) ({ cls := "MouthHouse$Seating", name := "has", desc := "(I)Z" } : Jvm.MethodName) "MouthHouse") ∈ lw_tbl := List.mem_of_getElem? (l := lw_tbl) (i := 792) (by decide +kernel)
theorem lk_X11_198 : am_lk RX11 198 yX6_has := Or.inr ⟨_, tw_619⟩
theorem tw_620 : (Jvm.Cond.methodLinkNest "MouthHouse" (199 : Nat) ({ cls := "MouthHouse$Seating", name := "exchange", desc := "(II)V" } : Jvm.MethodName) "MouthHouse") ∈ lw_tbl := List.mem_of_getElem? (l := lw_tbl) (i := 793) (by decide +kernel)
theorem lk_X11_199 : am_lk RX11 199 yX6_exchange := Or.inr ⟨_, tw_620⟩
theorem tw_624 : (Jvm.Cond.methodLink "MouthHouse$Seating" (45 : Nat) ({ cls := "MouthHouse$Seating", name := "memberOn", desc := "(I)I" } : Jvm.MethodName)) ∈ lw_tbl := List.mem_of_getElem? (l := lw_tbl) (i := 797) (by decide +kernel)
theorem lk_X6_45 : am_lk RX6 45 yX6_memberOn := Or.inl tw_624
theorem tw_625 : (Jvm.Cond.methodLink "MouthHouseLaw" (66 : Nat) ({ cls := "MouthHouse", name := "sit", desc := "(I)Z" } : Jvm.MethodName)) ∈ lw_tbl := List.mem_of_getElem? (l := lw_tbl) (i := 798) (by decide +kernel)
theorem lk_L_66 : am_lk RL 66 yX11_sit := Or.inl tw_625
theorem tw_629 : (Jvm.Cond.methodLinkNest "MouthHouse" (203 : Nat) ({ cls := "MouthHouse$Seating", name := "isSeating", desc := "(I)Z" } : Jvm.MethodName) "MouthHouse") ∈ lw_tbl := List.mem_of_getElem? (l := lw_tbl) (i := 802) (by decide +kernel)
theorem lk_X11_203 : am_lk RX11 203 yX6_isSeating := Or.inr ⟨_, tw_629⟩
theorem tw_633 : (Jvm.Cond.methodLinkNest "MouthHouse" (206 : Nat) ({ cls := "MouthHouse$Seating", name := "take", desc := "(I)V" } : Jvm.MethodName) "MouthHouse") ∈ lw_tbl := List.mem_of_getElem? (l := lw_tbl) (i := 806) (by decide +kernel)
theorem lk_X11_206 : am_lk RX11 206 yX6_take := Or.inr ⟨_, tw_633⟩
theorem tw_637 : (Jvm.Cond.methodLink "MouthHouseLaw" (70 : Nat) ({ cls := "MouthHouse", name := "round", desc := "(III)J" } : Jvm.MethodName)) ∈ lw_tbl := List.mem_of_getElem? (l := lw_tbl) (i := 810) (by decide +kernel)
theorem lk_L_70 : am_lk RL 70 yX11_round := Or.inl tw_637
theorem tw_641 : (Jvm.Cond.methodLinkNest "MouthHouse" (209 : Nat) ({ cls := "MouthHouse$Members", name := "lives", desc := "(I)Z" } : Jvm.MethodName) "MouthHouse") ∈ lw_tbl := List.mem_of_getElem? (l := lw_tbl) (i := 814) (by decide +kernel)
theorem lk_X11_209 : am_lk RX11 209 yX5_lives := Or.inr ⟨_, tw_641⟩
theorem tw_646 : (Jvm.Cond.methodLinkNest "MouthHouse" (214 : Nat) ({ cls := "MouthHouse$Talk", name := "wordOf", desc := "(III)J" } : Jvm.MethodName) "MouthHouse") ∈ lw_tbl := List.mem_of_getElem? (l := lw_tbl) (i := 819) (by decide +kernel)
theorem lk_X11_214 : am_lk RX11 214 yX8_wordOf := Or.inr ⟨_, tw_646⟩
theorem tw_650 : (Jvm.Cond.methodLink "MouthHouse$Talk" (61 : Nat) ({ cls := "MouthHouse$Talk", name := "isHeard", desc := "(I)Z" } : Jvm.MethodName)) ∈ lw_tbl := List.mem_of_getElem? (l := lw_tbl) (i := 823) (by decide +kernel)
theorem lk_X8_61 : am_lk RX8 61 yX8_isHeard := Or.inl tw_650
theorem tw_654 : (Jvm.Cond.methodLink "MouthHouse$Talk" (50 : Nat) ({ cls := "MouthHouse$Talk", name := "mouthOf", desc := "(I)I" } : Jvm.MethodName)) ∈ lw_tbl := List.mem_of_getElem? (l := lw_tbl) (i := 827) (by decide +kernel)
theorem lk_X8_50 : am_lk RX8 50 yX8_mouthOf := Or.inl tw_654
theorem tw_658 : (Jvm.Cond.methodLinkNest "MouthHouse$Talk" (23 : Nat) ({ cls := "MouthHouse$Members", name := "lives", desc := "(I)Z" } : Jvm.MethodName) "MouthHouse") ∈ lw_tbl := List.mem_of_getElem? (l := lw_tbl) (i := 831) (by decide +kernel)
theorem lk_X8_23 : am_lk RX8 23 yX5_lives := Or.inr ⟨_, tw_658⟩
theorem tw_659 : (Jvm.Cond.methodLinkNest "MouthHouse$Talk" (29 : Nat) ({ cls := "MouthHouse$Seating", name := "seatOf", desc := "(I)I" } : Jvm.MethodName) "MouthHouse") ∈ lw_tbl := List.mem_of_getElem? (l := lw_tbl) (i := 832) (by decide +kernel)
theorem lk_X8_29 : am_lk RX8 29 yX6_seatOf := Or.inr ⟨_, tw_659⟩
theorem tw_663 : (Jvm.Cond.methodLinkNest "MouthHouse$Talk" (43 : Nat) ({ cls := "MouthHouse$Seating", name := "leftOf", desc := "(IZ)I" } : Jvm.MethodName) "MouthHouse") ∈ lw_tbl := List.mem_of_getElem? (l := lw_tbl) (i := 836) (by decide +kernel)
theorem lk_X8_43 : am_lk RX8 43 yX6_leftOf := Or.inr ⟨_, tw_663⟩
theorem tw_667 : (Jvm.Cond.methodLinkNest "MouthHouse$Talk" (47 : Nat) ({ cls := "MouthHouse$Seating", name := "memberOn", desc := "(I)I" } : Jvm.MethodName) "MouthHouse") ∈ lw_tbl := List.mem_of_getElem? (l := lw_tbl) (i := 840) (by decide +kernel)
theorem lk_X8_47 : am_lk RX8 47 yX6_memberOn := Or.inr ⟨_, tw_667⟩
theorem tw_668 : (Jvm.Cond.methodLinkNest "MouthHouse$Talk" (53 : Nat) ({ cls := "MouthHouse$Members", name := "swallows", desc := "(II)Z" } : Jvm.MethodName) "MouthHouse") ∈ lw_tbl := List.mem_of_getElem? (l := lw_tbl) (i := 841) (by decide +kernel)
theorem lk_X8_53 : am_lk RX8 53 yX5_swallows := Or.inr ⟨_, tw_668⟩
theorem tw_673 : (Jvm.Cond.methodLink "MouthHouse$Talk" (66 : Nat) ({ cls := "MouthHouse$Talk", name := "slipOf", desc := "(I)I" } : Jvm.MethodName)) ∈ lw_tbl := List.mem_of_getElem? (l := lw_tbl) (i := 846) (by decide +kernel)
theorem lk_X8_66 : am_lk RX8 66 yX8_slipOf := Or.inl tw_673
theorem tw_677 : (Jvm.Cond.methodLinkNest "MouthHouse$Talk" (57 : Nat) ({ cls := "MouthHouse$Members", name := "fact", desc := "(II)I" } : Jvm.MethodName) "MouthHouse") ∈ lw_tbl := List.mem_of_getElem? (l := lw_tbl) (i := 850) (by decide +kernel)
theorem lk_X8_57 : am_lk RX8 57 yX5_fact := Or.inr ⟨_, tw_677⟩
theorem tw_679 : (Jvm.Cond.methodLink "MouthHouseLaw" (75 : Nat) ({ cls := "MouthHouse", name := "tally", desc := "(I)I" } : Jvm.MethodName)) ∈ lw_tbl := List.mem_of_getElem? (l := lw_tbl) (i := 852) (by decide +kernel)
theorem lk_L_75 : am_lk RL 75 yX11_tally := Or.inl tw_679
theorem tw_683 : (Jvm.Cond.methodLinkNest "MouthHouse" (218 : Nat) ({ cls := "MouthHouse$Votes", name := "heard", desc := "()I" } : Jvm.MethodName) "MouthHouse") ∈ lw_tbl := List.mem_of_getElem? (l := lw_tbl) (i := 856) (by decide +kernel)
theorem lk_X11_218 : am_lk RX11 218 yX10_heard := Or.inr ⟨_, tw_683⟩
theorem tw_687 : (Jvm.Cond.methodLink "MouthHouse$Votes" (57 : Nat) ({ cls := "MouthHouse$Votes", name := "heardBits", desc := "()I" } : Jvm.MethodName)) ∈ lw_tbl := List.mem_of_getElem? (l := lw_tbl) (i := 860) (by decide +kernel)
theorem lk_X10_57 : am_lk RX10 57 yX10_heardBits := Or.inl tw_687
theorem tw_691 : (Jvm.Cond.methodLinkNest "MouthHouse$Votes" (49 : Nat) ({ cls := "MouthHouse$Talk", name := "isHeard", desc := "(I)Z" } : Jvm.MethodName) "MouthHouse") ∈ lw_tbl := List.mem_of_getElem? (l := lw_tbl) (i := 864) (by decide +kernel)
theorem lk_X10_49 : am_lk RX10 49 yX8_isHeard := Or.inr ⟨_, tw_691⟩
theorem tw_692 : (Jvm.Cond.methodLink "MouthHouse$Votes" (61 : Nat) ({ cls := "java/lang/Integer", name := "bitCount", desc := "(I)I" } : Jvm.MethodName)) ∈ lw_tbl := List.mem_of_getElem? (l := lw_tbl) (i := 865) (by decide +kernel)
theorem lk_X10_61 : am_lk RX10 61 yJ6_bitCount_0f7a4 := Or.inl tw_692
theorem tw_698 : (Jvm.Cond.methodLinkNest "MouthHouse" (221 : Nat) ({ cls := "MouthHouse$Votes", name := "plainYes", desc := "()I" } : Jvm.MethodName) "MouthHouse") ∈ lw_tbl := List.mem_of_getElem? (l := lw_tbl) (i := 871) (by decide +kernel)
theorem lk_X11_221 : am_lk RX11 221 yX10_plainYes := Or.inr ⟨_, tw_698⟩
theorem tw_702 : (Jvm.Cond.methodLink "MouthHouse$Votes" (67 : Nat) ({ cls := "MouthHouse$Votes", name := "yesBits", desc := "()I" } : Jvm.MethodName)) ∈ lw_tbl := List.mem_of_getElem? (l := lw_tbl) (i := 875) (by decide +kernel)
theorem lk_X10_67 : am_lk RX10 67 yX10_yesBits := Or.inl tw_702
theorem tw_706 : (Jvm.Cond.methodLinkNest "MouthHouse$Votes" (53 : Nat) ({ cls := "MouthHouse$Members", name := "fact", desc := "(II)I" } : Jvm.MethodName) "MouthHouse") ∈ lw_tbl := List.mem_of_getElem? (l := lw_tbl) (i := 879) (by decide +kernel)
theorem lk_X10_53 : am_lk RX10 53 yX5_fact := Or.inr ⟨_, tw_706⟩
theorem tw_707 : (Jvm.Cond.methodLink "MouthHouseLaw" (79 : Nat) ({ cls := "MouthHouse", name := "odds", desc := "(I)J" } : Jvm.MethodName)) ∈ lw_tbl := List.mem_of_getElem? (l := lw_tbl) (i := 880) (by decide +kernel)
theorem lk_L_79 : am_lk RL 79 yX11_odds := Or.inl tw_707
theorem tw_711 : (Jvm.Cond.methodLinkNest "MouthHouse" (224 : Nat) ({ cls := "MouthHouse$Votes", name := "partsOf", desc := "(I)J" } : Jvm.MethodName) "MouthHouse") ∈ lw_tbl := List.mem_of_getElem? (l := lw_tbl) (i := 884) (by decide +kernel)
theorem lk_X11_224 : am_lk RX11 224 yX10_partsOf := Or.inr ⟨_, tw_711⟩
theorem tw_715 : (Jvm.Cond.methodLink "MouthHouse$Votes" (80 : Nat) ({ cls := "MouthHouse$Votes", name := "spread", desc := "(I)I" } : Jvm.MethodName)) ∈ lw_tbl := List.mem_of_getElem? (l := lw_tbl) (i := 888) (by decide +kernel)
theorem lk_X10_80 : am_lk RX10 80 yX10_spread := Or.inl tw_715
theorem tw_719 : (Jvm.Cond.methodLinkNest "MouthHouse$Votes" (70 : Nat) ({ cls := "MouthHouse$Talk", name := "mouthOf", desc := "(I)I" } : Jvm.MethodName) "MouthHouse") ∈ lw_tbl := List.mem_of_getElem? (l := lw_tbl) (i := 892) (by decide +kernel)
theorem lk_X10_70 : am_lk RX10 70 yX8_mouthOf := Or.inr ⟨_, tw_719⟩
theorem tw_720 : (Jvm.Cond.methodLinkNest "MouthHouse$Votes" (73 : Nat) ({ cls := "MouthHouse$Talk", name := "slipOf", desc := "(I)I" } : Jvm.MethodName) "MouthHouse") ∈ lw_tbl := List.mem_of_getElem? (l := lw_tbl) (i := 893) (by decide +kernel)
theorem lk_X10_73 : am_lk RX10 73 yX8_slipOf := Or.inr ⟨_, tw_720⟩
theorem tw_721 : (Jvm.Cond.methodLink "MouthHouse$Votes" (76 : Nat) ({ cls := "MouthHouse$Votes", name := "hear", desc := "(I)V" } : Jvm.MethodName)) ∈ lw_tbl := List.mem_of_getElem? (l := lw_tbl) (i := 894) (by decide +kernel)
theorem lk_X10_76 : am_lk RX10 76 yX10_hear := Or.inl tw_721
theorem tw_725 : (Jvm.Cond.methodLink "MouthHouseLaw" (84 : Nat) ({ cls := "MouthHouse", name := "passed", desc := "()J" } : Jvm.MethodName)) ∈ lw_tbl := List.mem_of_getElem? (l := lw_tbl) (i := 898) (by decide +kernel)
theorem lk_L_84 : am_lk RL 84 yX11_passed := Or.inl tw_725
theorem tw_729 : (Jvm.Cond.methodLinkNest "MouthHouse" (228 : Nat) ({ cls := "MouthHouse$Votes", name := "passingParts", desc := "(I)J" } : Jvm.MethodName) "MouthHouse") ∈ lw_tbl := List.mem_of_getElem? (l := lw_tbl) (i := 902) (by decide +kernel)
theorem lk_X11_228 : am_lk RX11 228 yX10_passingParts := Or.inr ⟨_, tw_729⟩
theorem tw_733 : (Jvm.Cond.methodLink "MouthHouse$Votes" (83 : Nat) ({ cls := "MouthHouse$Votes", name := "passes", desc := "(II)Z" } : Jvm.MethodName)) ∈ lw_tbl := List.mem_of_getElem? (l := lw_tbl) (i := 906) (by decide +kernel)
theorem lk_X10_83 : am_lk RX10 83 yX10_passes := Or.inl tw_733
theorem tw_736 : (Jvm.Cond.methodLink "MouthHouseLaw" (89 : Nat) ({ cls := "MouthHouse", name := "turner", desc := "()I" } : Jvm.MethodName)) ∈ lw_tbl := List.mem_of_getElem? (l := lw_tbl) (i := 909) (by decide +kernel)
theorem lk_L_89 : am_lk RL 89 yX11_turner := Or.inl tw_736
theorem tw_740 : (Jvm.Cond.methodLinkNest "MouthHouse" (231 : Nat) ({ cls := "MouthHouse$Votes", name := "whoTurns", desc := "()I" } : Jvm.MethodName) "MouthHouse") ∈ lw_tbl := List.mem_of_getElem? (l := lw_tbl) (i := 913) (by decide +kernel)
theorem lk_X11_231 : am_lk RX11 231 yX10_whoTurns := Or.inr ⟨_, tw_740⟩
theorem tw_744 : (Jvm.Cond.methodLink "MouthHouse$Votes" (87 : Nat) ({ cls := "MouthHouse$Votes", name := "plainYes", desc := "()I" } : Jvm.MethodName)) ∈ lw_tbl := List.mem_of_getElem? (l := lw_tbl) (i := 917) (by decide +kernel)
theorem lk_X10_87 : am_lk RX10 87 yX10_plainYes := Or.inl tw_744
theorem tw_745 : (Jvm.Cond.methodLink "MouthHouse$Votes" (90 : Nat) ({ cls := "MouthHouse$Votes", name := "heard", desc := "()I" } : Jvm.MethodName)) ∈ lw_tbl := List.mem_of_getElem? (l := lw_tbl) (i := 918) (by decide +kernel)
theorem lk_X10_90 : am_lk RX10 90 yX10_heard := Or.inl tw_745
theorem tw_746 : (Jvm.Cond.methodLink "MouthHouse$Votes" (93 : Nat) ({ cls := "MouthHouse$Votes", name := "passingParts", desc := "(I)J" } : Jvm.MethodName)) ∈ lw_tbl := List.mem_of_getElem? (l := lw_tbl) (i := 919) (by decide +kernel)
theorem lk_X10_93 : am_lk RX10 93 yX10_passingParts := Or.inl tw_746
theorem tw_747 : (Jvm.Cond.methodLink "MouthHouseLaw" (93 : Nat) ({ cls := "MouthHouse", name := "bribe", desc := "(I)I" } : Jvm.MethodName)) ∈ lw_tbl := List.mem_of_getElem? (l := lw_tbl) (i := 920) (by decide +kernel)
theorem lk_L_93 : am_lk RL 93 yX11_bribe := Or.inl tw_747
theorem tw_751 : (Jvm.Cond.methodLinkNest "MouthHouse" (234 : Nat) ({ cls := "MouthHouse$Votes", name := "cheapest", desc := "()I" } : Jvm.MethodName) "MouthHouse") ∈ lw_tbl := List.mem_of_getElem? (l := lw_tbl) (i := 924) (by decide +kernel)
theorem lk_X11_234 : am_lk RX11 234 yX10_cheapest := Or.inr ⟨_, tw_751⟩
theorem tw_755 : (Jvm.Cond.methodLinkNest "MouthHouse$Votes" (97 : Nat) ({ cls := "MouthHouse$Members", name := "living", desc := "()I" } : Jvm.MethodName) "MouthHouse") ∈ lw_tbl := List.mem_of_getElem? (l := lw_tbl) (i := 928) (by decide +kernel)
theorem lk_X10_97 : am_lk RX10 97 yX5_living := Or.inr ⟨_, tw_755⟩
theorem tw_759 : (Jvm.Cond.methodLink "MouthHouse$Members" (47 : Nat) ({ cls := "MouthHouse$Members", name := "lives", desc := "(I)Z" } : Jvm.MethodName)) ∈ lw_tbl := List.mem_of_getElem? (l := lw_tbl) (i := 932) (by decide +kernel)
theorem lk_X5_47 : am_lk RX5 47 yX5_lives := Or.inl tw_759
theorem tw_760 : (Jvm.Cond.methodLink "MouthHouse$Votes" (100 : Nat) ({ cls := "MouthHouse$Votes", name := "costOf", desc := "(I)I" } : Jvm.MethodName)) ∈ lw_tbl := List.mem_of_getElem? (l := lw_tbl) (i := 933) (by decide +kernel)
theorem lk_X10_100 : am_lk RX10 100 yX10_costOf := Or.inl tw_760
theorem tw_764 : (Jvm.Cond.methodLinkNest "MouthHouse" (237 : Nat) ({ cls := "MouthHouse$Votes", name := "costOf", desc := "(I)I" } : Jvm.MethodName) "MouthHouse") ∈ lw_tbl := List.mem_of_getElem? (l := lw_tbl) (i := 937) (by decide +kernel)
theorem lk_X11_237 : am_lk RX11 237 yX10_costOf := Or.inr ⟨_, tw_764⟩
theorem tw_765 : (Jvm.Cond.methodLink "MouthHouseLaw" (97 : Nat) ({ cls := "MouthHouse", name := "yawn", desc := "(II)I" } : Jvm.MethodName)) ∈ lw_tbl := List.mem_of_getElem? (l := lw_tbl) (i := 938) (by decide +kernel)
theorem lk_L_97 : am_lk RL 97 yX11_yawn := Or.inl tw_765
theorem tw_769 : (Jvm.Cond.methodLinkNest "MouthHouse" (240 : Nat) ({ cls := "MouthHouse$Talk", name := "spreadYawn", desc := "(I)V" } : Jvm.MethodName) "MouthHouse") ∈ lw_tbl := List.mem_of_getElem? (l := lw_tbl) (i := 942) (by decide +kernel)
theorem lk_X11_240 : am_lk RX11 240 yX8_spreadYawn := Or.inr ⟨_, tw_769⟩
theorem tw_773 : (Jvm.Cond.methodLink "MouthHouse$Talk" (71 : Nat) ({ cls := "MouthHouse$Talk", name := "catchYawn", desc := "(II)V" } : Jvm.MethodName)) ∈ lw_tbl := List.mem_of_getElem? (l := lw_tbl) (i := 946) (by decide +kernel)
theorem lk_X8_71 : am_lk RX8 71 yX8_catchYawn := Or.inl tw_773
theorem tw_777 : (Jvm.Cond.methodLink "MouthHouse$Talk" (78 : Nat) ({ cls := "MouthHouse$Talk", name := "yawnedAt", desc := "(I)I" } : Jvm.MethodName)) ∈ lw_tbl := List.mem_of_getElem? (l := lw_tbl) (i := 950) (by decide +kernel)
theorem lk_X8_78 : am_lk RX8 78 yX8_yawnedAt := Or.inl tw_777
theorem tw_781 : (Jvm.Cond.methodLinkNest "MouthHouse$Talk" (81 : Nat) ({ cls := "MouthHouse$Members", name := "has", desc := "(I)Z" } : Jvm.MethodName) "MouthHouse") ∈ lw_tbl := List.mem_of_getElem? (l := lw_tbl) (i := 954) (by decide +kernel)
theorem lk_X8_81 : am_lk RX8 81 yX5_has := Or.inr ⟨_, tw_781⟩
theorem tw_782 : (Jvm.Cond.methodLinkNest "MouthHouse$Talk" (75 : Nat) ({ cls := "MouthHouse$Seating", name := "rightOf", desc := "(IZ)I" } : Jvm.MethodName) "MouthHouse") ∈ lw_tbl := List.mem_of_getElem? (l := lw_tbl) (i := 955) (by decide +kernel)
theorem lk_X8_75 : am_lk RX8 75 yX6_rightOf := Or.inr ⟨_, tw_782⟩
theorem tw_786 : (Jvm.Cond.methodLinkNest "MouthHouse" (243 : Nat) ({ cls := "MouthHouse$Talk", name := "yawnedAt", desc := "(I)I" } : Jvm.MethodName) "MouthHouse") ∈ lw_tbl := List.mem_of_getElem? (l := lw_tbl) (i := 959) (by decide +kernel)
theorem lk_X11_243 : am_lk RX11 243 yX8_yawnedAt := Or.inr ⟨_, tw_786⟩
theorem tw_787 : (Jvm.Cond.methodLink "MouthHouseLaw" (101 : Nat) ({ cls := "MouthHouse", name := "yawns", desc := "(II)I" } : Jvm.MethodName)) ∈ lw_tbl := List.mem_of_getElem? (l := lw_tbl) (i := 960) (by decide +kernel)
theorem lk_L_101 : am_lk RL 101 yX11_yawns := Or.inl tw_787
theorem tw_791 : (Jvm.Cond.methodLinkNest "MouthHouse" (246 : Nat) ({ cls := "MouthHouse$Talk", name := "lastYawn", desc := "()I" } : Jvm.MethodName) "MouthHouse") ∈ lw_tbl := List.mem_of_getElem? (l := lw_tbl) (i := 964) (by decide +kernel)
theorem lk_X11_246 : am_lk RX11 246 yX8_lastYawn := Or.inr ⟨_, tw_791⟩
theorem tw_795 : (Jvm.Cond.methodLink "MouthHouse$Talk" (84 : Nat) ({ cls := "java/lang/Math", name := "max", desc := "(II)I" } : Jvm.MethodName)) ∈ lw_tbl := List.mem_of_getElem? (l := lw_tbl) (i := 968) (by decide +kernel)
theorem lk_X8_84 : Cond.methodLink RX8 84 Lib.Math.max.name ∈ lw_tbl := tw_795
theorem tw_796 : (Jvm.Cond.methodLinkNest "MouthHouse" (249 : Nat) ({ cls := "MouthHouse$Talk", name := "sleepy", desc := "()I" } : Jvm.MethodName) "MouthHouse") ∈ lw_tbl := List.mem_of_getElem? (l := lw_tbl) (i := 969) (by decide +kernel)
theorem lk_X11_249 : am_lk RX11 249 yX8_sleepy := Or.inr ⟨_, tw_796⟩
theorem tw_800 : (Jvm.Cond.methodLink "MouthHouseLaw" (105 : Nat) ({ cls := "MouthHouse", name := "ill", desc := "()I" } : Jvm.MethodName)) ∈ lw_tbl := List.mem_of_getElem? (l := lw_tbl) (i := 973) (by decide +kernel)
theorem lk_L_105 : am_lk RL 105 yX11_ill := Or.inl tw_800
theorem tw_805 : (Jvm.Cond.methodLinkNest "MouthHouse" (253 : Nat) ({ cls := "MouthHouse$Best", name := "illOf", desc := "(LMouthHouse$Seating;)I" } : Jvm.MethodName) "MouthHouse") ∈ lw_tbl := List.mem_of_getElem? (l := lw_tbl) (i := 978) (by decide +kernel)
theorem lk_X11_253 : am_lk RX11 253 yX0_illOf := Or.inr ⟨_, tw_805⟩
theorem tw_809 : (Jvm.Cond.methodLinkNest "MouthHouse$Best" (63 : Nat) ({ cls := "MouthHouse$Seating", name := "leftOf", desc := "(IZ)I" } : Jvm.MethodName) "MouthHouse") ∈ lw_tbl := List.mem_of_getElem? (l := lw_tbl) (i := 982) (by decide +kernel)
theorem lk_X0_63 : am_lk RX0 63 yX6_leftOf := Or.inr ⟨_, tw_809⟩
theorem tw_810 : (Jvm.Cond.methodLinkNest "MouthHouse$Best" (69 : Nat) ({ cls := "MouthHouse$Seating", name := "memberOn", desc := "(I)I" } : Jvm.MethodName) "MouthHouse") ∈ lw_tbl := List.mem_of_getElem? (l := lw_tbl) (i := 983) (by decide +kernel)
theorem lk_X0_69 : am_lk RX0 69 yX6_memberOn := Or.inr ⟨_, tw_810⟩
theorem tw_811 : (Jvm.Cond.methodLink "MouthHouse$Best" (73 : Nat) ({ cls := "MouthHouse$Best", name := "worthOf", desc := "(III)I" } : Jvm.MethodName)) ∈ lw_tbl := List.mem_of_getElem? (l := lw_tbl) (i := 984) (by decide +kernel)
theorem lk_X0_73 : am_lk RX0 73 yX0_worthOf := Or.inl tw_811
theorem tw_815 : (Jvm.Cond.methodLinkNest "MouthHouse$Best" (77 : Nat) ({ cls := "MouthHouse$Members", name := "areEnemies", desc := "(II)Z" } : Jvm.MethodName) "MouthHouse") ∈ lw_tbl := List.mem_of_getElem? (l := lw_tbl) (i := 988) (by decide +kernel)
theorem lk_X0_77 : am_lk RX0 77 yX5_areEnemies := Or.inr ⟨_, tw_815⟩
theorem tw_819 : (Jvm.Cond.methodLinkNest "MouthHouse$Best" (81 : Nat) ({ cls := "MouthHouse$Members", name := "fact", desc := "(II)I" } : Jvm.MethodName) "MouthHouse") ∈ lw_tbl := List.mem_of_getElem? (l := lw_tbl) (i := 992) (by decide +kernel)
theorem lk_X0_81 : am_lk RX0 81 yX5_fact := Or.inr ⟨_, tw_819⟩
theorem tw_820 : (Jvm.Cond.methodLinkNest "MouthHouse$Best" (85 : Nat) ({ cls := "MouthHouse$Manners", name := "worthBy", desc := "([I)I" } : Jvm.MethodName) "MouthHouse") ∈ lw_tbl := List.mem_of_getElem? (l := lw_tbl) (i := 993) (by decide +kernel)
theorem lk_X0_85 : am_lk RX0 85 yX3_worthBy := Or.inr ⟨_, tw_820⟩
theorem tw_824 : (Jvm.Cond.methodLink "MouthHouse$Manners" (40 : Nat) ({ cls := "MouthHouse$Manners", name := "push", desc := "(I)V" } : Jvm.MethodName)) ∈ lw_tbl := List.mem_of_getElem? (l := lw_tbl) (i := 997) (by decide +kernel)
theorem lk_X3_40 : am_lk RX3 40 yX3_push := Or.inl tw_824
theorem tw_828 : (Jvm.Cond.methodLink "MouthHouse$Manners" (44 : Nat) ({ cls := "MouthHouse$Manners", name := "pop", desc := "()I" } : Jvm.MethodName)) ∈ lw_tbl := List.mem_of_getElem? (l := lw_tbl) (i := 1001) (by decide +kernel)
theorem lk_X3_44 : am_lk RX3 44 yX3_pop := Or.inl tw_828
theorem tw_832 : (Jvm.Cond.methodLink "MouthHouse$Manners" (48 : Nat) ({ cls := "MouthHouse$Manners", name := "work", desc := "(I[I)V" } : Jvm.MethodName)) ∈ lw_tbl := List.mem_of_getElem? (l := lw_tbl) (i := 1005) (by decide +kernel)
theorem lk_X3_48 : am_lk RX3 48 yX3_work := Or.inl tw_832
theorem tw_836 : (Jvm.Cond.methodLink "MouthHouse$Manners" (52 : Nat) ({ cls := "MouthHouse$Manners", name := "letterOf", desc := "(I)I" } : Jvm.MethodName)) ∈ lw_tbl := List.mem_of_getElem? (l := lw_tbl) (i := 1009) (by decide +kernel)
theorem lk_X3_52 : am_lk RX3 52 yX3_letterOf := Or.inl tw_836
theorem tw_837 : (Jvm.Cond.methodLink "MouthHouse$Manners" (56 : Nat) ({ cls := "MouthHouse$Manners", name := "isTruthSign", desc := "(I)Z" } : Jvm.MethodName)) ∈ lw_tbl := List.mem_of_getElem? (l := lw_tbl) (i := 1010) (by decide +kernel)
theorem lk_X3_56 : am_lk RX3 56 yX3_isTruthSign := Or.inl tw_837
theorem tw_840 : (Jvm.Cond.methodLink "MouthHouse$Manners" (60 : Nat) ({ cls := "MouthHouse$Manners", name := "truth", desc := "(III)I" } : Jvm.MethodName)) ∈ lw_tbl := List.mem_of_getElem? (l := lw_tbl) (i := 1013) (by decide +kernel)
theorem lk_X3_60 : am_lk RX3 60 yX3_truth := Or.inl tw_840
theorem tw_843 : (Jvm.Cond.methodLink "MouthHouse$Manners" (64 : Nat) ({ cls := "MouthHouse$Manners", name := "bounded", desc := "(IJJ)I" } : Jvm.MethodName)) ∈ lw_tbl := List.mem_of_getElem? (l := lw_tbl) (i := 1016) (by decide +kernel)
theorem lk_X3_64 : am_lk RX3 64 yX3_bounded := Or.inl tw_843
theorem tw_850 : (Jvm.Cond.methodLink "MouthHouseLaw" (109 : Nat) ({ cls := "MouthHouse", name := "best", desc := "(II)I" } : Jvm.MethodName)) ∈ lw_tbl := List.mem_of_getElem? (l := lw_tbl) (i := 1023) (by decide +kernel)
theorem lk_L_109 : am_lk RL 109 yX11_best := Or.inl tw_850
theorem tw_854 : (Jvm.Cond.methodLinkNest "MouthHouse" (257 : Nat) ({ cls := "MouthHouse$Best", name := "search", desc := "(I)V" } : Jvm.MethodName) "MouthHouse") ∈ lw_tbl := List.mem_of_getElem? (l := lw_tbl) (i := 1027) (by decide +kernel)
theorem lk_X11_257 : am_lk RX11 257 yX0_search := Or.inr ⟨_, tw_854⟩
theorem tw_858 : (Jvm.Cond.methodLink "MouthHouse$Best" (90 : Nat) ({ cls := "MouthHouse$Best", name := "fillWorths", desc := "()V" } : Jvm.MethodName)) ∈ lw_tbl := List.mem_of_getElem? (l := lw_tbl) (i := 1031) (by decide +kernel)
theorem lk_X0_90 : am_lk RX0 90 yX0_fillWorths := Or.inl tw_858
theorem tw_862 : (Jvm.Cond.methodLink "MouthHouse$Best" (124 : Nat) ({ cls := "java/util/Arrays", name := "fill", desc := "([II)V" } : Jvm.MethodName)) ∈ lw_tbl := List.mem_of_getElem? (l := lw_tbl) (i := 1035) (by decide +kernel)
theorem lk_X0_124 : am_lk RX0 124 yJ7_fill_53178 := Or.inl tw_862
theorem tw_865 : (Jvm.Cond.methodLink "MouthHouse$Best" (130 : Nat) ({ cls := "MouthHouse$Best", name := "fillWorthsAt", desc := "(I)I" } : Jvm.MethodName)) ∈ lw_tbl := List.mem_of_getElem? (l := lw_tbl) (i := 1038) (by decide +kernel)
theorem lk_X0_130 : am_lk RX0 130 yX0_fillWorthsAt := Or.inl tw_865
theorem tw_869 : (Jvm.Cond.methodLink "MouthHouse$Best" (133 : Nat) ({ cls := "java/lang/Math", name := "min", desc := "(II)I" } : Jvm.MethodName)) ∈ lw_tbl := List.mem_of_getElem? (l := lw_tbl) (i := 1042) (by decide +kernel)
theorem lk_X0_133 : Cond.methodLink RX0 133 Lib.Math.min.name ∈ lw_tbl := tw_869
theorem tw_870 : (Jvm.Cond.methodLinkNest "MouthHouse$Best" (93 : Nat) ({ cls := "MouthHouse$Members", name := "living", desc := "()I" } : Jvm.MethodName) "MouthHouse") ∈ lw_tbl := List.mem_of_getElem? (l := lw_tbl) (i := 1043) (by decide +kernel)
theorem lk_X0_93 : am_lk RX0 93 yX5_living := Or.inr ⟨_, tw_870⟩
theorem tw_871 : (Jvm.Cond.methodLink "MouthHouse$Best" (97 : Nat) ({ cls := "java/lang/Integer", name := "bitCount", desc := "(I)I" } : Jvm.MethodName)) ∈ lw_tbl := List.mem_of_getElem? (l := lw_tbl) (i := 1044) (by decide +kernel)
theorem lk_X0_97 : am_lk RX0 97 yJ6_bitCount_0f7a4 := Or.inl tw_871
theorem tw_872 : (Jvm.Cond.methodLink "MouthHouse$Best" (105 : Nat) ({ cls := "MouthHouse$Best", name := "roundHope", desc := "()I" } : Jvm.MethodName)) ∈ lw_tbl := List.mem_of_getElem? (l := lw_tbl) (i := 1045) (by decide +kernel)
theorem lk_X0_105 : am_lk RX0 105 yX0_roundHope := Or.inl tw_872
theorem tw_876 : (Jvm.Cond.methodLinkNest "MouthHouse$Best" (145 : Nat) ({ cls := "MouthHouse$Members", name := "lives", desc := "(I)Z" } : Jvm.MethodName) "MouthHouse") ∈ lw_tbl := List.mem_of_getElem? (l := lw_tbl) (i := 1049) (by decide +kernel)
theorem lk_X0_145 : am_lk RX0 145 yX5_lives := Or.inr ⟨_, tw_876⟩
theorem tw_877 : (Jvm.Cond.methodLink "MouthHouse$Best" (167 : Nat) ({ cls := "MouthHouse$Best", name := "quickest", desc := "(I)I" } : Jvm.MethodName)) ∈ lw_tbl := List.mem_of_getElem? (l := lw_tbl) (i := 1050) (by decide +kernel)
theorem lk_X0_167 : am_lk RX0 167 yX0_quickest := Or.inl tw_877
theorem tw_881 : (Jvm.Cond.methodLink "MouthHouse$Best" (114 : Nat) ({ cls := "MouthHouse$Best", name := "place", desc := "(IIIII)V" } : Jvm.MethodName)) ∈ lw_tbl := List.mem_of_getElem? (l := lw_tbl) (i := 1054) (by decide +kernel)
theorem lk_X0_114 : am_lk RX0 114 yX0_place := Or.inl tw_881
theorem tw_885 : (Jvm.Cond.methodLink "MouthHouse$Best" (138 : Nat) ({ cls := "MouthHouse$Best", name := "lastGain", desc := "(III)I" } : Jvm.MethodName)) ∈ lw_tbl := List.mem_of_getElem? (l := lw_tbl) (i := 1058) (by decide +kernel)
theorem lk_X0_138 : am_lk RX0 138 yX0_lastGain := Or.inl tw_885
theorem tw_889 : (Jvm.Cond.methodLink "MouthHouse$Best" (159 : Nat) ({ cls := "MouthHouse$Best", name := "roundScore", desc := "(I)I" } : Jvm.MethodName)) ∈ lw_tbl := List.mem_of_getElem? (l := lw_tbl) (i := 1062) (by decide +kernel)
theorem lk_X0_159 : am_lk RX0 159 yX0_roundScore := Or.inl tw_889
theorem tw_893 : (Jvm.Cond.methodLinkNest "MouthHouse$Best" (162 : Nat) ({ cls := "MouthHouse$Members", name := "swallows", desc := "(II)Z" } : Jvm.MethodName) "MouthHouse") ∈ lw_tbl := List.mem_of_getElem? (l := lw_tbl) (i := 1066) (by decide +kernel)
theorem lk_X0_162 : am_lk RX0 162 yX5_swallows := Or.inr ⟨_, tw_893⟩
theorem tw_894 : (Jvm.Cond.methodLink "MouthHouse$Best" (156 : Nat) ({ cls := "MouthHouse$Best", name := "keptWorth", desc := "(III)I" } : Jvm.MethodName)) ∈ lw_tbl := List.mem_of_getElem? (l := lw_tbl) (i := 1067) (by decide +kernel)
theorem lk_X0_156 : am_lk RX0 156 yX0_keptWorth := Or.inl tw_894
theorem tw_898 : (Jvm.Cond.methodLink "MouthHouse$Best" (141 : Nat) ({ cls := "MouthHouse$Best", name := "judge", desc := "(I)V" } : Jvm.MethodName)) ∈ lw_tbl := List.mem_of_getElem? (l := lw_tbl) (i := 1071) (by decide +kernel)
theorem lk_X0_141 : am_lk RX0 141 yX0_judge := Or.inl tw_898
theorem tw_902 : (Jvm.Cond.methodLink "MouthHouse$Best" (149 : Nat) ({ cls := "MouthHouse$Best", name := "gain", desc := "(IIII)I" } : Jvm.MethodName)) ∈ lw_tbl := List.mem_of_getElem? (l := lw_tbl) (i := 1075) (by decide +kernel)
theorem lk_X0_149 : am_lk RX0 149 yX0_gain := Or.inl tw_902
theorem tw_906 : (Jvm.Cond.methodLink "MouthHouse$Best" (153 : Nat) ({ cls := "MouthHouse$Best", name := "hope", desc := "(IIII)I" } : Jvm.MethodName)) ∈ lw_tbl := List.mem_of_getElem? (l := lw_tbl) (i := 1079) (by decide +kernel)
theorem lk_X0_153 : am_lk RX0 153 yX0_hope := Or.inl tw_906
theorem tw_910 : (Jvm.Cond.methodLinkNest "MouthHouse" (260 : Nat) ({ cls := "MouthHouse$Best", name := "seatingFor", desc := "(I)I" } : Jvm.MethodName) "MouthHouse") ∈ lw_tbl := List.mem_of_getElem? (l := lw_tbl) (i := 1083) (by decide +kernel)
theorem lk_X11_260 : am_lk RX11 260 yX0_seatingFor := Or.inr ⟨_, tw_910⟩
theorem tw_915 : (Jvm.Cond.methodLinkNest "MouthHouse" (263 : Nat) ({ cls := "MouthHouse$Best", name := "muchFor", desc := "(I)I" } : Jvm.MethodName) "MouthHouse") ∈ lw_tbl := List.mem_of_getElem? (l := lw_tbl) (i := 1088) (by decide +kernel)
theorem lk_X11_263 : am_lk RX11 263 yX0_muchFor := Or.inr ⟨_, tw_915⟩
theorem tw_919 : (Jvm.Cond.methodLink "MouthHouseLaw" (113 : Nat) ({ cls := "MouthHouse", name := "changes", desc := "(I)I" } : Jvm.MethodName)) ∈ lw_tbl := List.mem_of_getElem? (l := lw_tbl) (i := 1092) (by decide +kernel)
theorem lk_L_113 : am_lk RL 113 yX11_changes := Or.inl tw_919
theorem tw_923 : (Jvm.Cond.methodLinkNest "MouthHouse" (266 : Nat) ({ cls := "MouthHouse$Changes", name := "search", desc := "()V" } : Jvm.MethodName) "MouthHouse") ∈ lw_tbl := List.mem_of_getElem? (l := lw_tbl) (i := 1096) (by decide +kernel)
theorem lk_X11_266 : am_lk RX11 266 yX1_search := Or.inr ⟨_, tw_923⟩
theorem tw_927 : (Jvm.Cond.methodLinkNest "MouthHouse$Changes" (56 : Nat) ({ cls := "MouthHouse$Members", name := "living", desc := "()I" } : Jvm.MethodName) "MouthHouse") ∈ lw_tbl := List.mem_of_getElem? (l := lw_tbl) (i := 1100) (by decide +kernel)
theorem lk_X1_56 : am_lk RX1 56 yX5_living := Or.inr ⟨_, tw_927⟩
theorem tw_928 : (Jvm.Cond.methodLink "MouthHouse$Changes" (62 : Nat) ({ cls := "MouthHouse$Changes", name := "canBeOrdered", desc := "(III)Z" } : Jvm.MethodName)) ∈ lw_tbl := List.mem_of_getElem? (l := lw_tbl) (i := 1101) (by decide +kernel)
theorem lk_X1_62 : am_lk RX1 62 yX1_canBeOrdered := Or.inl tw_928
theorem tw_932 : (Jvm.Cond.methodLinkNest "MouthHouse$Changes" (72 : Nat) ({ cls := "MouthHouse$Members", name := "swallows", desc := "(II)Z" } : Jvm.MethodName) "MouthHouse") ∈ lw_tbl := List.mem_of_getElem? (l := lw_tbl) (i := 1105) (by decide +kernel)
theorem lk_X1_72 : am_lk RX1 72 yX5_swallows := Or.inr ⟨_, tw_932⟩
theorem tw_933 : (Jvm.Cond.methodLink "MouthHouse$Changes" (66 : Nat) ({ cls := "MouthHouse$Changes", name := "goThrough", desc := "()V" } : Jvm.MethodName)) ∈ lw_tbl := List.mem_of_getElem? (l := lw_tbl) (i := 1106) (by decide +kernel)
theorem lk_X1_66 : am_lk RX1 66 yX1_goThrough := Or.inl tw_933
theorem tw_937 : (Jvm.Cond.methodLink "MouthHouse$Changes" (79 : Nat) ({ cls := "java/util/Arrays", name := "fill", desc := "([JJ)V" } : Jvm.MethodName)) ∈ lw_tbl := List.mem_of_getElem? (l := lw_tbl) (i := 1110) (by decide +kernel)
theorem lk_X1_79 : am_lk RX1 79 yJ7_fill_d0a16 := Or.inl tw_937
theorem tw_940 : (Jvm.Cond.methodLinkNest "MouthHouse$Changes" (85 : Nat) ({ cls := "MouthHouse$Seating", name := "copyFrom", desc := "(LMouthHouse$Seating;)V" } : Jvm.MethodName) "MouthHouse") ∈ lw_tbl := List.mem_of_getElem? (l := lw_tbl) (i := 1113) (by decide +kernel)
theorem lk_X1_85 : am_lk RX1 85 yX6_copyFrom := Or.inr ⟨_, tw_940⟩
theorem tw_944 : (Jvm.Cond.methodLink "MouthHouse$Seating" (35 : Nat) ({ cls := "java/lang/System", name := "arraycopy", desc := "(Ljava/lang/Object;ILjava/lang/Object;II)V" } : Jvm.MethodName)) ∈ lw_tbl := List.mem_of_getElem? (l := lw_tbl) (i := 1117) (by decide +kernel)
theorem lc_X6_35 : Cond.methodLink RX6 35 arraycopyName ∈ lw_tbl := tw_944
theorem tw_945 : (Jvm.Cond.methodLink "MouthHouse$Changes" (89 : Nat) ({ cls := "MouthHouse$Changes", name := "reach", desc := "()V" } : Jvm.MethodName)) ∈ lw_tbl := List.mem_of_getElem? (l := lw_tbl) (i := 1118) (by decide +kernel)
theorem lk_X1_89 : am_lk RX1 89 yX1_reach := Or.inl tw_945
theorem tw_949 : (Jvm.Cond.methodLink "MouthHouse$Changes" (120 : Nat) ({ cls := "MouthHouse$Changes", name := "rankOfTrial", desc := "()I" } : Jvm.MethodName)) ∈ lw_tbl := List.mem_of_getElem? (l := lw_tbl) (i := 1122) (by decide +kernel)
theorem lk_X1_120 : am_lk RX1 120 yX1_rankOfTrial := Or.inl tw_949
theorem tw_953 : (Jvm.Cond.methodLinkNest "MouthHouse$Changes" (126 : Nat) ({ cls := "MouthHouse$Seating", name := "memberOn", desc := "(I)I" } : Jvm.MethodName) "MouthHouse") ∈ lw_tbl := List.mem_of_getElem? (l := lw_tbl) (i := 1126) (by decide +kernel)
theorem lk_X1_126 : am_lk RX1 126 yX6_memberOn := Or.inr ⟨_, tw_953⟩
theorem tw_954 : (Jvm.Cond.methodLink "MouthHouse$Changes" (130 : Nat) ({ cls := "java/lang/Integer", name := "bitCount", desc := "(I)I" } : Jvm.MethodName)) ∈ lw_tbl := List.mem_of_getElem? (l := lw_tbl) (i := 1127) (by decide +kernel)
theorem lk_X1_130 : am_lk RX1 130 yJ6_bitCount_0f7a4 := Or.inl tw_954
theorem tw_955 : (Jvm.Cond.methodLinkNest "MouthHouse$Changes" (123 : Nat) ({ cls := "MouthHouse$Seating", name := "digits", desc := "()I" } : Jvm.MethodName) "MouthHouse") ∈ lw_tbl := List.mem_of_getElem? (l := lw_tbl) (i := 1128) (by decide +kernel)
theorem lk_X1_123 : am_lk RX1 123 yX6_digits := Or.inr ⟨_, tw_955⟩
theorem tw_959 : (Jvm.Cond.methodLink "MouthHouse$Changes" (92 : Nat) ({ cls := "MouthHouse$Changes", name := "leastGood", desc := "(II)I" } : Jvm.MethodName)) ∈ lw_tbl := List.mem_of_getElem? (l := lw_tbl) (i := 1132) (by decide +kernel)
theorem lk_X1_92 : am_lk RX1 92 yX1_leastGood := Or.inl tw_959
theorem tw_963 : (Jvm.Cond.methodLink "MouthHouse$Changes" (100 : Nat) ({ cls := "java/lang/Math", name := "max", desc := "(II)I" } : Jvm.MethodName)) ∈ lw_tbl := List.mem_of_getElem? (l := lw_tbl) (i := 1136) (by decide +kernel)
theorem lk_X1_100 : Cond.methodLink RX1 100 Lib.Math.max.name ∈ lw_tbl := tw_963
theorem tw_964 : (Jvm.Cond.methodLinkNest "MouthHouse$Changes" (105 : Nat) ({ cls := "MouthHouse$Seating", name := "take", desc := "(I)V" } : Jvm.MethodName) "MouthHouse") ∈ lw_tbl := List.mem_of_getElem? (l := lw_tbl) (i := 1137) (by decide +kernel)
theorem lk_X1_105 : am_lk RX1 105 yX6_take := Or.inr ⟨_, tw_964⟩
theorem tw_965 : (Jvm.Cond.methodLinkNest "MouthHouse$Changes" (108 : Nat) ({ cls := "MouthHouse$Talk", name := "isAllHeard", desc := "()Z" } : Jvm.MethodName) "MouthHouse") ∈ lw_tbl := List.mem_of_getElem? (l := lw_tbl) (i := 1138) (by decide +kernel)
theorem lk_X1_108 : am_lk RX1 108 yX8_isAllHeard := Or.inr ⟨_, tw_965⟩
theorem tw_969 : (Jvm.Cond.methodLink "MouthHouse$Changes" (96 : Nat) ({ cls := "MouthHouse$Changes", name := "exchangeAll", desc := "(I)V" } : Jvm.MethodName)) ∈ lw_tbl := List.mem_of_getElem? (l := lw_tbl) (i := 1142) (by decide +kernel)
theorem lk_X1_96 : am_lk RX1 96 yX1_exchangeAll := Or.inl tw_969
theorem tw_973 : (Jvm.Cond.methodLinkNest "MouthHouse$Changes" (112 : Nat) ({ cls := "MouthHouse$Seating", name := "rightOf", desc := "(IZ)I" } : Jvm.MethodName) "MouthHouse") ∈ lw_tbl := List.mem_of_getElem? (l := lw_tbl) (i := 1146) (by decide +kernel)
theorem lk_X1_112 : am_lk RX1 112 yX6_rightOf := Or.inr ⟨_, tw_973⟩
theorem tw_974 : (Jvm.Cond.methodLinkNest "MouthHouse$Changes" (116 : Nat) ({ cls := "MouthHouse$Seating", name := "exchange", desc := "(II)V" } : Jvm.MethodName) "MouthHouse") ∈ lw_tbl := List.mem_of_getElem? (l := lw_tbl) (i := 1147) (by decide +kernel)
theorem lk_X1_116 : am_lk RX1 116 yX6_exchange := Or.inr ⟨_, tw_974⟩
theorem tw_975 : (Jvm.Cond.methodLink "MouthHouseLaw" (117 : Nat) ({ cls := "MouthHouse", name := "know", desc := "(IZ)I" } : Jvm.MethodName)) ∈ lw_tbl := List.mem_of_getElem? (l := lw_tbl) (i := 1148) (by decide +kernel)
theorem lk_L_117 : am_lk RL 117 yX11_know := Or.inl tw_975
theorem tw_979 : (Jvm.Cond.methodLinkNest "MouthHouse" (274 : Nat) ({ cls := "MouthHouse$Votes", name := "learn", desc := "(IZ)I" } : Jvm.MethodName) "MouthHouse") ∈ lw_tbl := List.mem_of_getElem? (l := lw_tbl) (i := 1152) (by decide +kernel)
theorem lk_X11_274 : am_lk RX11 274 yX10_learn := Or.inr ⟨_, tw_979⟩
theorem tw_983 : (Jvm.Cond.methodLink "MouthHouseLaw" (122 : Nat) ({ cls := "MouthHouse", name := "fits", desc := "(I)I" } : Jvm.MethodName)) ∈ lw_tbl := List.mem_of_getElem? (l := lw_tbl) (i := 1156) (by decide +kernel)
theorem lk_L_122 : am_lk RL 122 yX11_fits := Or.inl tw_983
theorem tw_987 : (Jvm.Cond.methodLinkNest "MouthHouse" (278 : Nat) ({ cls := "MouthHouse$Votes", name := "fitting", desc := "()I" } : Jvm.MethodName) "MouthHouse") ∈ lw_tbl := List.mem_of_getElem? (l := lw_tbl) (i := 1160) (by decide +kernel)
theorem lk_X11_278 : am_lk RX11 278 yX10_fitting := Or.inr ⟨_, tw_987⟩
theorem tw_991 : (Jvm.Cond.methodLink "MouthHouse$Votes" (106 : Nat) ({ cls := "MouthHouse$Votes", name := "canFit", desc := "()Z" } : Jvm.MethodName)) ∈ lw_tbl := List.mem_of_getElem? (l := lw_tbl) (i := 1164) (by decide +kernel)
theorem lk_X10_106 : am_lk RX10 106 yX10_canFit := Or.inl tw_991
theorem tw_995 : (Jvm.Cond.methodLinkNest "MouthHouse$Votes" (103 : Nat) ({ cls := "MouthHouse$Talk", name := "speakerThrough", desc := "(I)I" } : Jvm.MethodName) "MouthHouse") ∈ lw_tbl := List.mem_of_getElem? (l := lw_tbl) (i := 1168) (by decide +kernel)
theorem lk_X10_103 : am_lk RX10 103 yX8_speakerThrough := Or.inr ⟨_, tw_995⟩
theorem tw_999 : (Jvm.Cond.methodLink "MouthHouse$Votes" (110 : Nat) ({ cls := "java/lang/Math", name := "max", desc := "(II)I" } : Jvm.MethodName)) ∈ lw_tbl := List.mem_of_getElem? (l := lw_tbl) (i := 1172) (by decide +kernel)
theorem lk_X10_110 : Cond.methodLink RX10 110 Lib.Math.max.name ∈ lw_tbl := tw_999
theorem tw_1000 : (Jvm.Cond.methodLinkNest "MouthHouse" (281 : Nat) ({ cls := "MouthHouse$Votes", name := "fittingRow", desc := "(I)I" } : Jvm.MethodName) "MouthHouse") ∈ lw_tbl := List.mem_of_getElem? (l := lw_tbl) (i := 1173) (by decide +kernel)
theorem lk_X11_281 : am_lk RX11 281 yX10_fittingRow := Or.inr ⟨_, tw_1000⟩
theorem tw_1004 : (Jvm.Cond.methodLink "MouthHouse$Votes" (115 : Nat) ({ cls := "MouthHouse$Votes", name := "isFit", desc := "(I)Z" } : Jvm.MethodName)) ∈ lw_tbl := List.mem_of_getElem? (l := lw_tbl) (i := 1177) (by decide +kernel)
theorem lk_X10_115 : am_lk RX10 115 yX10_isFit := Or.inl tw_1004
theorem tw_1008 : (Jvm.Cond.methodLink "MouthHouseLaw" (126 : Nat) ({ cls := "MouthHouse", name := "sure", desc := "(Z)I" } : Jvm.MethodName)) ∈ lw_tbl := List.mem_of_getElem? (l := lw_tbl) (i := 1181) (by decide +kernel)
theorem lk_L_126 : am_lk RL 126 yX11_sure := Or.inl tw_1008
theorem tw_1012 : (Jvm.Cond.methodLinkNest "MouthHouse" (284 : Nat) ({ cls := "MouthHouse$Votes", name := "certain", desc := "(Z)I" } : Jvm.MethodName) "MouthHouse") ∈ lw_tbl := List.mem_of_getElem? (l := lw_tbl) (i := 1185) (by decide +kernel)
theorem lk_X11_284 : am_lk RX11 284 yX10_certain := Or.inr ⟨_, tw_1012⟩
theorem tw_1016 : (Jvm.Cond.methodLink "MouthHouseLaw" (133 : Nat) ({ cls := "MouthHouse", name := "seed", desc := "(J)Z" } : Jvm.MethodName)) ∈ lw_tbl := List.mem_of_getElem? (l := lw_tbl) (i := 1189) (by decide +kernel)
theorem lk_L_133 : am_lk RL 133 yX11_seed := Or.inl tw_1016
theorem tw_1020 : (Jvm.Cond.methodLink "MouthHouseLaw" (138 : Nat) ({ cls := "MouthHouse", name := "sitting", desc := "()I" } : Jvm.MethodName)) ∈ lw_tbl := List.mem_of_getElem? (l := lw_tbl) (i := 1193) (by decide +kernel)
theorem lk_L_138 : am_lk RL 138 yX11_sitting := Or.inl tw_1020
theorem tw_1024 : (Jvm.Cond.methodLinkNest "MouthHouse" (292 : Nat) ({ cls := "MouthHouse$Sittings", name := "isFull", desc := "()Z" } : Jvm.MethodName) "MouthHouse") ∈ lw_tbl := List.mem_of_getElem? (l := lw_tbl) (i := 1197) (by decide +kernel)
theorem lk_X11_292 : am_lk RX11 292 yX7_isFull := Or.inr ⟨_, tw_1024⟩
theorem tw_1028 : (Jvm.Cond.methodLinkNest "MouthHouse" (177 : Nat) ({ cls := "MouthHouse$Talk", name := "isHeard", desc := "(I)Z" } : Jvm.MethodName) "MouthHouse") ∈ lw_tbl := List.mem_of_getElem? (l := lw_tbl) (i := 1201) (by decide +kernel)
theorem lk_X11_177 : am_lk RX11 177 yX8_isHeard := Or.inr ⟨_, tw_1028⟩
theorem tw_1029 : (Jvm.Cond.methodLinkNest "MouthHouse" (296 : Nat) ({ cls := "MouthHouse$Sittings", name := "draw", desc := "(I)I" } : Jvm.MethodName) "MouthHouse") ∈ lw_tbl := List.mem_of_getElem? (l := lw_tbl) (i := 1202) (by decide +kernel)
theorem lk_X11_296 : am_lk RX11 296 yX7_draw := Or.inr ⟨_, tw_1029⟩
theorem tw_1035 : (Jvm.Cond.methodLinkNest "MouthHouse" (174 : Nat) ({ cls := "MouthHouse$Talk", name := "mouthOf", desc := "(I)I" } : Jvm.MethodName) "MouthHouse") ∈ lw_tbl := List.mem_of_getElem? (l := lw_tbl) (i := 1208) (by decide +kernel)
theorem lk_X11_174 : am_lk RX11 174 yX8_mouthOf := Or.inr ⟨_, tw_1035⟩
theorem tw_1036 : (Jvm.Cond.methodLinkNest "MouthHouse" (299 : Nat) ({ cls := "MouthHouse$Talk", name := "slipOf", desc := "(I)I" } : Jvm.MethodName) "MouthHouse") ∈ lw_tbl := List.mem_of_getElem? (l := lw_tbl) (i := 1209) (by decide +kernel)
