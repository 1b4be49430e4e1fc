theorem lk_X6_28 : Cond.methodLink RX6 28 Lib.Math.max.name ∈ lw_tbl := tw_537
theorem tw_540 : (Jvm.Cond.methodLink "MouthHouse$Seating" (31 : Nat) ({ cls := "MouthHouse$Seating", name := "put", desc := "(II)V" } : Jvm.MethodName)) ∈ lw_tbl := List.mem_of_getElem? (l := lw_tbl) (i := 713) (by decide +kernel)
theorem lk_X6_31 : am_lk RX6 31 yX6_put := Or.inl tw_540
theorem tw_544 : (Jvm.Cond.methodLink "MouthHouse$Seating" (41 : Nat) ({ cls := "MouthHouse$Seating", name := "has", desc := "(I)Z" } : Jvm.MethodName)) ∈ lw_tbl := List.mem_of_getElem? (l := lw_tbl) (i := 717) (by decide +kernel)
theorem lk_X6_41 : am_lk RX6 41 yX6_has := Or.inl tw_544
theorem tw_548 : (Jvm.Cond.methodLinkNest "MouthHouse" (152 : Nat) ({ cls := "MouthHouse$Votes", name := "forgetKnown", desc := "()V" } : Jvm.MethodName) "MouthHouse") ∈ lw_tbl := List.mem_of_getElem? (l := lw_tbl) (i := 721) (by decide +kernel)
theorem lk_X11_152 : am_lk RX11 152 yX10_forgetKnown := Or.inr ⟨_, tw_548⟩
theorem tw_552 : (Jvm.Cond.methodLink "MouthHouse" (158 : Nat) ({ cls := "MouthHouse", name := "forgetAnswers", desc := "()V" } : Jvm.MethodName)) ∈ lw_tbl := List.mem_of_getElem? (l := lw_tbl) (i := 725) (by decide +kernel)
theorem lk_X11_158 : am_lk RX11 158 yX11_forgetAnswers := Or.inl tw_552
theorem tw_556 : (Jvm.Cond.methodLinkNest "MouthHouse" (161 : Nat) ({ cls := "MouthHouse$Best", name := "forget", desc := "()V" } : Jvm.MethodName) "MouthHouse") ∈ lw_tbl := List.mem_of_getElem? (l := lw_tbl) (i := 729) (by decide +kernel)
theorem lk_X11_161 : am_lk RX11 161 yX0_forget := Or.inr ⟨_, tw_556⟩
theorem tw_560 : (Jvm.Cond.methodLinkNest "MouthHouse" (164 : Nat) ({ cls := "MouthHouse$Changes", name := "forget", desc := "()V" } : Jvm.MethodName) "MouthHouse") ∈ lw_tbl := List.mem_of_getElem? (l := lw_tbl) (i := 733) (by decide +kernel)
theorem lk_X11_164 : am_lk RX11 164 yX1_forget := Or.inr ⟨_, tw_560⟩
theorem tw_564 : (Jvm.Cond.methodLinkNest "MouthHouse" (136 : Nat) ({ cls := "MouthHouse$MannersReader", name := "written", desc := "()LMouthHouse$Manners;" } : Jvm.MethodName) "MouthHouse") ∈ lw_tbl := List.mem_of_getElem? (l := lw_tbl) (i := 737) (by decide +kernel)
theorem lk_X11_136 : am_lk RX11 136 yX4_written := Or.inr ⟨_, tw_564⟩
theorem tw_570 : (Jvm.Cond.methodLinkNest "MouthHouse$MannersReader" (45 : Nat) ({ cls := "MouthHouse$Manners", name := "<init>", desc := "([II)V" } : Jvm.MethodName) "MouthHouse") ∈ lw_tbl := List.mem_of_getElem? (l := lw_tbl) (i := 743) (by decide +kernel)
theorem lk_X4_45 : am_lk RX4 45 yX3_init := Or.inr ⟨_, tw_570⟩
theorem tw_573 : (Jvm.Cond.methodLink "MouthHouse$Manners" (3 : Nat) ({ cls := "java/lang/Object", name := "<init>", desc := "()V" } : Jvm.MethodName)) ∈ lw_tbl := List.mem_of_getElem? (l := lw_tbl) (i := 746) (by decide +kernel)
theorem lo_X3_3 : Cond.methodLink RX3 3 objectInit ∈ lw_tbl := tw_573
theorem tw_574 : (Jvm.Cond.methodLink "MouthHouse$Manners" (9 : Nat) ({ cls := "java/lang/Math", name := "min", desc := "(II)I" } : Jvm.MethodName)) ∈ lw_tbl := List.mem_of_getElem? (l := lw_tbl) (i := 747) (by decide +kernel)
theorem lk_X3_9 : Cond.methodLink RX3 9 Lib.Math.min.name ∈ lw_tbl := tw_574
theorem tw_575 : (Jvm.Cond.methodLink "MouthHouse$Manners" (15 : Nat) ({ cls := "java/lang/Math", name := "max", desc := "(II)I" } : Jvm.MethodName)) ∈ lw_tbl := List.mem_of_getElem? (l := lw_tbl) (i := 748) (by decide +kernel)
theorem lk_X3_15 : Cond.methodLink RX3 15 Lib.Math.max.name ∈ lw_tbl := tw_575
theorem tw_576 : (Jvm.Cond.methodLink "MouthHouse$Manners" (24 : Nat) ({ cls := "java/lang/System", name := "arraycopy", desc := "(Ljava/lang/Object;ILjava/lang/Object;II)V" } : Jvm.MethodName)) ∈ lw_tbl := List.mem_of_getElem? (l := lw_tbl) (i := 749) (by decide +kernel)
theorem lc_X3_24 : Cond.methodLink RX3 24 arraycopyName ∈ lw_tbl := tw_576
theorem tw_587 : (Jvm.Cond.methodLink "MouthHouseLaw" (48 : Nat) ({ cls := "MouthHouse", name := "seat", desc := "(I)I" } : Jvm.MethodName)) ∈ lw_tbl := List.mem_of_getElem? (l := lw_tbl) (i := 760) (by decide +kernel)
theorem lk_L_48 : am_lk RL 48 yX11_seat := Or.inl tw_587
theorem tw_591 : (Jvm.Cond.methodLinkNest "MouthHouse" (184 : Nat) ({ cls := "MouthHouse$Seating", name := "memberOn", desc := "(I)I" } : Jvm.MethodName) "MouthHouse") ∈ lw_tbl := List.mem_of_getElem? (l := lw_tbl) (i := 764) (by decide +kernel)
theorem lk_X11_184 : am_lk RX11 184 yX6_memberOn := Or.inr ⟨_, tw_591⟩
theorem tw_595 : (Jvm.Cond.methodLink "MouthHouseLaw" (52 : Nat) ({ cls := "MouthHouse", name := "manners", desc := "(I)Z" } : Jvm.MethodName)) ∈ lw_tbl := List.mem_of_getElem? (l := lw_tbl) (i := 768) (by decide +kernel)
theorem lk_L_52 : am_lk RL 52 yX11_manners := Or.inl tw_595
theorem tw_599 : (Jvm.Cond.methodLinkNest "MouthHouse" (187 : Nat) ({ cls := "MouthHouse$Best", name := "hold", desc := "(LMouthHouse$Manners;)V" } : Jvm.MethodName) "MouthHouse") ∈ lw_tbl := List.mem_of_getElem? (l := lw_tbl) (i := 772) (by decide +kernel)
theorem lk_X11_187 : am_lk RX11 187 yX0_hold := Or.inr ⟨_, tw_599⟩
theorem tw_603 : (Jvm.Cond.methodLink "MouthHouse$Best" (50 : Nat) ({ cls := "MouthHouse$Best", name := "forget", desc := "()V" } : Jvm.MethodName)) ∈ lw_tbl := List.mem_of_getElem? (l := lw_tbl) (i := 776) (by decide +kernel)
theorem lk_X0_50 : am_lk RX0 50 yX0_forget := Or.inl tw_603
theorem tw_604 : (Jvm.Cond.methodLink "MouthHouseLaw" (56 : Nat) ({ cls := "MouthHouse", name := "set", desc := "(III)Z" } : Jvm.MethodName)) ∈ lw_tbl := List.mem_of_getElem? (l := lw_tbl) (i := 777) (by decide +kernel)
theorem lk_L_56 : am_lk RL 56 yX11_set := Or.inl tw_604
theorem tw_608 : (Jvm.Cond.methodLinkNest "MouthHouse" (165 : Nat) ({ cls := "MouthHouse$Members", name := "has", desc := "(I)Z" } : Jvm.MethodName) "MouthHouse") ∈ lw_tbl := List.mem_of_getElem? (l := lw_tbl) (i := 781) (by decide +kernel)
theorem lk_X11_165 : am_lk RX11 165 yX5_has := Or.inr ⟨_, tw_608⟩
theorem tw_609 : (Jvm.Cond.methodLinkNest "MouthHouse" (191 : Nat) ({ cls := "MouthHouse$Members", name := "mostOf", desc := "(I)I" } : Jvm.MethodName) "MouthHouse") ∈ lw_tbl := List.mem_of_getElem? (l := lw_tbl) (i := 782) (by decide +kernel)
theorem lk_X11_191 : am_lk RX11 191 yX5_mostOf := Or.inr ⟨_, tw_609⟩
theorem tw_610 : (Jvm.Cond.methodLinkNest "MouthHouse" (180 : Nat) ({ cls := "MouthHouse$Members", name := "fact", desc := "(II)I" } : Jvm.MethodName) "MouthHouse") ∈ lw_tbl := List.mem_of_getElem? (l := lw_tbl) (i := 783) (by decide +kernel)
theorem lk_X11_180 : am_lk RX11 180 yX5_fact := Or.inr ⟨_, tw_610⟩
theorem tw_611 : (Jvm.Cond.methodLinkNest "MouthHouse" (194 : Nat) ({ cls := "MouthHouse$Members", name := "tell", desc := "(III)V" } : Jvm.MethodName) "MouthHouse") ∈ lw_tbl := List.mem_of_getElem? (l := lw_tbl) (i := 784) (by decide +kernel)
theorem lk_X11_194 : am_lk RX11 194 yX5_tell := Or.inr ⟨_, tw_611⟩
theorem tw_612 : (Jvm.Cond.methodLink "MouthHouseLaw" (61 : Nat) ({ cls := "MouthHouse", name := "change", desc := "(II)Z" } : Jvm.MethodName)) ∈ lw_tbl := List.mem_of_getElem? (l := lw_tbl) (i := 785) (by decide +kernel)
theorem lk_L_61 : am_lk RL 61 yX11_change := Or.inl tw_612
theorem tw_616 : (Jvm.Cond.methodLinkNest "MouthHouse" (198 : Nat) ({ cls := "MouthHouse$Seating", name := "has", desc := "(I)Z" } : Jvm.MethodName) "MouthHouse") ∈ lw_tbl := List.mem_of_getElem? (l := lw_tbl) (i := 789) (by decide +kernel)
theorem lk_X11_198 : am_lk RX11 198 yX6_has := Or.inr ⟨_, tw_616⟩
theorem tw_617 : (Jvm.Cond.methodLinkNest "MouthHouse" (199 : Nat) ({ cls := "MouthHouse$Seating", name := "exchange", desc := "(II)V" } : Jvm.MethodName) "MouthHouse") ∈ lw_tbl := List.mem_of_getElem? (l := lw_tbl) (i := 790) (by decide +kernel)
theorem lk_X11_199 : am_lk RX11 199 yX6_exchange := Or.inr ⟨_, tw_617⟩
theorem tw_621 : (Jvm.Cond.methodLink "MouthHouse$Seating" (45 : Nat) ({ cls := "MouthHouse$Seating", name := "memberOn", desc := "(I)I" } : Jvm.MethodName)) ∈ lw_tbl := List.mem_of_getElem? (l := lw_tbl) (i := 794) (by decide +kernel)
theorem lk_X6_45 : am_lk RX6 45 yX6_memberOn := Or.inl tw_621
theorem tw_622 : (Jvm.Cond.methodLink "MouthHouseLaw" (66 : Nat) ({ cls := "MouthHouse", name := "sit", desc := "(I)Z" } : Jvm.MethodName)) ∈ lw_tbl := List.mem_of_getElem? (l := lw_tbl) (i := 795) (by decide +kernel)
theorem lk_L_66 : am_lk RL 66 yX11_sit := Or.inl tw_622
theorem tw_626 : (Jvm.Cond.methodLinkNest "MouthHouse" (203 : Nat) ({ cls := "MouthHouse$Seating", name := "isSeating", desc := "(I)Z" } : Jvm.MethodName) "MouthHouse") ∈ lw_tbl := List.mem_of_getElem? (l := lw_tbl) (i := 799) (by decide +kernel)
theorem lk_X11_203 : am_lk RX11 203 yX6_isSeating := Or.inr ⟨_, tw_626⟩
theorem tw_630 : (Jvm.Cond.methodLinkNest "MouthHouse" (206 : Nat) ({ cls := "MouthHouse$Seating", name := "take", desc := "(I)V" } : Jvm.MethodName) "MouthHouse") ∈ lw_tbl := List.mem_of_getElem? (l := lw_tbl) (i := 803) (by decide +kernel)
theorem lk_X11_206 : am_lk RX11 206 yX6_take := Or.inr ⟨_, tw_630⟩
theorem tw_634 : (Jvm.Cond.methodLink "MouthHouseLaw" (70 : Nat) ({ cls := "MouthHouse", name := "round", desc := "(III)J" } : Jvm.MethodName)) ∈ lw_tbl := List.mem_of_getElem? (l := lw_tbl) (i := 807) (by decide +kernel)
theorem lk_L_70 : am_lk RL 70 yX11_round := Or.inl tw_634
theorem tw_638 : (Jvm.Cond.methodLinkNest "MouthHouse" (209 : Nat) ({ cls := "MouthHouse$Members", name := "lives", desc := "(I)Z" } : Jvm.MethodName) "MouthHouse") ∈ lw_tbl := List.mem_of_getElem? (l := lw_tbl) (i := 811) (by decide +kernel)
theorem lk_X11_209 : am_lk RX11 209 yX5_lives := Or.inr ⟨_, tw_638⟩
theorem tw_643 : (Jvm.Cond.methodLinkNest "MouthHouse" (214 : Nat) ({ cls := "MouthHouse$Talk", name := "wordOf", desc := "(III)J" } : Jvm.MethodName) "MouthHouse") ∈ lw_tbl := List.mem_of_getElem? (l := lw_tbl) (i := 816) (by decide +kernel)
theorem lk_X11_214 : am_lk RX11 214 yX8_wordOf := Or.inr ⟨_, tw_643⟩
theorem tw_647 : (Jvm.Cond.methodLink "MouthHouse$Talk" (61 : Nat) ({ cls := "MouthHouse$Talk", name := "isHeard", desc := "(I)Z" } : Jvm.MethodName)) ∈ lw_tbl := List.mem_of_getElem? (l := lw_tbl) (i := 820) (by decide +kernel)
theorem lk_X8_61 : am_lk RX8 61 yX8_isHeard := Or.inl tw_647
theorem tw_651 : (Jvm.Cond.methodLink "MouthHouse$Talk" (50 : Nat) ({ cls := "MouthHouse$Talk", name := "mouthOf", desc := "(I)I" } : Jvm.MethodName)) ∈ lw_tbl := List.mem_of_getElem? (l := lw_tbl) (i := 824) (by decide +kernel)
theorem lk_X8_50 : am_lk RX8 50 yX8_mouthOf := Or.inl tw_651
theorem tw_655 : (Jvm.Cond.methodLinkNest "MouthHouse$Talk" (23 : Nat) ({ cls := "MouthHouse$Members", name := "lives", desc := "(I)Z" } : Jvm.MethodName) "MouthHouse") ∈ lw_tbl := List.mem_of_getElem? (l := lw_tbl) (i := 828) (by decide +kernel)
theorem lk_X8_23 : am_lk RX8 23 yX5_lives := Or.inr ⟨_, tw_655⟩
theorem tw_656 : (Jvm.Cond.methodLinkNest "MouthHouse$Talk" (29 : Nat) ({ cls := "MouthHouse$Seating", name := "seatOf", desc := "(I)I" } : Jvm.MethodName) "MouthHouse") ∈ lw_tbl := List.mem_of_getElem? (l := lw_tbl) (i := 829) (by decide +kernel)
theorem lk_X8_29 : am_lk RX8 29 yX6_seatOf := Or.inr ⟨_, tw_656⟩
theorem tw_660 : (Jvm.Cond.methodLinkNest "MouthHouse$Talk" (43 : Nat) ({ cls := "MouthHouse$Seating", name := "leftOf", desc := "(IZ)I" } : Jvm.MethodName) "MouthHouse") ∈ lw_tbl := List.mem_of_getElem? (l := lw_tbl) (i := 833) (by decide +kernel)
theorem lk_X8_43 : am_lk RX8 43 yX6_leftOf := Or.inr ⟨_, tw_660⟩
theorem tw_664 : (Jvm.Cond.methodLinkNest "MouthHouse$Talk" (47 : Nat) ({ cls := "MouthHouse$Seating", name := "memberOn", desc := "(I)I" } : Jvm.MethodName) "MouthHouse") ∈ lw_tbl := List.mem_of_getElem? (l := lw_tbl) (i := 837) (by decide +kernel)
theorem lk_X8_47 : am_lk RX8 47 yX6_memberOn := Or.inr ⟨_, tw_664⟩
theorem tw_665 : (Jvm.Cond.methodLinkNest "MouthHouse$Talk" (53 : Nat) ({ cls := "MouthHouse$Members", name := "swallows", desc := "(II)Z" } : Jvm.MethodName) "MouthHouse") ∈ lw_tbl := List.mem_of_getElem? (l := lw_tbl) (i := 838) (by decide +kernel)
theorem lk_X8_53 : am_lk RX8 53 yX5_swallows := Or.inr ⟨_, tw_665⟩
theorem tw_670 : (Jvm.Cond.methodLink "MouthHouse$Talk" (66 : Nat) ({ cls := "MouthHouse$Talk", name := "slipOf", desc := "(I)I" } : Jvm.MethodName)) ∈ lw_tbl := List.mem_of_getElem? (l := lw_tbl) (i := 843) (by decide +kernel)
theorem lk_X8_66 : am_lk RX8 66 yX8_slipOf := Or.inl tw_670
theorem tw_674 : (Jvm.Cond.methodLinkNest "MouthHouse$Talk" (57 : Nat) ({ cls := "MouthHouse$Members", name := "fact", desc := "(II)I" } : Jvm.MethodName) "MouthHouse") ∈ lw_tbl := List.mem_of_getElem? (l := lw_tbl) (i := 847) (by decide +kernel)
theorem lk_X8_57 : am_lk RX8 57 yX5_fact := Or.inr ⟨_, tw_674⟩
theorem tw_676 : (Jvm.Cond.methodLink "MouthHouseLaw" (75 : Nat) ({ cls := "MouthHouse", name := "tally", desc := "(I)I" } : Jvm.MethodName)) ∈ lw_tbl := List.mem_of_getElem? (l := lw_tbl) (i := 849) (by decide +kernel)
theorem lk_L_75 : am_lk RL 75 yX11_tally := Or.inl tw_676
theorem tw_680 : (Jvm.Cond.methodLinkNest "MouthHouse" (218 : Nat) ({ cls := "MouthHouse$Votes", name := "heard", desc := "()I" } : Jvm.MethodName) "MouthHouse") ∈ lw_tbl := List.mem_of_getElem? (l := lw_tbl) (i := 853) (by decide +kernel)
theorem lk_X11_218 : am_lk RX11 218 yX10_heard := Or.inr ⟨_, tw_680⟩
theorem tw_684 : (Jvm.Cond.methodLink "MouthHouse$Votes" (57 : Nat) ({ cls := "MouthHouse$Votes", name := "heardBits", desc := "()I" } : Jvm.MethodName)) ∈ lw_tbl := List.mem_of_getElem? (l := lw_tbl) (i := 857) (by decide +kernel)
theorem lk_X10_57 : am_lk RX10 57 yX10_heardBits := Or.inl tw_684
theorem tw_688 : (Jvm.Cond.methodLinkNest "MouthHouse$Votes" (49 : Nat) ({ cls := "MouthHouse$Talk", name := "isHeard", desc := "(I)Z" } : Jvm.MethodName) "MouthHouse") ∈ lw_tbl := List.mem_of_getElem? (l := lw_tbl) (i := 861) (by decide +kernel)
theorem lk_X10_49 : am_lk RX10 49 yX8_isHeard := Or.inr ⟨_, tw_688⟩
theorem tw_689 : (Jvm.Cond.methodLink "MouthHouse$Votes" (61 : Nat) ({ cls := "java/lang/Integer", name := "bitCount", desc := "(I)I" } : Jvm.MethodName)) ∈ lw_tbl := List.mem_of_getElem? (l := lw_tbl) (i := 862) (by decide +kernel)
theorem lk_X10_61 : am_lk RX10 61 yJ6_bitCount_0f7a4 := Or.inl tw_689
theorem tw_695 : (Jvm.Cond.methodLinkNest "MouthHouse" (221 : Nat) ({ cls := "MouthHouse$Votes", name := "plainYes", desc := "()I" } : Jvm.MethodName) "MouthHouse") ∈ lw_tbl := List.mem_of_getElem? (l := lw_tbl) (i := 868) (by decide +kernel)
theorem lk_X11_221 : am_lk RX11 221 yX10_plainYes := Or.inr ⟨_, tw_695⟩
theorem tw_699 : (Jvm.Cond.methodLink "MouthHouse$Votes" (67 : Nat) ({ cls := "MouthHouse$Votes", name := "yesBits", desc := "()I" } : Jvm.MethodName)) ∈ lw_tbl := List.mem_of_getElem? (l := lw_tbl) (i := 872) (by decide +kernel)
theorem lk_X10_67 : am_lk RX10 67 yX10_yesBits := Or.inl tw_699
theorem tw_703 : (Jvm.Cond.methodLinkNest "MouthHouse$Votes" (53 : Nat) ({ cls := "MouthHouse$Members", name := "fact", desc := "(II)I" } : Jvm.MethodName) "MouthHouse") ∈ lw_tbl := List.mem_of_getElem? (l := lw_tbl) (i := 876) (by decide +kernel)
theorem lk_X10_53 : am_lk RX10 53 yX5_fact := Or.inr ⟨_, tw_703⟩
theorem tw_704 : (Jvm.Cond.methodLink "MouthHouseLaw" (79 : Nat) ({ cls := "MouthHouse", name := "odds", desc := "(I)J" } : Jvm.MethodName)) ∈ lw_tbl := List.mem_of_getElem? (l := lw_tbl) (i := 877) (by decide +kernel)
theorem lk_L_79 : am_lk RL 79 yX11_odds := Or.inl tw_704
theorem tw_708 : (Jvm.Cond.methodLinkNest "MouthHouse" (224 : Nat) ({ cls := "MouthHouse$Votes", name := "partsOf", desc := "(I)J" } : Jvm.MethodName) "MouthHouse") ∈ lw_tbl := List.mem_of_getElem? (l := lw_tbl) (i := 881) (by decide +kernel)
theorem lk_X11_224 : am_lk RX11 224 yX10_partsOf := Or.inr ⟨_, tw_708⟩
theorem tw_712 : (Jvm.Cond.methodLink "MouthHouse$Votes" (80 : Nat) ({ cls := "MouthHouse$Votes", name := "spread", desc := "(I)I" } : Jvm.MethodName)) ∈ lw_tbl := List.mem_of_getElem? (l := lw_tbl) (i := 885) (by decide +kernel)
theorem lk_X10_80 : am_lk RX10 80 yX10_spread := Or.inl tw_712
theorem tw_716 : (Jvm.Cond.methodLinkNest "MouthHouse$Votes" (70 : Nat) ({ cls := "MouthHouse$Talk", name := "mouthOf", desc := "(I)I" } : Jvm.MethodName) "MouthHouse") ∈ lw_tbl := List.mem_of_getElem? (l := lw_tbl) (i := 889) (by decide +kernel)
theorem lk_X10_70 : am_lk RX10 70 yX8_mouthOf := Or.inr ⟨_, tw_716⟩
theorem tw_717 : (Jvm.Cond.methodLinkNest "MouthHouse$Votes" (73 : Nat) ({ cls := "MouthHouse$Talk", name := "slipOf", desc := "(I)I" } : Jvm.MethodName) "MouthHouse") ∈ lw_tbl := List.mem_of_getElem? (l := lw_tbl) (i := 890) (by decide +kernel)
theorem lk_X10_73 : am_lk RX10 73 yX8_slipOf := Or.inr ⟨_, tw_717⟩
theorem tw_718 : (Jvm.Cond.methodLink "MouthHouse$Votes" (76 : Nat) ({ cls := "MouthHouse$Votes", name := "hear", desc := "(I)V" } : Jvm.MethodName)) ∈ lw_tbl := List.mem_of_getElem? (l := lw_tbl) (i := 891) (by decide +kernel)
theorem lk_X10_76 : am_lk RX10 76 yX10_hear := Or.inl tw_718
theorem tw_722 : (Jvm.Cond.methodLink "MouthHouseLaw" (84 : Nat) ({ cls := "MouthHouse", name := "passed", desc := "()J" } : Jvm.MethodName)) ∈ lw_tbl := List.mem_of_getElem? (l := lw_tbl) (i := 895) (by decide +kernel)
theorem lk_L_84 : am_lk RL 84 yX11_passed := Or.inl tw_722
theorem tw_726 : (Jvm.Cond.methodLinkNest "MouthHouse" (228 : Nat) ({ cls := "MouthHouse$Votes", name := "passingParts", desc := "(I)J" } : Jvm.MethodName) "MouthHouse") ∈ lw_tbl := List.mem_of_getElem? (l := lw_tbl) (i := 899) (by decide +kernel)
theorem lk_X11_228 : am_lk RX11 228 yX10_passingParts := Or.inr ⟨_, tw_726⟩
theorem tw_730 : (Jvm.Cond.methodLink "MouthHouse$Votes" (83 : Nat) ({ cls := "MouthHouse$Votes", name := "passes", desc := "(II)Z" } : Jvm.MethodName)) ∈ lw_tbl := List.mem_of_getElem? (l := lw_tbl) (i := 903) (by decide +kernel)
theorem lk_X10_83 : am_lk RX10 83 yX10_passes := Or.inl tw_730
theorem tw_733 : (Jvm.Cond.methodLink "MouthHouseLaw" (89 : Nat) ({ cls := "MouthHouse", name := "turner", desc := "()I" } : Jvm.MethodName)) ∈ lw_tbl := List.mem_of_getElem? (l := lw_tbl) (i := 906) (by decide +kernel)
theorem lk_L_89 : am_lk RL 89 yX11_turner := Or.inl tw_733
theorem tw_737 : (Jvm.Cond.methodLinkNest "MouthHouse" (231 : Nat) ({ cls := "MouthHouse$Votes", name := "whoTurns", desc := "()I" } : Jvm.MethodName) "MouthHouse") ∈ lw_tbl := List.mem_of_getElem? (l := lw_tbl) (i := 910) (by decide +kernel)
theorem lk_X11_231 : am_lk RX11 231 yX10_whoTurns := Or.inr ⟨_, tw_737⟩
theorem tw_741 : (Jvm.Cond.methodLink "MouthHouse$Votes" (87 : Nat) ({ cls := "MouthHouse$Votes", name := "plainYes", desc := "()I" } : Jvm.MethodName)) ∈ lw_tbl := List.mem_of_getElem? (l := lw_tbl) (i := 914) (by decide +kernel)
theorem lk_X10_87 : am_lk RX10 87 yX10_plainYes := Or.inl tw_741
theorem tw_742 : (Jvm.Cond.methodLink "MouthHouse$Votes" (90 : Nat) ({ cls := "MouthHouse$Votes", name := "heard", desc := "()I" } : Jvm.MethodName)) ∈ lw_tbl := List.mem_of_getElem? (l := lw_tbl) (i := 915) (by decide +kernel)
theorem lk_X10_90 : am_lk RX10 90 yX10_heard := Or.inl tw_742
theorem tw_743 : (Jvm.Cond.methodLink "MouthHouse$Votes" (93 : Nat) ({ cls := "MouthHouse$Votes", name := "passingParts", desc := "(I)J" } : Jvm.MethodName)) ∈ lw_tbl := List.mem_of_getElem? (l := lw_tbl) (i := 916) (by decide +kernel)
theorem lk_X10_93 : am_lk RX10 93 yX10_passingParts := Or.inl tw_743
theorem tw_744 : (Jvm.Cond.methodLink "MouthHouseLaw" (93 : Nat) ({ cls := "MouthHouse", name := "bribe", desc := "(I)I" } : Jvm.MethodName)) ∈ lw_tbl := List.mem_of_getElem? (l := lw_tbl) (i := 917) (by decide +kernel)
theorem lk_L_93 : am_lk RL 93 yX11_bribe := Or.inl tw_744
theorem tw_748 : (Jvm.Cond.methodLinkNest "MouthHouse" (234 : Nat) ({ cls := "MouthHouse$Votes", name := "cheapest", desc := "()I" } : Jvm.MethodName) "MouthHouse") ∈ lw_tbl := List.mem_of_getElem? (l := lw_tbl) (i := 921) (by decide +kernel)
theorem lk_X11_234 : am_lk RX11 234 yX10_cheapest := Or.inr ⟨_, tw_748⟩
theorem tw_752 : (Jvm.Cond.methodLinkNest "MouthHouse$Votes" (97 : Nat) ({ cls := "MouthHouse$Members", name := "living", desc := "()I" } : Jvm.MethodName) "MouthHouse") ∈ lw_tbl := List.mem_of_getElem? (l := lw_tbl) (i := 925) (by decide +kernel)
theorem lk_X10_97 : am_lk RX10 97 yX5_living := Or.inr ⟨_, tw_752⟩
theorem tw_756 : (Jvm.Cond.methodLink "MouthHouse$Members" (47 : Nat) ({ cls := "MouthHouse$Members", name := "lives", desc := "(I)Z" } : Jvm.MethodName)) ∈ lw_tbl := List.mem_of_getElem? (l := lw_tbl) (i := 929) (by decide +kernel)
theorem lk_X5_47 : am_lk RX5 47 yX5_lives := Or.inl tw_756
theorem tw_757 : (Jvm.Cond.methodLink "MouthHouse$Votes" (100 : Nat) ({ cls := "MouthHouse$Votes", name := "costOf", desc := "(I)I" } : Jvm.MethodName)) ∈ lw_tbl := List.mem_of_getElem? (l := lw_tbl) (i := 930) (by decide +kernel)
theorem lk_X10_100 : am_lk RX10 100 yX10_costOf := Or.inl tw_757
theorem tw_761 : (Jvm.Cond.methodLinkNest "MouthHouse" (237 : Nat) ({ cls := "MouthHouse$Votes", name := "costOf", desc := "(I)I" } : Jvm.MethodName) "MouthHouse") ∈ lw_tbl := List.mem_of_getElem? (l := lw_tbl) (i := 934) (by decide +kernel)
theorem lk_X11_237 : am_lk RX11 237 yX10_costOf := Or.inr ⟨_, tw_761⟩
theorem tw_762 : (Jvm.Cond.methodLink "MouthHouseLaw" (97 : Nat) ({ cls := "MouthHouse", name := "yawn", desc := "(II)I" } : Jvm.MethodName)) ∈ lw_tbl := List.mem_of_getElem? (l := lw_tbl) (i := 935) (by decide +kernel)
theorem lk_L_97 : am_lk RL 97 yX11_yawn := Or.inl tw_762
theorem tw_766 : (Jvm.Cond.methodLinkNest "MouthHouse" (240 : Nat) ({ cls := "MouthHouse$Talk", name := "spreadYawn", desc := "(I)V" } : Jvm.MethodName) "MouthHouse") ∈ lw_tbl := List.mem_of_getElem? (l := lw_tbl) (i := 939) (by decide +kernel)
theorem lk_X11_240 : am_lk RX11 240 yX8_spreadYawn := Or.inr ⟨_, tw_766⟩
theorem tw_770 : (Jvm.Cond.methodLink "MouthHouse$Talk" (71 : Nat) ({ cls := "MouthHouse$Talk", name := "catchYawn", desc := "(II)V" } : Jvm.MethodName)) ∈ lw_tbl := List.mem_of_getElem? (l := lw_tbl) (i := 943) (by decide +kernel)
theorem lk_X8_71 : am_lk RX8 71 yX8_catchYawn := Or.inl tw_770
theorem tw_774 : (Jvm.Cond.methodLink "MouthHouse$Talk" (78 : Nat) ({ cls := "MouthHouse$Talk", name := "yawnedAt", desc := "(I)I" } : Jvm.MethodName)) ∈ lw_tbl := List.mem_of_getElem? (l := lw_tbl) (i := 947) (by decide +kernel)
theorem lk_X8_78 : am_lk RX8 78 yX8_yawnedAt := Or.inl tw_774
theorem tw_778 : (Jvm.Cond.methodLinkNest "MouthHouse$Talk" (81 : Nat) ({ cls := "MouthHouse$Members", name := "has", desc := "(I)Z" } : Jvm.MethodName) "MouthHouse") ∈ lw_tbl := List.mem_of_getElem? (l := lw_tbl) (i := 951) (by decide +kernel)
theorem lk_X8_81 : am_lk RX8 81 yX5_has := Or.inr ⟨_, tw_778⟩
theorem tw_779 : (Jvm.Cond.methodLinkNest "MouthHouse$Talk" (75 : Nat) ({ cls := "MouthHouse$Seating", name := "rightOf", desc := "(IZ)I" } : Jvm.MethodName) "MouthHouse") ∈ lw_tbl := List.mem_of_getElem? (l := lw_tbl) (i := 952) (by decide +kernel)
theorem lk_X8_75 : am_lk RX8 75 yX6_rightOf := Or.inr ⟨_, tw_779⟩
theorem tw_783 : (Jvm.Cond.methodLinkNest "MouthHouse" (243 : Nat) ({ cls := "MouthHouse$Talk", name := "yawnedAt", desc := "(I)I" } : Jvm.MethodName) "MouthHouse") ∈ lw_tbl := List.mem_of_getElem? (l := lw_tbl) (i := 956) (by decide +kernel)
theorem lk_X11_243 : am_lk RX11 243 yX8_yawnedAt := Or.inr ⟨_, tw_783⟩
theorem tw_784 : (Jvm.Cond.methodLink "MouthHouseLaw" (101 : Nat) ({ cls := "MouthHouse", name := "yawns", desc := "(II)I" } : Jvm.MethodName)) ∈ lw_tbl := List.mem_of_getElem? (l := lw_tbl) (i := 957) (by decide +kernel)
theorem lk_L_101 : am_lk RL 101 yX11_yawns := Or.inl tw_784
theorem tw_788 : (Jvm.Cond.methodLinkNest "MouthHouse" (246 : Nat) ({ cls := "MouthHouse$Talk", name := "lastYawn", desc := "()I" } : Jvm.MethodName) "MouthHouse") ∈ lw_tbl := List.mem_of_getElem? (l := lw_tbl) (i := 961) (by decide +kernel)
theorem lk_X11_246 : am_lk RX11 246 yX8_lastYawn := Or.inr ⟨_, tw_788⟩
theorem tw_792 : (Jvm.Cond.methodLink "MouthHouse$Talk" (84 : Nat) ({ cls := "java/lang/Math", name := "max", desc := "(II)I" } : Jvm.MethodName)) ∈ lw_tbl := List.mem_of_getElem? (l := lw_tbl) (i := 965) (by decide +kernel)
theorem lk_X8_84 : Cond.methodLink RX8 84 Lib.Math.max.name ∈ lw_tbl := tw_792
theorem tw_793 : (Jvm.Cond.methodLinkNest "MouthHouse" (249 : Nat) ({ cls := "MouthHouse$Talk", name := "sleepy", desc := "()I" } : Jvm.MethodName) "MouthHouse") ∈ lw_tbl := List.mem_of_getElem? (l := lw_tbl) (i := 966) (by decide +kernel)
theorem lk_X11_249 : am_lk RX11 249 yX8_sleepy := Or.inr ⟨_, tw_793⟩
theorem tw_797 : (Jvm.Cond.methodLink "MouthHouseLaw" (105 : Nat) ({ cls := "MouthHouse", name := "ill", desc := "()I" } : Jvm.MethodName)) ∈ lw_tbl := List.mem_of_getElem? (l := lw_tbl) (i := 970) (by decide +kernel)
theorem lk_L_105 : am_lk RL 105 yX11_ill := Or.inl tw_797
theorem tw_802 : (Jvm.Cond.methodLinkNest "MouthHouse" (253 : Nat) ({ cls := "MouthHouse$Best", name := "illOf", desc := "(LMouthHouse$Seating;)I" } : Jvm.MethodName) "MouthHouse") ∈ lw_tbl := List.mem_of_getElem? (l := lw_tbl) (i := 975) (by decide +kernel)
theorem lk_X11_253 : am_lk RX11 253 yX0_illOf := Or.inr ⟨_, tw_802⟩
theorem tw_806 : (Jvm.Cond.methodLinkNest "MouthHouse$Best" (63 : Nat) ({ cls := "MouthHouse$Seating", name := "leftOf", desc := "(IZ)I" } : Jvm.MethodName) "MouthHouse") ∈ lw_tbl := List.mem_of_getElem? (l := lw_tbl) (i := 979) (by decide +kernel)
theorem lk_X0_63 : am_lk RX0 63 yX6_leftOf := Or.inr ⟨_, tw_806⟩
theorem tw_807 : (Jvm.Cond.methodLinkNest "MouthHouse$Best" (69 : Nat) ({ cls := "MouthHouse$Seating", name := "memberOn", desc := "(I)I" } : Jvm.MethodName) "MouthHouse") ∈ lw_tbl := List.mem_of_getElem? (l := lw_tbl) (i := 980) (by decide +kernel)
theorem lk_X0_69 : am_lk RX0 69 yX6_memberOn := Or.inr ⟨_, tw_807⟩
theorem tw_808 : (Jvm.Cond.methodLink "MouthHouse$Best" (73 : Nat) ({ cls := "MouthHouse$Best", name := "worthOf", desc := "(III)I" } : Jvm.MethodName)) ∈ lw_tbl := List.mem_of_getElem? (l := lw_tbl) (i := 981) (by decide +kernel)
theorem lk_X0_73 : am_lk RX0 73 yX0_worthOf := Or.inl tw_808
theorem tw_812 : (Jvm.Cond.methodLinkNest "MouthHouse$Best" (77 : Nat) ({ cls := "MouthHouse$Members", name := "areEnemies", desc := "(II)Z" } : Jvm.MethodName) "MouthHouse") ∈ lw_tbl := List.mem_of_getElem? (l := lw_tbl) (i := 985) (by decide +kernel)
theorem lk_X0_77 : am_lk RX0 77 yX5_areEnemies := Or.inr ⟨_, tw_812⟩
theorem tw_816 : (Jvm.Cond.methodLinkNest "MouthHouse$Best" (81 : Nat) ({ cls := "MouthHouse$Members", name := "fact", desc := "(II)I" } : Jvm.MethodName) "MouthHouse") ∈ lw_tbl := List.mem_of_getElem? (l := lw_tbl) (i := 989) (by decide +kernel)
theorem lk_X0_81 : am_lk RX0 81 yX5_fact := Or.inr ⟨_, tw_816⟩
theorem tw_817 : (Jvm.Cond.methodLinkNest "MouthHouse$Best" (85 : Nat) ({ cls := "MouthHouse$Manners", name := "worthBy", desc := "([I)I" } : Jvm.MethodName) "MouthHouse") ∈ lw_tbl := List.mem_of_getElem? (l := lw_tbl) (i := 990) (by decide +kernel)
theorem lk_X0_85 : am_lk RX0 85 yX3_worthBy := Or.inr ⟨_, tw_817⟩
theorem tw_821 : (Jvm.Cond.methodLink "MouthHouse$Manners" (40 : Nat) ({ cls := "MouthHouse$Manners", name := "push", desc := "(I)V" } : Jvm.MethodName)) ∈ lw_tbl := List.mem_of_getElem? (l := lw_tbl) (i := 994) (by decide +kernel)
theorem lk_X3_40 : am_lk RX3 40 yX3_push := Or.inl tw_821
theorem tw_825 : (Jvm.Cond.methodLink "MouthHouse$Manners" (44 : Nat) ({ cls := "MouthHouse$Manners", name := "pop", desc := "()I" } : Jvm.MethodName)) ∈ lw_tbl := List.mem_of_getElem? (l := lw_tbl) (i := 998) (by decide +kernel)
theorem lk_X3_44 : am_lk RX3 44 yX3_pop := Or.inl tw_825
theorem tw_829 : (Jvm.Cond.methodLink "MouthHouse$Manners" (48 : Nat) ({ cls := "MouthHouse$Manners", name := "work", desc := "(I[I)V" } : Jvm.MethodName)) ∈ lw_tbl := List.mem_of_getElem? (l := lw_tbl) (i := 1002) (by decide +kernel)
theorem lk_X3_48 : am_lk RX3 48 yX3_work := Or.inl tw_829
theorem tw_833 : (Jvm.Cond.methodLink "MouthHouse$Manners" (52 : Nat) ({ cls := "MouthHouse$Manners", name := "letterOf", desc := "(I)I" } : Jvm.MethodName)) ∈ lw_tbl := List.mem_of_getElem? (l := lw_tbl) (i := 1006) (by decide +kernel)
theorem lk_X3_52 : am_lk RX3 52 yX3_letterOf := Or.inl tw_833
theorem tw_834 : (Jvm.Cond.methodLink "MouthHouse$Manners" (56 : Nat) ({ cls := "MouthHouse$Manners", name := "isTruthSign", desc := "(I)Z" } : Jvm.MethodName)) ∈ lw_tbl := List.mem_of_getElem? (l := lw_tbl) (i := 1007) (by decide +kernel)
theorem lk_X3_56 : am_lk RX3 56 yX3_isTruthSign := Or.inl tw_834
theorem tw_837 : (Jvm.Cond.methodLink "MouthHouse$Manners" (60 : Nat) ({ cls := "MouthHouse$Manners", name := "truth", desc := "(III)I" } : Jvm.MethodName)) ∈ lw_tbl := List.mem_of_getElem? (l := lw_tbl) (i := 1010) (by decide +kernel)
theorem lk_X3_60 : am_lk RX3 60 yX3_truth := Or.inl tw_837
theorem tw_840 : (Jvm.Cond.methodLink "MouthHouse$Manners" (64 : Nat) ({ cls := "MouthHouse$Manners", name := "bounded", desc := "(IJJ)I" } : Jvm.MethodName)) ∈ lw_tbl := List.mem_of_getElem? (l := lw_tbl) (i := 1013) (by decide +kernel)
theorem lk_X3_64 : am_lk RX3 64 yX3_bounded := Or.inl tw_840
theorem tw_847 : (Jvm.Cond.methodLink "MouthHouseLaw" (109 : Nat) ({ cls := "MouthHouse", name := "best", desc := "(II)I" } : Jvm.MethodName)) ∈ lw_tbl := List.mem_of_getElem? (l := lw_tbl) (i := 1020) (by decide +kernel)
theorem lk_L_109 : am_lk RL 109 yX11_best := Or.inl tw_847
theorem tw_851 : (Jvm.Cond.methodLinkNest "MouthHouse" (257 : Nat) ({ cls := "MouthHouse$Best", name := "search", desc := "(I)V" } : Jvm.MethodName) "MouthHouse") ∈ lw_tbl := List.mem_of_getElem? (l := lw_tbl) (i := 1024) (by decide +kernel)
theorem lk_X11_257 : am_lk RX11 257 yX0_search := Or.inr ⟨_, tw_851⟩
theorem tw_855 : (Jvm.Cond.methodLink "MouthHouse$Best" (90 : Nat) ({ cls := "MouthHouse$Best", name := "fillWorths", desc := "()V" } : Jvm.MethodName)) ∈ lw_tbl := List.mem_of_getElem? (l := lw_tbl) (i := 1028) (by decide +kernel)
theorem lk_X0_90 : am_lk RX0 90 yX0_fillWorths := Or.inl tw_855
theorem tw_859 : (Jvm.Cond.methodLink "MouthHouse$Best" (124 : Nat) ({ cls := "java/util/Arrays", name := "fill", desc := "([II)V" } : Jvm.MethodName)) ∈ lw_tbl := List.mem_of_getElem? (l := lw_tbl) (i := 1032) (by decide +kernel)
theorem lk_X0_124 : am_lk RX0 124 yJ7_fill_53178 := Or.inl tw_859
theorem tw_862 : (Jvm.Cond.methodLink "MouthHouse$Best" (130 : Nat) ({ cls := "MouthHouse$Best", name := "fillWorthsAt", desc := "(I)I" } : Jvm.MethodName)) ∈ lw_tbl := List.mem_of_getElem? (l := lw_tbl) (i := 1035) (by decide +kernel)
theorem lk_X0_130 : am_lk RX0 130 yX0_fillWorthsAt := Or.inl tw_862
theorem tw_866 : (Jvm.Cond.methodLink "MouthHouse$Best" (133 : Nat) ({ cls := "java/lang/Math", name := "min", desc := "(II)I" } : Jvm.MethodName)) ∈ lw_tbl := List.mem_of_getElem? (l := lw_tbl) (i := 1039) (by decide +kernel)
theorem lk_X0_133 : Cond.methodLink RX0 133 Lib.Math.min.name ∈ lw_tbl := tw_866
theorem tw_867 : (Jvm.Cond.methodLinkNest "MouthHouse$Best" (93 : Nat) ({ cls := "MouthHouse$Members", name := "living", desc := "()I" } : Jvm.MethodName) "MouthHouse") ∈ lw_tbl := List.mem_of_getElem? (l := lw_tbl) (i := 1040) (by decide +kernel)
theorem lk_X0_93 : am_lk RX0 93 yX5_living := Or.inr ⟨_, tw_867⟩
theorem tw_868 : (Jvm.Cond.methodLink "MouthHouse$Best" (97 : Nat) ({ cls := "java/lang/Integer", name := "bitCount", desc := "(I)I" } : Jvm.MethodName)) ∈ lw_tbl := List.mem_of_getElem? (l := lw_tbl) (i := 1041) (by decide +kernel)
theorem lk_X0_97 : am_lk RX0 97 yJ6_bitCount_0f7a4 := Or.inl tw_868
theorem tw_869 : (Jvm.Cond.methodLink "MouthHouse$Best" (105 : Nat) ({ cls := "MouthHouse$Best", name := "roundHope", desc := "()I" } : Jvm.MethodName)) ∈ lw_tbl := List.mem_of_getElem? (l := lw_tbl) (i := 1042) (by decide +kernel)
theorem lk_X0_105 : am_lk RX0 105 yX0_roundHope := Or.inl tw_869
theorem tw_873 : (Jvm.Cond.methodLinkNest "MouthHouse$Best" (145 : Nat) ({ cls := "MouthHouse$Members", name := "lives", desc := "(I)Z" } : Jvm.MethodName) "MouthHouse") ∈ lw_tbl := List.mem_of_getElem? (l := lw_tbl) (i := 1046) (by decide +kernel)
theorem lk_X0_145 : am_lk RX0 145 yX5_lives := Or.inr ⟨_, tw_873⟩
theorem tw_874 : (Jvm.Cond.methodLink "MouthHouse$Best" (167 : Nat) ({ cls := "MouthHouse$Best", name := "quickest", desc := "(I)I" } : Jvm.MethodName)) ∈ lw_tbl := List.mem_of_getElem? (l := lw_tbl) (i := 1047) (by decide +kernel)
theorem lk_X0_167 : am_lk RX0 167 yX0_quickest := Or.inl tw_874
theorem tw_878 : (Jvm.Cond.methodLink "MouthHouse$Best" (114 : Nat) ({ cls := "MouthHouse$Best", name := "place", desc := "(IIIII)V" } : Jvm.MethodName)) ∈ lw_tbl := List.mem_of_getElem? (l := lw_tbl) (i := 1051) (by decide +kernel)
theorem lk_X0_114 : am_lk RX0 114 yX0_place := Or.inl tw_878
theorem tw_882 : (Jvm.Cond.methodLink "MouthHouse$Best" (138 : Nat) ({ cls := "MouthHouse$Best", name := "lastGain", desc := "(III)I" } : Jvm.MethodName)) ∈ lw_tbl := List.mem_of_getElem? (l := lw_tbl) (i := 1055) (by decide +kernel)
theorem lk_X0_138 : am_lk RX0 138 yX0_lastGain := Or.inl tw_882
theorem tw_886 : (Jvm.Cond.methodLink "MouthHouse$Best" (159 : Nat) ({ cls := "MouthHouse$Best", name := "roundScore", desc := "(I)I" } : Jvm.MethodName)) ∈ lw_tbl := List.mem_of_getElem? (l := lw_tbl) (i := 1059) (by decide +kernel)
theorem lk_X0_159 : am_lk RX0 159 yX0_roundScore := Or.inl tw_886
theorem tw_890 : (Jvm.Cond.methodLinkNest "MouthHouse$Best" (162 : Nat) ({ cls := "MouthHouse$Members", name := "swallows", desc := "(II)Z" } : Jvm.MethodName) "MouthHouse") ∈ lw_tbl := List.mem_of_getElem? (l := lw_tbl) (i := 1063) (by decide +kernel)
theorem lk_X0_162 : am_lk RX0 162 yX5_swallows := Or.inr ⟨_, tw_890⟩
theorem tw_891 : (Jvm.Cond.methodLink "MouthHouse$Best" (156 : Nat) ({ cls := "MouthHouse$Best", name := "keptWorth", desc := "(III)I" } : Jvm.MethodName)) ∈ lw_tbl := List.mem_of_getElem? (l := lw_tbl) (i := 1064) (by decide +kernel)
theorem lk_X0_156 : am_lk RX0 156 yX0_keptWorth := Or.inl tw_891
theorem tw_895 : (Jvm.Cond.methodLink "MouthHouse$Best" (141 : Nat) ({ cls := "MouthHouse$Best", name := "judge", desc := "(I)V" } : Jvm.MethodName)) ∈ lw_tbl := List.mem_of_getElem? (l := lw_tbl) (i := 1068) (by decide +kernel)
theorem lk_X0_141 : am_lk RX0 141 yX0_judge := Or.inl tw_895
theorem tw_899 : (Jvm.Cond.methodLink "MouthHouse$Best" (149 : Nat) ({ cls := "MouthHouse$Best", name := "gain", desc := "(IIII)I" } : Jvm.MethodName)) ∈ lw_tbl := List.mem_of_getElem? (l := lw_tbl) (i := 1072) (by decide +kernel)
theorem lk_X0_149 : am_lk RX0 149 yX0_gain := Or.inl tw_899
theorem tw_903 : (Jvm.Cond.methodLink "MouthHouse$Best" (153 : Nat) ({ cls := "MouthHouse$Best", name := "hope", desc := "(IIII)I" } : Jvm.MethodName)) ∈ lw_tbl := List.mem_of_getElem? (l := lw_tbl) (i := 1076) (by decide +kernel)
theorem lk_X0_153 : am_lk RX0 153 yX0_hope := Or.inl tw_903
theorem tw_907 : (Jvm.Cond.methodLinkNest "MouthHouse" (260 : Nat) ({ cls := "MouthHouse$Best", name := "seatingFor", desc := "(I)I" } : Jvm.MethodName) "MouthHouse") ∈ lw_tbl := List.mem_of_getElem? (l := lw_tbl) (i := 1080) (by decide +kernel)
theorem lk_X11_260 : am_lk RX11 260 yX0_seatingFor := Or.inr ⟨_, tw_907⟩
theorem tw_912 : (Jvm.Cond.methodLinkNest "MouthHouse" (263 : Nat) ({ cls := "MouthHouse$Best", name := "muchFor", desc := "(I)I" } : Jvm.MethodName) "MouthHouse") ∈ lw_tbl := List.mem_of_getElem? (l := lw_tbl) (i := 1085) (by decide +kernel)
theorem lk_X11_263 : am_lk RX11 263 yX0_muchFor := Or.inr ⟨_, tw_912⟩
theorem tw_916 : (Jvm.Cond.methodLink "MouthHouseLaw" (113 : Nat) ({ cls := "MouthHouse", name := "changes", desc := "(I)I" } : Jvm.MethodName)) ∈ lw_tbl := List.mem_of_getElem? (l := lw_tbl) (i := 1089) (by decide +kernel)
theorem lk_L_113 : am_lk RL 113 yX11_changes := Or.inl tw_916
theorem tw_920 : (Jvm.Cond.methodLinkNest "MouthHouse" (266 : Nat) ({ cls := "MouthHouse$Changes", name := "search", desc := "()V" } : Jvm.MethodName) "MouthHouse") ∈ lw_tbl := List.mem_of_getElem? (l := lw_tbl) (i := 1093) (by decide +kernel)
theorem lk_X11_266 : am_lk RX11 266 yX1_search := Or.inr ⟨_, tw_920⟩
theorem tw_924 : (Jvm.Cond.methodLinkNest "MouthHouse$Changes" (56 : Nat) ({ cls := "MouthHouse$Members", name := "living", desc := "()I" } : Jvm.MethodName) "MouthHouse") ∈ lw_tbl := List.mem_of_getElem? (l := lw_tbl) (i := 1097) (by decide +kernel)
theorem lk_X1_56 : am_lk RX1 56 yX5_living := Or.inr ⟨_, tw_924⟩
theorem tw_925 : (Jvm.Cond.methodLink "MouthHouse$Changes" (62 : Nat) ({ cls := "MouthHouse$Changes", name := "canBeOrdered", desc := "(III)Z" } : Jvm.MethodName)) ∈ lw_tbl := List.mem_of_getElem? (l := lw_tbl) (i := 1098) (by decide +kernel)
theorem lk_X1_62 : am_lk RX1 62 yX1_canBeOrdered := Or.inl tw_925
theorem tw_929 : (Jvm.Cond.methodLinkNest "MouthHouse$Changes" (72 : Nat) ({ cls := "MouthHouse$Members", name := "swallows", desc := "(II)Z" } : Jvm.MethodName) "MouthHouse") ∈ lw_tbl := List.mem_of_getElem? (l := lw_tbl) (i := 1102) (by decide +kernel)
theorem lk_X1_72 : am_lk RX1 72 yX5_swallows := Or.inr ⟨_, tw_929⟩
theorem tw_930 : (Jvm.Cond.methodLink "MouthHouse$Changes" (66 : Nat) ({ cls := "MouthHouse$Changes", name := "goThrough", desc := "()V" } : Jvm.MethodName)) ∈ lw_tbl := List.mem_of_getElem? (l := lw_tbl) (i := 1103) (by decide +kernel)
theorem lk_X1_66 : am_lk RX1 66 yX1_goThrough := Or.inl tw_930
theorem tw_934 : (Jvm.Cond.methodLink "MouthHouse$Changes" (79 : Nat) ({ cls := "java/util/Arrays", name := "fill", desc := "([JJ)V" } : Jvm.MethodName)) ∈ lw_tbl := List.mem_of_getElem? (l := lw_tbl) (i := 1107) (by decide +kernel)
theorem lk_X1_79 : am_lk RX1 79 yJ7_fill_d0a16 := Or.inl tw_934
theorem tw_937 : (Jvm.Cond.methodLinkNest "MouthHouse$Changes" (85 : Nat) ({ cls := "MouthHouse$Seating", name := "copyFrom", desc := "(LMouthHouse$Seating;)V" } : Jvm.MethodName) "MouthHouse") ∈ lw_tbl := List.mem_of_getElem? (l := lw_tbl) (i := 1110) (by decide +kernel)
theorem lk_X1_85 : am_lk RX1 85 yX6_copyFrom := Or.inr ⟨_, tw_937⟩
theorem tw_941 : (Jvm.Cond.methodLink "MouthHouse$Seating" (35 : Nat) ({ cls := "java/lang/System", name := "arraycopy", desc := "(Ljava/lang/Object;ILjava/lang/Object;II)V" } : Jvm.MethodName)) ∈ lw_tbl := List.mem_of_getElem? (l := lw_tbl) (i := 1114) (by decide +kernel)
theorem lc_X6_35 : Cond.methodLink RX6 35 arraycopyName ∈ lw_tbl := tw_941
theorem tw_942 : (Jvm.Cond.methodLink "MouthHouse$Changes" (89 : Nat) ({ cls := "MouthHouse$Changes", name := "reach", desc := "()V" } : Jvm.MethodName)) ∈ lw_tbl := List.mem_of_getElem? (l := lw_tbl) (i := 1115) (by decide +kernel)
theorem lk_X1_89 : am_lk RX1 89 yX1_reach := Or.inl tw_942
theorem tw_946 : (Jvm.Cond.methodLink "MouthHouse$Changes" (120 : Nat) ({ cls := "MouthHouse$Changes", name := "rankOfTrial", desc := "()I" } : Jvm.MethodName)) ∈ lw_tbl := List.mem_of_getElem? (l := lw_tbl) (i := 1119) (by decide +kernel)
theorem lk_X1_120 : am_lk RX1 120 yX1_rankOfTrial := Or.inl tw_946
theorem tw_950 : (Jvm.Cond.methodLinkNest "MouthHouse$Changes" (126 : Nat) ({ cls := "MouthHouse$Seating", name := "memberOn", desc := "(I)I" } : Jvm.MethodName) "MouthHouse") ∈ lw_tbl := List.mem_of_getElem? (l := lw_tbl) (i := 1123) (by decide +kernel)
theorem lk_X1_126 : am_lk RX1 126 yX6_memberOn := Or.inr ⟨_, tw_950⟩
theorem tw_951 : (Jvm.Cond.methodLink "MouthHouse$Changes" (130 : Nat) ({ cls := "java/lang/Integer", name := "bitCount", desc := "(I)I" } : Jvm.MethodName)) ∈ lw_tbl := List.mem_of_getElem? (l := lw_tbl) (i := 1124) (by decide +kernel)
theorem lk_X1_130 : am_lk RX1 130 yJ6_bitCount_0f7a4 := Or.inl tw_951
theorem tw_952 : (Jvm.Cond.methodLinkNest "MouthHouse$Changes" (123 : Nat) ({ cls := "MouthHouse$Seating", name := "digits", desc := "()I" } : Jvm.MethodName) "MouthHouse") ∈ lw_tbl := List.mem_of_getElem? (l := lw_tbl) (i := 1125) (by decide +kernel)
theorem lk_X1_123 : am_lk RX1 123 yX6_digits := Or.inr ⟨_, tw_952⟩
theorem tw_956 : (Jvm.Cond.methodLink "MouthHouse$Changes" (92 : Nat) ({ cls := "MouthHouse$Changes", name := "leastGood", desc := "(II)I" } : Jvm.MethodName)) ∈ lw_tbl := List.mem_of_getElem? (l := lw_tbl) (i := 1129) (by decide +kernel)
theorem lk_X1_92 : am_lk RX1 92 yX1_leastGood := Or.inl tw_956
theorem tw_960 : (Jvm.Cond.methodLink "MouthHouse$Changes" (100 : Nat) ({ cls := "java/lang/Math", name := "max", desc := "(II)I" } : Jvm.MethodName)) ∈ lw_tbl := List.mem_of_getElem? (l := lw_tbl) (i := 1133) (by decide +kernel)
theorem lk_X1_100 : Cond.methodLink RX1 100 Lib.Math.max.name ∈ lw_tbl := tw_960
theorem tw_961 : (Jvm.Cond.methodLinkNest "MouthHouse$Changes" (105 : Nat) ({ cls := "MouthHouse$Seating", name := "take", desc := "(I)V" } : Jvm.MethodName) "MouthHouse") ∈ lw_tbl := List.mem_of_getElem? (l := lw_tbl) (i := 1134) (by decide +kernel)
theorem lk_X1_105 : am_lk RX1 105 yX6_take := Or.inr ⟨_, tw_961⟩
theorem tw_962 : (Jvm.Cond.methodLinkNest "MouthHouse$Changes" (108 : Nat) ({ cls := "MouthHouse$Talk", name := "isAllHeard", desc := "()Z" } : Jvm.MethodName) "MouthHouse") ∈ lw_tbl := List.mem_of_getElem? (l := lw_tbl) (i := 1135) (by decide +kernel)
theorem lk_X1_108 : am_lk RX1 108 yX8_isAllHeard := Or.inr ⟨_, tw_962⟩
theorem tw_966 : (Jvm.Cond.methodLink "MouthHouse$Changes" (96 : Nat) ({ cls := "MouthHouse$Changes", name := "exchangeAll", desc := "(I)V" } : Jvm.MethodName)) ∈ lw_tbl := List.mem_of_getElem? (l := lw_tbl) (i := 1139) (by decide +kernel)
theorem lk_X1_96 : am_lk RX1 96 yX1_exchangeAll := Or.inl tw_966
theorem tw_970 : (Jvm.Cond.methodLinkNest "MouthHouse$Changes" (112 : Nat) ({ cls := "MouthHouse$Seating", name := "rightOf", desc := "(IZ)I" } : Jvm.MethodName) "MouthHouse") ∈ lw_tbl := List.mem_of_getElem? (l := lw_tbl) (i := 1143) (by decide +kernel)
theorem lk_X1_112 : am_lk RX1 112 yX6_rightOf := Or.inr ⟨_, tw_970⟩
theorem tw_971 : (Jvm.Cond.methodLinkNest "MouthHouse$Changes" (116 : Nat) ({ cls := "MouthHouse$Seating", name := "exchange", desc := "(II)V" } : Jvm.MethodName) "MouthHouse") ∈ lw_tbl := List.mem_of_getElem? (l := lw_tbl) (i := 1144) (by decide +kernel)
theorem lk_X1_116 : am_lk RX1 116 yX6_exchange := Or.inr ⟨_, tw_971⟩
theorem tw_972 : (Jvm.Cond.methodLink "MouthHouseLaw" (117 : Nat) ({ cls := "MouthHouse", name := "know", desc := "(IZ)I" } : Jvm.MethodName)) ∈ lw_tbl := List.mem_of_getElem? (l := lw_tbl) (i := 1145) (by decide +kernel)
theorem lk_L_117 : am_lk RL 117 yX11_know := Or.inl tw_972
theorem tw_976 : (Jvm.Cond.methodLinkNest "MouthHouse" (274 : Nat) ({ cls := "MouthHouse$Votes", name := "learn", desc := "(IZ)I" } : Jvm.MethodName) "MouthHouse") ∈ lw_tbl := List.mem_of_getElem? (l := lw_tbl) (i := 1149) (by decide +kernel)
theorem lk_X11_274 : am_lk RX11 274 yX10_learn := Or.inr ⟨_, tw_976⟩
theorem tw_980 : (Jvm.Cond.methodLink "MouthHouseLaw" (122 : Nat) ({ cls := "MouthHouse", name := "fits", desc := "(I)I" } : Jvm.MethodName)) ∈ lw_tbl := List.mem_of_getElem? (l := lw_tbl) (i := 1153) (by decide +kernel)
theorem lk_L_122 : am_lk RL 122 yX11_fits := Or.inl tw_980
theorem tw_984 : (Jvm.Cond.methodLinkNest "MouthHouse" (278 : Nat) ({ cls := "MouthHouse$Votes", name := "fitting", desc := "()I" } : Jvm.MethodName) "MouthHouse") ∈ lw_tbl := List.mem_of_getElem? (l := lw_tbl) (i := 1157) (by decide +kernel)
theorem lk_X11_278 : am_lk RX11 278 yX10_fitting := Or.inr ⟨_, tw_984⟩
theorem tw_988 : (Jvm.Cond.methodLink "MouthHouse$Votes" (106 : Nat) ({ cls := "MouthHouse$Votes", name := "canFit", desc := "()Z" } : Jvm.MethodName)) ∈ lw_tbl := List.mem_of_getElem? (l := lw_tbl) (i := 1161) (by decide +kernel)
theorem lk_X10_106 : am_lk RX10 106 yX10_canFit := Or.inl tw_988
theorem tw_992 : (Jvm.Cond.methodLinkNest "MouthHouse$Votes" (103 : Nat) ({ cls := "MouthHouse$Talk", name := "speakerThrough", desc := "(I)I" } : Jvm.MethodName) "MouthHouse") ∈ lw_tbl := List.mem_of_getElem? (l := lw_tbl) (i := 1165) (by decide +kernel)
theorem lk_X10_103 : am_lk RX10 103 yX8_speakerThrough := Or.inr ⟨_, tw_992⟩
theorem tw_996 : (Jvm.Cond.methodLink "MouthHouse$Votes" (110 : Nat) ({ cls := "java/lang/Math", name := "max", desc := "(II)I" } : Jvm.MethodName)) ∈ lw_tbl := List.mem_of_getElem? (l := lw_tbl) (i := 1169) (by decide +kernel)
theorem lk_X10_110 : Cond.methodLink RX10 110 Lib.Math.max.name ∈ lw_tbl := tw_996
theorem tw_997 : (Jvm.Cond.methodLinkNest "MouthHouse" (281 : Nat) ({ cls := "MouthHouse$Votes", name := "fittingRow", desc := "(I)I" } : Jvm.MethodName) "MouthHouse") ∈ lw_tbl := List.mem_of_getElem? (l := lw_tbl) (i := 1170) (by decide +kernel)
theorem lk_X11_281 : am_lk RX11 281 yX10_fittingRow := Or.inr ⟨_, tw_997⟩
theorem tw_1001 : (Jvm.Cond.methodLink "MouthHouse$Votes" (115 : Nat) ({ cls := "MouthHouse$Votes", name := "isFit", desc := "(I)Z" } : Jvm.MethodName)) ∈ lw_tbl := List.mem_of_getElem? (l := lw_tbl) (i := 1174) (by decide +kernel)
theorem lk_X10_115 : am_lk RX10 115 yX10_isFit := Or.inl tw_1001
theorem tw_1005 : (Jvm.Cond.methodLink "MouthHouseLaw" (126 : Nat) ({ cls := "MouthHouse", name := "sure", desc := "(Z)I" } : Jvm.MethodName)) ∈ lw_tbl := List.mem_of_getElem? (l := lw_tbl) (i := 1178) (by decide +kernel)
theorem lk_L_126 : am_lk RL 126 yX11_sure := Or.inl tw_1005
theorem tw_1009 : (Jvm.Cond.methodLinkNest "MouthHouse" (284 : Nat) ({ cls := "MouthHouse$Votes", name := "certain", desc := "(Z)I" } : Jvm.MethodName) "MouthHouse") ∈ lw_tbl := List.mem_of_getElem? (l := lw_tbl) (i := 1182) (by decide +kernel)
theorem lk_X11_284 : am_lk RX11 284 yX10_certain := Or.inr ⟨_, tw_1009⟩
theorem tw_1013 : (Jvm.Cond.methodLink "MouthHouseLaw" (133 : Nat) ({ cls := "MouthHouse", name := "seed", desc := "(J)Z" } : Jvm.MethodName)) ∈ lw_tbl := List.mem_of_getElem? (l := lw_tbl) (i := 1186) (by decide +kernel)
theorem lk_L_133 : am_lk RL 133 yX11_seed := Or.inl tw_1013
theorem tw_1017 : (Jvm.Cond.methodLink "MouthHouseLaw" (138 : Nat) ({ cls := "MouthHouse", name := "sitting", desc := "()I" } : Jvm.MethodName)) ∈ lw_tbl := List.mem_of_getElem? (l := lw_tbl) (i := 1190) (by decide +kernel)
theorem lk_L_138 : am_lk RL 138 yX11_sitting := Or.inl tw_1017
theorem tw_1021 : (Jvm.Cond.methodLinkNest "MouthHouse" (292 : Nat) ({ cls := "MouthHouse$Sittings", name := "isFull", desc := "()Z" } : Jvm.MethodName) "MouthHouse") ∈ lw_tbl := List.mem_of_getElem? (l := lw_tbl) (i := 1194) (by decide +kernel)
theorem lk_X11_292 : am_lk RX11 292 yX7_isFull := Or.inr ⟨_, tw_1021⟩
theorem tw_1025 : (Jvm.Cond.methodLinkNest "MouthHouse" (177 : Nat) ({ cls := "MouthHouse$Talk", name := "isHeard", desc := "(I)Z" } : Jvm.MethodName) "MouthHouse") ∈ lw_tbl := List.mem_of_getElem? (l := lw_tbl) (i := 1198) (by decide +kernel)
theorem lk_X11_177 : am_lk RX11 177 yX8_isHeard := Or.inr ⟨_, tw_1025⟩
theorem tw_1026 : (Jvm.Cond.methodLinkNest "MouthHouse" (296 : Nat) ({ cls := "MouthHouse$Sittings", name := "draw", desc := "(I)I" } : Jvm.MethodName) "MouthHouse") ∈ lw_tbl := List.mem_of_getElem? (l := lw_tbl) (i := 1199) (by decide +kernel)
theorem lk_X11_296 : am_lk RX11 296 yX7_draw := Or.inr ⟨_, tw_1026⟩
theorem tw_1032 : (Jvm.Cond.methodLinkNest "MouthHouse" (174 : Nat) ({ cls := "MouthHouse$Talk", name := "mouthOf", desc := "(I)I" } : Jvm.MethodName) "MouthHouse") ∈ lw_tbl := List.mem_of_getElem? (l := lw_tbl) (i := 1205) (by decide +kernel)
theorem lk_X11_174 : am_lk RX11 174 yX8_mouthOf := Or.inr ⟨_, tw_1032⟩
theorem tw_1033 : (Jvm.Cond.methodLinkNest "MouthHouse" (299 : Nat) ({ cls := "MouthHouse$Talk", name := "slipOf", desc := "(I)I" } : Jvm.MethodName) "MouthHouse") ∈ lw_tbl := List.mem_of_getElem? (l := lw_tbl) (i := 1206) (by decide +kernel)
theorem lk_X11_299 : am_lk RX11 299 yX8_slipOf := Or.inr ⟨_, tw_1033⟩
theorem tw_1034 : (Jvm.Cond.methodLinkNest "MouthHouse" (302 : Nat) ({ cls := "MouthHouse$Votes", name := "passes", desc := "(II)Z" } : Jvm.MethodName) "MouthHouse") ∈ lw_tbl := List.mem_of_getElem? (l := lw_tbl) (i := 1207) (by decide +kernel)
theorem lk_X11_302 : am_lk RX11 302 yX10_passes := Or.inr ⟨_, tw_1034⟩
theorem tw_1035 : (Jvm.Cond.methodLinkNest "MouthHouse" (306 : Nat) ({ cls := "MouthHouse$Sittings", name := "putBy", desc := "(IZJ)V" } : Jvm.MethodName) "MouthHouse") ∈ lw_tbl := List.mem_of_getElem? (l := lw_tbl) (i := 1208) (by decide +kernel)
theorem lk_X11_306 : am_lk RX11 306 yX7_putBy := Or.inr ⟨_, tw_1035⟩
