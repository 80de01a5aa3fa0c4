section
-- ===== PART A: goes FIRST, ahead of the names: the tables' words, and 'selects' of the private methods out of them =====
/-- a private method of a class that the tables say can be made, by its rows of tables_1 -/
def lw_okq (q : MethodName × Nat) : Prop := (q.1.cls ≠ "java/lang/invoke/MethodHandle" ∧ q.1.cls ≠ "java/lang/invoke/VarHandle") ∧ Cond.instantiable q.1.cls q.2 ∈ tables_1 ∧ Cond.privateMethod q.1 ∈ tables_1 ∧ Cond.instanceMethod q.1 ∈ tables_1
theorem lw_p0 : lw_okq (⟨"RadioWeek", "isProgramme", "(I)Z"⟩, 5) := ⟨⟨by decide +kernel, by decide +kernel⟩, List.mem_of_getElem? (i := 23) (by decide +kernel), List.mem_of_getElem? (i := 338) (by decide +kernel), List.mem_of_getElem? (i := 339) (by decide +kernel)⟩
theorem lw_p1 : lw_okq (⟨"RadioWeek", "obstacle", "(II)I"⟩, 5) := ⟨⟨by decide +kernel, by decide +kernel⟩, List.mem_of_getElem? (i := 23) (by decide +kernel), List.mem_of_getElem? (i := 368) (by decide +kernel), List.mem_of_getElem? (i := 369) (by decide +kernel)⟩
theorem lw_p2 : lw_okq (⟨"RadioWeek", "rightsAllow", "(III)Z"⟩, 5) := ⟨⟨by decide +kernel, by decide +kernel⟩, List.mem_of_getElem? (i := 23) (by decide +kernel), List.mem_of_getElem? (i := 380) (by decide +kernel), List.mem_of_getElem? (i := 381) (by decide +kernel)⟩
theorem lw_p3 : lw_okq (⟨"RadioWeek", "gatherItemsOf", "(I)V"⟩, 5) := ⟨⟨by decide +kernel, by decide +kernel⟩, List.mem_of_getElem? (i := 23) (by decide +kernel), List.mem_of_getElem? (i := 384) (by decide +kernel), List.mem_of_getElem? (i := 385) (by decide +kernel)⟩
theorem lw_p4 : lw_okq (⟨"RadioWeek$Uses", "rightFor", "(ILRadioWeek$Rights;)I"⟩, 6) := ⟨⟨by decide +kernel, by decide +kernel⟩, List.mem_of_getElem? (i := 186) (by decide +kernel), List.mem_of_getElem? (i := 402) (by decide +kernel), List.mem_of_getElem? (i := 403) (by decide +kernel)⟩
theorem lw_p5 : lw_okq (⟨"RadioWeek", "putOnAir", "(IIZ)I"⟩, 5) := ⟨⟨by decide +kernel, by decide +kernel⟩, List.mem_of_getElem? (i := 23) (by decide +kernel), List.mem_of_getElem? (i := 414) (by decide +kernel), List.mem_of_getElem? (i := 415) (by decide +kernel)⟩
theorem lw_p6 : lw_okq (⟨"RadioWeek$Items", "move", "(II)V"⟩, 5) := ⟨⟨by decide +kernel, by decide +kernel⟩, List.mem_of_getElem? (i := 117) (by decide +kernel), List.mem_of_getElem? (i := 426) (by decide +kernel), List.mem_of_getElem? (i := 427) (by decide +kernel)⟩
theorem lw_p7 : lw_okq (⟨"RadioWeek", "isItem", "(I)Z"⟩, 5) := ⟨⟨by decide +kernel, by decide +kernel⟩, List.mem_of_getElem? (i := 23) (by decide +kernel), List.mem_of_getElem? (i := 434) (by decide +kernel), List.mem_of_getElem? (i := 435) (by decide +kernel)⟩
theorem lw_p8 : lw_okq (⟨"RadioWeek", "earliestStart", "(II)I"⟩, 5) := ⟨⟨by decide +kernel, by decide +kernel⟩, List.mem_of_getElem? (i := 23) (by decide +kernel), List.mem_of_getElem? (i := 446) (by decide +kernel), List.mem_of_getElem? (i := 447) (by decide +kernel)⟩
theorem lw_p9 : lw_okq (⟨"RadioWeek", "nextToTry", "(III)I"⟩, 5) := ⟨⟨by decide +kernel, by decide +kernel⟩, List.mem_of_getElem? (i := 23) (by decide +kernel), List.mem_of_getElem? (i := 453) (by decide +kernel), List.mem_of_getElem? (i := 454) (by decide +kernel)⟩
theorem lw_p10 : lw_okq (⟨"RadioWeek", "nextWindow", "(II)I"⟩, 5) := ⟨⟨by decide +kernel, by decide +kernel⟩, List.mem_of_getElem? (i := 23) (by decide +kernel), List.mem_of_getElem? (i := 457) (by decide +kernel), List.mem_of_getElem? (i := 458) (by decide +kernel)⟩
theorem lw_p11 : lw_okq (⟨"RadioWeek$Filling", "settle", "(LRadioWeek$Week;I)V"⟩, 8) := ⟨⟨by decide +kernel, by decide +kernel⟩, List.mem_of_getElem? (i := 213) (by decide +kernel), List.mem_of_getElem? (i := 477) (by decide +kernel), List.mem_of_getElem? (i := 478) (by decide +kernel)⟩
theorem lw_p12 : lw_okq (⟨"RadioWeek$Filling", "itemsWith", "(ILRadioWeek$Week;I)I"⟩, 8) := ⟨⟨by decide +kernel, by decide +kernel⟩, List.mem_of_getElem? (i := 213) (by decide +kernel), List.mem_of_getElem? (i := 481) (by decide +kernel), List.mem_of_getElem? (i := 482) (by decide +kernel)⟩
theorem lw_p13 : lw_okq (⟨"RadioWeek$Filling", "choose", "(LRadioWeek$Programmes;I)I"⟩, 8) := ⟨⟨by decide +kernel, by decide +kernel⟩, List.mem_of_getElem? (i := 213) (by decide +kernel), List.mem_of_getElem? (i := 490) (by decide +kernel), List.mem_of_getElem? (i := 491) (by decide +kernel)⟩
theorem lw_p14 : lw_okq (⟨"RadioWeek", "kindOf", "(I)I"⟩, 5) := ⟨⟨by decide +kernel, by decide +kernel⟩, List.mem_of_getElem? (i := 23) (by decide +kernel), List.mem_of_getElem? (i := 498) (by decide +kernel), List.mem_of_getElem? (i := 499) (by decide +kernel)⟩
theorem lw_p15 : lw_okq (⟨"RadioWeek", "makeRoomAfter", "(I)I"⟩, 5) := ⟨⟨by decide +kernel, by decide +kernel⟩, List.mem_of_getElem? (i := 23) (by decide +kernel), List.mem_of_getElem? (i := 502) (by decide +kernel), List.mem_of_getElem? (i := 503) (by decide +kernel)⟩
def lw_privs_1 : List (MethodName × Nat) := [(⟨"RadioWeek", "isProgramme", "(I)Z"⟩, 5), (⟨"RadioWeek", "obstacle", "(II)I"⟩, 5), (⟨"RadioWeek", "rightsAllow", "(III)Z"⟩, 5), (⟨"RadioWeek", "gatherItemsOf", "(I)V"⟩, 5), (⟨"RadioWeek$Uses", "rightFor", "(ILRadioWeek$Rights;)I"⟩, 6), (⟨"RadioWeek", "putOnAir", "(IIZ)I"⟩, 5), (⟨"RadioWeek$Items", "move", "(II)V"⟩, 5), (⟨"RadioWeek", "isItem", "(I)Z"⟩, 5), (⟨"RadioWeek", "earliestStart", "(II)I"⟩, 5), (⟨"RadioWeek", "nextToTry", "(III)I"⟩, 5), (⟨"RadioWeek", "nextWindow", "(II)I"⟩, 5), (⟨"RadioWeek$Filling", "settle", "(LRadioWeek$Week;I)V"⟩, 8), (⟨"RadioWeek$Filling", "itemsWith", "(ILRadioWeek$Week;I)I"⟩, 8), (⟨"RadioWeek$Filling", "choose", "(LRadioWeek$Programmes;I)I"⟩, 8), (⟨"RadioWeek", "kindOf", "(I)I"⟩, 5), (⟨"RadioWeek", "makeRoomAfter", "(I)I"⟩, 5)]
theorem lw_r1 : ∀ q ∈ lw_privs_1, lw_okq q := List.forall_mem_cons.mpr ⟨lw_p0, List.forall_mem_cons.mpr ⟨lw_p1, List.forall_mem_cons.mpr ⟨lw_p2, List.forall_mem_cons.mpr ⟨lw_p3, List.forall_mem_cons.mpr ⟨lw_p4, List.forall_mem_cons.mpr ⟨lw_p5, List.forall_mem_cons.mpr ⟨lw_p6, List.forall_mem_cons.mpr ⟨lw_p7, List.forall_mem_cons.mpr ⟨lw_p8, List.forall_mem_cons.mpr ⟨lw_p9, List.forall_mem_cons.mpr ⟨lw_p10, List.forall_mem_cons.mpr ⟨lw_p11, List.forall_mem_cons.mpr ⟨lw_p12, List.forall_mem_cons.mpr ⟨lw_p13, List.forall_mem_cons.mpr ⟨lw_p14, List.forall_mem_cons.mpr ⟨lw_p15, fun _ h => absurd h List.not_mem_nil⟩⟩⟩⟩⟩⟩⟩⟩⟩⟩⟩⟩⟩⟩⟩⟩
theorem lw_p16 : lw_okq (⟨"RadioWeek", "giveWay", "(II)Z"⟩, 5) := ⟨⟨by decide +kernel, by decide +kernel⟩, List.mem_of_getElem? (i := 23) (by decide +kernel), List.mem_of_getElem? (i := 506) (by decide +kernel), List.mem_of_getElem? (i := 507) (by decide +kernel)⟩
theorem lw_p17 : lw_okq (⟨"RadioWeek", "cut", "(II)Z"⟩, 5) := ⟨⟨by decide +kernel, by decide +kernel⟩, List.mem_of_getElem? (i := 23) (by decide +kernel), List.mem_of_getElem? (i := 510) (by decide +kernel), List.mem_of_getElem? (i := 511) (by decide +kernel)⟩
theorem lw_p18 : lw_okq (⟨"RadioWeek", "push", "(II)Z"⟩, 5) := ⟨⟨by decide +kernel, by decide +kernel⟩, List.mem_of_getElem? (i := 23) (by decide +kernel), List.mem_of_getElem? (i := 514) (by decide +kernel), List.mem_of_getElem? (i := 515) (by decide +kernel)⟩
theorem lw_p19 : lw_okq (⟨"RadioWeek", "drop", "(I)V"⟩, 5) := ⟨⟨by decide +kernel, by decide +kernel⟩, List.mem_of_getElem? (i := 23) (by decide +kernel), List.mem_of_getElem? (i := 518) (by decide +kernel), List.mem_of_getElem? (i := 519) (by decide +kernel)⟩
theorem lw_p20 : lw_okq (⟨"RadioWeek", "shareRights", "()V"⟩, 5) := ⟨⟨by decide +kernel, by decide +kernel⟩, List.mem_of_getElem? (i := 23) (by decide +kernel), List.mem_of_getElem? (i := 534) (by decide +kernel), List.mem_of_getElem? (i := 535) (by decide +kernel)⟩
theorem lw_p21 : lw_okq (⟨"RadioWeek", "programmesAhead", "(I)I"⟩, 5) := ⟨⟨by decide +kernel, by decide +kernel⟩, List.mem_of_getElem? (i := 23) (by decide +kernel), List.mem_of_getElem? (i := 572) (by decide +kernel), List.mem_of_getElem? (i := 573) (by decide +kernel)⟩
theorem lw_p22 : lw_okq (⟨"RadioWeek", "writeLine", "(I)V"⟩, 5) := ⟨⟨by decide +kernel, by decide +kernel⟩, List.mem_of_getElem? (i := 23) (by decide +kernel), List.mem_of_getElem? (i := 588) (by decide +kernel), List.mem_of_getElem? (i := 589) (by decide +kernel)⟩
theorem lw_p23 : lw_okq (⟨"RadioWeek", "writeTwoDigits", "(I)V"⟩, 5) := ⟨⟨by decide +kernel, by decide +kernel⟩, List.mem_of_getElem? (i := 23) (by decide +kernel), List.mem_of_getElem? (i := 735) (by decide +kernel), List.mem_of_getElem? (i := 736) (by decide +kernel)⟩
theorem lw_p24 : lw_okq (⟨"RadioWeekModel", "act", "()V"⟩, 12) := ⟨⟨by decide +kernel, by decide +kernel⟩, List.mem_of_getElem? (i := 812) (by decide +kernel), List.mem_of_getElem? (i := 862) (by decide +kernel), List.mem_of_getElem? (i := 863) (by decide +kernel)⟩
theorem lw_p25 : lw_okq (⟨"RadioWeekModel", "isProgramme", "(I)Z"⟩, 12) := ⟨⟨by decide +kernel, by decide +kernel⟩, List.mem_of_getElem? (i := 812) (by decide +kernel), List.mem_of_getElem? (i := 870) (by decide +kernel), List.mem_of_getElem? (i := 871) (by decide +kernel)⟩
theorem lw_p26 : lw_okq (⟨"RadioWeekModel", "fault", "(II)I"⟩, 12) := ⟨⟨by decide +kernel, by decide +kernel⟩, List.mem_of_getElem? (i := 812) (by decide +kernel), List.mem_of_getElem? (i := 882) (by decide +kernel), List.mem_of_getElem? (i := 883) (by decide +kernel)⟩
theorem lw_p27 : lw_okq (⟨"RadioWeekModel", "length", "(I)I"⟩, 12) := ⟨⟨by decide +kernel, by decide +kernel⟩, List.mem_of_getElem? (i := 812) (by decide +kernel), List.mem_of_getElem? (i := 886) (by decide +kernel), List.mem_of_getElem? (i := 887) (by decide +kernel)⟩
theorem lw_p28 : lw_okq (⟨"RadioWeekModel", "isTaken", "(II)Z"⟩, 12) := ⟨⟨by decide +kernel, by decide +kernel⟩, List.mem_of_getElem? (i := 812) (by decide +kernel), List.mem_of_getElem? (i := 890) (by decide +kernel), List.mem_of_getElem? (i := 891) (by decide +kernel)⟩
theorem lw_p29 : lw_okq (⟨"RadioWeekModel", "of", "(II)I"⟩, 12) := ⟨⟨by decide +kernel, by decide +kernel⟩, List.mem_of_getElem? (i := 812) (by decide +kernel), List.mem_of_getElem? (i := 894) (by decide +kernel), List.mem_of_getElem? (i := 895) (by decide +kernel)⟩
theorem lw_p30 : lw_okq (⟨"RadioWeekModel", "end", "(I)I"⟩, 12) := ⟨⟨by decide +kernel, by decide +kernel⟩, List.mem_of_getElem? (i := 812) (by decide +kernel), List.mem_of_getElem? (i := 898) (by decide +kernel), List.mem_of_getElem? (i := 899) (by decide +kernel)⟩
theorem lw_p31 : lw_okq (⟨"RadioWeekModel", "listsAll", "()V"⟩, 12) := ⟨⟨by decide +kernel, by decide +kernel⟩, List.mem_of_getElem? (i := 812) (by decide +kernel), List.mem_of_getElem? (i := 902) (by decide +kernel), List.mem_of_getElem? (i := 903) (by decide +kernel)⟩
def lw_privs_2 : List (MethodName × Nat) := [(⟨"RadioWeek", "giveWay", "(II)Z"⟩, 5), (⟨"RadioWeek", "cut", "(II)Z"⟩, 5), (⟨"RadioWeek", "push", "(II)Z"⟩, 5), (⟨"RadioWeek", "drop", "(I)V"⟩, 5), (⟨"RadioWeek", "shareRights", "()V"⟩, 5), (⟨"RadioWeek", "programmesAhead", "(I)I"⟩, 5), (⟨"RadioWeek", "writeLine", "(I)V"⟩, 5), (⟨"RadioWeek", "writeTwoDigits", "(I)V"⟩, 5), (⟨"RadioWeekModel", "act", "()V"⟩, 12), (⟨"RadioWeekModel", "isProgramme", "(I)Z"⟩, 12), (⟨"RadioWeekModel", "fault", "(II)I"⟩, 12), (⟨"RadioWeekModel", "length", "(I)I"⟩, 12), (⟨"RadioWeekModel", "isTaken", "(II)Z"⟩, 12), (⟨"RadioWeekModel", "of", "(II)I"⟩, 12), (⟨"RadioWeekModel", "end", "(I)I"⟩, 12), (⟨"RadioWeekModel", "listsAll", "()V"⟩, 12)]
theorem lw_r2 : ∀ q ∈ lw_privs_2, lw_okq q := List.forall_mem_cons.mpr ⟨lw_p16, List.forall_mem_cons.mpr ⟨lw_p17, List.forall_mem_cons.mpr ⟨lw_p18, List.forall_mem_cons.mpr ⟨lw_p19, List.forall_mem_cons.mpr ⟨lw_p20, List.forall_mem_cons.mpr ⟨lw_p21, List.forall_mem_cons.mpr ⟨lw_p22, List.forall_mem_cons.mpr ⟨lw_p23, List.forall_mem_cons.mpr ⟨lw_p24, List.forall_mem_cons.mpr ⟨lw_p25, List.forall_mem_cons.mpr ⟨lw_p26, List.forall_mem_cons.mpr ⟨lw_p27, List.forall_mem_cons.mpr ⟨lw_p28, List.forall_mem_cons.mpr ⟨lw_p29, List.forall_mem_cons.mpr ⟨lw_p30, List.forall_mem_cons.mpr ⟨lw_p31, fun _ h => absurd h List.not_mem_nil⟩⟩⟩⟩⟩⟩⟩⟩⟩⟩⟩⟩⟩⟩⟩⟩
theorem lw_p32 : lw_okq (⟨"RadioWeekModel", "lists", "(III)V"⟩, 12) := ⟨⟨by decide +kernel, by decide +kernel⟩, List.mem_of_getElem? (i := 812) (by decide +kernel), List.mem_of_getElem? (i := 906) (by decide +kernel), List.mem_of_getElem? (i := 907) (by decide +kernel)⟩
theorem lw_p33 : lw_okq (⟨"RadioWeekModel", "isBroken", "(I)Z"⟩, 12) := ⟨⟨by decide +kernel, by decide +kernel⟩, List.mem_of_getElem? (i := 812) (by decide +kernel), List.mem_of_getElem? (i := 910) (by decide +kernel), List.mem_of_getElem? (i := 911) (by decide +kernel)⟩
theorem lw_p34 : lw_okq (⟨"RadioWeekModel", "gives", "()V"⟩, 12) := ⟨⟨by decide +kernel, by decide +kernel⟩, List.mem_of_getElem? (i := 812) (by decide +kernel), List.mem_of_getElem? (i := 914) (by decide +kernel), List.mem_of_getElem? (i := 915) (by decide +kernel)⟩
theorem lw_p35 : lw_okq (⟨"RadioWeekModel", "kind", "(I)I"⟩, 12) := ⟨⟨by decide +kernel, by decide +kernel⟩, List.mem_of_getElem? (i := 812) (by decide +kernel), List.mem_of_getElem? (i := 918) (by decide +kernel), List.mem_of_getElem? (i := 919) (by decide +kernel)⟩
theorem lw_p36 : lw_okq (⟨"RadioWeekModel", "rightFor", "(III)I"⟩, 12) := ⟨⟨by decide +kernel, by decide +kernel⟩, List.mem_of_getElem? (i := 812) (by decide +kernel), List.mem_of_getElem? (i := 922) (by decide +kernel), List.mem_of_getElem? (i := 923) (by decide +kernel)⟩
theorem lw_p37 : lw_okq (⟨"RadioWeekModel", "isDark", "(III)Z"⟩, 12) := ⟨⟨by decide +kernel, by decide +kernel⟩, List.mem_of_getElem? (i := 812) (by decide +kernel), List.mem_of_getElem? (i := 926) (by decide +kernel), List.mem_of_getElem? (i := 927) (by decide +kernel)⟩
theorem lw_p38 : lw_okq (⟨"RadioWeekModel", "puts", "(IIII)I"⟩, 12) := ⟨⟨by decide +kernel, by decide +kernel⟩, List.mem_of_getElem? (i := 812) (by decide +kernel), List.mem_of_getElem? (i := 930) (by decide +kernel), List.mem_of_getElem? (i := 931) (by decide +kernel)⟩
theorem lw_p39 : lw_okq (⟨"RadioWeekModel", "isItem", "(I)Z"⟩, 12) := ⟨⟨by decide +kernel, by decide +kernel⟩, List.mem_of_getElem? (i := 812) (by decide +kernel), List.mem_of_getElem? (i := 938) (by decide +kernel), List.mem_of_getElem? (i := 939) (by decide +kernel)⟩
theorem lw_p40 : lw_okq (⟨"RadioWeekModel", "drops", "(I)V"⟩, 12) := ⟨⟨by decide +kernel, by decide +kernel⟩, List.mem_of_getElem? (i := 812) (by decide +kernel), List.mem_of_getElem? (i := 942) (by decide +kernel), List.mem_of_getElem? (i := 943) (by decide +kernel)⟩
theorem lw_p41 : lw_okq (⟨"RadioWeekModel", "firstFor", "(II)I"⟩, 12) := ⟨⟨by decide +kernel, by decide +kernel⟩, List.mem_of_getElem? (i := 812) (by decide +kernel), List.mem_of_getElem? (i := 950) (by decide +kernel), List.mem_of_getElem? (i := 951) (by decide +kernel)⟩
theorem lw_p42 : lw_okq (⟨"RadioWeekModel", "measures", "(III)V"⟩, 12) := ⟨⟨by decide +kernel, by decide +kernel⟩, List.mem_of_getElem? (i := 812) (by decide +kernel), List.mem_of_getElem? (i := 958) (by decide +kernel), List.mem_of_getElem? (i := 959) (by decide +kernel)⟩
theorem lw_p43 : lw_okq (⟨"RadioWeekModel", "mayFill", "(IIII)Z"⟩, 12) := ⟨⟨by decide +kernel, by decide +kernel⟩, List.mem_of_getElem? (i := 812) (by decide +kernel), List.mem_of_getElem? (i := 962) (by decide +kernel), List.mem_of_getElem? (i := 963) (by decide +kernel)⟩
theorem lw_p44 : lw_okq (⟨"RadioWeekModel", "treats", "(II)I"⟩, 12) := ⟨⟨by decide +kernel, by decide +kernel⟩, List.mem_of_getElem? (i := 812) (by decide +kernel), List.mem_of_getElem? (i := 970) (by decide +kernel), List.mem_of_getElem? (i := 971) (by decide +kernel)⟩
theorem lw_p45 : lw_okq (⟨"RadioWeekModel", "mayPush", "(II)Z"⟩, 12) := ⟨⟨by decide +kernel, by decide +kernel⟩, List.mem_of_getElem? (i := 812) (by decide +kernel), List.mem_of_getElem? (i := 974) (by decide +kernel), List.mem_of_getElem? (i := 975) (by decide +kernel)⟩
theorem lw_p46 : lw_okq (⟨"RadioWeekModel", "told", "(II)I"⟩, 12) := ⟨⟨by decide +kernel, by decide +kernel⟩, List.mem_of_getElem? (i := 812) (by decide +kernel), List.mem_of_getElem? (i := 990) (by decide +kernel), List.mem_of_getElem? (i := 991) (by decide +kernel)⟩
theorem lw_p47 : lw_okq (⟨"RadioWeekModel", "itemAt", "(I)I"⟩, 12) := ⟨⟨by decide +kernel, by decide +kernel⟩, List.mem_of_getElem? (i := 812) (by decide +kernel), List.mem_of_getElem? (i := 998) (by decide +kernel), List.mem_of_getElem? (i := 999) (by decide +kernel)⟩
def lw_privs_3 : List (MethodName × Nat) := [(⟨"RadioWeekModel", "lists", "(III)V"⟩, 12), (⟨"RadioWeekModel", "isBroken", "(I)Z"⟩, 12), (⟨"RadioWeekModel", "gives", "()V"⟩, 12), (⟨"RadioWeekModel", "kind", "(I)I"⟩, 12), (⟨"RadioWeekModel", "rightFor", "(III)I"⟩, 12), (⟨"RadioWeekModel", "isDark", "(III)Z"⟩, 12), (⟨"RadioWeekModel", "puts", "(IIII)I"⟩, 12), (⟨"RadioWeekModel", "isItem", "(I)Z"⟩, 12), (⟨"RadioWeekModel", "drops", "(I)V"⟩, 12), (⟨"RadioWeekModel", "firstFor", "(II)I"⟩, 12), (⟨"RadioWeekModel", "measures", "(III)V"⟩, 12), (⟨"RadioWeekModel", "mayFill", "(IIII)Z"⟩, 12), (⟨"RadioWeekModel", "treats", "(II)I"⟩, 12), (⟨"RadioWeekModel", "mayPush", "(II)Z"⟩, 12), (⟨"RadioWeekModel", "told", "(II)I"⟩, 12), (⟨"RadioWeekModel", "itemAt", "(I)I"⟩, 12)]
theorem lw_r3 : ∀ q ∈ lw_privs_3, lw_okq q := List.forall_mem_cons.mpr ⟨lw_p32, List.forall_mem_cons.mpr ⟨lw_p33, List.forall_mem_cons.mpr ⟨lw_p34, List.forall_mem_cons.mpr ⟨lw_p35, List.forall_mem_cons.mpr ⟨lw_p36, List.forall_mem_cons.mpr ⟨lw_p37, List.forall_mem_cons.mpr ⟨lw_p38, List.forall_mem_cons.mpr ⟨lw_p39, List.forall_mem_cons.mpr ⟨lw_p40, List.forall_mem_cons.mpr ⟨lw_p41, List.forall_mem_cons.mpr ⟨lw_p42, List.forall_mem_cons.mpr ⟨lw_p43, List.forall_mem_cons.mpr ⟨lw_p44, List.forall_mem_cons.mpr ⟨lw_p45, List.forall_mem_cons.mpr ⟨lw_p46, List.forall_mem_cons.mpr ⟨lw_p47, fun _ h => absurd h List.not_mem_nil⟩⟩⟩⟩⟩⟩⟩⟩⟩⟩⟩⟩⟩⟩⟩⟩
theorem lw_p48 : lw_okq (⟨"RadioWeekModel", "leftOf", "(I)I"⟩, 12) := ⟨⟨by decide +kernel, by decide +kernel⟩, List.mem_of_getElem? (i := 812) (by decide +kernel), List.mem_of_getElem? (i := 1006) (by decide +kernel), List.mem_of_getElem? (i := 1007) (by decide +kernel)⟩
theorem lw_p49 : lw_okq (⟨"RadioWeekModel", "airTime", "(I)I"⟩, 12) := ⟨⟨by decide +kernel, by decide +kernel⟩, List.mem_of_getElem? (i := 812) (by decide +kernel), List.mem_of_getElem? (i := 1033) (by decide +kernel), List.mem_of_getElem? (i := 1034) (by decide +kernel)⟩
theorem lw_p50 : lw_okq (⟨"RadioWeekModel", "signs", "(I)V"⟩, 12) := ⟨⟨by decide +kernel, by decide +kernel⟩, List.mem_of_getElem? (i := 812) (by decide +kernel), List.mem_of_getElem? (i := 1045) (by decide +kernel), List.mem_of_getElem? (i := 1046) (by decide +kernel)⟩
theorem lw_p51 : lw_okq (⟨"RadioWeekModel", "two", "(I)V"⟩, 12) := ⟨⟨by decide +kernel, by decide +kernel⟩, List.mem_of_getElem? (i := 812) (by decide +kernel), List.mem_of_getElem? (i := 1049) (by decide +kernel), List.mem_of_getElem? (i := 1050) (by decide +kernel)⟩
theorem lw_p52 : lw_okq (⟨"RadioWeekModel", "number", "(I)V"⟩, 12) := ⟨⟨by decide +kernel, by decide +kernel⟩, List.mem_of_getElem? (i := 812) (by decide +kernel), List.mem_of_getElem? (i := 1053) (by decide +kernel), List.mem_of_getElem? (i := 1054) (by decide +kernel)⟩
def lw_privs_4 : List (MethodName × Nat) := [(⟨"RadioWeekModel", "leftOf", "(I)I"⟩, 12), (⟨"RadioWeekModel", "airTime", "(I)I"⟩, 12), (⟨"RadioWeekModel", "signs", "(I)V"⟩, 12), (⟨"RadioWeekModel", "two", "(I)V"⟩, 12), (⟨"RadioWeekModel", "number", "(I)V"⟩, 12)]
theorem lw_r4 : ∀ q ∈ lw_privs_4, lw_okq q := List.forall_mem_cons.mpr ⟨lw_p48, List.forall_mem_cons.mpr ⟨lw_p49, List.forall_mem_cons.mpr ⟨lw_p50, List.forall_mem_cons.mpr ⟨lw_p51, List.forall_mem_cons.mpr ⟨lw_p52, fun _ h => absurd h List.not_mem_nil⟩⟩⟩⟩⟩
def lw_privs : List (MethodName × Nat) := lw_privs_1 ++ (lw_privs_2 ++ (lw_privs_3 ++ (lw_privs_4)))
def lw_tbl : List Cond := k2_sels lw_privs ++ tables_1
theorem lw_privs_ok : ∀ q ∈ lw_privs, lw_okq q := by
  show ∀ q ∈ lw_privs_1 ++ (lw_privs_2 ++ (lw_privs_3 ++ (lw_privs_4))), lw_okq q
  exact List.forall_mem_append.mpr ⟨lw_r1, List.forall_mem_append.mpr ⟨lw_r2, List.forall_mem_append.mpr ⟨lw_r3, lw_r4⟩⟩⟩
-- ===== names: classes, fields, methods, decode rows (out of claim/NAMES.whole.lean.txt, which a program printed of the classes) =====
def RX0 : String := "RadioWeek$Blackouts"
def TX0 : u_T := fun k => match k with
  | 0 => ("RadioWeek$Blackouts", "count", "I", false)
  | 1 => ("RadioWeek$Blackouts", "from", "[I", true)
  | 2 => ("RadioWeek$Blackouts", "to", "[I", true)
  | _ => ("RadioWeek$Blackouts", "rating", "[I", true)
def tyX0 : Nat → FieldType := fun k => match k with
  | 0 => .int
  | 1 => .array .int
  | 2 => .array .int
  | _ => .array .int
abbrev wsX00 : List Cond := u_ws RX0 TX0 4
theorem nmX0 : ∀ a, a < 4 → ∀ b, b < 4 → a ≠ b → (TX0 a).2.1 ≠ (TX0 b).2.1 := by decide +kernel
theorem tyX0_ok : ∀ k, k < 4 → parseFieldDescriptor (TX0 k).2.2.1 = some (tyX0 k) := by decide +kernel
def RX1 : String := "RadioWeek$Filling"
def TX1 : u_T := fun k => match k with
  | 0 => ("RadioWeek$Filling", "chosen", "[I", true)
  | 1 => ("RadioWeek$Filling", "from", "I", false)
  | 2 => ("RadioWeek$Filling", "length", "I", false)
  | 3 => ("RadioWeek$Filling", "fillerAfter", "I", false)
  | 4 => ("RadioWeek$Filling", "best", "[I", true)
  | 5 => ("RadioWeek$Filling", "fewest", "[I", true)
  | 6 => ("RadioWeek$Filling", "second", "[I", true)
  | _ => ("RadioWeek$Filling", "fewestOfSecond", "[I", true)
def tyX1 : Nat → FieldType := fun k => match k with
  | 0 => .array .int
  | 1 => .int
  | 2 => .int
  | 3 => .int
  | 4 => .array .int
  | 5 => .array .int
  | 6 => .array .int
  | _ => .array .int
abbrev wsX10 : List Cond := u_ws RX1 TX1 8
theorem nmX1 : ∀ a, a < 8 → ∀ b, b < 8 → a ≠ b → (TX1 a).2.1 ≠ (TX1 b).2.1 := by decide +kernel
theorem tyX1_ok : ∀ k, k < 8 → parseFieldDescriptor (TX1 k).2.2.1 = some (tyX1 k) := by decide +kernel
def RX2 : String := "RadioWeek$History"
def TX2 : u_T := fun k => match k with
  | 0 => ("RadioWeek$History", "count", "I", false)
  | 1 => ("RadioWeek$History", "oldest", "I", false)
  | _ => ("RadioWeek$History", "states", "[LRadioWeek$Week;", true)
def tyX2 : Nat → FieldType := fun k => match k with
  | 0 => .int
  | 1 => .int
  | _ => .array (.object "RadioWeek$Week")
abbrev wsX20 : List Cond := u_ws RX2 TX2 3
theorem nmX2 : ∀ a, a < 3 → ∀ b, b < 3 → a ≠ b → (TX2 a).2.1 ≠ (TX2 b).2.1 := by decide +kernel
theorem tyX2_ok : ∀ k, k < 3 → parseFieldDescriptor (TX2 k).2.2.1 = some (tyX2 k) := by decide +kernel
def RX3 : String := "RadioWeek$Items"
def TX3 : u_T := fun k => match k with
  | 0 => ("RadioWeek$Items", "count", "I", false)
  | 1 => ("RadioWeek$Items", "programme", "[I", true)
  | 2 => ("RadioWeek$Items", "start", "[I", true)
  | 3 => ("RadioWeek$Items", "length", "[I", true)
  | _ => ("RadioWeek$Items", "fixed", "[I", true)
def tyX3 : Nat → FieldType := fun k => match k with
  | 0 => .int
  | 1 => .array .int
  | 2 => .array .int
  | 3 => .array .int
  | _ => .array .int
abbrev wsX30 : List Cond := u_ws RX3 TX3 5
theorem nmX3 : ∀ a, a < 5 → ∀ b, b < 5 → a ≠ b → (TX3 a).2.1 ≠ (TX3 b).2.1 := by decide +kernel
theorem tyX3_ok : ∀ k, k < 5 → parseFieldDescriptor (TX3 k).2.2.1 = some (tyX3 k) := by decide +kernel
def RX4 : String := "RadioWeek$Programmes"
def TX4 : u_T := fun k => match k with
  | 0 => ("RadioWeek$Programmes", "count", "I", false)
  | 1 => ("RadioWeek$Programmes", "kind", "[I", true)
  | 2 => ("RadioWeek$Programmes", "length", "[I", true)
  | 3 => ("RadioWeek$Programmes", "rating", "[I", true)
  | _ => ("RadioWeek$Programmes", "playsOwed", "[I", true)
def tyX4 : Nat → FieldType := fun k => match k with
  | 0 => .int
  | 1 => .array .int
  | 2 => .array .int
  | 3 => .array .int
  | _ => .array .int
abbrev wsX40 : List Cond := u_ws RX4 TX4 5
theorem nmX4 : ∀ a, a < 5 → ∀ b, b < 5 → a ≠ b → (TX4 a).2.1 ≠ (TX4 b).2.1 := by decide +kernel
theorem tyX4_ok : ∀ k, k < 5 → parseFieldDescriptor (TX4 k).2.2.1 = some (tyX4 k) := by decide +kernel
def RX5 : String := "RadioWeek$Rights"
def TX5 : u_T := fun k => match k with
  | 0 => ("RadioWeek$Rights", "count", "I", false)
  | 1 => ("RadioWeek$Rights", "programme", "[I", true)
  | 2 => ("RadioWeek$Rights", "from", "[I", true)
  | 3 => ("RadioWeek$Rights", "to", "[I", true)
  | _ => ("RadioWeek$Rights", "plays", "[I", true)
def tyX5 : Nat → FieldType := fun k => match k with
  | 0 => .int
  | 1 => .array .int
  | 2 => .array .int
  | 3 => .array .int
  | _ => .array .int
abbrev wsX50 : List Cond := u_ws RX5 TX5 5
theorem nmX5 : ∀ a, a < 5 → ∀ b, b < 5 → a ≠ b → (TX5 a).2.1 ≠ (TX5 b).2.1 := by decide +kernel
theorem tyX5_ok : ∀ k, k < 5 → parseFieldDescriptor (TX5 k).2.2.1 = some (tyX5 k) := by decide +kernel
def RX6 : String := "RadioWeek$Uses"
def TX6 : u_T := fun k => match k with
  | 0 => ("RadioWeek$Uses", "count", "I", false)
  | 1 => ("RadioWeek$Uses", "programme", "[I", true)
  | 2 => ("RadioWeek$Uses", "start", "[I", true)
  | 3 => ("RadioWeek$Uses", "end", "[I", true)
  | 4 => ("RadioWeek$Uses", "right", "[I", true)
  | _ => ("RadioWeek$Uses", "playsLeft", "[I", true)
def tyX6 : Nat → FieldType := fun k => match k with
  | 0 => .int
  | 1 => .array .int
  | 2 => .array .int
  | 3 => .array .int
  | 4 => .array .int
  | _ => .array .int
abbrev wsX60 : List Cond := u_ws RX6 TX6 6
theorem nmX6 : ∀ a, a < 6 → ∀ b, b < 6 → a ≠ b → (TX6 a).2.1 ≠ (TX6 b).2.1 := by decide +kernel
theorem tyX6_ok : ∀ k, k < 6 → parseFieldDescriptor (TX6 k).2.2.1 = some (tyX6 k) := by decide +kernel
def RX7 : String := "RadioWeek$Week"
def TX7 : u_T := fun k => match k with
  | 0 => ("RadioWeek$Week", "programmes", "LRadioWeek$Programmes;", true)
  | 1 => ("RadioWeek$Week", "rights", "LRadioWeek$Rights;", true)
  | 2 => ("RadioWeek$Week", "blackouts", "LRadioWeek$Blackouts;", true)
  | _ => ("RadioWeek$Week", "items", "LRadioWeek$Items;", true)
def tyX7 : Nat → FieldType := fun k => match k with
  | 0 => .object "RadioWeek$Programmes"
  | 1 => .object "RadioWeek$Rights"
  | 2 => .object "RadioWeek$Blackouts"
  | _ => .object "RadioWeek$Items"
abbrev wsX70 : List Cond := u_ws RX7 TX7 4
theorem nmX7 : ∀ a, a < 4 → ∀ b, b < 4 → a ≠ b → (TX7 a).2.1 ≠ (TX7 b).2.1 := by decide +kernel
theorem tyX7_ok : ∀ k, k < 4 → parseFieldDescriptor (TX7 k).2.2.1 = some (tyX7 k) := by decide +kernel
def RX8 : String := "RadioWeek"
def TX8 : u_T := fun k => match k with
  | 0 => ("RadioWeek", "now", "LRadioWeek$Week;", true)
  | 1 => ("RadioWeek", "history", "LRadioWeek$History;", true)
  | 2 => ("RadioWeek", "uses", "LRadioWeek$Uses;", true)
  | 3 => ("RadioWeek", "filling", "LRadioWeek$Filling;", true)
  | _ => ("RadioWeek", "text", "Ljava/lang/StringBuilder;", true)
def tyX8 : Nat → FieldType := fun k => match k with
  | 0 => .object "RadioWeek$Week"
  | 1 => .object "RadioWeek$History"
  | 2 => .object "RadioWeek$Uses"
  | 3 => .object "RadioWeek$Filling"
  | _ => .object "java/lang/StringBuilder"
abbrev wsX80 : List Cond := u_ws RX8 TX8 5
theorem nmX8 : ∀ a, a < 5 → ∀ b, b < 5 → a ≠ b → (TX8 a).2.1 ≠ (TX8 b).2.1 := by decide +kernel
theorem tyX8_ok : ∀ k, k < 5 → parseFieldDescriptor (TX8 k).2.2.1 = some (tyX8 k) := by decide +kernel
def RX9 : String := "RadioWeekModel"
def TX9 : u_T := fun k => match k with
  | 0 => ("RadioWeekModel", "v", "[I", true)
  | 1 => ("RadioWeekModel", "past", "[I", true)
  | 2 => ("RadioWeekModel", "pastMany", "I", false)
  | 3 => ("RadioWeekModel", "listed", "[I", true)
  | 4 => ("RadioWeekModel", "starts", "[I", true)
  | 5 => ("RadioWeekModel", "lengths", "[I", true)
  | 6 => ("RadioWeekModel", "uses", "[I", true)
  | 7 => ("RadioWeekModel", "left", "[I", true)
  | 8 => ("RadioWeekModel", "listMany", "I", false)
  | 9 => ("RadioWeekModel", "fewest", "[I", true)
  | 10 => ("RadioWeekModel", "signs", "[I", true)
  | _ => ("RadioWeekModel", "signMany", "I", false)
def tyX9 : Nat → FieldType := fun k => match k with
  | 0 => .array .int
  | 1 => .array .int
  | 2 => .int
  | 3 => .array .int
  | 4 => .array .int
  | 5 => .array .int
  | 6 => .array .int
  | 7 => .array .int
  | 8 => .int
  | 9 => .array .int
  | 10 => .array .int
  | _ => .int
abbrev wsX90 : List Cond := u_ws RX9 TX9 12
theorem nmX9 : ∀ a, a < 12 → ∀ b, b < 12 → a ≠ b → (TX9 a).2.1 ≠ (TX9 b).2.1 := by decide +kernel
theorem tyX9_ok : ∀ k, k < 12 → parseFieldDescriptor (TX9 k).2.2.1 = some (tyX9 k) := by decide +kernel
def RJ5 : String := "java/lang/AbstractStringBuilder"
def RJ6 : String := "java/lang/Integer"
def RJ9 : String := "java/lang/Math"
def RJ0 : String := "java/lang/String"
def RJ4 : String := "java/lang/StringBuilder"
def TJ4 : u_T := fun k => match k with
  | 0 => ("java/lang/AbstractStringBuilder", "value", "[B", false)
  | 1 => ("java/lang/AbstractStringBuilder", "coder", "B", false)
  | 2 => ("java/lang/AbstractStringBuilder", "maybeLatin1", "Z", false)
  | _ => ("java/lang/AbstractStringBuilder", "count", "I", false)
def tyJ4 : Nat → FieldType := fun k => match k with
  | 0 => .array .byte
  | 1 => .byte
  | 2 => .boolean
  | _ => .int
abbrev wsJ40 : List Cond := u_ws RJ4 TJ4 4
theorem nmJ4 : ∀ a, a < 4 → ∀ b, b < 4 → a ≠ b → (TJ4 a).2.1 ≠ (TJ4 b).2.1 := by decide +kernel
theorem tyJ4_ok : ∀ k, k < 4 → parseFieldDescriptor (TJ4 k).2.2.1 = some (tyJ4 k) := by decide +kernel
def RJ1 : String := "java/lang/StringLatin1"
def RJ2 : String := "java/lang/StringUTF16"
def RJ10 : String := "java/lang/System"
def RJ7 : String := "java/util/Arrays"
def RJ8 : String := "jdk/internal/util/ArraysSupport"
def RJ3 : String := "jdk/internal/util/Preconditions"
def RL : String := "RadioWeekLaw"
abbrev cX0_init : ByteArray := prog_2_method_1_code
def yX0_init : MethodName := ⟨RX0, "<init>", "()V"⟩
abbrev cX0_append : ByteArray := prog_2_method_2_code
def yX0_append : MethodName := ⟨RX0, "append", "(III)I"⟩
abbrev cX0_darkUntil : ByteArray := prog_2_method_3_code
def yX0_darkUntil : MethodName := ⟨RX0, "darkUntil", "(III)I"⟩
abbrev cX0_copyFrom : ByteArray := prog_2_method_4_code
def yX0_copyFrom : MethodName := ⟨RX0, "copyFrom", "(LRadioWeek$Blackouts;)V"⟩
abbrev cX1_init : ByteArray := prog_3_method_1_code
def yX1_init : MethodName := ⟨RX1, "<init>", "()V"⟩
abbrev cX1_find : ByteArray := prog_3_method_2_code
def yX1_find : MethodName := ⟨RX1, "find", "(LRadioWeek$Week;II)I"⟩
abbrev cX1_fillerOf : ByteArray := prog_3_method_3_code
def yX1_fillerOf : MethodName := ⟨RX1, "fillerOf", "(LRadioWeek$Week;I)I"⟩
abbrev cX1_settle : ByteArray := prog_3_method_4_code
def yX1_settle : MethodName := ⟨RX1, "settle", "(LRadioWeek$Week;I)V"⟩
abbrev cX1_itemsWith : ByteArray := prog_3_method_5_code
def yX1_itemsWith : MethodName := ⟨RX1, "itemsWith", "(ILRadioWeek$Week;I)I"⟩
abbrev cX1_choose : ByteArray := prog_3_method_6_code
def yX1_choose : MethodName := ⟨RX1, "choose", "(LRadioWeek$Programmes;I)I"⟩
abbrev cX2_init : ByteArray := prog_4_method_1_code
def yX2_init : MethodName := ⟨RX2, "<init>", "()V"⟩
abbrev cX2_keep : ByteArray := prog_4_method_2_code
def yX2_keep : MethodName := ⟨RX2, "keep", "(LRadioWeek$Week;)V"⟩
abbrev cX2_takeBack : ByteArray := prog_4_method_3_code
def yX2_takeBack : MethodName := ⟨RX2, "takeBack", "(LRadioWeek$Week;)V"⟩
abbrev cX3_init : ByteArray := prog_5_method_1_code
def yX3_init : MethodName := ⟨RX3, "<init>", "()V"⟩
abbrev cX3_end : ByteArray := prog_5_method_2_code
def yX3_end : MethodName := ⟨RX3, "end", "(I)I"⟩
abbrev cX3_firstIn : ByteArray := prog_5_method_3_code
def yX3_firstIn : MethodName := ⟨RX3, "firstIn", "(II)I"⟩
abbrev cX3_beginningAt : ByteArray := prog_5_method_4_code
def yX3_beginningAt : MethodName := ⟨RX3, "beginningAt", "(I)I"⟩
abbrev cX3_endingAt : ByteArray := prog_5_method_5_code
def yX3_endingAt : MethodName := ⟨RX3, "endingAt", "(I)I"⟩
abbrev cX3_minutesIn : ByteArray := prog_5_method_6_code
def yX3_minutesIn : MethodName := ⟨RX3, "minutesIn", "(III)I"⟩
abbrev cX3_minutesOf : ByteArray := prog_5_method_7_code
def yX3_minutesOf : MethodName := ⟨RX3, "minutesOf", "(I)I"⟩
abbrev cX3_indexFor : ByteArray := prog_5_method_8_code
def yX3_indexFor : MethodName := ⟨RX3, "indexFor", "(I)I"⟩
abbrev cX3_insert : ByteArray := prog_5_method_9_code
def yX3_insert : MethodName := ⟨RX3, "insert", "(IIIIZ)V"⟩
abbrev cX3_delete : ByteArray := prog_5_method_10_code
def yX3_delete : MethodName := ⟨RX3, "delete", "(I)V"⟩
abbrev cX3_move : ByteArray := prog_5_method_11_code
def yX3_move : MethodName := ⟨RX3, "move", "(II)V"⟩
abbrev cX3_copyFrom : ByteArray := prog_5_method_12_code
def yX3_copyFrom : MethodName := ⟨RX3, "copyFrom", "(LRadioWeek$Items;)V"⟩
abbrev cX4_init : ByteArray := prog_6_method_1_code
def yX4_init : MethodName := ⟨RX4, "<init>", "()V"⟩
abbrev cX4_append : ByteArray := prog_6_method_2_code
def yX4_append : MethodName := ⟨RX4, "append", "(III)I"⟩
abbrev cX4_copyFrom : ByteArray := prog_6_method_3_code
def yX4_copyFrom : MethodName := ⟨RX4, "copyFrom", "(LRadioWeek$Programmes;)V"⟩
abbrev cX5_init : ByteArray := prog_7_method_1_code
def yX5_init : MethodName := ⟨RX5, "<init>", "()V"⟩
abbrev cX5_append : ByteArray := prog_7_method_2_code
def yX5_append : MethodName := ⟨RX5, "append", "(IIII)I"⟩
abbrev cX5_covers : ByteArray := prog_7_method_3_code
def yX5_covers : MethodName := ⟨RX5, "covers", "(IIII)Z"⟩
abbrev cX5_copyFrom : ByteArray := prog_7_method_4_code
def yX5_copyFrom : MethodName := ⟨RX5, "copyFrom", "(LRadioWeek$Rights;)V"⟩
abbrev cX6_init : ByteArray := prog_8_method_1_code
def yX6_init : MethodName := ⟨RX6, "<init>", "()V"⟩
abbrev cX6_clear : ByteArray := prog_8_method_2_code
def yX6_clear : MethodName := ⟨RX6, "clear", "()V"⟩
abbrev cX6_add : ByteArray := prog_8_method_3_code
def yX6_add : MethodName := ⟨RX6, "add", "(III)V"⟩
abbrev cX6_share : ByteArray := prog_8_method_4_code
def yX6_share : MethodName := ⟨RX6, "share", "(LRadioWeek$Rights;)Z"⟩
abbrev cX6_rightFor : ByteArray := prog_8_method_5_code
def yX6_rightFor : MethodName := ⟨RX6, "rightFor", "(ILRadioWeek$Rights;)I"⟩
abbrev cX7_init : ByteArray := prog_9_method_1_code
def yX7_init : MethodName := ⟨RX7, "<init>", "()V"⟩
abbrev cX7_copyFrom : ByteArray := prog_9_method_2_code
def yX7_copyFrom : MethodName := ⟨RX7, "copyFrom", "(LRadioWeek$Week;)V"⟩
abbrev cX8_init : ByteArray := prog_1_method_1_code
def yX8_init : MethodName := ⟨RX8, "<init>", "()V"⟩
abbrev cX8_addProgramme : ByteArray := prog_1_method_2_code
def yX8_addProgramme : MethodName := ⟨RX8, "addProgramme", "(III)I"⟩
abbrev cX8_addRight : ByteArray := prog_1_method_3_code
def yX8_addRight : MethodName := ⟨RX8, "addRight", "(IIII)I"⟩
abbrev cX8_addBlackout : ByteArray := prog_1_method_4_code
def yX8_addBlackout : MethodName := ⟨RX8, "addBlackout", "(III)I"⟩
abbrev cX8_place : ByteArray := prog_1_method_5_code
def yX8_place : MethodName := ⟨RX8, "place", "(IIZ)I"⟩
abbrev cX8_remove : ByteArray := prog_1_method_6_code
def yX8_remove : MethodName := ⟨RX8, "remove", "(I)I"⟩
abbrev cX8_earliest : ByteArray := prog_1_method_7_code
def yX8_earliest : MethodName := ⟨RX8, "earliest", "(II)I"⟩
abbrev cX8_fill : ByteArray := prog_1_method_8_code
def yX8_fill : MethodName := ⟨RX8, "fill", "(II)I"⟩
abbrev cX8_runOver : ByteArray := prog_1_method_9_code
def yX8_runOver : MethodName := ⟨RX8, "runOver", "(II)I"⟩
abbrev cX8_makeGood : ByteArray := prog_1_method_10_code
def yX8_makeGood : MethodName := ⟨RX8, "makeGood", "(II)I"⟩
abbrev cX8_items : ByteArray := prog_1_method_11_code
def yX8_items : MethodName := ⟨RX8, "items", "()I"⟩
abbrev cX8_item : ByteArray := prog_1_method_12_code
def yX8_item : MethodName := ⟨RX8, "item", "(II)I"⟩
abbrev cX8_onAir : ByteArray := prog_1_method_13_code
def yX8_onAir : MethodName := ⟨RX8, "onAir", "(I)I"⟩
abbrev cX8_left : ByteArray := prog_1_method_14_code
def yX8_left : MethodName := ⟨RX8, "left", "(I)I"⟩
abbrev cX8_mayPlace : ByteArray := prog_1_method_15_code
def yX8_mayPlace : MethodName := ⟨RX8, "mayPlace", "(II)I"⟩
abbrev cX8_owed : ByteArray := prog_1_method_16_code
def yX8_owed : MethodName := ⟨RX8, "owed", "(I)I"⟩
abbrev cX8_minutes : ByteArray := prog_1_method_17_code
def yX8_minutes : MethodName := ⟨RX8, "minutes", "(III)I"⟩
abbrev cX8_silence : ByteArray := prog_1_method_18_code
def yX8_silence : MethodName := ⟨RX8, "silence", "(II)I"⟩
abbrev cX8_ranked : ByteArray := prog_1_method_19_code
def yX8_ranked : MethodName := ⟨RX8, "ranked", "(I)I"⟩
abbrev cX8_broken : ByteArray := prog_1_method_20_code
def yX8_broken : MethodName := ⟨RX8, "broken", "()I"⟩
abbrev cX8_line : ByteArray := prog_1_method_21_code
def yX8_line : MethodName := ⟨RX8, "line", "(II)I"⟩
abbrev cX8_undo : ByteArray := prog_1_method_22_code
def yX8_undo : MethodName := ⟨RX8, "undo", "()I"⟩
abbrev cX8_fingerprint : ByteArray := prog_1_method_23_code
def yX8_fingerprint : MethodName := ⟨RX8, "fingerprint", "()J"⟩
abbrev cX8_within : ByteArray := prog_1_method_24_code
def yX8_within : MethodName := ⟨RX8, "within", "(III)Z"⟩
abbrev cX8_isTime : ByteArray := prog_1_method_25_code
def yX8_isTime : MethodName := ⟨RX8, "isTime", "(I)Z"⟩
abbrev cX8_isInterval : ByteArray := prog_1_method_26_code
def yX8_isInterval : MethodName := ⟨RX8, "isInterval", "(III)Z"⟩
abbrev cX8_isProgramme : ByteArray := prog_1_method_27_code
def yX8_isProgramme : MethodName := ⟨RX8, "isProgramme", "(I)Z"⟩
abbrev cX8_isItem : ByteArray := prog_1_method_28_code
def yX8_isItem : MethodName := ⟨RX8, "isItem", "(I)Z"⟩
abbrev cX8_obstacle : ByteArray := prog_1_method_29_code
def yX8_obstacle : MethodName := ⟨RX8, "obstacle", "(II)I"⟩
abbrev cX8_rightsAllow : ByteArray := prog_1_method_30_code
def yX8_rightsAllow : MethodName := ⟨RX8, "rightsAllow", "(III)Z"⟩
abbrev cX8_gatherItemsOf : ByteArray := prog_1_method_31_code
def yX8_gatherItemsOf : MethodName := ⟨RX8, "gatherItemsOf", "(I)V"⟩
abbrev cX8_putOnAir : ByteArray := prog_1_method_32_code
def yX8_putOnAir : MethodName := ⟨RX8, "putOnAir", "(IIZ)I"⟩
abbrev cX8_earliestStart : ByteArray := prog_1_method_33_code
def yX8_earliestStart : MethodName := ⟨RX8, "earliestStart", "(II)I"⟩
abbrev cX8_nextToTry : ByteArray := prog_1_method_34_code
def yX8_nextToTry : MethodName := ⟨RX8, "nextToTry", "(III)I"⟩
abbrev cX8_nextWindow : ByteArray := prog_1_method_35_code
def yX8_nextWindow : MethodName := ⟨RX8, "nextWindow", "(II)I"⟩
abbrev cX8_makeRoomAfter : ByteArray := prog_1_method_36_code
def yX8_makeRoomAfter : MethodName := ⟨RX8, "makeRoomAfter", "(I)I"⟩
abbrev cX8_giveWay : ByteArray := prog_1_method_37_code
def yX8_giveWay : MethodName := ⟨RX8, "giveWay", "(II)Z"⟩
abbrev cX8_cut : ByteArray := prog_1_method_38_code
def yX8_cut : MethodName := ⟨RX8, "cut", "(II)Z"⟩
abbrev cX8_push : ByteArray := prog_1_method_39_code
def yX8_push : MethodName := ⟨RX8, "push", "(II)Z"⟩
abbrev cX8_drop : ByteArray := prog_1_method_40_code
def yX8_drop : MethodName := ⟨RX8, "drop", "(I)V"⟩
abbrev cX8_kindOf : ByteArray := prog_1_method_41_code
def yX8_kindOf : MethodName := ⟨RX8, "kindOf", "(I)I"⟩
abbrev cX8_shareRights : ByteArray := prog_1_method_42_code
def yX8_shareRights : MethodName := ⟨RX8, "shareRights", "()V"⟩
abbrev cX8_programmesAhead : ByteArray := prog_1_method_43_code
def yX8_programmesAhead : MethodName := ⟨RX8, "programmesAhead", "(I)I"⟩
abbrev cX8_writeLine : ByteArray := prog_1_method_44_code
def yX8_writeLine : MethodName := ⟨RX8, "writeLine", "(I)V"⟩
abbrev cX8_writeTwoDigits : ByteArray := prog_1_method_45_code
def yX8_writeTwoDigits : MethodName := ⟨RX8, "writeTwoDigits", "(I)V"⟩
abbrev cX9_init : ByteArray := prog_11_method_1_code
def yX9_init : MethodName := ⟨RX9, "<init>", "()V"⟩
abbrev cX9_in : ByteArray := prog_11_method_2_code
def yX9_in : MethodName := ⟨RX9, "in", "(III)Z"⟩
abbrev cX9_act : ByteArray := prog_11_method_3_code
def yX9_act : MethodName := ⟨RX9, "act", "()V"⟩
abbrev cX9_isProgramme : ByteArray := prog_11_method_4_code
def yX9_isProgramme : MethodName := ⟨RX9, "isProgramme", "(I)Z"⟩
abbrev cX9_isItem : ByteArray := prog_11_method_5_code
def yX9_isItem : MethodName := ⟨RX9, "isItem", "(I)Z"⟩
abbrev cX9_kind : ByteArray := prog_11_method_6_code
def yX9_kind : MethodName := ⟨RX9, "kind", "(I)I"⟩
abbrev cX9_length : ByteArray := prog_11_method_7_code
def yX9_length : MethodName := ⟨RX9, "length", "(I)I"⟩
abbrev cX9_of : ByteArray := prog_11_method_8_code
def yX9_of : MethodName := ⟨RX9, "of", "(II)I"⟩
abbrev cX9_end : ByteArray := prog_11_method_9_code
def yX9_end : MethodName := ⟨RX9, "end", "(I)I"⟩
abbrev cX9_addProgramme : ByteArray := prog_11_method_10_code
def yX9_addProgramme : MethodName := ⟨RX9, "addProgramme", "(III)I"⟩
abbrev cX9_addRight : ByteArray := prog_11_method_11_code
def yX9_addRight : MethodName := ⟨RX9, "addRight", "(IIII)I"⟩
abbrev cX9_addBlackout : ByteArray := prog_11_method_12_code
def yX9_addBlackout : MethodName := ⟨RX9, "addBlackout", "(III)I"⟩
abbrev cX9_lists : ByteArray := prog_11_method_13_code
def yX9_lists : MethodName := ⟨RX9, "lists", "(III)V"⟩
abbrev cX9_listsAll : ByteArray := prog_11_method_14_code
def yX9_listsAll : MethodName := ⟨RX9, "listsAll", "()V"⟩
abbrev cX9_rightFor : ByteArray := prog_11_method_15_code
def yX9_rightFor : MethodName := ⟨RX9, "rightFor", "(III)I"⟩
abbrev cX9_gives : ByteArray := prog_11_method_16_code
def yX9_gives : MethodName := ⟨RX9, "gives", "()V"⟩
abbrev cX9_isBroken : ByteArray := prog_11_method_17_code
def yX9_isBroken : MethodName := ⟨RX9, "isBroken", "(I)Z"⟩
abbrev cX9_isDark : ByteArray := prog_11_method_18_code
def yX9_isDark : MethodName := ⟨RX9, "isDark", "(III)Z"⟩
abbrev cX9_isTaken : ByteArray := prog_11_method_19_code
def yX9_isTaken : MethodName := ⟨RX9, "isTaken", "(II)Z"⟩
abbrev cX9_fault : ByteArray := prog_11_method_20_code
def yX9_fault : MethodName := ⟨RX9, "fault", "(II)I"⟩
abbrev cX9_puts : ByteArray := prog_11_method_21_code
def yX9_puts : MethodName := ⟨RX9, "puts", "(IIII)I"⟩
abbrev cX9_drops : ByteArray := prog_11_method_22_code
def yX9_drops : MethodName := ⟨RX9, "drops", "(I)V"⟩
abbrev cX9_place : ByteArray := prog_11_method_23_code
def yX9_place : MethodName := ⟨RX9, "place", "(IIZ)I"⟩
abbrev cX9_remove : ByteArray := prog_11_method_24_code
def yX9_remove : MethodName := ⟨RX9, "remove", "(I)I"⟩
abbrev cX9_firstFor : ByteArray := prog_11_method_25_code
def yX9_firstFor : MethodName := ⟨RX9, "firstFor", "(II)I"⟩
abbrev cX9_earliest : ByteArray := prog_11_method_26_code
def yX9_earliest : MethodName := ⟨RX9, "earliest", "(II)I"⟩
abbrev cX9_mayFill : ByteArray := prog_11_method_27_code
def yX9_mayFill : MethodName := ⟨RX9, "mayFill", "(IIII)Z"⟩
abbrev cX9_measures : ByteArray := prog_11_method_28_code
def yX9_measures : MethodName := ⟨RX9, "measures", "(III)V"⟩
abbrev cX9_fill : ByteArray := prog_11_method_29_code
def yX9_fill : MethodName := ⟨RX9, "fill", "(II)I"⟩
abbrev cX9_mayPush : ByteArray := prog_11_method_30_code
def yX9_mayPush : MethodName := ⟨RX9, "mayPush", "(II)Z"⟩
abbrev cX9_treats : ByteArray := prog_11_method_31_code
def yX9_treats : MethodName := ⟨RX9, "treats", "(II)I"⟩
abbrev cX9_runOver : ByteArray := prog_11_method_32_code
def yX9_runOver : MethodName := ⟨RX9, "runOver", "(II)I"⟩
abbrev cX9_makeGood : ByteArray := prog_11_method_33_code
def yX9_makeGood : MethodName := ⟨RX9, "makeGood", "(II)I"⟩
abbrev cX9_items : ByteArray := prog_11_method_34_code
def yX9_items : MethodName := ⟨RX9, "items", "()I"⟩
abbrev cX9_told : ByteArray := prog_11_method_35_code
def yX9_told : MethodName := ⟨RX9, "told", "(II)I"⟩
abbrev cX9_item : ByteArray := prog_11_method_36_code
def yX9_item : MethodName := ⟨RX9, "item", "(II)I"⟩
abbrev cX9_itemAt : ByteArray := prog_11_method_37_code
def yX9_itemAt : MethodName := ⟨RX9, "itemAt", "(I)I"⟩
abbrev cX9_onAir : ByteArray := prog_11_method_38_code
def yX9_onAir : MethodName := ⟨RX9, "onAir", "(I)I"⟩
abbrev cX9_leftOf : ByteArray := prog_11_method_39_code
def yX9_leftOf : MethodName := ⟨RX9, "leftOf", "(I)I"⟩
abbrev cX9_left : ByteArray := prog_11_method_40_code
def yX9_left : MethodName := ⟨RX9, "left", "(I)I"⟩
abbrev cX9_mayPlace : ByteArray := prog_11_method_41_code
def yX9_mayPlace : MethodName := ⟨RX9, "mayPlace", "(II)I"⟩
abbrev cX9_owed : ByteArray := prog_11_method_42_code
def yX9_owed : MethodName := ⟨RX9, "owed", "(I)I"⟩
abbrev cX9_isSpan : ByteArray := prog_11_method_43_code
def yX9_isSpan : MethodName := ⟨RX9, "isSpan", "(II)Z"⟩
abbrev cX9_minutes : ByteArray := prog_11_method_44_code
def yX9_minutes : MethodName := ⟨RX9, "minutes", "(III)I"⟩
abbrev cX9_silence : ByteArray := prog_11_method_45_code
def yX9_silence : MethodName := ⟨RX9, "silence", "(II)I"⟩
abbrev cX9_airTime : ByteArray := prog_11_method_46_code
def yX9_airTime : MethodName := ⟨RX9, "airTime", "(I)I"⟩
abbrev cX9_ranked : ByteArray := prog_11_method_47_code
def yX9_ranked : MethodName := ⟨RX9, "ranked", "(I)I"⟩
abbrev cX9_broken : ByteArray := prog_11_method_48_code
def yX9_broken : MethodName := ⟨RX9, "broken", "()I"⟩
abbrev cX9_signs : ByteArray := prog_11_method_49_code
def yX9_signs : MethodName := ⟨RX9, "signs", "(I)V"⟩
abbrev cX9_number : ByteArray := prog_11_method_50_code
def yX9_number : MethodName := ⟨RX9, "number", "(I)V"⟩
abbrev cX9_two : ByteArray := prog_11_method_51_code
def yX9_two : MethodName := ⟨RX9, "two", "(I)V"⟩
abbrev cX9_line : ByteArray := prog_11_method_52_code
def yX9_line : MethodName := ⟨RX9, "line", "(II)I"⟩
abbrev cX9_undo : ByteArray := prog_11_method_53_code
def yX9_undo : MethodName := ⟨RX9, "undo", "()I"⟩
abbrev cX9_fingerprint : ByteArray := prog_11_method_54_code
def yX9_fingerprint : MethodName := ⟨RX9, "fingerprint", "()J"⟩
abbrev cL_law : ByteArray := code
def yL_law : MethodName := ⟨RL, "law", "([I)Z"⟩
abbrev cJ4_init_da8c8 : ByteArray := prog_17_method_1_code
def yJ4_init_da8c8 : MethodName := ⟨RJ4, "<init>", "()V"⟩
abbrev cJ4_append_15ec4 : ByteArray := prog_17_method_7_code
def yJ4_append_15ec4 : MethodName := ⟨RJ4, "append", "(Ljava/lang/String;)Ljava/lang/StringBuilder;"⟩
abbrev cJ4_append_cf468 : ByteArray := prog_17_method_14_code
def yJ4_append_cf468 : MethodName := ⟨RJ4, "append", "(C)Ljava/lang/StringBuilder;"⟩
abbrev cJ4_append_bf812 : ByteArray := prog_17_method_15_code
def yJ4_append_bf812 : MethodName := ⟨RJ4, "append", "(I)Ljava/lang/StringBuilder;"⟩
abbrev cJ4_charAt_5068e : ByteArray := prog_17_method_88_code
def yJ4_charAt_5068e : MethodName := ⟨RJ4, "charAt", "(I)C"⟩
abbrev cJ4_setLength_d00df : ByteArray := prog_17_method_89_code
def yJ4_setLength_d00df : MethodName := ⟨RJ4, "setLength", "(I)V"⟩
abbrev cJ4_length_8abf5 : ByteArray := prog_17_method_93_code
def yJ4_length_8abf5 : MethodName := ⟨RJ4, "length", "()I"⟩
abbrev cJ5_init_d00df : ByteArray := prog_12_method_2_code
def yJ5_init_d00df : MethodName := ⟨RJ5, "<init>", "(I)V"⟩
abbrev cJ5_length_8abf5 : ByteArray := prog_12_method_6_code
def yJ5_length_8abf5 : MethodName := ⟨RJ5, "length", "()I"⟩
abbrev cJ5_ensureCapacityInternal_d00df : ByteArray := prog_12_method_9_code
def yJ5_ensureCapacityInternal_d00df : MethodName := ⟨RJ5, "ensureCapacityInternal", "(I)V"⟩
abbrev cJ5_newCapacity_0f7a4 : ByteArray := prog_12_method_10_code
def yJ5_newCapacity_0f7a4 : MethodName := ⟨RJ5, "newCapacity", "(I)I"⟩
abbrev cJ5_setLength_d00df : ByteArray := prog_12_method_13_code
def yJ5_setLength_d00df : MethodName := ⟨RJ5, "setLength", "(I)V"⟩
abbrev cJ5_charAt_5068e : ByteArray := prog_12_method_14_code
def yJ5_charAt_5068e : MethodName := ⟨RJ5, "charAt", "(I)C"⟩
abbrev cJ5_append_cf1ce : ByteArray := prog_12_method_22_code
def yJ5_append_cf1ce : MethodName := ⟨RJ5, "append", "(Ljava/lang/String;)Ljava/lang/AbstractStringBuilder;"⟩
abbrev cJ5_append_3fe6f : ByteArray := prog_12_method_31_code
def yJ5_append_3fe6f : MethodName := ⟨RJ5, "append", "(C)Ljava/lang/AbstractStringBuilder;"⟩
abbrev cJ5_append_c97b9 : ByteArray := prog_12_method_32_code
def yJ5_append_c97b9 : MethodName := ⟨RJ5, "append", "(I)Ljava/lang/AbstractStringBuilder;"⟩
abbrev cJ5_isLatin1_aae02 : ByteArray := prog_12_method_68_code
def yJ5_isLatin1_aae02 : MethodName := ⟨RJ5, "isLatin1", "()Z"⟩
abbrev cJ5_inflateIfNeededFor_a7421 : ByteArray := prog_12_method_71_code
def yJ5_inflateIfNeededFor_a7421 : MethodName := ⟨RJ5, "inflateIfNeededFor", "(Ljava/lang/String;)V"⟩
abbrev cJ5_putStringAt_47b60 : ByteArray := prog_12_method_73_code
def yJ5_putStringAt_47b60 : MethodName := ⟨RJ5, "putStringAt", "(ILjava/lang/String;)V"⟩
abbrev cJ6_getChars_ba4f3 : ByteArray := prog_14_method_12_code
def yJ6_getChars_ba4f3 : MethodName := ⟨RJ6, "getChars", "(II[B)I"⟩
abbrev cJ6_stringSize_0f7a4 : ByteArray := prog_14_method_13_code
def yJ6_stringSize_0f7a4 : MethodName := ⟨RJ6, "stringSize", "(I)I"⟩
abbrev cJ9_max_7cf53 : ByteArray := prog_15_method_65_code
def yJ9_max_7cf53 : MethodName := ⟨RJ9, "max", "(II)I"⟩
abbrev cJ9_min_7cf53 : ByteArray := prog_15_method_69_code
def yJ9_min_7cf53 : MethodName := ⟨RJ9, "min", "(II)I"⟩
abbrev cJ0_length_8abf5 : ByteArray := prog_16_method_54_code
def yJ0_length_8abf5 : MethodName := ⟨RJ0, "length", "()I"⟩
abbrev cJ0_getBytes_840e7 : ByteArray := prog_16_method_147_code
def yJ0_getBytes_840e7 : MethodName := ⟨RJ0, "getBytes", "([BIB)V"⟩
abbrev cJ0_coder_7d493 : ByteArray := prog_16_method_152_code
def yJ0_coder_7d493 : MethodName := ⟨RJ0, "coder", "()B"⟩
abbrev cJ0_checkIndex_df160 : ByteArray := prog_16_method_155_code
def yJ0_checkIndex_df160 : MethodName := ⟨RJ0, "checkIndex", "(II)V"⟩
abbrev cJ1_canEncode_fc78d : ByteArray := prog_18_method_3_code
def yJ1_canEncode_fc78d : MethodName := ⟨RJ1, "canEncode", "(C)Z"⟩
abbrev cJ7_copyOf_9075b : ByteArray := prog_21_method_121_code
def yJ7_copyOf_9075b : MethodName := ⟨RJ7, "copyOf", "([BI)[B"⟩
abbrev cJ8_newLength_cabcc : ByteArray := prog_22_method_27_code
def yJ8_newLength_cabcc : MethodName := ⟨RJ8, "newLength", "(III)I"⟩
abbrev cJ3_checkIndex_8e157 : ByteArray := prog_23_method_11_code
def yJ3_checkIndex_8e157 : MethodName := ⟨RJ3, "checkIndex", "(IILjava/util/function/BiFunction;)I"⟩
end
section
theorem dX0_init_0 : decode cX0_init 0 = .ok (.aload_n 0, 1) := by decide +kernel
theorem dX0_init_1 : decode cX0_init 1 = .ok (.invokespecial 3, 3) := by decide +kernel
theorem dX0_init_4 : decode cX0_init 4 = .ok (.aload_n 0, 1) := by decide +kernel
theorem dX0_init_5 : decode cX0_init 5 = .ok (.bipush 10, 2) := by decide +kernel
theorem dX0_init_7 : decode cX0_init 7 = .ok (.newarray .int, 2) := by decide +kernel
theorem dX0_init_9 : decode cX0_init 9 = .ok (.putfield 9, 3) := by decide +kernel
theorem dX0_init_12 : decode cX0_init 12 = .ok (.aload_n 0, 1) := by decide +kernel
theorem dX0_init_13 : decode cX0_init 13 = .ok (.bipush 10, 2) := by decide +kernel
theorem dX0_init_15 : decode cX0_init 15 = .ok (.newarray .int, 2) := by decide +kernel
theorem dX0_init_17 : decode cX0_init 17 = .ok (.putfield 15, 3) := by decide +kernel
theorem dX0_init_20 : decode cX0_init 20 = .ok (.aload_n 0, 1) := by decide +kernel
theorem dX0_init_21 : decode cX0_init 21 = .ok (.bipush 10, 2) := by decide +kernel
theorem dX0_init_23 : decode cX0_init 23 = .ok (.newarray .int, 2) := by decide +kernel
theorem dX0_init_25 : decode cX0_init 25 = .ok (.putfield 18, 3) := by decide +kernel
theorem dX0_init_28 : decode cX0_init 28 = .ok (.return_, 1) := by decide +kernel
theorem dX0_append_0 : decode cX0_append 0 = .ok (.aload_n 0, 1) := by decide +kernel
theorem dX0_append_1 : decode cX0_append 1 = .ok (.getfield 9, 3) := by decide +kernel
theorem dX0_append_4 : decode cX0_append 4 = .ok (.aload_n 0, 1) := by decide +kernel
theorem dX0_append_5 : decode cX0_append 5 = .ok (.getfield 21, 3) := by decide +kernel
theorem dX0_append_8 : decode cX0_append 8 = .ok (.iload_n 1, 1) := by decide +kernel
theorem dX0_append_9 : decode cX0_append 9 = .ok (.iastore, 1) := by decide +kernel
theorem dX0_append_10 : decode cX0_append 10 = .ok (.aload_n 0, 1) := by decide +kernel
theorem dX0_append_11 : decode cX0_append 11 = .ok (.getfield 15, 3) := by decide +kernel
theorem dX0_append_14 : decode cX0_append 14 = .ok (.aload_n 0, 1) := by decide +kernel
theorem dX0_append_15 : decode cX0_append 15 = .ok (.getfield 21, 3) := by decide +kernel
theorem dX0_append_18 : decode cX0_append 18 = .ok (.iload_n 2, 1) := by decide +kernel
theorem dX0_append_19 : decode cX0_append 19 = .ok (.iastore, 1) := by decide +kernel
theorem dX0_append_20 : decode cX0_append 20 = .ok (.aload_n 0, 1) := by decide +kernel
theorem dX0_append_21 : decode cX0_append 21 = .ok (.getfield 18, 3) := by decide +kernel
theorem dX0_append_24 : decode cX0_append 24 = .ok (.aload_n 0, 1) := by decide +kernel
theorem dX0_append_25 : decode cX0_append 25 = .ok (.getfield 21, 3) := by decide +kernel
theorem dX0_append_28 : decode cX0_append 28 = .ok (.iload_n 3, 1) := by decide +kernel
theorem dX0_append_29 : decode cX0_append 29 = .ok (.iastore, 1) := by decide +kernel
theorem dX0_append_30 : decode cX0_append 30 = .ok (.aload_n 0, 1) := by decide +kernel
theorem dX0_append_31 : decode cX0_append 31 = .ok (.dup, 1) := by decide +kernel
theorem dX0_append_32 : decode cX0_append 32 = .ok (.getfield 21, 3) := by decide +kernel
theorem dX0_append_35 : decode cX0_append 35 = .ok (.dup_x1, 1) := by decide +kernel
theorem dX0_append_36 : decode cX0_append 36 = .ok (.iconst 1, 1) := by decide +kernel
theorem dX0_append_37 : decode cX0_append 37 = .ok (.iadd, 1) := by decide +kernel
theorem dX0_append_38 : decode cX0_append 38 = .ok (.putfield 21, 3) := by decide +kernel
theorem dX0_append_41 : decode cX0_append 41 = .ok (.ireturn, 1) := by decide +kernel
theorem dX0_darkUntil_0 : decode cX0_darkUntil 0 = .ok (.iconst 0, 1) := by decide +kernel
theorem dX0_darkUntil_1 : decode cX0_darkUntil 1 = .ok (.istore 4, 2) := by decide +kernel
theorem dX0_darkUntil_3 : decode cX0_darkUntil 3 = .ok (.iload 4, 2) := by decide +kernel
theorem dX0_darkUntil_5 : decode cX0_darkUntil 5 = .ok (.aload_n 0, 1) := by decide +kernel
theorem dX0_darkUntil_6 : decode cX0_darkUntil 6 = .ok (.getfield 21, 3) := by decide +kernel
theorem dX0_darkUntil_9 : decode cX0_darkUntil 9 = .ok (.if_icmp .ge 86, 3) := by decide +kernel
theorem dX0_darkUntil_12 : decode cX0_darkUntil 12 = .ok (.iload_n 1, 1) := by decide +kernel
theorem dX0_darkUntil_13 : decode cX0_darkUntil 13 = .ok (.aload_n 0, 1) := by decide +kernel
theorem dX0_darkUntil_14 : decode cX0_darkUntil 14 = .ok (.getfield 18, 3) := by decide +kernel
theorem dX0_darkUntil_17 : decode cX0_darkUntil 17 = .ok (.iload 4, 2) := by decide +kernel
theorem dX0_darkUntil_19 : decode cX0_darkUntil 19 = .ok (.iaload, 1) := by decide +kernel
theorem dX0_darkUntil_20 : decode cX0_darkUntil 20 = .ok (.if_icmp .ge 6, 3) := by decide +kernel
theorem dX0_darkUntil_23 : decode cX0_darkUntil 23 = .ok (.goto 66, 3) := by decide +kernel
theorem dX0_darkUntil_26 : decode cX0_darkUntil 26 = .ok (.iload_n 2, 1) := by decide +kernel
theorem dX0_darkUntil_27 : decode cX0_darkUntil 27 = .ok (.iload_n 2, 1) := by decide +kernel
theorem dX0_darkUntil_28 : decode cX0_darkUntil 28 = .ok (.sipush 1440, 3) := by decide +kernel
theorem dX0_darkUntil_31 : decode cX0_darkUntil 31 = .ok (.irem, 1) := by decide +kernel
theorem dX0_darkUntil_32 : decode cX0_darkUntil 32 = .ok (.isub, 1) := by decide +kernel
theorem dX0_darkUntil_33 : decode cX0_darkUntil 33 = .ok (.istore 5, 2) := by decide +kernel
theorem dX0_darkUntil_35 : decode cX0_darkUntil 35 = .ok (.iload 5, 2) := by decide +kernel
theorem dX0_darkUntil_37 : decode cX0_darkUntil 37 = .ok (.iload_n 3, 1) := by decide +kernel
theorem dX0_darkUntil_38 : decode cX0_darkUntil 38 = .ok (.if_icmp .ge 51, 3) := by decide +kernel
theorem dX0_darkUntil_41 : decode cX0_darkUntil 41 = .ok (.iload_n 2, 1) := by decide +kernel
theorem dX0_darkUntil_42 : decode cX0_darkUntil 42 = .ok (.iload 5, 2) := by decide +kernel
theorem dX0_darkUntil_44 : decode cX0_darkUntil 44 = .ok (.aload_n 0, 1) := by decide +kernel
theorem dX0_darkUntil_45 : decode cX0_darkUntil 45 = .ok (.getfield 15, 3) := by decide +kernel
theorem dX0_darkUntil_48 : decode cX0_darkUntil 48 = .ok (.iload 4, 2) := by decide +kernel
theorem dX0_darkUntil_50 : decode cX0_darkUntil 50 = .ok (.iaload, 1) := by decide +kernel
theorem dX0_darkUntil_51 : decode cX0_darkUntil 51 = .ok (.iadd, 1) := by decide +kernel
theorem dX0_darkUntil_52 : decode cX0_darkUntil 52 = .ok (.if_icmp .ge 28, 3) := by decide +kernel
theorem dX0_darkUntil_55 : decode cX0_darkUntil 55 = .ok (.iload 5, 2) := by decide +kernel
theorem dX0_darkUntil_57 : decode cX0_darkUntil 57 = .ok (.aload_n 0, 1) := by decide +kernel
theorem dX0_darkUntil_58 : decode cX0_darkUntil 58 = .ok (.getfield 9, 3) := by decide +kernel
theorem dX0_darkUntil_61 : decode cX0_darkUntil 61 = .ok (.iload 4, 2) := by decide +kernel
theorem dX0_darkUntil_63 : decode cX0_darkUntil 63 = .ok (.iaload, 1) := by decide +kernel
theorem dX0_darkUntil_64 : decode cX0_darkUntil 64 = .ok (.iadd, 1) := by decide +kernel
theorem dX0_darkUntil_65 : decode cX0_darkUntil 65 = .ok (.iload_n 3, 1) := by decide +kernel
theorem dX0_darkUntil_66 : decode cX0_darkUntil 66 = .ok (.if_icmp .ge 14, 3) := by decide +kernel
theorem dX0_darkUntil_69 : decode cX0_darkUntil 69 = .ok (.iload 5, 2) := by decide +kernel
theorem dX0_darkUntil_71 : decode cX0_darkUntil 71 = .ok (.aload_n 0, 1) := by decide +kernel
theorem dX0_darkUntil_72 : decode cX0_darkUntil 72 = .ok (.getfield 15, 3) := by decide +kernel
theorem dX0_darkUntil_75 : decode cX0_darkUntil 75 = .ok (.iload 4, 2) := by decide +kernel
theorem dX0_darkUntil_77 : decode cX0_darkUntil 77 = .ok (.iaload, 1) := by decide +kernel
theorem dX0_darkUntil_78 : decode cX0_darkUntil 78 = .ok (.iadd, 1) := by decide +kernel
theorem dX0_darkUntil_79 : decode cX0_darkUntil 79 = .ok (.ireturn, 1) := by decide +kernel
theorem dX0_darkUntil_80 : decode cX0_darkUntil 80 = .ok (.iinc 5 1440, 6) := by decide +kernel
theorem dX0_darkUntil_86 : decode cX0_darkUntil 86 = .ok (.goto (-51), 3) := by decide +kernel
theorem dX0_darkUntil_89 : decode cX0_darkUntil 89 = .ok (.iinc 4 1, 3) := by decide +kernel
theorem dX0_darkUntil_92 : decode cX0_darkUntil 92 = .ok (.goto (-89), 3) := by decide +kernel
theorem dX0_darkUntil_95 : decode cX0_darkUntil 95 = .ok (.bipush (-9), 2) := by decide +kernel
theorem dX0_darkUntil_97 : decode cX0_darkUntil 97 = .ok (.ireturn, 1) := by decide +kernel
theorem dX0_copyFrom_0 : decode cX0_copyFrom 0 = .ok (.aload_n 0, 1) := by decide +kernel
theorem dX0_copyFrom_1 : decode cX0_copyFrom 1 = .ok (.aload_n 1, 1) := by decide +kernel
theorem dX0_copyFrom_2 : decode cX0_copyFrom 2 = .ok (.getfield 21, 3) := by decide +kernel
theorem dX0_copyFrom_5 : decode cX0_copyFrom 5 = .ok (.putfield 21, 3) := by decide +kernel
theorem dX0_copyFrom_8 : decode cX0_copyFrom 8 = .ok (.aload_n 1, 1) := by decide +kernel
theorem dX0_copyFrom_9 : decode cX0_copyFrom 9 = .ok (.getfield 9, 3) := by decide +kernel
theorem dX0_copyFrom_12 : decode cX0_copyFrom 12 = .ok (.iconst 0, 1) := by decide +kernel
theorem dX0_copyFrom_13 : decode cX0_copyFrom 13 = .ok (.aload_n 0, 1) := by decide +kernel
theorem dX0_copyFrom_14 : decode cX0_copyFrom 14 = .ok (.getfield 9, 3) := by decide +kernel
theorem dX0_copyFrom_17 : decode cX0_copyFrom 17 = .ok (.iconst 0, 1) := by decide +kernel
theorem dX0_copyFrom_18 : decode cX0_copyFrom 18 = .ok (.aload_n 0, 1) := by decide +kernel
theorem dX0_copyFrom_19 : decode cX0_copyFrom 19 = .ok (.getfield 21, 3) := by decide +kernel
theorem dX0_copyFrom_22 : decode cX0_copyFrom 22 = .ok (.invokestatic 25, 3) := by decide +kernel
theorem dX0_copyFrom_25 : decode cX0_copyFrom 25 = .ok (.aload_n 1, 1) := by decide +kernel
theorem dX0_copyFrom_26 : decode cX0_copyFrom 26 = .ok (.getfield 15, 3) := by decide +kernel
theorem dX0_copyFrom_29 : decode cX0_copyFrom 29 = .ok (.iconst 0, 1) := by decide +kernel
theorem dX0_copyFrom_30 : decode cX0_copyFrom 30 = .ok (.aload_n 0, 1) := by decide +kernel
theorem dX0_copyFrom_31 : decode cX0_copyFrom 31 = .ok (.getfield 15, 3) := by decide +kernel
theorem dX0_copyFrom_34 : decode cX0_copyFrom 34 = .ok (.iconst 0, 1) := by decide +kernel
theorem dX0_copyFrom_35 : decode cX0_copyFrom 35 = .ok (.aload_n 0, 1) := by decide +kernel
theorem dX0_copyFrom_36 : decode cX0_copyFrom 36 = .ok (.getfield 21, 3) := by decide +kernel
theorem dX0_copyFrom_39 : decode cX0_copyFrom 39 = .ok (.invokestatic 25, 3) := by decide +kernel
theorem dX0_copyFrom_42 : decode cX0_copyFrom 42 = .ok (.aload_n 1, 1) := by decide +kernel
theorem dX0_copyFrom_43 : decode cX0_copyFrom 43 = .ok (.getfield 18, 3) := by decide +kernel
theorem dX0_copyFrom_46 : decode cX0_copyFrom 46 = .ok (.iconst 0, 1) := by decide +kernel
theorem dX0_copyFrom_47 : decode cX0_copyFrom 47 = .ok (.aload_n 0, 1) := by decide +kernel
theorem dX0_copyFrom_48 : decode cX0_copyFrom 48 = .ok (.getfield 18, 3) := by decide +kernel
theorem dX0_copyFrom_51 : decode cX0_copyFrom 51 = .ok (.iconst 0, 1) := by decide +kernel
theorem dX0_copyFrom_52 : decode cX0_copyFrom 52 = .ok (.aload_n 0, 1) := by decide +kernel
theorem dX0_copyFrom_53 : decode cX0_copyFrom 53 = .ok (.getfield 21, 3) := by decide +kernel
theorem dX0_copyFrom_56 : decode cX0_copyFrom 56 = .ok (.invokestatic 25, 3) := by decide +kernel
theorem dX0_copyFrom_59 : decode cX0_copyFrom 59 = .ok (.return_, 1) := by decide +kernel
theorem dX1_init_0 : decode cX1_init 0 = .ok (.aload_n 0, 1) := by decide +kernel
theorem dX1_init_1 : decode cX1_init 1 = .ok (.invokespecial 3, 3) := by decide +kernel
theorem dX1_init_4 : decode cX1_init 4 = .ok (.aload_n 0, 1) := by decide +kernel
theorem dX1_init_5 : decode cX1_init 5 = .ok (.sipush 240, 3) := by decide +kernel
theorem dX1_init_8 : decode cX1_init 8 = .ok (.newarray .int, 2) := by decide +kernel
theorem dX1_init_10 : decode cX1_init 10 = .ok (.putfield 9, 3) := by decide +kernel
theorem dX1_init_13 : decode cX1_init 13 = .ok (.aload_n 0, 1) := by decide +kernel
theorem dX1_init_14 : decode cX1_init 14 = .ok (.sipush 240, 3) := by decide +kernel
theorem dX1_init_17 : decode cX1_init 17 = .ok (.newarray .int, 2) := by decide +kernel
theorem dX1_init_19 : decode cX1_init 19 = .ok (.putfield 15, 3) := by decide +kernel
theorem dX1_init_22 : decode cX1_init 22 = .ok (.aload_n 0, 1) := by decide +kernel
theorem dX1_init_23 : decode cX1_init 23 = .ok (.sipush 240, 3) := by decide +kernel
theorem dX1_init_26 : decode cX1_init 26 = .ok (.newarray .int, 2) := by decide +kernel
theorem dX1_init_28 : decode cX1_init 28 = .ok (.putfield 18, 3) := by decide +kernel
theorem dX1_init_31 : decode cX1_init 31 = .ok (.aload_n 0, 1) := by decide +kernel
theorem dX1_init_32 : decode cX1_init 32 = .ok (.sipush 240, 3) := by decide +kernel
theorem dX1_init_35 : decode cX1_init 35 = .ok (.newarray .int, 2) := by decide +kernel
theorem dX1_init_37 : decode cX1_init 37 = .ok (.putfield 21, 3) := by decide +kernel
theorem dX1_init_40 : decode cX1_init 40 = .ok (.aload_n 0, 1) := by decide +kernel
theorem dX1_init_41 : decode cX1_init 41 = .ok (.sipush 240, 3) := by decide +kernel
theorem dX1_init_44 : decode cX1_init 44 = .ok (.newarray .int, 2) := by decide +kernel
theorem dX1_init_46 : decode cX1_init 46 = .ok (.putfield 24, 3) := by decide +kernel
theorem dX1_init_49 : decode cX1_init 49 = .ok (.return_, 1) := by decide +kernel
theorem dX1_find_0 : decode cX1_find 0 = .ok (.aload_n 0, 1) := by decide +kernel
theorem dX1_find_1 : decode cX1_find 1 = .ok (.iload_n 2, 1) := by decide +kernel
theorem dX1_find_2 : decode cX1_find 2 = .ok (.putfield 27, 3) := by decide +kernel
theorem dX1_find_5 : decode cX1_find 5 = .ok (.aload_n 0, 1) := by decide +kernel
theorem dX1_find_6 : decode cX1_find 6 = .ok (.iload_n 3, 1) := by decide +kernel
theorem dX1_find_7 : decode cX1_find 7 = .ok (.iload_n 2, 1) := by decide +kernel
theorem dX1_find_8 : decode cX1_find 8 = .ok (.isub, 1) := by decide +kernel
theorem dX1_find_9 : decode cX1_find 9 = .ok (.sipush 240, 3) := by decide +kernel
theorem dX1_find_12 : decode cX1_find 12 = .ok (.invokestatic 31, 3) := by decide +kernel
theorem dX1_find_15 : decode cX1_find 15 = .ok (.putfield 37, 3) := by decide +kernel
theorem dX1_find_18 : decode cX1_find 18 = .ok (.aload_n 0, 1) := by decide +kernel
theorem dX1_find_19 : decode cX1_find 19 = .ok (.aload_n 1, 1) := by decide +kernel
theorem dX1_find_20 : decode cX1_find 20 = .ok (.aload_n 1, 1) := by decide +kernel
theorem dX1_find_21 : decode cX1_find 21 = .ok (.getfield 40, 3) := by decide +kernel
theorem dX1_find_24 : decode cX1_find 24 = .ok (.iload_n 3, 1) := by decide +kernel
theorem dX1_find_25 : decode cX1_find 25 = .ok (.invokevirtual 46, 3) := by decide +kernel
theorem dX1_find_28 : decode cX1_find 28 = .ok (.invokestatic 52, 3) := by decide +kernel
theorem dX1_find_31 : decode cX1_find 31 = .ok (.putfield 56, 3) := by decide +kernel
theorem dX1_find_34 : decode cX1_find 34 = .ok (.aload_n 0, 1) := by decide +kernel
theorem dX1_find_35 : decode cX1_find 35 = .ok (.getfield 37, 3) := by decide +kernel
theorem dX1_find_38 : decode cX1_find 38 = .ok (.iconst 1, 1) := by decide +kernel
theorem dX1_find_39 : decode cX1_find 39 = .ok (.isub, 1) := by decide +kernel
theorem dX1_find_40 : decode cX1_find 40 = .ok (.istore 4, 2) := by decide +kernel
theorem dX1_find_42 : decode cX1_find 42 = .ok (.iload 4, 2) := by decide +kernel
theorem dX1_find_44 : decode cX1_find 44 = .ok (.ifCond .lt 16, 3) := by decide +kernel
theorem dX1_find_47 : decode cX1_find 47 = .ok (.aload_n 0, 1) := by decide +kernel
theorem dX1_find_48 : decode cX1_find 48 = .ok (.aload_n 1, 1) := by decide +kernel
theorem dX1_find_49 : decode cX1_find 49 = .ok (.iload 4, 2) := by decide +kernel
theorem dX1_find_51 : decode cX1_find 51 = .ok (.invokevirtual 59, 3) := by decide +kernel
theorem dX1_find_54 : decode cX1_find 54 = .ok (.iinc 4 (-1), 3) := by decide +kernel
theorem dX1_find_57 : decode cX1_find 57 = .ok (.goto (-15), 3) := by decide +kernel
theorem dX1_find_60 : decode cX1_find 60 = .ok (.aload_n 0, 1) := by decide +kernel
theorem dX1_find_61 : decode cX1_find 61 = .ok (.aload_n 1, 1) := by decide +kernel
theorem dX1_find_62 : decode cX1_find 62 = .ok (.getfield 63, 3) := by decide +kernel
theorem dX1_find_65 : decode cX1_find 65 = .ok (.aload_n 1, 1) := by decide +kernel
theorem dX1_find_66 : decode cX1_find 66 = .ok (.aload_n 1, 1) := by decide +kernel
theorem dX1_find_67 : decode cX1_find 67 = .ok (.getfield 40, 3) := by decide +kernel
theorem dX1_find_70 : decode cX1_find 70 = .ok (.iload_n 2, 1) := by decide +kernel
theorem dX1_find_71 : decode cX1_find 71 = .ok (.invokevirtual 67, 3) := by decide +kernel
theorem dX1_find_74 : decode cX1_find 74 = .ok (.invokestatic 52, 3) := by decide +kernel
theorem dX1_find_77 : decode cX1_find 77 = .ok (.invokevirtual 70, 3) := by decide +kernel
theorem dX1_find_80 : decode cX1_find 80 = .ok (.ireturn, 1) := by decide +kernel
theorem dX1_fillerOf_0 : decode cX1_fillerOf 0 = .ok (.iload_n 1, 1) := by decide +kernel
theorem dX1_fillerOf_1 : decode cX1_fillerOf 1 = .ok (.ifCond .lt 14, 3) := by decide +kernel
theorem dX1_fillerOf_4 : decode cX1_fillerOf 4 = .ok (.iload_n 1, 1) := by decide +kernel
theorem dX1_fillerOf_5 : decode cX1_fillerOf 5 = .ok (.aload_n 0, 1) := by decide +kernel
theorem dX1_fillerOf_6 : decode cX1_fillerOf 6 = .ok (.getfield 40, 3) := by decide +kernel
theorem dX1_fillerOf_9 : decode cX1_fillerOf 9 = .ok (.getfield 74, 3) := by decide +kernel
theorem dX1_fillerOf_12 : decode cX1_fillerOf 12 = .ok (.if_icmp .lt 6, 3) := by decide +kernel
theorem dX1_fillerOf_15 : decode cX1_fillerOf 15 = .ok (.bipush (-9), 2) := by decide +kernel
theorem dX1_fillerOf_17 : decode cX1_fillerOf 17 = .ok (.ireturn, 1) := by decide +kernel
theorem dX1_fillerOf_18 : decode cX1_fillerOf 18 = .ok (.aload_n 0, 1) := by decide +kernel
theorem dX1_fillerOf_19 : decode cX1_fillerOf 19 = .ok (.getfield 40, 3) := by decide +kernel
theorem dX1_fillerOf_22 : decode cX1_fillerOf 22 = .ok (.getfield 77, 3) := by decide +kernel
theorem dX1_fillerOf_25 : decode cX1_fillerOf 25 = .ok (.iload_n 1, 1) := by decide +kernel
theorem dX1_fillerOf_26 : decode cX1_fillerOf 26 = .ok (.iaload, 1) := by decide +kernel
theorem dX1_fillerOf_27 : decode cX1_fillerOf 27 = .ok (.istore_n 2, 1) := by decide +kernel
theorem dX1_fillerOf_28 : decode cX1_fillerOf 28 = .ok (.aload_n 0, 1) := by decide +kernel
theorem dX1_fillerOf_29 : decode cX1_fillerOf 29 = .ok (.getfield 63, 3) := by decide +kernel
theorem dX1_fillerOf_32 : decode cX1_fillerOf 32 = .ok (.getfield 80, 3) := by decide +kernel
theorem dX1_fillerOf_35 : decode cX1_fillerOf 35 = .ok (.iload_n 2, 1) := by decide +kernel
theorem dX1_fillerOf_36 : decode cX1_fillerOf 36 = .ok (.iaload, 1) := by decide +kernel
theorem dX1_fillerOf_37 : decode cX1_fillerOf 37 = .ok (.iconst 2, 1) := by decide +kernel
theorem dX1_fillerOf_38 : decode cX1_fillerOf 38 = .ok (.if_icmp .ne 7, 3) := by decide +kernel
theorem dX1_fillerOf_41 : decode cX1_fillerOf 41 = .ok (.iload_n 2, 1) := by decide +kernel
theorem dX1_fillerOf_42 : decode cX1_fillerOf 42 = .ok (.goto 5, 3) := by decide +kernel
theorem dX1_fillerOf_45 : decode cX1_fillerOf 45 = .ok (.bipush (-9), 2) := by decide +kernel
theorem dX1_fillerOf_47 : decode cX1_fillerOf 47 = .ok (.ireturn, 1) := by decide +kernel
theorem dX1_settle_0 : decode cX1_settle 0 = .ok (.aload_n 0, 1) := by decide +kernel
theorem dX1_settle_1 : decode cX1_settle 1 = .ok (.getfield 15, 3) := by decide +kernel
theorem dX1_settle_4 : decode cX1_settle 4 = .ok (.iload_n 2, 1) := by decide +kernel
theorem dX1_settle_5 : decode cX1_settle 5 = .ok (.bipush (-9), 2) := by decide +kernel
theorem dX1_settle_7 : decode cX1_settle 7 = .ok (.iastore, 1) := by decide +kernel
theorem dX1_settle_8 : decode cX1_settle 8 = .ok (.aload_n 0, 1) := by decide +kernel
theorem dX1_settle_9 : decode cX1_settle 9 = .ok (.getfield 18, 3) := by decide +kernel
theorem dX1_settle_12 : decode cX1_settle 12 = .ok (.iload_n 2, 1) := by decide +kernel
theorem dX1_settle_13 : decode cX1_settle 13 = .ok (.sipush 241, 3) := by decide +kernel
theorem dX1_settle_16 : decode cX1_settle 16 = .ok (.iastore, 1) := by decide +kernel
theorem dX1_settle_17 : decode cX1_settle 17 = .ok (.aload_n 0, 1) := by decide +kernel
theorem dX1_settle_18 : decode cX1_settle 18 = .ok (.getfield 21, 3) := by decide +kernel
theorem dX1_settle_21 : decode cX1_settle 21 = .ok (.iload_n 2, 1) := by decide +kernel
theorem dX1_settle_22 : decode cX1_settle 22 = .ok (.bipush (-9), 2) := by decide +kernel
theorem dX1_settle_24 : decode cX1_settle 24 = .ok (.iastore, 1) := by decide +kernel
theorem dX1_settle_25 : decode cX1_settle 25 = .ok (.aload_n 0, 1) := by decide +kernel
theorem dX1_settle_26 : decode cX1_settle 26 = .ok (.getfield 24, 3) := by decide +kernel
theorem dX1_settle_29 : decode cX1_settle 29 = .ok (.iload_n 2, 1) := by decide +kernel
theorem dX1_settle_30 : decode cX1_settle 30 = .ok (.sipush 241, 3) := by decide +kernel
theorem dX1_settle_33 : decode cX1_settle 33 = .ok (.iastore, 1) := by decide +kernel
theorem dX1_settle_34 : decode cX1_settle 34 = .ok (.iconst 0, 1) := by decide +kernel
theorem dX1_settle_35 : decode cX1_settle 35 = .ok (.istore_n 3, 1) := by decide +kernel
theorem dX1_settle_36 : decode cX1_settle 36 = .ok (.iload_n 3, 1) := by decide +kernel
theorem dX1_settle_37 : decode cX1_settle 37 = .ok (.aload_n 1, 1) := by decide +kernel
theorem dX1_settle_38 : decode cX1_settle 38 = .ok (.getfield 63, 3) := by decide +kernel
theorem dX1_settle_41 : decode cX1_settle 41 = .ok (.getfield 85, 3) := by decide +kernel
theorem dX1_settle_44 : decode cX1_settle 44 = .ok (.if_icmp .ge 97, 3) := by decide +kernel
theorem dX1_settle_47 : decode cX1_settle 47 = .ok (.aload_n 0, 1) := by decide +kernel
theorem dX1_settle_48 : decode cX1_settle 48 = .ok (.iload_n 3, 1) := by decide +kernel
theorem dX1_settle_49 : decode cX1_settle 49 = .ok (.aload_n 1, 1) := by decide +kernel
theorem dX1_settle_50 : decode cX1_settle 50 = .ok (.iload_n 2, 1) := by decide +kernel
theorem dX1_settle_51 : decode cX1_settle 51 = .ok (.invokevirtual 86, 3) := by decide +kernel
theorem dX1_settle_54 : decode cX1_settle 54 = .ok (.istore 4, 2) := by decide +kernel
theorem dX1_settle_56 : decode cX1_settle 56 = .ok (.iload 4, 2) := by decide +kernel
theorem dX1_settle_58 : decode cX1_settle 58 = .ok (.aload_n 0, 1) := by decide +kernel
theorem dX1_settle_59 : decode cX1_settle 59 = .ok (.getfield 18, 3) := by decide +kernel
theorem dX1_settle_62 : decode cX1_settle 62 = .ok (.iload_n 2, 1) := by decide +kernel
theorem dX1_settle_63 : decode cX1_settle 63 = .ok (.iaload, 1) := by decide +kernel
theorem dX1_settle_64 : decode cX1_settle 64 = .ok (.if_icmp .ge 45, 3) := by decide +kernel
theorem dX1_settle_67 : decode cX1_settle 67 = .ok (.aload_n 0, 1) := by decide +kernel
theorem dX1_settle_68 : decode cX1_settle 68 = .ok (.getfield 21, 3) := by decide +kernel
theorem dX1_settle_71 : decode cX1_settle 71 = .ok (.iload_n 2, 1) := by decide +kernel
theorem dX1_settle_72 : decode cX1_settle 72 = .ok (.aload_n 0, 1) := by decide +kernel
theorem dX1_settle_73 : decode cX1_settle 73 = .ok (.getfield 15, 3) := by decide +kernel
theorem dX1_settle_76 : decode cX1_settle 76 = .ok (.iload_n 2, 1) := by decide +kernel
theorem dX1_settle_77 : decode cX1_settle 77 = .ok (.iaload, 1) := by decide +kernel
theorem dX1_settle_78 : decode cX1_settle 78 = .ok (.iastore, 1) := by decide +kernel
theorem dX1_settle_79 : decode cX1_settle 79 = .ok (.aload_n 0, 1) := by decide +kernel
theorem dX1_settle_80 : decode cX1_settle 80 = .ok (.getfield 24, 3) := by decide +kernel
theorem dX1_settle_83 : decode cX1_settle 83 = .ok (.iload_n 2, 1) := by decide +kernel
theorem dX1_settle_84 : decode cX1_settle 84 = .ok (.aload_n 0, 1) := by decide +kernel
theorem dX1_settle_85 : decode cX1_settle 85 = .ok (.getfield 18, 3) := by decide +kernel
theorem dX1_settle_88 : decode cX1_settle 88 = .ok (.iload_n 2, 1) := by decide +kernel
theorem dX1_settle_89 : decode cX1_settle 89 = .ok (.iaload, 1) := by decide +kernel
theorem dX1_settle_90 : decode cX1_settle 90 = .ok (.iastore, 1) := by decide +kernel
theorem dX1_settle_91 : decode cX1_settle 91 = .ok (.aload_n 0, 1) := by decide +kernel
theorem dX1_settle_92 : decode cX1_settle 92 = .ok (.getfield 15, 3) := by decide +kernel
theorem dX1_settle_95 : decode cX1_settle 95 = .ok (.iload_n 2, 1) := by decide +kernel
theorem dX1_settle_96 : decode cX1_settle 96 = .ok (.iload_n 3, 1) := by decide +kernel
theorem dX1_settle_97 : decode cX1_settle 97 = .ok (.iastore, 1) := by decide +kernel
theorem dX1_settle_98 : decode cX1_settle 98 = .ok (.aload_n 0, 1) := by decide +kernel
theorem dX1_settle_99 : decode cX1_settle 99 = .ok (.getfield 18, 3) := by decide +kernel
theorem dX1_settle_102 : decode cX1_settle 102 = .ok (.iload_n 2, 1) := by decide +kernel
theorem dX1_settle_103 : decode cX1_settle 103 = .ok (.iload 4, 2) := by decide +kernel
theorem dX1_settle_105 : decode cX1_settle 105 = .ok (.iastore, 1) := by decide +kernel
theorem dX1_settle_106 : decode cX1_settle 106 = .ok (.goto 29, 3) := by decide +kernel
theorem dX1_settle_109 : decode cX1_settle 109 = .ok (.iload 4, 2) := by decide +kernel
theorem dX1_settle_111 : decode cX1_settle 111 = .ok (.aload_n 0, 1) := by decide +kernel
theorem dX1_settle_112 : decode cX1_settle 112 = .ok (.getfield 24, 3) := by decide +kernel
theorem dX1_settle_115 : decode cX1_settle 115 = .ok (.iload_n 2, 1) := by decide +kernel
theorem dX1_settle_116 : decode cX1_settle 116 = .ok (.iaload, 1) := by decide +kernel
theorem dX1_settle_117 : decode cX1_settle 117 = .ok (.if_icmp .ge 18, 3) := by decide +kernel
theorem dX1_settle_120 : decode cX1_settle 120 = .ok (.aload_n 0, 1) := by decide +kernel
theorem dX1_settle_121 : decode cX1_settle 121 = .ok (.getfield 21, 3) := by decide +kernel
theorem dX1_settle_124 : decode cX1_settle 124 = .ok (.iload_n 2, 1) := by decide +kernel
theorem dX1_settle_125 : decode cX1_settle 125 = .ok (.iload_n 3, 1) := by decide +kernel
theorem dX1_settle_126 : decode cX1_settle 126 = .ok (.iastore, 1) := by decide +kernel
theorem dX1_settle_127 : decode cX1_settle 127 = .ok (.aload_n 0, 1) := by decide +kernel
theorem dX1_settle_128 : decode cX1_settle 128 = .ok (.getfield 24, 3) := by decide +kernel
theorem dX1_settle_131 : decode cX1_settle 131 = .ok (.iload_n 2, 1) := by decide +kernel
theorem dX1_settle_132 : decode cX1_settle 132 = .ok (.iload 4, 2) := by decide +kernel
theorem dX1_settle_134 : decode cX1_settle 134 = .ok (.iastore, 1) := by decide +kernel
theorem dX1_settle_135 : decode cX1_settle 135 = .ok (.iinc 3 1, 3) := by decide +kernel
theorem dX1_settle_138 : decode cX1_settle 138 = .ok (.goto (-102), 3) := by decide +kernel
theorem dX1_settle_141 : decode cX1_settle 141 = .ok (.return_, 1) := by decide +kernel
theorem dX1_itemsWith_0 : decode cX1_itemsWith 0 = .ok (.iload_n 3, 1) := by decide +kernel
theorem dX1_itemsWith_1 : decode cX1_itemsWith 1 = .ok (.aload_n 2, 1) := by decide +kernel
theorem dX1_itemsWith_2 : decode cX1_itemsWith 2 = .ok (.getfield 63, 3) := by decide +kernel
theorem dX1_itemsWith_5 : decode cX1_itemsWith 5 = .ok (.getfield 90, 3) := by decide +kernel
theorem dX1_itemsWith_8 : decode cX1_itemsWith 8 = .ok (.iload_n 1, 1) := by decide +kernel
theorem dX1_itemsWith_9 : decode cX1_itemsWith 9 = .ok (.iaload, 1) := by decide +kernel
theorem dX1_itemsWith_10 : decode cX1_itemsWith 10 = .ok (.iadd, 1) := by decide +kernel
theorem dX1_itemsWith_11 : decode cX1_itemsWith 11 = .ok (.istore 4, 2) := by decide +kernel
theorem dX1_itemsWith_13 : decode cX1_itemsWith 13 = .ok (.aload_n 2, 1) := by decide +kernel
theorem dX1_itemsWith_14 : decode cX1_itemsWith 14 = .ok (.getfield 63, 3) := by decide +kernel
theorem dX1_itemsWith_17 : decode cX1_itemsWith 17 = .ok (.getfield 80, 3) := by decide +kernel
theorem dX1_itemsWith_20 : decode cX1_itemsWith 20 = .ok (.iload_n 1, 1) := by decide +kernel
theorem dX1_itemsWith_21 : decode cX1_itemsWith 21 = .ok (.iaload, 1) := by decide +kernel
theorem dX1_itemsWith_22 : decode cX1_itemsWith 22 = .ok (.iconst 2, 1) := by decide +kernel
theorem dX1_itemsWith_23 : decode cX1_itemsWith 23 = .ok (.if_icmp .ne 12, 3) := by decide +kernel
theorem dX1_itemsWith_26 : decode cX1_itemsWith 26 = .ok (.iload 4, 2) := by decide +kernel
theorem dX1_itemsWith_28 : decode cX1_itemsWith 28 = .ok (.aload_n 0, 1) := by decide +kernel
theorem dX1_itemsWith_29 : decode cX1_itemsWith 29 = .ok (.getfield 37, 3) := by decide +kernel
theorem dX1_itemsWith_32 : decode cX1_itemsWith 32 = .ok (.if_icmp .le 7, 3) := by decide +kernel
theorem dX1_itemsWith_35 : decode cX1_itemsWith 35 = .ok (.sipush 241, 3) := by decide +kernel
theorem dX1_itemsWith_38 : decode cX1_itemsWith 38 = .ok (.ireturn, 1) := by decide +kernel
theorem dX1_itemsWith_39 : decode cX1_itemsWith 39 = .ok (.aload_n 2, 1) := by decide +kernel
theorem dX1_itemsWith_40 : decode cX1_itemsWith 40 = .ok (.getfield 92, 3) := by decide +kernel
theorem dX1_itemsWith_43 : decode cX1_itemsWith 43 = .ok (.aload_n 2, 1) := by decide +kernel
theorem dX1_itemsWith_44 : decode cX1_itemsWith 44 = .ok (.getfield 63, 3) := by decide +kernel
theorem dX1_itemsWith_47 : decode cX1_itemsWith 47 = .ok (.getfield 96, 3) := by decide +kernel
theorem dX1_itemsWith_50 : decode cX1_itemsWith 50 = .ok (.iload_n 1, 1) := by decide +kernel
theorem dX1_itemsWith_51 : decode cX1_itemsWith 51 = .ok (.iaload, 1) := by decide +kernel
theorem dX1_itemsWith_52 : decode cX1_itemsWith 52 = .ok (.aload_n 0, 1) := by decide +kernel
theorem dX1_itemsWith_53 : decode cX1_itemsWith 53 = .ok (.getfield 27, 3) := by decide +kernel
theorem dX1_itemsWith_56 : decode cX1_itemsWith 56 = .ok (.iload_n 3, 1) := by decide +kernel
theorem dX1_itemsWith_57 : decode cX1_itemsWith 57 = .ok (.iadd, 1) := by decide +kernel
theorem dX1_itemsWith_58 : decode cX1_itemsWith 58 = .ok (.aload_n 0, 1) := by decide +kernel
theorem dX1_itemsWith_59 : decode cX1_itemsWith 59 = .ok (.getfield 27, 3) := by decide +kernel
theorem dX1_itemsWith_62 : decode cX1_itemsWith 62 = .ok (.iload 4, 2) := by decide +kernel
theorem dX1_itemsWith_64 : decode cX1_itemsWith 64 = .ok (.iadd, 1) := by decide +kernel
theorem dX1_itemsWith_65 : decode cX1_itemsWith 65 = .ok (.invokevirtual 99, 3) := by decide +kernel
theorem dX1_itemsWith_68 : decode cX1_itemsWith 68 = .ok (.bipush (-9), 2) := by decide +kernel
theorem dX1_itemsWith_70 : decode cX1_itemsWith 70 = .ok (.if_icmp .eq 7, 3) := by decide +kernel
theorem dX1_itemsWith_73 : decode cX1_itemsWith 73 = .ok (.sipush 241, 3) := by decide +kernel
theorem dX1_itemsWith_76 : decode cX1_itemsWith 76 = .ok (.ireturn, 1) := by decide +kernel
theorem dX1_itemsWith_77 : decode cX1_itemsWith 77 = .ok (.iload 4, 2) := by decide +kernel
theorem dX1_itemsWith_79 : decode cX1_itemsWith 79 = .ok (.aload_n 0, 1) := by decide +kernel
theorem dX1_itemsWith_80 : decode cX1_itemsWith 80 = .ok (.getfield 37, 3) := by decide +kernel
theorem dX1_itemsWith_83 : decode cX1_itemsWith 83 = .ok (.if_icmp .ne 19, 3) := by decide +kernel
theorem dX1_itemsWith_86 : decode cX1_itemsWith 86 = .ok (.iload_n 1, 1) := by decide +kernel
theorem dX1_itemsWith_87 : decode cX1_itemsWith 87 = .ok (.aload_n 0, 1) := by decide +kernel
theorem dX1_itemsWith_88 : decode cX1_itemsWith 88 = .ok (.getfield 56, 3) := by decide +kernel
theorem dX1_itemsWith_91 : decode cX1_itemsWith 91 = .ok (.if_icmp .ne 9, 3) := by decide +kernel
theorem dX1_itemsWith_94 : decode cX1_itemsWith 94 = .ok (.sipush 241, 3) := by decide +kernel
theorem dX1_itemsWith_97 : decode cX1_itemsWith 97 = .ok (.goto 4, 3) := by decide +kernel
theorem dX1_itemsWith_100 : decode cX1_itemsWith 100 = .ok (.iconst 1, 1) := by decide +kernel
theorem dX1_itemsWith_101 : decode cX1_itemsWith 101 = .ok (.ireturn, 1) := by decide +kernel
theorem dX1_itemsWith_102 : decode cX1_itemsWith 102 = .ok (.aload_n 0, 1) := by decide +kernel
theorem dX1_itemsWith_103 : decode cX1_itemsWith 103 = .ok (.getfield 15, 3) := by decide +kernel
theorem dX1_itemsWith_106 : decode cX1_itemsWith 106 = .ok (.iload 4, 2) := by decide +kernel
theorem dX1_itemsWith_108 : decode cX1_itemsWith 108 = .ok (.iaload, 1) := by decide +kernel
theorem dX1_itemsWith_109 : decode cX1_itemsWith 109 = .ok (.iload_n 1, 1) := by decide +kernel
theorem dX1_itemsWith_110 : decode cX1_itemsWith 110 = .ok (.if_icmp .ne 13, 3) := by decide +kernel
theorem dX1_itemsWith_113 : decode cX1_itemsWith 113 = .ok (.aload_n 0, 1) := by decide +kernel
theorem dX1_itemsWith_114 : decode cX1_itemsWith 114 = .ok (.getfield 24, 3) := by decide +kernel
theorem dX1_itemsWith_117 : decode cX1_itemsWith 117 = .ok (.iload 4, 2) := by decide +kernel
theorem dX1_itemsWith_119 : decode cX1_itemsWith 119 = .ok (.iaload, 1) := by decide +kernel
theorem dX1_itemsWith_120 : decode cX1_itemsWith 120 = .ok (.goto 10, 3) := by decide +kernel
theorem dX1_itemsWith_123 : decode cX1_itemsWith 123 = .ok (.aload_n 0, 1) := by decide +kernel
theorem dX1_itemsWith_124 : decode cX1_itemsWith 124 = .ok (.getfield 18, 3) := by decide +kernel
theorem dX1_itemsWith_127 : decode cX1_itemsWith 127 = .ok (.iload 4, 2) := by decide +kernel
theorem dX1_itemsWith_129 : decode cX1_itemsWith 129 = .ok (.iaload, 1) := by decide +kernel
theorem dX1_itemsWith_130 : decode cX1_itemsWith 130 = .ok (.istore 5, 2) := by decide +kernel
theorem dX1_itemsWith_132 : decode cX1_itemsWith 132 = .ok (.iload 5, 2) := by decide +kernel
theorem dX1_itemsWith_134 : decode cX1_itemsWith 134 = .ok (.iconst 1, 1) := by decide +kernel
theorem dX1_itemsWith_135 : decode cX1_itemsWith 135 = .ok (.iadd, 1) := by decide +kernel
theorem dX1_itemsWith_136 : decode cX1_itemsWith 136 = .ok (.sipush 241, 3) := by decide +kernel
theorem dX1_itemsWith_139 : decode cX1_itemsWith 139 = .ok (.invokestatic 31, 3) := by decide +kernel
theorem dX1_itemsWith_142 : decode cX1_itemsWith 142 = .ok (.ireturn, 1) := by decide +kernel
theorem dX1_choose_0 : decode cX1_choose 0 = .ok (.iconst 0, 1) := by decide +kernel
theorem dX1_choose_1 : decode cX1_choose 1 = .ok (.istore_n 3, 1) := by decide +kernel
theorem dX1_choose_2 : decode cX1_choose 2 = .ok (.iload_n 2, 1) := by decide +kernel
theorem dX1_choose_3 : decode cX1_choose 3 = .ok (.istore 4, 2) := by decide +kernel
theorem dX1_choose_5 : decode cX1_choose 5 = .ok (.iconst 0, 1) := by decide +kernel
theorem dX1_choose_6 : decode cX1_choose 6 = .ok (.istore 5, 2) := by decide +kernel
theorem dX1_choose_8 : decode cX1_choose 8 = .ok (.iload 5, 2) := by decide +kernel
theorem dX1_choose_10 : decode cX1_choose 10 = .ok (.aload_n 0, 1) := by decide +kernel
theorem dX1_choose_11 : decode cX1_choose 11 = .ok (.getfield 37, 3) := by decide +kernel
theorem dX1_choose_14 : decode cX1_choose 14 = .ok (.if_icmp .ge 81, 3) := by decide +kernel
theorem dX1_choose_17 : decode cX1_choose 17 = .ok (.iload_n 3, 1) := by decide +kernel
theorem dX1_choose_18 : decode cX1_choose 18 = .ok (.sipush 240, 3) := by decide +kernel
theorem dX1_choose_21 : decode cX1_choose 21 = .ok (.if_icmp .ge 74, 3) := by decide +kernel
theorem dX1_choose_24 : decode cX1_choose 24 = .ok (.aload_n 0, 1) := by decide +kernel
theorem dX1_choose_25 : decode cX1_choose 25 = .ok (.getfield 15, 3) := by decide +kernel
theorem dX1_choose_28 : decode cX1_choose 28 = .ok (.iload 5, 2) := by decide +kernel
theorem dX1_choose_30 : decode cX1_choose 30 = .ok (.iaload, 1) := by decide +kernel
theorem dX1_choose_31 : decode cX1_choose 31 = .ok (.iload 4, 2) := by decide +kernel
theorem dX1_choose_33 : decode cX1_choose 33 = .ok (.if_icmp .ne 13, 3) := by decide +kernel
theorem dX1_choose_36 : decode cX1_choose 36 = .ok (.aload_n 0, 1) := by decide +kernel
theorem dX1_choose_37 : decode cX1_choose 37 = .ok (.getfield 21, 3) := by decide +kernel
theorem dX1_choose_40 : decode cX1_choose 40 = .ok (.iload 5, 2) := by decide +kernel
theorem dX1_choose_42 : decode cX1_choose 42 = .ok (.iaload, 1) := by decide +kernel
theorem dX1_choose_43 : decode cX1_choose 43 = .ok (.goto 10, 3) := by decide +kernel
theorem dX1_choose_46 : decode cX1_choose 46 = .ok (.aload_n 0, 1) := by decide +kernel
theorem dX1_choose_47 : decode cX1_choose 47 = .ok (.getfield 15, 3) := by decide +kernel
theorem dX1_choose_50 : decode cX1_choose 50 = .ok (.iload 5, 2) := by decide +kernel
theorem dX1_choose_52 : decode cX1_choose 52 = .ok (.iaload, 1) := by decide +kernel
theorem dX1_choose_53 : decode cX1_choose 53 = .ok (.istore 6, 2) := by decide +kernel
theorem dX1_choose_55 : decode cX1_choose 55 = .ok (.iload 6, 2) := by decide +kernel
theorem dX1_choose_57 : decode cX1_choose 57 = .ok (.bipush (-9), 2) := by decide +kernel
theorem dX1_choose_59 : decode cX1_choose 59 = .ok (.if_icmp .ne 6, 3) := by decide +kernel
theorem dX1_choose_62 : decode cX1_choose 62 = .ok (.bipush (-9), 2) := by decide +kernel
theorem dX1_choose_64 : decode cX1_choose 64 = .ok (.ireturn, 1) := by decide +kernel
theorem dX1_choose_65 : decode cX1_choose 65 = .ok (.aload_n 0, 1) := by decide +kernel
theorem dX1_choose_66 : decode cX1_choose 66 = .ok (.getfield 9, 3) := by decide +kernel
theorem dX1_choose_69 : decode cX1_choose 69 = .ok (.iload_n 3, 1) := by decide +kernel
theorem dX1_choose_70 : decode cX1_choose 70 = .ok (.iload 6, 2) := by decide +kernel
theorem dX1_choose_72 : decode cX1_choose 72 = .ok (.iastore, 1) := by decide +kernel
theorem dX1_choose_73 : decode cX1_choose 73 = .ok (.iinc 3 1, 3) := by decide +kernel
theorem dX1_choose_76 : decode cX1_choose 76 = .ok (.iload 5, 2) := by decide +kernel
theorem dX1_choose_78 : decode cX1_choose 78 = .ok (.aload_n 1, 1) := by decide +kernel
theorem dX1_choose_79 : decode cX1_choose 79 = .ok (.getfield 90, 3) := by decide +kernel
theorem dX1_choose_82 : decode cX1_choose 82 = .ok (.iload 6, 2) := by decide +kernel
theorem dX1_choose_84 : decode cX1_choose 84 = .ok (.iaload, 1) := by decide +kernel
theorem dX1_choose_85 : decode cX1_choose 85 = .ok (.iadd, 1) := by decide +kernel
theorem dX1_choose_86 : decode cX1_choose 86 = .ok (.istore 5, 2) := by decide +kernel
theorem dX1_choose_88 : decode cX1_choose 88 = .ok (.iload 6, 2) := by decide +kernel
theorem dX1_choose_90 : decode cX1_choose 90 = .ok (.istore 4, 2) := by decide +kernel
theorem dX1_choose_92 : decode cX1_choose 92 = .ok (.goto (-84), 3) := by decide +kernel
theorem dX1_choose_95 : decode cX1_choose 95 = .ok (.iload_n 3, 1) := by decide +kernel
theorem dX1_choose_96 : decode cX1_choose 96 = .ok (.ireturn, 1) := by decide +kernel
theorem dX2_init_0 : decode cX2_init 0 = .ok (.aload_n 0, 1) := by decide +kernel
theorem dX2_init_1 : decode cX2_init 1 = .ok (.invokespecial 3, 3) := by decide +kernel
theorem dX2_init_4 : decode cX2_init 4 = .ok (.aload_n 0, 1) := by decide +kernel
theorem dX2_init_5 : decode cX2_init 5 = .ok (.iconst 5, 1) := by decide +kernel
theorem dX2_init_6 : decode cX2_init 6 = .ok (.anewarray 9, 3) := by decide +kernel
theorem dX2_init_9 : decode cX2_init 9 = .ok (.putfield 11, 3) := by decide +kernel
theorem dX2_init_12 : decode cX2_init 12 = .ok (.iconst 0, 1) := by decide +kernel
theorem dX2_init_13 : decode cX2_init 13 = .ok (.istore_n 1, 1) := by decide +kernel
theorem dX2_init_14 : decode cX2_init 14 = .ok (.iload_n 1, 1) := by decide +kernel
theorem dX2_init_15 : decode cX2_init 15 = .ok (.iconst 5, 1) := by decide +kernel
theorem dX2_init_16 : decode cX2_init 16 = .ok (.if_icmp .ge 22, 3) := by decide +kernel
theorem dX2_init_19 : decode cX2_init 19 = .ok (.aload_n 0, 1) := by decide +kernel
theorem dX2_init_20 : decode cX2_init 20 = .ok (.getfield 11, 3) := by decide +kernel
theorem dX2_init_23 : decode cX2_init 23 = .ok (.iload_n 1, 1) := by decide +kernel
theorem dX2_init_24 : decode cX2_init 24 = .ok (.new 9, 3) := by decide +kernel
theorem dX2_init_27 : decode cX2_init 27 = .ok (.dup, 1) := by decide +kernel
theorem dX2_init_28 : decode cX2_init 28 = .ok (.invokespecial 17, 3) := by decide +kernel
theorem dX2_init_31 : decode cX2_init 31 = .ok (.aastore, 1) := by decide +kernel
theorem dX2_init_32 : decode cX2_init 32 = .ok (.iinc 1 1, 3) := by decide +kernel
theorem dX2_init_35 : decode cX2_init 35 = .ok (.goto (-21), 3) := by decide +kernel
theorem dX2_init_38 : decode cX2_init 38 = .ok (.return_, 1) := by decide +kernel
theorem dX2_keep_0 : decode cX2_keep 0 = .ok (.aload_n 0, 1) := by decide +kernel
theorem dX2_keep_1 : decode cX2_keep 1 = .ok (.getfield 18, 3) := by decide +kernel
theorem dX2_keep_4 : decode cX2_keep 4 = .ok (.iconst 5, 1) := by decide +kernel
theorem dX2_keep_5 : decode cX2_keep 5 = .ok (.if_icmp .ne 25, 3) := by decide +kernel
theorem dX2_keep_8 : decode cX2_keep 8 = .ok (.aload_n 0, 1) := by decide +kernel
theorem dX2_keep_9 : decode cX2_keep 9 = .ok (.aload_n 0, 1) := by decide +kernel
theorem dX2_keep_10 : decode cX2_keep 10 = .ok (.getfield 22, 3) := by decide +kernel
theorem dX2_keep_13 : decode cX2_keep 13 = .ok (.iconst 1, 1) := by decide +kernel
theorem dX2_keep_14 : decode cX2_keep 14 = .ok (.iadd, 1) := by decide +kernel
theorem dX2_keep_15 : decode cX2_keep 15 = .ok (.iconst 5, 1) := by decide +kernel
theorem dX2_keep_16 : decode cX2_keep 16 = .ok (.irem, 1) := by decide +kernel
theorem dX2_keep_17 : decode cX2_keep 17 = .ok (.putfield 22, 3) := by decide +kernel
theorem dX2_keep_20 : decode cX2_keep 20 = .ok (.aload_n 0, 1) := by decide +kernel
theorem dX2_keep_21 : decode cX2_keep 21 = .ok (.dup, 1) := by decide +kernel
theorem dX2_keep_22 : decode cX2_keep 22 = .ok (.getfield 18, 3) := by decide +kernel
theorem dX2_keep_25 : decode cX2_keep 25 = .ok (.iconst 1, 1) := by decide +kernel
theorem dX2_keep_26 : decode cX2_keep 26 = .ok (.isub, 1) := by decide +kernel
theorem dX2_keep_27 : decode cX2_keep 27 = .ok (.putfield 18, 3) := by decide +kernel
theorem dX2_keep_30 : decode cX2_keep 30 = .ok (.aload_n 0, 1) := by decide +kernel
theorem dX2_keep_31 : decode cX2_keep 31 = .ok (.getfield 11, 3) := by decide +kernel
theorem dX2_keep_34 : decode cX2_keep 34 = .ok (.aload_n 0, 1) := by decide +kernel
theorem dX2_keep_35 : decode cX2_keep 35 = .ok (.getfield 22, 3) := by decide +kernel
theorem dX2_keep_38 : decode cX2_keep 38 = .ok (.aload_n 0, 1) := by decide +kernel
theorem dX2_keep_39 : decode cX2_keep 39 = .ok (.getfield 18, 3) := by decide +kernel
theorem dX2_keep_42 : decode cX2_keep 42 = .ok (.iadd, 1) := by decide +kernel
theorem dX2_keep_43 : decode cX2_keep 43 = .ok (.iconst 5, 1) := by decide +kernel
theorem dX2_keep_44 : decode cX2_keep 44 = .ok (.irem, 1) := by decide +kernel
theorem dX2_keep_45 : decode cX2_keep 45 = .ok (.aaload, 1) := by decide +kernel
theorem dX2_keep_46 : decode cX2_keep 46 = .ok (.aload_n 1, 1) := by decide +kernel
theorem dX2_keep_47 : decode cX2_keep 47 = .ok (.invokevirtual 25, 3) := by decide +kernel
theorem dX2_keep_50 : decode cX2_keep 50 = .ok (.aload_n 0, 1) := by decide +kernel
theorem dX2_keep_51 : decode cX2_keep 51 = .ok (.dup, 1) := by decide +kernel
theorem dX2_keep_52 : decode cX2_keep 52 = .ok (.getfield 18, 3) := by decide +kernel
theorem dX2_keep_55 : decode cX2_keep 55 = .ok (.iconst 1, 1) := by decide +kernel
theorem dX2_keep_56 : decode cX2_keep 56 = .ok (.iadd, 1) := by decide +kernel
theorem dX2_keep_57 : decode cX2_keep 57 = .ok (.putfield 18, 3) := by decide +kernel
theorem dX2_keep_60 : decode cX2_keep 60 = .ok (.return_, 1) := by decide +kernel
theorem dX2_takeBack_0 : decode cX2_takeBack 0 = .ok (.aload_n 0, 1) := by decide +kernel
theorem dX2_takeBack_1 : decode cX2_takeBack 1 = .ok (.dup, 1) := by decide +kernel
theorem dX2_takeBack_2 : decode cX2_takeBack 2 = .ok (.getfield 18, 3) := by decide +kernel
theorem dX2_takeBack_5 : decode cX2_takeBack 5 = .ok (.iconst 1, 1) := by decide +kernel
theorem dX2_takeBack_6 : decode cX2_takeBack 6 = .ok (.isub, 1) := by decide +kernel
theorem dX2_takeBack_7 : decode cX2_takeBack 7 = .ok (.putfield 18, 3) := by decide +kernel
theorem dX2_takeBack_10 : decode cX2_takeBack 10 = .ok (.aload_n 1, 1) := by decide +kernel
theorem dX2_takeBack_11 : decode cX2_takeBack 11 = .ok (.aload_n 0, 1) := by decide +kernel
theorem dX2_takeBack_12 : decode cX2_takeBack 12 = .ok (.getfield 11, 3) := by decide +kernel
theorem dX2_takeBack_15 : decode cX2_takeBack 15 = .ok (.aload_n 0, 1) := by decide +kernel
theorem dX2_takeBack_16 : decode cX2_takeBack 16 = .ok (.getfield 22, 3) := by decide +kernel
theorem dX2_takeBack_19 : decode cX2_takeBack 19 = .ok (.aload_n 0, 1) := by decide +kernel
theorem dX2_takeBack_20 : decode cX2_takeBack 20 = .ok (.getfield 18, 3) := by decide +kernel
theorem dX2_takeBack_23 : decode cX2_takeBack 23 = .ok (.iadd, 1) := by decide +kernel
theorem dX2_takeBack_24 : decode cX2_takeBack 24 = .ok (.iconst 5, 1) := by decide +kernel
theorem dX2_takeBack_25 : decode cX2_takeBack 25 = .ok (.irem, 1) := by decide +kernel
theorem dX2_takeBack_26 : decode cX2_takeBack 26 = .ok (.aaload, 1) := by decide +kernel
theorem dX2_takeBack_27 : decode cX2_takeBack 27 = .ok (.invokevirtual 25, 3) := by decide +kernel
theorem dX2_takeBack_30 : decode cX2_takeBack 30 = .ok (.return_, 1) := by decide +kernel
theorem dX3_init_0 : decode cX3_init 0 = .ok (.aload_n 0, 1) := by decide +kernel
theorem dX3_init_1 : decode cX3_init 1 = .ok (.invokespecial 3, 3) := by decide +kernel
theorem dX3_init_4 : decode cX3_init 4 = .ok (.aload_n 0, 1) := by decide +kernel
theorem dX3_init_5 : decode cX3_init 5 = .ok (.bipush 60, 2) := by decide +kernel
theorem dX3_init_7 : decode cX3_init 7 = .ok (.newarray .int, 2) := by decide +kernel
theorem dX3_init_9 : decode cX3_init 9 = .ok (.putfield 9, 3) := by decide +kernel
theorem dX3_init_12 : decode cX3_init 12 = .ok (.aload_n 0, 1) := by decide +kernel
theorem dX3_init_13 : decode cX3_init 13 = .ok (.bipush 60, 2) := by decide +kernel
theorem dX3_init_15 : decode cX3_init 15 = .ok (.newarray .int, 2) := by decide +kernel
theorem dX3_init_17 : decode cX3_init 17 = .ok (.putfield 15, 3) := by decide +kernel
theorem dX3_init_20 : decode cX3_init 20 = .ok (.aload_n 0, 1) := by decide +kernel
theorem dX3_init_21 : decode cX3_init 21 = .ok (.bipush 60, 2) := by decide +kernel
theorem dX3_init_23 : decode cX3_init 23 = .ok (.newarray .int, 2) := by decide +kernel
theorem dX3_init_25 : decode cX3_init 25 = .ok (.putfield 18, 3) := by decide +kernel
theorem dX3_init_28 : decode cX3_init 28 = .ok (.aload_n 0, 1) := by decide +kernel
theorem dX3_init_29 : decode cX3_init 29 = .ok (.bipush 60, 2) := by decide +kernel
theorem dX3_init_31 : decode cX3_init 31 = .ok (.newarray .int, 2) := by decide +kernel
theorem dX3_init_33 : decode cX3_init 33 = .ok (.putfield 21, 3) := by decide +kernel
theorem dX3_init_36 : decode cX3_init 36 = .ok (.return_, 1) := by decide +kernel
theorem dX3_end_0 : decode cX3_end 0 = .ok (.aload_n 0, 1) := by decide +kernel
theorem dX3_end_1 : decode cX3_end 1 = .ok (.getfield 15, 3) := by decide +kernel
theorem dX3_end_4 : decode cX3_end 4 = .ok (.iload_n 1, 1) := by decide +kernel
theorem dX3_end_5 : decode cX3_end 5 = .ok (.iaload, 1) := by decide +kernel
theorem dX3_end_6 : decode cX3_end 6 = .ok (.aload_n 0, 1) := by decide +kernel
theorem dX3_end_7 : decode cX3_end 7 = .ok (.getfield 18, 3) := by decide +kernel
theorem dX3_end_10 : decode cX3_end 10 = .ok (.iload_n 1, 1) := by decide +kernel
theorem dX3_end_11 : decode cX3_end 11 = .ok (.iaload, 1) := by decide +kernel
theorem dX3_end_12 : decode cX3_end 12 = .ok (.iadd, 1) := by decide +kernel
theorem dX3_end_13 : decode cX3_end 13 = .ok (.ireturn, 1) := by decide +kernel
theorem dX3_firstIn_0 : decode cX3_firstIn 0 = .ok (.iconst 0, 1) := by decide +kernel
theorem dX3_firstIn_1 : decode cX3_firstIn 1 = .ok (.istore_n 3, 1) := by decide +kernel
theorem dX3_firstIn_2 : decode cX3_firstIn 2 = .ok (.iload_n 3, 1) := by decide +kernel
theorem dX3_firstIn_3 : decode cX3_firstIn 3 = .ok (.aload_n 0, 1) := by decide +kernel
theorem dX3_firstIn_4 : decode cX3_firstIn 4 = .ok (.getfield 24, 3) := by decide +kernel
theorem dX3_firstIn_7 : decode cX3_firstIn 7 = .ok (.if_icmp .ge 30, 3) := by decide +kernel
theorem dX3_firstIn_10 : decode cX3_firstIn 10 = .ok (.aload_n 0, 1) := by decide +kernel
theorem dX3_firstIn_11 : decode cX3_firstIn 11 = .ok (.getfield 15, 3) := by decide +kernel
theorem dX3_firstIn_14 : decode cX3_firstIn 14 = .ok (.iload_n 3, 1) := by decide +kernel
theorem dX3_firstIn_15 : decode cX3_firstIn 15 = .ok (.iaload, 1) := by decide +kernel
theorem dX3_firstIn_16 : decode cX3_firstIn 16 = .ok (.iload_n 2, 1) := by decide +kernel
theorem dX3_firstIn_17 : decode cX3_firstIn 17 = .ok (.if_icmp .ge 14, 3) := by decide +kernel
theorem dX3_firstIn_20 : decode cX3_firstIn 20 = .ok (.aload_n 0, 1) := by decide +kernel
theorem dX3_firstIn_21 : decode cX3_firstIn 21 = .ok (.iload_n 3, 1) := by decide +kernel
theorem dX3_firstIn_22 : decode cX3_firstIn 22 = .ok (.invokevirtual 28, 3) := by decide +kernel
theorem dX3_firstIn_25 : decode cX3_firstIn 25 = .ok (.iload_n 1, 1) := by decide +kernel
theorem dX3_firstIn_26 : decode cX3_firstIn 26 = .ok (.if_icmp .le 5, 3) := by decide +kernel
theorem dX3_firstIn_29 : decode cX3_firstIn 29 = .ok (.iload_n 3, 1) := by decide +kernel
theorem dX3_firstIn_30 : decode cX3_firstIn 30 = .ok (.ireturn, 1) := by decide +kernel
theorem dX3_firstIn_31 : decode cX3_firstIn 31 = .ok (.iinc 3 1, 3) := by decide +kernel
theorem dX3_firstIn_34 : decode cX3_firstIn 34 = .ok (.goto (-32), 3) := by decide +kernel
theorem dX3_firstIn_37 : decode cX3_firstIn 37 = .ok (.bipush (-9), 2) := by decide +kernel
theorem dX3_firstIn_39 : decode cX3_firstIn 39 = .ok (.ireturn, 1) := by decide +kernel
theorem dX3_beginningAt_0 : decode cX3_beginningAt 0 = .ok (.iconst 0, 1) := by decide +kernel
theorem dX3_beginningAt_1 : decode cX3_beginningAt 1 = .ok (.istore_n 2, 1) := by decide +kernel
theorem dX3_beginningAt_2 : decode cX3_beginningAt 2 = .ok (.iload_n 2, 1) := by decide +kernel
theorem dX3_beginningAt_3 : decode cX3_beginningAt 3 = .ok (.aload_n 0, 1) := by decide +kernel
theorem dX3_beginningAt_4 : decode cX3_beginningAt 4 = .ok (.getfield 24, 3) := by decide +kernel
theorem dX3_beginningAt_7 : decode cX3_beginningAt 7 = .ok (.if_icmp .ge 21, 3) := by decide +kernel
theorem dX3_beginningAt_10 : decode cX3_beginningAt 10 = .ok (.aload_n 0, 1) := by decide +kernel
theorem dX3_beginningAt_11 : decode cX3_beginningAt 11 = .ok (.getfield 15, 3) := by decide +kernel
theorem dX3_beginningAt_14 : decode cX3_beginningAt 14 = .ok (.iload_n 2, 1) := by decide +kernel
theorem dX3_beginningAt_15 : decode cX3_beginningAt 15 = .ok (.iaload, 1) := by decide +kernel
theorem dX3_beginningAt_16 : decode cX3_beginningAt 16 = .ok (.iload_n 1, 1) := by decide +kernel
theorem dX3_beginningAt_17 : decode cX3_beginningAt 17 = .ok (.if_icmp .ne 5, 3) := by decide +kernel
theorem dX3_beginningAt_20 : decode cX3_beginningAt 20 = .ok (.iload_n 2, 1) := by decide +kernel
theorem dX3_beginningAt_21 : decode cX3_beginningAt 21 = .ok (.ireturn, 1) := by decide +kernel
theorem dX3_beginningAt_22 : decode cX3_beginningAt 22 = .ok (.iinc 2 1, 3) := by decide +kernel
theorem dX3_beginningAt_25 : decode cX3_beginningAt 25 = .ok (.goto (-23), 3) := by decide +kernel
theorem dX3_beginningAt_28 : decode cX3_beginningAt 28 = .ok (.bipush (-9), 2) := by decide +kernel
theorem dX3_beginningAt_30 : decode cX3_beginningAt 30 = .ok (.ireturn, 1) := by decide +kernel
theorem dX3_endingAt_0 : decode cX3_endingAt 0 = .ok (.iconst 0, 1) := by decide +kernel
theorem dX3_endingAt_1 : decode cX3_endingAt 1 = .ok (.istore_n 2, 1) := by decide +kernel
theorem dX3_endingAt_2 : decode cX3_endingAt 2 = .ok (.iload_n 2, 1) := by decide +kernel
theorem dX3_endingAt_3 : decode cX3_endingAt 3 = .ok (.aload_n 0, 1) := by decide +kernel
theorem dX3_endingAt_4 : decode cX3_endingAt 4 = .ok (.getfield 24, 3) := by decide +kernel
theorem dX3_endingAt_7 : decode cX3_endingAt 7 = .ok (.if_icmp .ge 20, 3) := by decide +kernel
theorem dX3_endingAt_10 : decode cX3_endingAt 10 = .ok (.aload_n 0, 1) := by decide +kernel
theorem dX3_endingAt_11 : decode cX3_endingAt 11 = .ok (.iload_n 2, 1) := by decide +kernel
theorem dX3_endingAt_12 : decode cX3_endingAt 12 = .ok (.invokevirtual 28, 3) := by decide +kernel
theorem dX3_endingAt_15 : decode cX3_endingAt 15 = .ok (.iload_n 1, 1) := by decide +kernel
theorem dX3_endingAt_16 : decode cX3_endingAt 16 = .ok (.if_icmp .ne 5, 3) := by decide +kernel
theorem dX3_endingAt_19 : decode cX3_endingAt 19 = .ok (.iload_n 2, 1) := by decide +kernel
theorem dX3_endingAt_20 : decode cX3_endingAt 20 = .ok (.ireturn, 1) := by decide +kernel
theorem dX3_endingAt_21 : decode cX3_endingAt 21 = .ok (.iinc 2 1, 3) := by decide +kernel
theorem dX3_endingAt_24 : decode cX3_endingAt 24 = .ok (.goto (-22), 3) := by decide +kernel
theorem dX3_endingAt_27 : decode cX3_endingAt 27 = .ok (.bipush (-9), 2) := by decide +kernel
theorem dX3_endingAt_29 : decode cX3_endingAt 29 = .ok (.ireturn, 1) := by decide +kernel
theorem dX3_minutesIn_0 : decode cX3_minutesIn 0 = .ok (.iconst 0, 1) := by decide +kernel
theorem dX3_minutesIn_1 : decode cX3_minutesIn 1 = .ok (.aload_n 0, 1) := by decide +kernel
theorem dX3_minutesIn_2 : decode cX3_minutesIn 2 = .ok (.iload_n 1, 1) := by decide +kernel
theorem dX3_minutesIn_3 : decode cX3_minutesIn 3 = .ok (.invokevirtual 28, 3) := by decide +kernel
theorem dX3_minutesIn_6 : decode cX3_minutesIn 6 = .ok (.iload_n 3, 1) := by decide +kernel
theorem dX3_minutesIn_7 : decode cX3_minutesIn 7 = .ok (.invokestatic 32, 3) := by decide +kernel
theorem dX3_minutesIn_10 : decode cX3_minutesIn 10 = .ok (.aload_n 0, 1) := by decide +kernel
theorem dX3_minutesIn_11 : decode cX3_minutesIn 11 = .ok (.getfield 15, 3) := by decide +kernel
theorem dX3_minutesIn_14 : decode cX3_minutesIn 14 = .ok (.iload_n 1, 1) := by decide +kernel
theorem dX3_minutesIn_15 : decode cX3_minutesIn 15 = .ok (.iaload, 1) := by decide +kernel
theorem dX3_minutesIn_16 : decode cX3_minutesIn 16 = .ok (.iload_n 2, 1) := by decide +kernel
theorem dX3_minutesIn_17 : decode cX3_minutesIn 17 = .ok (.invokestatic 38, 3) := by decide +kernel
theorem dX3_minutesIn_20 : decode cX3_minutesIn 20 = .ok (.isub, 1) := by decide +kernel
theorem dX3_minutesIn_21 : decode cX3_minutesIn 21 = .ok (.invokestatic 38, 3) := by decide +kernel
theorem dX3_minutesIn_24 : decode cX3_minutesIn 24 = .ok (.ireturn, 1) := by decide +kernel
theorem dX3_minutesOf_0 : decode cX3_minutesOf 0 = .ok (.iconst 0, 1) := by decide +kernel
theorem dX3_minutesOf_1 : decode cX3_minutesOf 1 = .ok (.istore_n 2, 1) := by decide +kernel
theorem dX3_minutesOf_2 : decode cX3_minutesOf 2 = .ok (.iconst 0, 1) := by decide +kernel
theorem dX3_minutesOf_3 : decode cX3_minutesOf 3 = .ok (.istore_n 3, 1) := by decide +kernel
theorem dX3_minutesOf_4 : decode cX3_minutesOf 4 = .ok (.iload_n 3, 1) := by decide +kernel
theorem dX3_minutesOf_5 : decode cX3_minutesOf 5 = .ok (.aload_n 0, 1) := by decide +kernel
theorem dX3_minutesOf_6 : decode cX3_minutesOf 6 = .ok (.getfield 24, 3) := by decide +kernel
theorem dX3_minutesOf_9 : decode cX3_minutesOf 9 = .ok (.if_icmp .ge 28, 3) := by decide +kernel
theorem dX3_minutesOf_12 : decode cX3_minutesOf 12 = .ok (.aload_n 0, 1) := by decide +kernel
theorem dX3_minutesOf_13 : decode cX3_minutesOf 13 = .ok (.getfield 9, 3) := by decide +kernel
theorem dX3_minutesOf_16 : decode cX3_minutesOf 16 = .ok (.iload_n 3, 1) := by decide +kernel
theorem dX3_minutesOf_17 : decode cX3_minutesOf 17 = .ok (.iaload, 1) := by decide +kernel
theorem dX3_minutesOf_18 : decode cX3_minutesOf 18 = .ok (.iload_n 1, 1) := by decide +kernel
theorem dX3_minutesOf_19 : decode cX3_minutesOf 19 = .ok (.if_icmp .ne 12, 3) := by decide +kernel
theorem dX3_minutesOf_22 : decode cX3_minutesOf 22 = .ok (.iload_n 2, 1) := by decide +kernel
theorem dX3_minutesOf_23 : decode cX3_minutesOf 23 = .ok (.aload_n 0, 1) := by decide +kernel
theorem dX3_minutesOf_24 : decode cX3_minutesOf 24 = .ok (.getfield 18, 3) := by decide +kernel
theorem dX3_minutesOf_27 : decode cX3_minutesOf 27 = .ok (.iload_n 3, 1) := by decide +kernel
theorem dX3_minutesOf_28 : decode cX3_minutesOf 28 = .ok (.iaload, 1) := by decide +kernel
theorem dX3_minutesOf_29 : decode cX3_minutesOf 29 = .ok (.iadd, 1) := by decide +kernel
theorem dX3_minutesOf_30 : decode cX3_minutesOf 30 = .ok (.istore_n 2, 1) := by decide +kernel
theorem dX3_minutesOf_31 : decode cX3_minutesOf 31 = .ok (.iinc 3 1, 3) := by decide +kernel
theorem dX3_minutesOf_34 : decode cX3_minutesOf 34 = .ok (.goto (-30), 3) := by decide +kernel
theorem dX3_minutesOf_37 : decode cX3_minutesOf 37 = .ok (.iload_n 2, 1) := by decide +kernel
theorem dX3_minutesOf_38 : decode cX3_minutesOf 38 = .ok (.ireturn, 1) := by decide +kernel
theorem dX3_indexFor_0 : decode cX3_indexFor 0 = .ok (.iconst 0, 1) := by decide +kernel
theorem dX3_indexFor_1 : decode cX3_indexFor 1 = .ok (.istore_n 2, 1) := by decide +kernel
theorem dX3_indexFor_2 : decode cX3_indexFor 2 = .ok (.iconst 0, 1) := by decide +kernel
theorem dX3_indexFor_3 : decode cX3_indexFor 3 = .ok (.istore_n 3, 1) := by decide +kernel
theorem dX3_indexFor_4 : decode cX3_indexFor 4 = .ok (.iload_n 3, 1) := by decide +kernel
theorem dX3_indexFor_5 : decode cX3_indexFor 5 = .ok (.aload_n 0, 1) := by decide +kernel
theorem dX3_indexFor_6 : decode cX3_indexFor 6 = .ok (.getfield 24, 3) := by decide +kernel
theorem dX3_indexFor_9 : decode cX3_indexFor 9 = .ok (.if_icmp .ge 22, 3) := by decide +kernel
theorem dX3_indexFor_12 : decode cX3_indexFor 12 = .ok (.aload_n 0, 1) := by decide +kernel
theorem dX3_indexFor_13 : decode cX3_indexFor 13 = .ok (.getfield 15, 3) := by decide +kernel
theorem dX3_indexFor_16 : decode cX3_indexFor 16 = .ok (.iload_n 3, 1) := by decide +kernel
theorem dX3_indexFor_17 : decode cX3_indexFor 17 = .ok (.iaload, 1) := by decide +kernel
theorem dX3_indexFor_18 : decode cX3_indexFor 18 = .ok (.iload_n 1, 1) := by decide +kernel
theorem dX3_indexFor_19 : decode cX3_indexFor 19 = .ok (.if_icmp .ge 6, 3) := by decide +kernel
theorem dX3_indexFor_22 : decode cX3_indexFor 22 = .ok (.iinc 2 1, 3) := by decide +kernel
theorem dX3_indexFor_25 : decode cX3_indexFor 25 = .ok (.iinc 3 1, 3) := by decide +kernel
theorem dX3_indexFor_28 : decode cX3_indexFor 28 = .ok (.goto (-24), 3) := by decide +kernel
theorem dX3_indexFor_31 : decode cX3_indexFor 31 = .ok (.iload_n 2, 1) := by decide +kernel
theorem dX3_indexFor_32 : decode cX3_indexFor 32 = .ok (.ireturn, 1) := by decide +kernel
theorem dX3_insert_0 : decode cX3_insert 0 = .ok (.aload_n 0, 1) := by decide +kernel
theorem dX3_insert_1 : decode cX3_insert 1 = .ok (.iload_n 1, 1) := by decide +kernel
theorem dX3_insert_2 : decode cX3_insert 2 = .ok (.iload_n 1, 1) := by decide +kernel
theorem dX3_insert_3 : decode cX3_insert 3 = .ok (.iconst 1, 1) := by decide +kernel
theorem dX3_insert_4 : decode cX3_insert 4 = .ok (.iadd, 1) := by decide +kernel
theorem dX3_insert_5 : decode cX3_insert 5 = .ok (.invokevirtual 41, 3) := by decide +kernel
theorem dX3_insert_8 : decode cX3_insert 8 = .ok (.aload_n 0, 1) := by decide +kernel
theorem dX3_insert_9 : decode cX3_insert 9 = .ok (.getfield 9, 3) := by decide +kernel
theorem dX3_insert_12 : decode cX3_insert 12 = .ok (.iload_n 1, 1) := by decide +kernel
theorem dX3_insert_13 : decode cX3_insert 13 = .ok (.iload_n 2, 1) := by decide +kernel
theorem dX3_insert_14 : decode cX3_insert 14 = .ok (.iastore, 1) := by decide +kernel
theorem dX3_insert_15 : decode cX3_insert 15 = .ok (.aload_n 0, 1) := by decide +kernel
theorem dX3_insert_16 : decode cX3_insert 16 = .ok (.getfield 15, 3) := by decide +kernel
theorem dX3_insert_19 : decode cX3_insert 19 = .ok (.iload_n 1, 1) := by decide +kernel
theorem dX3_insert_20 : decode cX3_insert 20 = .ok (.iload_n 3, 1) := by decide +kernel
theorem dX3_insert_21 : decode cX3_insert 21 = .ok (.iastore, 1) := by decide +kernel
theorem dX3_insert_22 : decode cX3_insert 22 = .ok (.aload_n 0, 1) := by decide +kernel
theorem dX3_insert_23 : decode cX3_insert 23 = .ok (.getfield 18, 3) := by decide +kernel
theorem dX3_insert_26 : decode cX3_insert 26 = .ok (.iload_n 1, 1) := by decide +kernel
theorem dX3_insert_27 : decode cX3_insert 27 = .ok (.iload 4, 2) := by decide +kernel
theorem dX3_insert_29 : decode cX3_insert 29 = .ok (.iastore, 1) := by decide +kernel
theorem dX3_insert_30 : decode cX3_insert 30 = .ok (.aload_n 0, 1) := by decide +kernel
theorem dX3_insert_31 : decode cX3_insert 31 = .ok (.getfield 21, 3) := by decide +kernel
theorem dX3_insert_34 : decode cX3_insert 34 = .ok (.iload_n 1, 1) := by decide +kernel
theorem dX3_insert_35 : decode cX3_insert 35 = .ok (.iload 5, 2) := by decide +kernel
theorem dX3_insert_37 : decode cX3_insert 37 = .ok (.ifCond .eq 7, 3) := by decide +kernel
theorem dX3_insert_40 : decode cX3_insert 40 = .ok (.iconst 1, 1) := by decide +kernel
theorem dX3_insert_41 : decode cX3_insert 41 = .ok (.goto 4, 3) := by decide +kernel
theorem dX3_insert_44 : decode cX3_insert 44 = .ok (.iconst 0, 1) := by decide +kernel
theorem dX3_insert_45 : decode cX3_insert 45 = .ok (.iastore, 1) := by decide +kernel
theorem dX3_insert_46 : decode cX3_insert 46 = .ok (.aload_n 0, 1) := by decide +kernel
theorem dX3_insert_47 : decode cX3_insert 47 = .ok (.dup, 1) := by decide +kernel
theorem dX3_insert_48 : decode cX3_insert 48 = .ok (.getfield 24, 3) := by decide +kernel
theorem dX3_insert_51 : decode cX3_insert 51 = .ok (.iconst 1, 1) := by decide +kernel
theorem dX3_insert_52 : decode cX3_insert 52 = .ok (.iadd, 1) := by decide +kernel
theorem dX3_insert_53 : decode cX3_insert 53 = .ok (.putfield 24, 3) := by decide +kernel
theorem dX3_insert_56 : decode cX3_insert 56 = .ok (.return_, 1) := by decide +kernel
theorem dX3_delete_0 : decode cX3_delete 0 = .ok (.aload_n 0, 1) := by decide +kernel
theorem dX3_delete_1 : decode cX3_delete 1 = .ok (.iload_n 1, 1) := by decide +kernel
theorem dX3_delete_2 : decode cX3_delete 2 = .ok (.iconst 1, 1) := by decide +kernel
theorem dX3_delete_3 : decode cX3_delete 3 = .ok (.iadd, 1) := by decide +kernel
theorem dX3_delete_4 : decode cX3_delete 4 = .ok (.iload_n 1, 1) := by decide +kernel
theorem dX3_delete_5 : decode cX3_delete 5 = .ok (.invokevirtual 41, 3) := by decide +kernel
theorem dX3_delete_8 : decode cX3_delete 8 = .ok (.aload_n 0, 1) := by decide +kernel
theorem dX3_delete_9 : decode cX3_delete 9 = .ok (.dup, 1) := by decide +kernel
theorem dX3_delete_10 : decode cX3_delete 10 = .ok (.getfield 24, 3) := by decide +kernel
theorem dX3_delete_13 : decode cX3_delete 13 = .ok (.iconst 1, 1) := by decide +kernel
theorem dX3_delete_14 : decode cX3_delete 14 = .ok (.isub, 1) := by decide +kernel
theorem dX3_delete_15 : decode cX3_delete 15 = .ok (.putfield 24, 3) := by decide +kernel
theorem dX3_delete_18 : decode cX3_delete 18 = .ok (.return_, 1) := by decide +kernel
theorem dX3_move_0 : decode cX3_move 0 = .ok (.aload_n 0, 1) := by decide +kernel
theorem dX3_move_1 : decode cX3_move 1 = .ok (.getfield 9, 3) := by decide +kernel
theorem dX3_move_4 : decode cX3_move 4 = .ok (.iload_n 1, 1) := by decide +kernel
theorem dX3_move_5 : decode cX3_move 5 = .ok (.aload_n 0, 1) := by decide +kernel
theorem dX3_move_6 : decode cX3_move 6 = .ok (.getfield 9, 3) := by decide +kernel
theorem dX3_move_9 : decode cX3_move 9 = .ok (.iload_n 2, 1) := by decide +kernel
theorem dX3_move_10 : decode cX3_move 10 = .ok (.aload_n 0, 1) := by decide +kernel
theorem dX3_move_11 : decode cX3_move 11 = .ok (.getfield 24, 3) := by decide +kernel
theorem dX3_move_14 : decode cX3_move 14 = .ok (.iload_n 1, 1) := by decide +kernel
theorem dX3_move_15 : decode cX3_move 15 = .ok (.isub, 1) := by decide +kernel
theorem dX3_move_16 : decode cX3_move 16 = .ok (.invokestatic 45, 3) := by decide +kernel
theorem dX3_move_19 : decode cX3_move 19 = .ok (.aload_n 0, 1) := by decide +kernel
theorem dX3_move_20 : decode cX3_move 20 = .ok (.getfield 15, 3) := by decide +kernel
theorem dX3_move_23 : decode cX3_move 23 = .ok (.iload_n 1, 1) := by decide +kernel
theorem dX3_move_24 : decode cX3_move 24 = .ok (.aload_n 0, 1) := by decide +kernel
theorem dX3_move_25 : decode cX3_move 25 = .ok (.getfield 15, 3) := by decide +kernel
theorem dX3_move_28 : decode cX3_move 28 = .ok (.iload_n 2, 1) := by decide +kernel
theorem dX3_move_29 : decode cX3_move 29 = .ok (.aload_n 0, 1) := by decide +kernel
theorem dX3_move_30 : decode cX3_move 30 = .ok (.getfield 24, 3) := by decide +kernel
theorem dX3_move_33 : decode cX3_move 33 = .ok (.iload_n 1, 1) := by decide +kernel
theorem dX3_move_34 : decode cX3_move 34 = .ok (.isub, 1) := by decide +kernel
theorem dX3_move_35 : decode cX3_move 35 = .ok (.invokestatic 45, 3) := by decide +kernel
theorem dX3_move_38 : decode cX3_move 38 = .ok (.aload_n 0, 1) := by decide +kernel
theorem dX3_move_39 : decode cX3_move 39 = .ok (.getfield 18, 3) := by decide +kernel
theorem dX3_move_42 : decode cX3_move 42 = .ok (.iload_n 1, 1) := by decide +kernel
theorem dX3_move_43 : decode cX3_move 43 = .ok (.aload_n 0, 1) := by decide +kernel
theorem dX3_move_44 : decode cX3_move 44 = .ok (.getfield 18, 3) := by decide +kernel
theorem dX3_move_47 : decode cX3_move 47 = .ok (.iload_n 2, 1) := by decide +kernel
theorem dX3_move_48 : decode cX3_move 48 = .ok (.aload_n 0, 1) := by decide +kernel
theorem dX3_move_49 : decode cX3_move 49 = .ok (.getfield 24, 3) := by decide +kernel
theorem dX3_move_52 : decode cX3_move 52 = .ok (.iload_n 1, 1) := by decide +kernel
theorem dX3_move_53 : decode cX3_move 53 = .ok (.isub, 1) := by decide +kernel
theorem dX3_move_54 : decode cX3_move 54 = .ok (.invokestatic 45, 3) := by decide +kernel
theorem dX3_move_57 : decode cX3_move 57 = .ok (.aload_n 0, 1) := by decide +kernel
theorem dX3_move_58 : decode cX3_move 58 = .ok (.getfield 21, 3) := by decide +kernel
theorem dX3_move_61 : decode cX3_move 61 = .ok (.iload_n 1, 1) := by decide +kernel
theorem dX3_move_62 : decode cX3_move 62 = .ok (.aload_n 0, 1) := by decide +kernel
theorem dX3_move_63 : decode cX3_move 63 = .ok (.getfield 21, 3) := by decide +kernel
theorem dX3_move_66 : decode cX3_move 66 = .ok (.iload_n 2, 1) := by decide +kernel
theorem dX3_move_67 : decode cX3_move 67 = .ok (.aload_n 0, 1) := by decide +kernel
theorem dX3_move_68 : decode cX3_move 68 = .ok (.getfield 24, 3) := by decide +kernel
theorem dX3_move_71 : decode cX3_move 71 = .ok (.iload_n 1, 1) := by decide +kernel
theorem dX3_move_72 : decode cX3_move 72 = .ok (.isub, 1) := by decide +kernel
theorem dX3_move_73 : decode cX3_move 73 = .ok (.invokestatic 45, 3) := by decide +kernel
theorem dX3_move_76 : decode cX3_move 76 = .ok (.return_, 1) := by decide +kernel
theorem dX3_copyFrom_0 : decode cX3_copyFrom 0 = .ok (.aload_n 0, 1) := by decide +kernel
theorem dX3_copyFrom_1 : decode cX3_copyFrom 1 = .ok (.aload_n 1, 1) := by decide +kernel
theorem dX3_copyFrom_2 : decode cX3_copyFrom 2 = .ok (.getfield 24, 3) := by decide +kernel
theorem dX3_copyFrom_5 : decode cX3_copyFrom 5 = .ok (.putfield 24, 3) := by decide +kernel
theorem dX3_copyFrom_8 : decode cX3_copyFrom 8 = .ok (.aload_n 1, 1) := by decide +kernel
theorem dX3_copyFrom_9 : decode cX3_copyFrom 9 = .ok (.getfield 9, 3) := by decide +kernel
theorem dX3_copyFrom_12 : decode cX3_copyFrom 12 = .ok (.iconst 0, 1) := by decide +kernel
theorem dX3_copyFrom_13 : decode cX3_copyFrom 13 = .ok (.aload_n 0, 1) := by decide +kernel
theorem dX3_copyFrom_14 : decode cX3_copyFrom 14 = .ok (.getfield 9, 3) := by decide +kernel
theorem dX3_copyFrom_17 : decode cX3_copyFrom 17 = .ok (.iconst 0, 1) := by decide +kernel
theorem dX3_copyFrom_18 : decode cX3_copyFrom 18 = .ok (.aload_n 0, 1) := by decide +kernel
theorem dX3_copyFrom_19 : decode cX3_copyFrom 19 = .ok (.getfield 24, 3) := by decide +kernel
theorem dX3_copyFrom_22 : decode cX3_copyFrom 22 = .ok (.invokestatic 45, 3) := by decide +kernel
theorem dX3_copyFrom_25 : decode cX3_copyFrom 25 = .ok (.aload_n 1, 1) := by decide +kernel
theorem dX3_copyFrom_26 : decode cX3_copyFrom 26 = .ok (.getfield 15, 3) := by decide +kernel
theorem dX3_copyFrom_29 : decode cX3_copyFrom 29 = .ok (.iconst 0, 1) := by decide +kernel
theorem dX3_copyFrom_30 : decode cX3_copyFrom 30 = .ok (.aload_n 0, 1) := by decide +kernel
theorem dX3_copyFrom_31 : decode cX3_copyFrom 31 = .ok (.getfield 15, 3) := by decide +kernel
theorem dX3_copyFrom_34 : decode cX3_copyFrom 34 = .ok (.iconst 0, 1) := by decide +kernel
theorem dX3_copyFrom_35 : decode cX3_copyFrom 35 = .ok (.aload_n 0, 1) := by decide +kernel
theorem dX3_copyFrom_36 : decode cX3_copyFrom 36 = .ok (.getfield 24, 3) := by decide +kernel
theorem dX3_copyFrom_39 : decode cX3_copyFrom 39 = .ok (.invokestatic 45, 3) := by decide +kernel
theorem dX3_copyFrom_42 : decode cX3_copyFrom 42 = .ok (.aload_n 1, 1) := by decide +kernel
theorem dX3_copyFrom_43 : decode cX3_copyFrom 43 = .ok (.getfield 18, 3) := by decide +kernel
theorem dX3_copyFrom_46 : decode cX3_copyFrom 46 = .ok (.iconst 0, 1) := by decide +kernel
theorem dX3_copyFrom_47 : decode cX3_copyFrom 47 = .ok (.aload_n 0, 1) := by decide +kernel
theorem dX3_copyFrom_48 : decode cX3_copyFrom 48 = .ok (.getfield 18, 3) := by decide +kernel
theorem dX3_copyFrom_51 : decode cX3_copyFrom 51 = .ok (.iconst 0, 1) := by decide +kernel
theorem dX3_copyFrom_52 : decode cX3_copyFrom 52 = .ok (.aload_n 0, 1) := by decide +kernel
theorem dX3_copyFrom_53 : decode cX3_copyFrom 53 = .ok (.getfield 24, 3) := by decide +kernel
theorem dX3_copyFrom_56 : decode cX3_copyFrom 56 = .ok (.invokestatic 45, 3) := by decide +kernel
theorem dX3_copyFrom_59 : decode cX3_copyFrom 59 = .ok (.aload_n 1, 1) := by decide +kernel
theorem dX3_copyFrom_60 : decode cX3_copyFrom 60 = .ok (.getfield 21, 3) := by decide +kernel
theorem dX3_copyFrom_63 : decode cX3_copyFrom 63 = .ok (.iconst 0, 1) := by decide +kernel
theorem dX3_copyFrom_64 : decode cX3_copyFrom 64 = .ok (.aload_n 0, 1) := by decide +kernel
theorem dX3_copyFrom_65 : decode cX3_copyFrom 65 = .ok (.getfield 21, 3) := by decide +kernel
theorem dX3_copyFrom_68 : decode cX3_copyFrom 68 = .ok (.iconst 0, 1) := by decide +kernel
theorem dX3_copyFrom_69 : decode cX3_copyFrom 69 = .ok (.aload_n 0, 1) := by decide +kernel
theorem dX3_copyFrom_70 : decode cX3_copyFrom 70 = .ok (.getfield 24, 3) := by decide +kernel
theorem dX3_copyFrom_73 : decode cX3_copyFrom 73 = .ok (.invokestatic 45, 3) := by decide +kernel
theorem dX3_copyFrom_76 : decode cX3_copyFrom 76 = .ok (.return_, 1) := by decide +kernel
theorem dX4_init_0 : decode cX4_init 0 = .ok (.aload_n 0, 1) := by decide +kernel
theorem dX4_init_1 : decode cX4_init 1 = .ok (.invokespecial 3, 3) := by decide +kernel
theorem dX4_init_4 : decode cX4_init 4 = .ok (.aload_n 0, 1) := by decide +kernel
theorem dX4_init_5 : decode cX4_init 5 = .ok (.bipush 16, 2) := by decide +kernel
theorem dX4_init_7 : decode cX4_init 7 = .ok (.newarray .int, 2) := by decide +kernel
theorem dX4_init_9 : decode cX4_init 9 = .ok (.putfield 9, 3) := by decide +kernel
theorem dX4_init_12 : decode cX4_init 12 = .ok (.aload_n 0, 1) := by decide +kernel
theorem dX4_init_13 : decode cX4_init 13 = .ok (.bipush 16, 2) := by decide +kernel
theorem dX4_init_15 : decode cX4_init 15 = .ok (.newarray .int, 2) := by decide +kernel
theorem dX4_init_17 : decode cX4_init 17 = .ok (.putfield 15, 3) := by decide +kernel
theorem dX4_init_20 : decode cX4_init 20 = .ok (.aload_n 0, 1) := by decide +kernel
theorem dX4_init_21 : decode cX4_init 21 = .ok (.bipush 16, 2) := by decide +kernel
theorem dX4_init_23 : decode cX4_init 23 = .ok (.newarray .int, 2) := by decide +kernel
theorem dX4_init_25 : decode cX4_init 25 = .ok (.putfield 18, 3) := by decide +kernel
theorem dX4_init_28 : decode cX4_init 28 = .ok (.aload_n 0, 1) := by decide +kernel
theorem dX4_init_29 : decode cX4_init 29 = .ok (.bipush 16, 2) := by decide +kernel
theorem dX4_init_31 : decode cX4_init 31 = .ok (.newarray .int, 2) := by decide +kernel
theorem dX4_init_33 : decode cX4_init 33 = .ok (.putfield 21, 3) := by decide +kernel
theorem dX4_init_36 : decode cX4_init 36 = .ok (.return_, 1) := by decide +kernel
theorem dX4_append_0 : decode cX4_append 0 = .ok (.aload_n 0, 1) := by decide +kernel
theorem dX4_append_1 : decode cX4_append 1 = .ok (.getfield 9, 3) := by decide +kernel
theorem dX4_append_4 : decode cX4_append 4 = .ok (.aload_n 0, 1) := by decide +kernel
theorem dX4_append_5 : decode cX4_append 5 = .ok (.getfield 24, 3) := by decide +kernel
theorem dX4_append_8 : decode cX4_append 8 = .ok (.iload_n 1, 1) := by decide +kernel
theorem dX4_append_9 : decode cX4_append 9 = .ok (.iastore, 1) := by decide +kernel
theorem dX4_append_10 : decode cX4_append 10 = .ok (.aload_n 0, 1) := by decide +kernel
theorem dX4_append_11 : decode cX4_append 11 = .ok (.getfield 15, 3) := by decide +kernel
theorem dX4_append_14 : decode cX4_append 14 = .ok (.aload_n 0, 1) := by decide +kernel
theorem dX4_append_15 : decode cX4_append 15 = .ok (.getfield 24, 3) := by decide +kernel
theorem dX4_append_18 : decode cX4_append 18 = .ok (.iload_n 2, 1) := by decide +kernel
theorem dX4_append_19 : decode cX4_append 19 = .ok (.iastore, 1) := by decide +kernel
theorem dX4_append_20 : decode cX4_append 20 = .ok (.aload_n 0, 1) := by decide +kernel
theorem dX4_append_21 : decode cX4_append 21 = .ok (.getfield 18, 3) := by decide +kernel
theorem dX4_append_24 : decode cX4_append 24 = .ok (.aload_n 0, 1) := by decide +kernel
theorem dX4_append_25 : decode cX4_append 25 = .ok (.getfield 24, 3) := by decide +kernel
theorem dX4_append_28 : decode cX4_append 28 = .ok (.iload_n 3, 1) := by decide +kernel
theorem dX4_append_29 : decode cX4_append 29 = .ok (.iastore, 1) := by decide +kernel
theorem dX4_append_30 : decode cX4_append 30 = .ok (.aload_n 0, 1) := by decide +kernel
theorem dX4_append_31 : decode cX4_append 31 = .ok (.getfield 21, 3) := by decide +kernel
theorem dX4_append_34 : decode cX4_append 34 = .ok (.aload_n 0, 1) := by decide +kernel
theorem dX4_append_35 : decode cX4_append 35 = .ok (.getfield 24, 3) := by decide +kernel
theorem dX4_append_38 : decode cX4_append 38 = .ok (.iconst 0, 1) := by decide +kernel
theorem dX4_append_39 : decode cX4_append 39 = .ok (.iastore, 1) := by decide +kernel
theorem dX4_append_40 : decode cX4_append 40 = .ok (.aload_n 0, 1) := by decide +kernel
theorem dX4_append_41 : decode cX4_append 41 = .ok (.dup, 1) := by decide +kernel
theorem dX4_append_42 : decode cX4_append 42 = .ok (.getfield 24, 3) := by decide +kernel
theorem dX4_append_45 : decode cX4_append 45 = .ok (.dup_x1, 1) := by decide +kernel
theorem dX4_append_46 : decode cX4_append 46 = .ok (.iconst 1, 1) := by decide +kernel
theorem dX4_append_47 : decode cX4_append 47 = .ok (.iadd, 1) := by decide +kernel
theorem dX4_append_48 : decode cX4_append 48 = .ok (.putfield 24, 3) := by decide +kernel
theorem dX4_append_51 : decode cX4_append 51 = .ok (.ireturn, 1) := by decide +kernel
theorem dX4_copyFrom_0 : decode cX4_copyFrom 0 = .ok (.aload_n 0, 1) := by decide +kernel
theorem dX4_copyFrom_1 : decode cX4_copyFrom 1 = .ok (.aload_n 1, 1) := by decide +kernel
theorem dX4_copyFrom_2 : decode cX4_copyFrom 2 = .ok (.getfield 24, 3) := by decide +kernel
theorem dX4_copyFrom_5 : decode cX4_copyFrom 5 = .ok (.putfield 24, 3) := by decide +kernel
theorem dX4_copyFrom_8 : decode cX4_copyFrom 8 = .ok (.aload_n 1, 1) := by decide +kernel
theorem dX4_copyFrom_9 : decode cX4_copyFrom 9 = .ok (.getfield 9, 3) := by decide +kernel
theorem dX4_copyFrom_12 : decode cX4_copyFrom 12 = .ok (.iconst 0, 1) := by decide +kernel
theorem dX4_copyFrom_13 : decode cX4_copyFrom 13 = .ok (.aload_n 0, 1) := by decide +kernel
theorem dX4_copyFrom_14 : decode cX4_copyFrom 14 = .ok (.getfield 9, 3) := by decide +kernel
theorem dX4_copyFrom_17 : decode cX4_copyFrom 17 = .ok (.iconst 0, 1) := by decide +kernel
theorem dX4_copyFrom_18 : decode cX4_copyFrom 18 = .ok (.aload_n 0, 1) := by decide +kernel
theorem dX4_copyFrom_19 : decode cX4_copyFrom 19 = .ok (.getfield 24, 3) := by decide +kernel
theorem dX4_copyFrom_22 : decode cX4_copyFrom 22 = .ok (.invokestatic 28, 3) := by decide +kernel
theorem dX4_copyFrom_25 : decode cX4_copyFrom 25 = .ok (.aload_n 1, 1) := by decide +kernel
theorem dX4_copyFrom_26 : decode cX4_copyFrom 26 = .ok (.getfield 15, 3) := by decide +kernel
theorem dX4_copyFrom_29 : decode cX4_copyFrom 29 = .ok (.iconst 0, 1) := by decide +kernel
theorem dX4_copyFrom_30 : decode cX4_copyFrom 30 = .ok (.aload_n 0, 1) := by decide +kernel
theorem dX4_copyFrom_31 : decode cX4_copyFrom 31 = .ok (.getfield 15, 3) := by decide +kernel
theorem dX4_copyFrom_34 : decode cX4_copyFrom 34 = .ok (.iconst 0, 1) := by decide +kernel
theorem dX4_copyFrom_35 : decode cX4_copyFrom 35 = .ok (.aload_n 0, 1) := by decide +kernel
theorem dX4_copyFrom_36 : decode cX4_copyFrom 36 = .ok (.getfield 24, 3) := by decide +kernel
theorem dX4_copyFrom_39 : decode cX4_copyFrom 39 = .ok (.invokestatic 28, 3) := by decide +kernel
theorem dX4_copyFrom_42 : decode cX4_copyFrom 42 = .ok (.aload_n 1, 1) := by decide +kernel
theorem dX4_copyFrom_43 : decode cX4_copyFrom 43 = .ok (.getfield 18, 3) := by decide +kernel
theorem dX4_copyFrom_46 : decode cX4_copyFrom 46 = .ok (.iconst 0, 1) := by decide +kernel
theorem dX4_copyFrom_47 : decode cX4_copyFrom 47 = .ok (.aload_n 0, 1) := by decide +kernel
theorem dX4_copyFrom_48 : decode cX4_copyFrom 48 = .ok (.getfield 18, 3) := by decide +kernel
theorem dX4_copyFrom_51 : decode cX4_copyFrom 51 = .ok (.iconst 0, 1) := by decide +kernel
theorem dX4_copyFrom_52 : decode cX4_copyFrom 52 = .ok (.aload_n 0, 1) := by decide +kernel
theorem dX4_copyFrom_53 : decode cX4_copyFrom 53 = .ok (.getfield 24, 3) := by decide +kernel
theorem dX4_copyFrom_56 : decode cX4_copyFrom 56 = .ok (.invokestatic 28, 3) := by decide +kernel
theorem dX4_copyFrom_59 : decode cX4_copyFrom 59 = .ok (.aload_n 1, 1) := by decide +kernel
theorem dX4_copyFrom_60 : decode cX4_copyFrom 60 = .ok (.getfield 21, 3) := by decide +kernel
theorem dX4_copyFrom_63 : decode cX4_copyFrom 63 = .ok (.iconst 0, 1) := by decide +kernel
theorem dX4_copyFrom_64 : decode cX4_copyFrom 64 = .ok (.aload_n 0, 1) := by decide +kernel
theorem dX4_copyFrom_65 : decode cX4_copyFrom 65 = .ok (.getfield 21, 3) := by decide +kernel
theorem dX4_copyFrom_68 : decode cX4_copyFrom 68 = .ok (.iconst 0, 1) := by decide +kernel
theorem dX4_copyFrom_69 : decode cX4_copyFrom 69 = .ok (.aload_n 0, 1) := by decide +kernel
theorem dX4_copyFrom_70 : decode cX4_copyFrom 70 = .ok (.getfield 24, 3) := by decide +kernel
theorem dX4_copyFrom_73 : decode cX4_copyFrom 73 = .ok (.invokestatic 28, 3) := by decide +kernel
theorem dX4_copyFrom_76 : decode cX4_copyFrom 76 = .ok (.return_, 1) := by decide +kernel
theorem dX5_init_0 : decode cX5_init 0 = .ok (.aload_n 0, 1) := by decide +kernel
theorem dX5_init_1 : decode cX5_init 1 = .ok (.invokespecial 3, 3) := by decide +kernel
theorem dX5_init_4 : decode cX5_init 4 = .ok (.aload_n 0, 1) := by decide +kernel
theorem dX5_init_5 : decode cX5_init 5 = .ok (.bipush 30, 2) := by decide +kernel
theorem dX5_init_7 : decode cX5_init 7 = .ok (.newarray .int, 2) := by decide +kernel
theorem dX5_init_9 : decode cX5_init 9 = .ok (.putfield 9, 3) := by decide +kernel
theorem dX5_init_12 : decode cX5_init 12 = .ok (.aload_n 0, 1) := by decide +kernel
theorem dX5_init_13 : decode cX5_init 13 = .ok (.bipush 30, 2) := by decide +kernel
theorem dX5_init_15 : decode cX5_init 15 = .ok (.newarray .int, 2) := by decide +kernel
theorem dX5_init_17 : decode cX5_init 17 = .ok (.putfield 15, 3) := by decide +kernel
theorem dX5_init_20 : decode cX5_init 20 = .ok (.aload_n 0, 1) := by decide +kernel
theorem dX5_init_21 : decode cX5_init 21 = .ok (.bipush 30, 2) := by decide +kernel
theorem dX5_init_23 : decode cX5_init 23 = .ok (.newarray .int, 2) := by decide +kernel
theorem dX5_init_25 : decode cX5_init 25 = .ok (.putfield 18, 3) := by decide +kernel
theorem dX5_init_28 : decode cX5_init 28 = .ok (.aload_n 0, 1) := by decide +kernel
theorem dX5_init_29 : decode cX5_init 29 = .ok (.bipush 30, 2) := by decide +kernel
theorem dX5_init_31 : decode cX5_init 31 = .ok (.newarray .int, 2) := by decide +kernel
theorem dX5_init_33 : decode cX5_init 33 = .ok (.putfield 21, 3) := by decide +kernel
theorem dX5_init_36 : decode cX5_init 36 = .ok (.return_, 1) := by decide +kernel
theorem dX5_append_0 : decode cX5_append 0 = .ok (.aload_n 0, 1) := by decide +kernel
theorem dX5_append_1 : decode cX5_append 1 = .ok (.getfield 9, 3) := by decide +kernel
theorem dX5_append_4 : decode cX5_append 4 = .ok (.aload_n 0, 1) := by decide +kernel
theorem dX5_append_5 : decode cX5_append 5 = .ok (.getfield 24, 3) := by decide +kernel
theorem dX5_append_8 : decode cX5_append 8 = .ok (.iload_n 1, 1) := by decide +kernel
theorem dX5_append_9 : decode cX5_append 9 = .ok (.iastore, 1) := by decide +kernel
theorem dX5_append_10 : decode cX5_append 10 = .ok (.aload_n 0, 1) := by decide +kernel
theorem dX5_append_11 : decode cX5_append 11 = .ok (.getfield 15, 3) := by decide +kernel
theorem dX5_append_14 : decode cX5_append 14 = .ok (.aload_n 0, 1) := by decide +kernel
theorem dX5_append_15 : decode cX5_append 15 = .ok (.getfield 24, 3) := by decide +kernel
theorem dX5_append_18 : decode cX5_append 18 = .ok (.iload_n 2, 1) := by decide +kernel
theorem dX5_append_19 : decode cX5_append 19 = .ok (.iastore, 1) := by decide +kernel
theorem dX5_append_20 : decode cX5_append 20 = .ok (.aload_n 0, 1) := by decide +kernel
theorem dX5_append_21 : decode cX5_append 21 = .ok (.getfield 18, 3) := by decide +kernel
theorem dX5_append_24 : decode cX5_append 24 = .ok (.aload_n 0, 1) := by decide +kernel
theorem dX5_append_25 : decode cX5_append 25 = .ok (.getfield 24, 3) := by decide +kernel
theorem dX5_append_28 : decode cX5_append 28 = .ok (.iload_n 3, 1) := by decide +kernel
theorem dX5_append_29 : decode cX5_append 29 = .ok (.iastore, 1) := by decide +kernel
theorem dX5_append_30 : decode cX5_append 30 = .ok (.aload_n 0, 1) := by decide +kernel
theorem dX5_append_31 : decode cX5_append 31 = .ok (.getfield 21, 3) := by decide +kernel
theorem dX5_append_34 : decode cX5_append 34 = .ok (.aload_n 0, 1) := by decide +kernel
theorem dX5_append_35 : decode cX5_append 35 = .ok (.getfield 24, 3) := by decide +kernel
theorem dX5_append_38 : decode cX5_append 38 = .ok (.iload 4, 2) := by decide +kernel
theorem dX5_append_40 : decode cX5_append 40 = .ok (.iastore, 1) := by decide +kernel
theorem dX5_append_41 : decode cX5_append 41 = .ok (.aload_n 0, 1) := by decide +kernel
theorem dX5_append_42 : decode cX5_append 42 = .ok (.dup, 1) := by decide +kernel
theorem dX5_append_43 : decode cX5_append 43 = .ok (.getfield 24, 3) := by decide +kernel
theorem dX5_append_46 : decode cX5_append 46 = .ok (.dup_x1, 1) := by decide +kernel
theorem dX5_append_47 : decode cX5_append 47 = .ok (.iconst 1, 1) := by decide +kernel
theorem dX5_append_48 : decode cX5_append 48 = .ok (.iadd, 1) := by decide +kernel
theorem dX5_append_49 : decode cX5_append 49 = .ok (.putfield 24, 3) := by decide +kernel
theorem dX5_append_52 : decode cX5_append 52 = .ok (.ireturn, 1) := by decide +kernel
theorem dX5_covers_0 : decode cX5_covers 0 = .ok (.aload_n 0, 1) := by decide +kernel
theorem dX5_covers_1 : decode cX5_covers 1 = .ok (.getfield 9, 3) := by decide +kernel
theorem dX5_covers_4 : decode cX5_covers 4 = .ok (.iload_n 1, 1) := by decide +kernel
theorem dX5_covers_5 : decode cX5_covers 5 = .ok (.iaload, 1) := by decide +kernel
theorem dX5_covers_6 : decode cX5_covers 6 = .ok (.iload_n 2, 1) := by decide +kernel
theorem dX5_covers_7 : decode cX5_covers 7 = .ok (.if_icmp .ne 28, 3) := by decide +kernel
theorem dX5_covers_10 : decode cX5_covers 10 = .ok (.aload_n 0, 1) := by decide +kernel
theorem dX5_covers_11 : decode cX5_covers 11 = .ok (.getfield 15, 3) := by decide +kernel
theorem dX5_covers_14 : decode cX5_covers 14 = .ok (.iload_n 1, 1) := by decide +kernel
theorem dX5_covers_15 : decode cX5_covers 15 = .ok (.iaload, 1) := by decide +kernel
theorem dX5_covers_16 : decode cX5_covers 16 = .ok (.iload_n 3, 1) := by decide +kernel
theorem dX5_covers_17 : decode cX5_covers 17 = .ok (.if_icmp .gt 18, 3) := by decide +kernel
theorem dX5_covers_20 : decode cX5_covers 20 = .ok (.iload 4, 2) := by decide +kernel
theorem dX5_covers_22 : decode cX5_covers 22 = .ok (.aload_n 0, 1) := by decide +kernel
theorem dX5_covers_23 : decode cX5_covers 23 = .ok (.getfield 18, 3) := by decide +kernel
theorem dX5_covers_26 : decode cX5_covers 26 = .ok (.iload_n 1, 1) := by decide +kernel
theorem dX5_covers_27 : decode cX5_covers 27 = .ok (.iaload, 1) := by decide +kernel
theorem dX5_covers_28 : decode cX5_covers 28 = .ok (.if_icmp .gt 7, 3) := by decide +kernel
theorem dX5_covers_31 : decode cX5_covers 31 = .ok (.iconst 1, 1) := by decide +kernel
theorem dX5_covers_32 : decode cX5_covers 32 = .ok (.goto 4, 3) := by decide +kernel
theorem dX5_covers_35 : decode cX5_covers 35 = .ok (.iconst 0, 1) := by decide +kernel
theorem dX5_covers_36 : decode cX5_covers 36 = .ok (.ireturn, 1) := by decide +kernel
theorem dX5_copyFrom_0 : decode cX5_copyFrom 0 = .ok (.aload_n 0, 1) := by decide +kernel
theorem dX5_copyFrom_1 : decode cX5_copyFrom 1 = .ok (.aload_n 1, 1) := by decide +kernel
theorem dX5_copyFrom_2 : decode cX5_copyFrom 2 = .ok (.getfield 24, 3) := by decide +kernel
theorem dX5_copyFrom_5 : decode cX5_copyFrom 5 = .ok (.putfield 24, 3) := by decide +kernel
theorem dX5_copyFrom_8 : decode cX5_copyFrom 8 = .ok (.aload_n 1, 1) := by decide +kernel
theorem dX5_copyFrom_9 : decode cX5_copyFrom 9 = .ok (.getfield 9, 3) := by decide +kernel
theorem dX5_copyFrom_12 : decode cX5_copyFrom 12 = .ok (.iconst 0, 1) := by decide +kernel
theorem dX5_copyFrom_13 : decode cX5_copyFrom 13 = .ok (.aload_n 0, 1) := by decide +kernel
theorem dX5_copyFrom_14 : decode cX5_copyFrom 14 = .ok (.getfield 9, 3) := by decide +kernel
theorem dX5_copyFrom_17 : decode cX5_copyFrom 17 = .ok (.iconst 0, 1) := by decide +kernel
theorem dX5_copyFrom_18 : decode cX5_copyFrom 18 = .ok (.aload_n 0, 1) := by decide +kernel
theorem dX5_copyFrom_19 : decode cX5_copyFrom 19 = .ok (.getfield 24, 3) := by decide +kernel
theorem dX5_copyFrom_22 : decode cX5_copyFrom 22 = .ok (.invokestatic 28, 3) := by decide +kernel
theorem dX5_copyFrom_25 : decode cX5_copyFrom 25 = .ok (.aload_n 1, 1) := by decide +kernel
theorem dX5_copyFrom_26 : decode cX5_copyFrom 26 = .ok (.getfield 15, 3) := by decide +kernel
theorem dX5_copyFrom_29 : decode cX5_copyFrom 29 = .ok (.iconst 0, 1) := by decide +kernel
theorem dX5_copyFrom_30 : decode cX5_copyFrom 30 = .ok (.aload_n 0, 1) := by decide +kernel
theorem dX5_copyFrom_31 : decode cX5_copyFrom 31 = .ok (.getfield 15, 3) := by decide +kernel
theorem dX5_copyFrom_34 : decode cX5_copyFrom 34 = .ok (.iconst 0, 1) := by decide +kernel
theorem dX5_copyFrom_35 : decode cX5_copyFrom 35 = .ok (.aload_n 0, 1) := by decide +kernel
theorem dX5_copyFrom_36 : decode cX5_copyFrom 36 = .ok (.getfield 24, 3) := by decide +kernel
theorem dX5_copyFrom_39 : decode cX5_copyFrom 39 = .ok (.invokestatic 28, 3) := by decide +kernel
theorem dX5_copyFrom_42 : decode cX5_copyFrom 42 = .ok (.aload_n 1, 1) := by decide +kernel
theorem dX5_copyFrom_43 : decode cX5_copyFrom 43 = .ok (.getfield 18, 3) := by decide +kernel
theorem dX5_copyFrom_46 : decode cX5_copyFrom 46 = .ok (.iconst 0, 1) := by decide +kernel
theorem dX5_copyFrom_47 : decode cX5_copyFrom 47 = .ok (.aload_n 0, 1) := by decide +kernel
theorem dX5_copyFrom_48 : decode cX5_copyFrom 48 = .ok (.getfield 18, 3) := by decide +kernel
theorem dX5_copyFrom_51 : decode cX5_copyFrom 51 = .ok (.iconst 0, 1) := by decide +kernel
theorem dX5_copyFrom_52 : decode cX5_copyFrom 52 = .ok (.aload_n 0, 1) := by decide +kernel
theorem dX5_copyFrom_53 : decode cX5_copyFrom 53 = .ok (.getfield 24, 3) := by decide +kernel
theorem dX5_copyFrom_56 : decode cX5_copyFrom 56 = .ok (.invokestatic 28, 3) := by decide +kernel
theorem dX5_copyFrom_59 : decode cX5_copyFrom 59 = .ok (.aload_n 1, 1) := by decide +kernel
theorem dX5_copyFrom_60 : decode cX5_copyFrom 60 = .ok (.getfield 21, 3) := by decide +kernel
theorem dX5_copyFrom_63 : decode cX5_copyFrom 63 = .ok (.iconst 0, 1) := by decide +kernel
theorem dX5_copyFrom_64 : decode cX5_copyFrom 64 = .ok (.aload_n 0, 1) := by decide +kernel
theorem dX5_copyFrom_65 : decode cX5_copyFrom 65 = .ok (.getfield 21, 3) := by decide +kernel
theorem dX5_copyFrom_68 : decode cX5_copyFrom 68 = .ok (.iconst 0, 1) := by decide +kernel
theorem dX5_copyFrom_69 : decode cX5_copyFrom 69 = .ok (.aload_n 0, 1) := by decide +kernel
theorem dX5_copyFrom_70 : decode cX5_copyFrom 70 = .ok (.getfield 24, 3) := by decide +kernel
theorem dX5_copyFrom_73 : decode cX5_copyFrom 73 = .ok (.invokestatic 28, 3) := by decide +kernel
theorem dX5_copyFrom_76 : decode cX5_copyFrom 76 = .ok (.return_, 1) := by decide +kernel
theorem dX6_init_0 : decode cX6_init 0 = .ok (.aload_n 0, 1) := by decide +kernel
theorem dX6_init_1 : decode cX6_init 1 = .ok (.invokespecial 3, 3) := by decide +kernel
theorem dX6_init_4 : decode cX6_init 4 = .ok (.aload_n 0, 1) := by decide +kernel
theorem dX6_init_5 : decode cX6_init 5 = .ok (.bipush 61, 2) := by decide +kernel
theorem dX6_init_7 : decode cX6_init 7 = .ok (.newarray .int, 2) := by decide +kernel
theorem dX6_init_9 : decode cX6_init 9 = .ok (.putfield 11, 3) := by decide +kernel
theorem dX6_init_12 : decode cX6_init 12 = .ok (.aload_n 0, 1) := by decide +kernel
theorem dX6_init_13 : decode cX6_init 13 = .ok (.bipush 61, 2) := by decide +kernel
theorem dX6_init_15 : decode cX6_init 15 = .ok (.newarray .int, 2) := by decide +kernel
theorem dX6_init_17 : decode cX6_init 17 = .ok (.putfield 15, 3) := by decide +kernel
theorem dX6_init_20 : decode cX6_init 20 = .ok (.aload_n 0, 1) := by decide +kernel
theorem dX6_init_21 : decode cX6_init 21 = .ok (.bipush 61, 2) := by decide +kernel
theorem dX6_init_23 : decode cX6_init 23 = .ok (.newarray .int, 2) := by decide +kernel
theorem dX6_init_25 : decode cX6_init 25 = .ok (.putfield 18, 3) := by decide +kernel
theorem dX6_init_28 : decode cX6_init 28 = .ok (.aload_n 0, 1) := by decide +kernel
theorem dX6_init_29 : decode cX6_init 29 = .ok (.bipush 61, 2) := by decide +kernel
theorem dX6_init_31 : decode cX6_init 31 = .ok (.newarray .int, 2) := by decide +kernel
theorem dX6_init_33 : decode cX6_init 33 = .ok (.putfield 21, 3) := by decide +kernel
theorem dX6_init_36 : decode cX6_init 36 = .ok (.aload_n 0, 1) := by decide +kernel
theorem dX6_init_37 : decode cX6_init 37 = .ok (.bipush 30, 2) := by decide +kernel
theorem dX6_init_39 : decode cX6_init 39 = .ok (.newarray .int, 2) := by decide +kernel
theorem dX6_init_41 : decode cX6_init 41 = .ok (.putfield 24, 3) := by decide +kernel
theorem dX6_init_44 : decode cX6_init 44 = .ok (.return_, 1) := by decide +kernel
theorem dX6_clear_0 : decode cX6_clear 0 = .ok (.aload_n 0, 1) := by decide +kernel
theorem dX6_clear_1 : decode cX6_clear 1 = .ok (.iconst 0, 1) := by decide +kernel
theorem dX6_clear_2 : decode cX6_clear 2 = .ok (.putfield 27, 3) := by decide +kernel
theorem dX6_clear_5 : decode cX6_clear 5 = .ok (.return_, 1) := by decide +kernel
theorem dX6_add_0 : decode cX6_add 0 = .ok (.aload_n 0, 1) := by decide +kernel
theorem dX6_add_1 : decode cX6_add 1 = .ok (.getfield 27, 3) := by decide +kernel
theorem dX6_add_4 : decode cX6_add 4 = .ok (.bipush 61, 2) := by decide +kernel
theorem dX6_add_6 : decode cX6_add 6 = .ok (.if_icmp .lt 4, 3) := by decide +kernel
theorem dX6_add_9 : decode cX6_add 9 = .ok (.return_, 1) := by decide +kernel
theorem dX6_add_10 : decode cX6_add 10 = .ok (.aload_n 0, 1) := by decide +kernel
theorem dX6_add_11 : decode cX6_add 11 = .ok (.getfield 27, 3) := by decide +kernel
theorem dX6_add_14 : decode cX6_add 14 = .ok (.istore 4, 2) := by decide +kernel
theorem dX6_add_16 : decode cX6_add 16 = .ok (.iload 4, 2) := by decide +kernel
theorem dX6_add_18 : decode cX6_add 18 = .ok (.ifCond .le 70, 3) := by decide +kernel
theorem dX6_add_21 : decode cX6_add 21 = .ok (.aload_n 0, 1) := by decide +kernel
theorem dX6_add_22 : decode cX6_add 22 = .ok (.getfield 15, 3) := by decide +kernel
theorem dX6_add_25 : decode cX6_add 25 = .ok (.iload 4, 2) := by decide +kernel
theorem dX6_add_27 : decode cX6_add 27 = .ok (.iconst 1, 1) := by decide +kernel
theorem dX6_add_28 : decode cX6_add 28 = .ok (.isub, 1) := by decide +kernel
theorem dX6_add_29 : decode cX6_add 29 = .ok (.iaload, 1) := by decide +kernel
theorem dX6_add_30 : decode cX6_add 30 = .ok (.iload_n 2, 1) := by decide +kernel
theorem dX6_add_31 : decode cX6_add 31 = .ok (.if_icmp .le 57, 3) := by decide +kernel
theorem dX6_add_34 : decode cX6_add 34 = .ok (.aload_n 0, 1) := by decide +kernel
theorem dX6_add_35 : decode cX6_add 35 = .ok (.getfield 11, 3) := by decide +kernel
theorem dX6_add_38 : decode cX6_add 38 = .ok (.iload 4, 2) := by decide +kernel
theorem dX6_add_40 : decode cX6_add 40 = .ok (.aload_n 0, 1) := by decide +kernel
theorem dX6_add_41 : decode cX6_add 41 = .ok (.getfield 11, 3) := by decide +kernel
theorem dX6_add_44 : decode cX6_add 44 = .ok (.iload 4, 2) := by decide +kernel
theorem dX6_add_46 : decode cX6_add 46 = .ok (.iconst 1, 1) := by decide +kernel
theorem dX6_add_47 : decode cX6_add 47 = .ok (.isub, 1) := by decide +kernel
theorem dX6_add_48 : decode cX6_add 48 = .ok (.iaload, 1) := by decide +kernel
theorem dX6_add_49 : decode cX6_add 49 = .ok (.iastore, 1) := by decide +kernel
theorem dX6_add_50 : decode cX6_add 50 = .ok (.aload_n 0, 1) := by decide +kernel
theorem dX6_add_51 : decode cX6_add 51 = .ok (.getfield 15, 3) := by decide +kernel
theorem dX6_add_54 : decode cX6_add 54 = .ok (.iload 4, 2) := by decide +kernel
theorem dX6_add_56 : decode cX6_add 56 = .ok (.aload_n 0, 1) := by decide +kernel
theorem dX6_add_57 : decode cX6_add 57 = .ok (.getfield 15, 3) := by decide +kernel
theorem dX6_add_60 : decode cX6_add 60 = .ok (.iload 4, 2) := by decide +kernel
theorem dX6_add_62 : decode cX6_add 62 = .ok (.iconst 1, 1) := by decide +kernel
theorem dX6_add_63 : decode cX6_add 63 = .ok (.isub, 1) := by decide +kernel
theorem dX6_add_64 : decode cX6_add 64 = .ok (.iaload, 1) := by decide +kernel
theorem dX6_add_65 : decode cX6_add 65 = .ok (.iastore, 1) := by decide +kernel
theorem dX6_add_66 : decode cX6_add 66 = .ok (.aload_n 0, 1) := by decide +kernel
theorem dX6_add_67 : decode cX6_add 67 = .ok (.getfield 18, 3) := by decide +kernel
theorem dX6_add_70 : decode cX6_add 70 = .ok (.iload 4, 2) := by decide +kernel
theorem dX6_add_72 : decode cX6_add 72 = .ok (.aload_n 0, 1) := by decide +kernel
theorem dX6_add_73 : decode cX6_add 73 = .ok (.getfield 18, 3) := by decide +kernel
theorem dX6_add_76 : decode cX6_add 76 = .ok (.iload 4, 2) := by decide +kernel
theorem dX6_add_78 : decode cX6_add 78 = .ok (.iconst 1, 1) := by decide +kernel
theorem dX6_add_79 : decode cX6_add 79 = .ok (.isub, 1) := by decide +kernel
theorem dX6_add_80 : decode cX6_add 80 = .ok (.iaload, 1) := by decide +kernel
theorem dX6_add_81 : decode cX6_add 81 = .ok (.iastore, 1) := by decide +kernel
theorem dX6_add_82 : decode cX6_add 82 = .ok (.iinc 4 (-1), 3) := by decide +kernel
theorem dX6_add_85 : decode cX6_add 85 = .ok (.goto (-69), 3) := by decide +kernel
theorem dX6_add_88 : decode cX6_add 88 = .ok (.aload_n 0, 1) := by decide +kernel
theorem dX6_add_89 : decode cX6_add 89 = .ok (.getfield 11, 3) := by decide +kernel
theorem dX6_add_92 : decode cX6_add 92 = .ok (.iload 4, 2) := by decide +kernel
theorem dX6_add_94 : decode cX6_add 94 = .ok (.iload_n 1, 1) := by decide +kernel
theorem dX6_add_95 : decode cX6_add 95 = .ok (.iastore, 1) := by decide +kernel
theorem dX6_add_96 : decode cX6_add 96 = .ok (.aload_n 0, 1) := by decide +kernel
theorem dX6_add_97 : decode cX6_add 97 = .ok (.getfield 15, 3) := by decide +kernel
theorem dX6_add_100 : decode cX6_add 100 = .ok (.iload 4, 2) := by decide +kernel
theorem dX6_add_102 : decode cX6_add 102 = .ok (.iload_n 2, 1) := by decide +kernel
theorem dX6_add_103 : decode cX6_add 103 = .ok (.iastore, 1) := by decide +kernel
theorem dX6_add_104 : decode cX6_add 104 = .ok (.aload_n 0, 1) := by decide +kernel
theorem dX6_add_105 : decode cX6_add 105 = .ok (.getfield 18, 3) := by decide +kernel
theorem dX6_add_108 : decode cX6_add 108 = .ok (.iload 4, 2) := by decide +kernel
theorem dX6_add_110 : decode cX6_add 110 = .ok (.iload_n 3, 1) := by decide +kernel
theorem dX6_add_111 : decode cX6_add 111 = .ok (.iastore, 1) := by decide +kernel
theorem dX6_add_112 : decode cX6_add 112 = .ok (.aload_n 0, 1) := by decide +kernel
theorem dX6_add_113 : decode cX6_add 113 = .ok (.dup, 1) := by decide +kernel
theorem dX6_add_114 : decode cX6_add 114 = .ok (.getfield 27, 3) := by decide +kernel
theorem dX6_add_117 : decode cX6_add 117 = .ok (.iconst 1, 1) := by decide +kernel
theorem dX6_add_118 : decode cX6_add 118 = .ok (.iadd, 1) := by decide +kernel
theorem dX6_add_119 : decode cX6_add 119 = .ok (.putfield 27, 3) := by decide +kernel
theorem dX6_add_122 : decode cX6_add 122 = .ok (.return_, 1) := by decide +kernel
theorem dX6_share_0 : decode cX6_share 0 = .ok (.aload_n 1, 1) := by decide +kernel
theorem dX6_share_1 : decode cX6_share 1 = .ok (.getfield 31, 3) := by decide +kernel
theorem dX6_share_4 : decode cX6_share 4 = .ok (.iconst 0, 1) := by decide +kernel
theorem dX6_share_5 : decode cX6_share 5 = .ok (.aload_n 0, 1) := by decide +kernel
theorem dX6_share_6 : decode cX6_share 6 = .ok (.getfield 24, 3) := by decide +kernel
theorem dX6_share_9 : decode cX6_share 9 = .ok (.iconst 0, 1) := by decide +kernel
theorem dX6_share_10 : decode cX6_share 10 = .ok (.aload_n 1, 1) := by decide +kernel
theorem dX6_share_11 : decode cX6_share 11 = .ok (.getfield 36, 3) := by decide +kernel
theorem dX6_share_14 : decode cX6_share 14 = .ok (.invokestatic 37, 3) := by decide +kernel
theorem dX6_share_17 : decode cX6_share 17 = .ok (.iconst 1, 1) := by decide +kernel
theorem dX6_share_18 : decode cX6_share 18 = .ok (.istore_n 2, 1) := by decide +kernel
theorem dX6_share_19 : decode cX6_share 19 = .ok (.iconst 0, 1) := by decide +kernel
theorem dX6_share_20 : decode cX6_share 20 = .ok (.istore_n 3, 1) := by decide +kernel
theorem dX6_share_21 : decode cX6_share 21 = .ok (.iload_n 3, 1) := by decide +kernel
theorem dX6_share_22 : decode cX6_share 22 = .ok (.aload_n 0, 1) := by decide +kernel
theorem dX6_share_23 : decode cX6_share 23 = .ok (.getfield 27, 3) := by decide +kernel
theorem dX6_share_26 : decode cX6_share 26 = .ok (.if_icmp .ge 52, 3) := by decide +kernel
theorem dX6_share_29 : decode cX6_share 29 = .ok (.aload_n 0, 1) := by decide +kernel
theorem dX6_share_30 : decode cX6_share 30 = .ok (.getfield 21, 3) := by decide +kernel
theorem dX6_share_33 : decode cX6_share 33 = .ok (.iload_n 3, 1) := by decide +kernel
theorem dX6_share_34 : decode cX6_share 34 = .ok (.aload_n 0, 1) := by decide +kernel
theorem dX6_share_35 : decode cX6_share 35 = .ok (.iload_n 3, 1) := by decide +kernel
theorem dX6_share_36 : decode cX6_share 36 = .ok (.aload_n 1, 1) := by decide +kernel
theorem dX6_share_37 : decode cX6_share 37 = .ok (.invokevirtual 43, 3) := by decide +kernel
theorem dX6_share_40 : decode cX6_share 40 = .ok (.iastore, 1) := by decide +kernel
theorem dX6_share_41 : decode cX6_share 41 = .ok (.aload_n 0, 1) := by decide +kernel
theorem dX6_share_42 : decode cX6_share 42 = .ok (.getfield 21, 3) := by decide +kernel
theorem dX6_share_45 : decode cX6_share 45 = .ok (.iload_n 3, 1) := by decide +kernel
theorem dX6_share_46 : decode cX6_share 46 = .ok (.iaload, 1) := by decide +kernel
theorem dX6_share_47 : decode cX6_share 47 = .ok (.bipush (-9), 2) := by decide +kernel
theorem dX6_share_49 : decode cX6_share 49 = .ok (.if_icmp .ne 8, 3) := by decide +kernel
theorem dX6_share_52 : decode cX6_share 52 = .ok (.iconst 0, 1) := by decide +kernel
theorem dX6_share_53 : decode cX6_share 53 = .ok (.istore_n 2, 1) := by decide +kernel
theorem dX6_share_54 : decode cX6_share 54 = .ok (.goto 18, 3) := by decide +kernel
theorem dX6_share_57 : decode cX6_share 57 = .ok (.aload_n 0, 1) := by decide +kernel
theorem dX6_share_58 : decode cX6_share 58 = .ok (.getfield 24, 3) := by decide +kernel
theorem dX6_share_61 : decode cX6_share 61 = .ok (.aload_n 0, 1) := by decide +kernel
theorem dX6_share_62 : decode cX6_share 62 = .ok (.getfield 21, 3) := by decide +kernel
theorem dX6_share_65 : decode cX6_share 65 = .ok (.iload_n 3, 1) := by decide +kernel
theorem dX6_share_66 : decode cX6_share 66 = .ok (.iaload, 1) := by decide +kernel
theorem dX6_share_67 : decode cX6_share 67 = .ok (.dup2, 1) := by decide +kernel
theorem dX6_share_68 : decode cX6_share 68 = .ok (.iaload, 1) := by decide +kernel
theorem dX6_share_69 : decode cX6_share 69 = .ok (.iconst 1, 1) := by decide +kernel
theorem dX6_share_70 : decode cX6_share 70 = .ok (.isub, 1) := by decide +kernel
theorem dX6_share_71 : decode cX6_share 71 = .ok (.iastore, 1) := by decide +kernel
theorem dX6_share_72 : decode cX6_share 72 = .ok (.iinc 3 1, 3) := by decide +kernel
theorem dX6_share_75 : decode cX6_share 75 = .ok (.goto (-54), 3) := by decide +kernel
theorem dX6_share_78 : decode cX6_share 78 = .ok (.iload_n 2, 1) := by decide +kernel
theorem dX6_share_79 : decode cX6_share 79 = .ok (.ireturn, 1) := by decide +kernel
theorem dX6_rightFor_0 : decode cX6_rightFor 0 = .ok (.bipush (-9), 2) := by decide +kernel
theorem dX6_rightFor_2 : decode cX6_rightFor 2 = .ok (.istore_n 3, 1) := by decide +kernel
theorem dX6_rightFor_3 : decode cX6_rightFor 3 = .ok (.iconst 0, 1) := by decide +kernel
theorem dX6_rightFor_4 : decode cX6_rightFor 4 = .ok (.istore 4, 2) := by decide +kernel
theorem dX6_rightFor_6 : decode cX6_rightFor 6 = .ok (.iload 4, 2) := by decide +kernel
theorem dX6_rightFor_8 : decode cX6_rightFor 8 = .ok (.aload_n 2, 1) := by decide +kernel
theorem dX6_rightFor_9 : decode cX6_rightFor 9 = .ok (.getfield 36, 3) := by decide +kernel
theorem dX6_rightFor_12 : decode cX6_rightFor 12 = .ok (.if_icmp .ge 71, 3) := by decide +kernel
theorem dX6_rightFor_15 : decode cX6_rightFor 15 = .ok (.aload_n 0, 1) := by decide +kernel
theorem dX6_rightFor_16 : decode cX6_rightFor 16 = .ok (.getfield 24, 3) := by decide +kernel
theorem dX6_rightFor_19 : decode cX6_rightFor 19 = .ok (.iload 4, 2) := by decide +kernel
theorem dX6_rightFor_21 : decode cX6_rightFor 21 = .ok (.iaload, 1) := by decide +kernel
theorem dX6_rightFor_22 : decode cX6_rightFor 22 = .ok (.ifCond .le 55, 3) := by decide +kernel
theorem dX6_rightFor_25 : decode cX6_rightFor 25 = .ok (.aload_n 2, 1) := by decide +kernel
theorem dX6_rightFor_26 : decode cX6_rightFor 26 = .ok (.iload 4, 2) := by decide +kernel
theorem dX6_rightFor_28 : decode cX6_rightFor 28 = .ok (.aload_n 0, 1) := by decide +kernel
theorem dX6_rightFor_29 : decode cX6_rightFor 29 = .ok (.getfield 11, 3) := by decide +kernel
theorem dX6_rightFor_32 : decode cX6_rightFor 32 = .ok (.iload_n 1, 1) := by decide +kernel
theorem dX6_rightFor_33 : decode cX6_rightFor 33 = .ok (.iaload, 1) := by decide +kernel
theorem dX6_rightFor_34 : decode cX6_rightFor 34 = .ok (.aload_n 0, 1) := by decide +kernel
theorem dX6_rightFor_35 : decode cX6_rightFor 35 = .ok (.getfield 15, 3) := by decide +kernel
theorem dX6_rightFor_38 : decode cX6_rightFor 38 = .ok (.iload_n 1, 1) := by decide +kernel
theorem dX6_rightFor_39 : decode cX6_rightFor 39 = .ok (.iaload, 1) := by decide +kernel
theorem dX6_rightFor_40 : decode cX6_rightFor 40 = .ok (.aload_n 0, 1) := by decide +kernel
theorem dX6_rightFor_41 : decode cX6_rightFor 41 = .ok (.getfield 18, 3) := by decide +kernel
theorem dX6_rightFor_44 : decode cX6_rightFor 44 = .ok (.iload_n 1, 1) := by decide +kernel
theorem dX6_rightFor_45 : decode cX6_rightFor 45 = .ok (.iaload, 1) := by decide +kernel
theorem dX6_rightFor_46 : decode cX6_rightFor 46 = .ok (.invokevirtual 47, 3) := by decide +kernel
theorem dX6_rightFor_49 : decode cX6_rightFor 49 = .ok (.ifCond .eq 28, 3) := by decide +kernel
theorem dX6_rightFor_52 : decode cX6_rightFor 52 = .ok (.iload_n 3, 1) := by decide +kernel
theorem dX6_rightFor_53 : decode cX6_rightFor 53 = .ok (.bipush (-9), 2) := by decide +kernel
theorem dX6_rightFor_55 : decode cX6_rightFor 55 = .ok (.if_icmp .eq 19, 3) := by decide +kernel
theorem dX6_rightFor_58 : decode cX6_rightFor 58 = .ok (.aload_n 2, 1) := by decide +kernel
theorem dX6_rightFor_59 : decode cX6_rightFor 59 = .ok (.getfield 51, 3) := by decide +kernel
theorem dX6_rightFor_62 : decode cX6_rightFor 62 = .ok (.iload 4, 2) := by decide +kernel
theorem dX6_rightFor_64 : decode cX6_rightFor 64 = .ok (.iaload, 1) := by decide +kernel
theorem dX6_rightFor_65 : decode cX6_rightFor 65 = .ok (.aload_n 2, 1) := by decide +kernel
theorem dX6_rightFor_66 : decode cX6_rightFor 66 = .ok (.getfield 51, 3) := by decide +kernel
theorem dX6_rightFor_69 : decode cX6_rightFor 69 = .ok (.iload_n 3, 1) := by decide +kernel
theorem dX6_rightFor_70 : decode cX6_rightFor 70 = .ok (.iaload, 1) := by decide +kernel
theorem dX6_rightFor_71 : decode cX6_rightFor 71 = .ok (.if_icmp .ge 6, 3) := by decide +kernel
theorem dX6_rightFor_74 : decode cX6_rightFor 74 = .ok (.iload 4, 2) := by decide +kernel
theorem dX6_rightFor_76 : decode cX6_rightFor 76 = .ok (.istore_n 3, 1) := by decide +kernel
theorem dX6_rightFor_77 : decode cX6_rightFor 77 = .ok (.iinc 4 1, 3) := by decide +kernel
theorem dX6_rightFor_80 : decode cX6_rightFor 80 = .ok (.goto (-74), 3) := by decide +kernel
theorem dX6_rightFor_83 : decode cX6_rightFor 83 = .ok (.iload_n 3, 1) := by decide +kernel
theorem dX6_rightFor_84 : decode cX6_rightFor 84 = .ok (.ireturn, 1) := by decide +kernel
theorem dX7_init_0 : decode cX7_init 0 = .ok (.aload_n 0, 1) := by decide +kernel
theorem dX7_init_1 : decode cX7_init 1 = .ok (.invokespecial 1, 3) := by decide +kernel
theorem dX7_init_4 : decode cX7_init 4 = .ok (.aload_n 0, 1) := by decide +kernel
theorem dX7_init_5 : decode cX7_init 5 = .ok (.new 7, 3) := by decide +kernel
theorem dX7_init_8 : decode cX7_init 8 = .ok (.dup, 1) := by decide +kernel
theorem dX7_init_9 : decode cX7_init 9 = .ok (.invokespecial 9, 3) := by decide +kernel
theorem dX7_init_12 : decode cX7_init 12 = .ok (.putfield 10, 3) := by decide +kernel
theorem dX7_init_15 : decode cX7_init 15 = .ok (.aload_n 0, 1) := by decide +kernel
theorem dX7_init_16 : decode cX7_init 16 = .ok (.new 16, 3) := by decide +kernel
theorem dX7_init_19 : decode cX7_init 19 = .ok (.dup, 1) := by decide +kernel
theorem dX7_init_20 : decode cX7_init 20 = .ok (.invokespecial 18, 3) := by decide +kernel
theorem dX7_init_23 : decode cX7_init 23 = .ok (.putfield 19, 3) := by decide +kernel
theorem dX7_init_26 : decode cX7_init 26 = .ok (.aload_n 0, 1) := by decide +kernel
theorem dX7_init_27 : decode cX7_init 27 = .ok (.new 23, 3) := by decide +kernel
theorem dX7_init_30 : decode cX7_init 30 = .ok (.dup, 1) := by decide +kernel
theorem dX7_init_31 : decode cX7_init 31 = .ok (.invokespecial 25, 3) := by decide +kernel
theorem dX7_init_34 : decode cX7_init 34 = .ok (.putfield 26, 3) := by decide +kernel
theorem dX7_init_37 : decode cX7_init 37 = .ok (.aload_n 0, 1) := by decide +kernel
theorem dX7_init_38 : decode cX7_init 38 = .ok (.new 30, 3) := by decide +kernel
theorem dX7_init_41 : decode cX7_init 41 = .ok (.dup, 1) := by decide +kernel
theorem dX7_init_42 : decode cX7_init 42 = .ok (.invokespecial 32, 3) := by decide +kernel
theorem dX7_init_45 : decode cX7_init 45 = .ok (.putfield 33, 3) := by decide +kernel
theorem dX7_init_48 : decode cX7_init 48 = .ok (.return_, 1) := by decide +kernel
theorem dX7_copyFrom_0 : decode cX7_copyFrom 0 = .ok (.aload_n 0, 1) := by decide +kernel
theorem dX7_copyFrom_1 : decode cX7_copyFrom 1 = .ok (.getfield 10, 3) := by decide +kernel
theorem dX7_copyFrom_4 : decode cX7_copyFrom 4 = .ok (.aload_n 1, 1) := by decide +kernel
theorem dX7_copyFrom_5 : decode cX7_copyFrom 5 = .ok (.getfield 10, 3) := by decide +kernel
theorem dX7_copyFrom_8 : decode cX7_copyFrom 8 = .ok (.invokevirtual 37, 3) := by decide +kernel
theorem dX7_copyFrom_11 : decode cX7_copyFrom 11 = .ok (.aload_n 0, 1) := by decide +kernel
theorem dX7_copyFrom_12 : decode cX7_copyFrom 12 = .ok (.getfield 19, 3) := by decide +kernel
theorem dX7_copyFrom_15 : decode cX7_copyFrom 15 = .ok (.aload_n 1, 1) := by decide +kernel
theorem dX7_copyFrom_16 : decode cX7_copyFrom 16 = .ok (.getfield 19, 3) := by decide +kernel
theorem dX7_copyFrom_19 : decode cX7_copyFrom 19 = .ok (.invokevirtual 41, 3) := by decide +kernel
theorem dX7_copyFrom_22 : decode cX7_copyFrom 22 = .ok (.aload_n 0, 1) := by decide +kernel
theorem dX7_copyFrom_23 : decode cX7_copyFrom 23 = .ok (.getfield 26, 3) := by decide +kernel
theorem dX7_copyFrom_26 : decode cX7_copyFrom 26 = .ok (.aload_n 1, 1) := by decide +kernel
theorem dX7_copyFrom_27 : decode cX7_copyFrom 27 = .ok (.getfield 26, 3) := by decide +kernel
theorem dX7_copyFrom_30 : decode cX7_copyFrom 30 = .ok (.invokevirtual 44, 3) := by decide +kernel
theorem dX7_copyFrom_33 : decode cX7_copyFrom 33 = .ok (.aload_n 0, 1) := by decide +kernel
theorem dX7_copyFrom_34 : decode cX7_copyFrom 34 = .ok (.getfield 33, 3) := by decide +kernel
theorem dX7_copyFrom_37 : decode cX7_copyFrom 37 = .ok (.aload_n 1, 1) := by decide +kernel
theorem dX7_copyFrom_38 : decode cX7_copyFrom 38 = .ok (.getfield 33, 3) := by decide +kernel
theorem dX7_copyFrom_41 : decode cX7_copyFrom 41 = .ok (.invokevirtual 47, 3) := by decide +kernel
theorem dX7_copyFrom_44 : decode cX7_copyFrom 44 = .ok (.return_, 1) := by decide +kernel
theorem dX8_init_0 : decode cX8_init 0 = .ok (.aload_n 0, 1) := by decide +kernel
theorem dX8_init_1 : decode cX8_init 1 = .ok (.invokespecial 3, 3) := by decide +kernel
theorem dX8_init_4 : decode cX8_init 4 = .ok (.aload_n 0, 1) := by decide +kernel
theorem dX8_init_5 : decode cX8_init 5 = .ok (.new 9, 3) := by decide +kernel
theorem dX8_init_8 : decode cX8_init 8 = .ok (.dup, 1) := by decide +kernel
theorem dX8_init_9 : decode cX8_init 9 = .ok (.invokespecial 11, 3) := by decide +kernel
theorem dX8_init_12 : decode cX8_init 12 = .ok (.putfield 12, 3) := by decide +kernel
theorem dX8_init_15 : decode cX8_init 15 = .ok (.aload_n 0, 1) := by decide +kernel
theorem dX8_init_16 : decode cX8_init 16 = .ok (.new 16, 3) := by decide +kernel
theorem dX8_init_19 : decode cX8_init 19 = .ok (.dup, 1) := by decide +kernel
theorem dX8_init_20 : decode cX8_init 20 = .ok (.invokespecial 18, 3) := by decide +kernel
theorem dX8_init_23 : decode cX8_init 23 = .ok (.putfield 19, 3) := by decide +kernel
theorem dX8_init_26 : decode cX8_init 26 = .ok (.aload_n 0, 1) := by decide +kernel
theorem dX8_init_27 : decode cX8_init 27 = .ok (.new 23, 3) := by decide +kernel
theorem dX8_init_30 : decode cX8_init 30 = .ok (.dup, 1) := by decide +kernel
theorem dX8_init_31 : decode cX8_init 31 = .ok (.invokespecial 25, 3) := by decide +kernel
theorem dX8_init_34 : decode cX8_init 34 = .ok (.putfield 26, 3) := by decide +kernel
theorem dX8_init_37 : decode cX8_init 37 = .ok (.aload_n 0, 1) := by decide +kernel
theorem dX8_init_38 : decode cX8_init 38 = .ok (.new 30, 3) := by decide +kernel
theorem dX8_init_41 : decode cX8_init 41 = .ok (.dup, 1) := by decide +kernel
theorem dX8_init_42 : decode cX8_init 42 = .ok (.invokespecial 32, 3) := by decide +kernel
theorem dX8_init_45 : decode cX8_init 45 = .ok (.putfield 33, 3) := by decide +kernel
theorem dX8_init_48 : decode cX8_init 48 = .ok (.aload_n 0, 1) := by decide +kernel
theorem dX8_init_49 : decode cX8_init 49 = .ok (.new 37, 3) := by decide +kernel
theorem dX8_init_52 : decode cX8_init 52 = .ok (.dup, 1) := by decide +kernel
theorem dX8_init_53 : decode cX8_init 53 = .ok (.invokespecial 39, 3) := by decide +kernel
theorem dX8_init_56 : decode cX8_init 56 = .ok (.putfield 40, 3) := by decide +kernel
theorem dX8_init_59 : decode cX8_init 59 = .ok (.return_, 1) := by decide +kernel
theorem dX8_addProgramme_0 : decode cX8_addProgramme 0 = .ok (.iload_n 1, 1) := by decide +kernel
theorem dX8_addProgramme_1 : decode cX8_addProgramme 1 = .ok (.iconst 0, 1) := by decide +kernel
theorem dX8_addProgramme_2 : decode cX8_addProgramme 2 = .ok (.iconst 3, 1) := by decide +kernel
theorem dX8_addProgramme_3 : decode cX8_addProgramme 3 = .ok (.invokestatic 44, 3) := by decide +kernel
theorem dX8_addProgramme_6 : decode cX8_addProgramme 6 = .ok (.ifCond .eq 23, 3) := by decide +kernel
theorem dX8_addProgramme_9 : decode cX8_addProgramme 9 = .ok (.iload_n 2, 1) := by decide +kernel
theorem dX8_addProgramme_10 : decode cX8_addProgramme 10 = .ok (.iconst 1, 1) := by decide +kernel
theorem dX8_addProgramme_11 : decode cX8_addProgramme 11 = .ok (.sipush 240, 3) := by decide +kernel
theorem dX8_addProgramme_14 : decode cX8_addProgramme 14 = .ok (.invokestatic 44, 3) := by decide +kernel
theorem dX8_addProgramme_17 : decode cX8_addProgramme 17 = .ok (.ifCond .eq 12, 3) := by decide +kernel
theorem dX8_addProgramme_20 : decode cX8_addProgramme 20 = .ok (.iload_n 3, 1) := by decide +kernel
theorem dX8_addProgramme_21 : decode cX8_addProgramme 21 = .ok (.iconst 0, 1) := by decide +kernel
theorem dX8_addProgramme_22 : decode cX8_addProgramme 22 = .ok (.iconst 3, 1) := by decide +kernel
theorem dX8_addProgramme_23 : decode cX8_addProgramme 23 = .ok (.invokestatic 44, 3) := by decide +kernel
theorem dX8_addProgramme_26 : decode cX8_addProgramme 26 = .ok (.ifCond .ne 5, 3) := by decide +kernel
theorem dX8_addProgramme_29 : decode cX8_addProgramme 29 = .ok (.iconst (-1), 1) := by decide +kernel
theorem dX8_addProgramme_30 : decode cX8_addProgramme 30 = .ok (.ireturn, 1) := by decide +kernel
theorem dX8_addProgramme_31 : decode cX8_addProgramme 31 = .ok (.aload_n 0, 1) := by decide +kernel
theorem dX8_addProgramme_32 : decode cX8_addProgramme 32 = .ok (.getfield 12, 3) := by decide +kernel
theorem dX8_addProgramme_35 : decode cX8_addProgramme 35 = .ok (.getfield 48, 3) := by decide +kernel
theorem dX8_addProgramme_38 : decode cX8_addProgramme 38 = .ok (.getfield 52, 3) := by decide +kernel
theorem dX8_addProgramme_41 : decode cX8_addProgramme 41 = .ok (.bipush 16, 2) := by decide +kernel
theorem dX8_addProgramme_43 : decode cX8_addProgramme 43 = .ok (.if_icmp .lt 6, 3) := by decide +kernel
theorem dX8_addProgramme_46 : decode cX8_addProgramme 46 = .ok (.bipush (-3), 2) := by decide +kernel
theorem dX8_addProgramme_48 : decode cX8_addProgramme 48 = .ok (.ireturn, 1) := by decide +kernel
theorem dX8_addProgramme_49 : decode cX8_addProgramme 49 = .ok (.aload_n 0, 1) := by decide +kernel
theorem dX8_addProgramme_50 : decode cX8_addProgramme 50 = .ok (.getfield 19, 3) := by decide +kernel
theorem dX8_addProgramme_53 : decode cX8_addProgramme 53 = .ok (.aload_n 0, 1) := by decide +kernel
theorem dX8_addProgramme_54 : decode cX8_addProgramme 54 = .ok (.getfield 12, 3) := by decide +kernel
theorem dX8_addProgramme_57 : decode cX8_addProgramme 57 = .ok (.invokevirtual 58, 3) := by decide +kernel
theorem dX8_addProgramme_60 : decode cX8_addProgramme 60 = .ok (.aload_n 0, 1) := by decide +kernel
theorem dX8_addProgramme_61 : decode cX8_addProgramme 61 = .ok (.getfield 12, 3) := by decide +kernel
theorem dX8_addProgramme_64 : decode cX8_addProgramme 64 = .ok (.getfield 48, 3) := by decide +kernel
theorem dX8_addProgramme_67 : decode cX8_addProgramme 67 = .ok (.iload_n 1, 1) := by decide +kernel
theorem dX8_addProgramme_68 : decode cX8_addProgramme 68 = .ok (.iload_n 2, 1) := by decide +kernel
theorem dX8_addProgramme_69 : decode cX8_addProgramme 69 = .ok (.iload_n 3, 1) := by decide +kernel
theorem dX8_addProgramme_70 : decode cX8_addProgramme 70 = .ok (.invokevirtual 62, 3) := by decide +kernel
theorem dX8_addProgramme_73 : decode cX8_addProgramme 73 = .ok (.ireturn, 1) := by decide +kernel
theorem dX8_addRight_0 : decode cX8_addRight 0 = .ok (.aload_n 0, 1) := by decide +kernel
theorem dX8_addRight_1 : decode cX8_addRight 1 = .ok (.iload_n 1, 1) := by decide +kernel
theorem dX8_addRight_2 : decode cX8_addRight 2 = .ok (.invokevirtual 66, 3) := by decide +kernel
theorem dX8_addRight_5 : decode cX8_addRight 5 = .ok (.ifCond .eq 25, 3) := by decide +kernel
theorem dX8_addRight_8 : decode cX8_addRight 8 = .ok (.iload_n 2, 1) := by decide +kernel
theorem dX8_addRight_9 : decode cX8_addRight 9 = .ok (.iload_n 3, 1) := by decide +kernel
theorem dX8_addRight_10 : decode cX8_addRight 10 = .ok (.sipush 10080, 3) := by decide +kernel
theorem dX8_addRight_13 : decode cX8_addRight 13 = .ok (.invokestatic 70, 3) := by decide +kernel
theorem dX8_addRight_16 : decode cX8_addRight 16 = .ok (.ifCond .eq 14, 3) := by decide +kernel
theorem dX8_addRight_19 : decode cX8_addRight 19 = .ok (.iload 4, 2) := by decide +kernel
theorem dX8_addRight_21 : decode cX8_addRight 21 = .ok (.iconst 1, 1) := by decide +kernel
theorem dX8_addRight_22 : decode cX8_addRight 22 = .ok (.bipush 50, 2) := by decide +kernel
theorem dX8_addRight_24 : decode cX8_addRight 24 = .ok (.invokestatic 44, 3) := by decide +kernel
theorem dX8_addRight_27 : decode cX8_addRight 27 = .ok (.ifCond .ne 5, 3) := by decide +kernel
theorem dX8_addRight_30 : decode cX8_addRight 30 = .ok (.iconst (-1), 1) := by decide +kernel
theorem dX8_addRight_31 : decode cX8_addRight 31 = .ok (.ireturn, 1) := by decide +kernel
theorem dX8_addRight_32 : decode cX8_addRight 32 = .ok (.aload_n 0, 1) := by decide +kernel
theorem dX8_addRight_33 : decode cX8_addRight 33 = .ok (.getfield 12, 3) := by decide +kernel
theorem dX8_addRight_36 : decode cX8_addRight 36 = .ok (.getfield 73, 3) := by decide +kernel
theorem dX8_addRight_39 : decode cX8_addRight 39 = .ok (.getfield 77, 3) := by decide +kernel
theorem dX8_addRight_42 : decode cX8_addRight 42 = .ok (.bipush 30, 2) := by decide +kernel
theorem dX8_addRight_44 : decode cX8_addRight 44 = .ok (.if_icmp .lt 6, 3) := by decide +kernel
theorem dX8_addRight_47 : decode cX8_addRight 47 = .ok (.bipush (-3), 2) := by decide +kernel
theorem dX8_addRight_49 : decode cX8_addRight 49 = .ok (.ireturn, 1) := by decide +kernel
theorem dX8_addRight_50 : decode cX8_addRight 50 = .ok (.aload_n 0, 1) := by decide +kernel
theorem dX8_addRight_51 : decode cX8_addRight 51 = .ok (.getfield 19, 3) := by decide +kernel
theorem dX8_addRight_54 : decode cX8_addRight 54 = .ok (.aload_n 0, 1) := by decide +kernel
theorem dX8_addRight_55 : decode cX8_addRight 55 = .ok (.getfield 12, 3) := by decide +kernel
theorem dX8_addRight_58 : decode cX8_addRight 58 = .ok (.invokevirtual 58, 3) := by decide +kernel
theorem dX8_addRight_61 : decode cX8_addRight 61 = .ok (.aload_n 0, 1) := by decide +kernel
theorem dX8_addRight_62 : decode cX8_addRight 62 = .ok (.getfield 12, 3) := by decide +kernel
theorem dX8_addRight_65 : decode cX8_addRight 65 = .ok (.getfield 73, 3) := by decide +kernel
theorem dX8_addRight_68 : decode cX8_addRight 68 = .ok (.iload_n 1, 1) := by decide +kernel
theorem dX8_addRight_69 : decode cX8_addRight 69 = .ok (.iload_n 2, 1) := by decide +kernel
theorem dX8_addRight_70 : decode cX8_addRight 70 = .ok (.iload_n 3, 1) := by decide +kernel
theorem dX8_addRight_71 : decode cX8_addRight 71 = .ok (.iload 4, 2) := by decide +kernel
theorem dX8_addRight_73 : decode cX8_addRight 73 = .ok (.invokevirtual 80, 3) := by decide +kernel
theorem dX8_addRight_76 : decode cX8_addRight 76 = .ok (.ireturn, 1) := by decide +kernel
theorem dX8_addBlackout_0 : decode cX8_addBlackout 0 = .ok (.iload_n 1, 1) := by decide +kernel
theorem dX8_addBlackout_1 : decode cX8_addBlackout 1 = .ok (.iload_n 2, 1) := by decide +kernel
theorem dX8_addBlackout_2 : decode cX8_addBlackout 2 = .ok (.sipush 1440, 3) := by decide +kernel
theorem dX8_addBlackout_5 : decode cX8_addBlackout 5 = .ok (.invokestatic 70, 3) := by decide +kernel
theorem dX8_addBlackout_8 : decode cX8_addBlackout 8 = .ok (.ifCond .eq 12, 3) := by decide +kernel
theorem dX8_addBlackout_11 : decode cX8_addBlackout 11 = .ok (.iload_n 3, 1) := by decide +kernel
theorem dX8_addBlackout_12 : decode cX8_addBlackout 12 = .ok (.iconst 0, 1) := by decide +kernel
theorem dX8_addBlackout_13 : decode cX8_addBlackout 13 = .ok (.iconst 3, 1) := by decide +kernel
theorem dX8_addBlackout_14 : decode cX8_addBlackout 14 = .ok (.invokestatic 44, 3) := by decide +kernel
theorem dX8_addBlackout_17 : decode cX8_addBlackout 17 = .ok (.ifCond .ne 5, 3) := by decide +kernel
theorem dX8_addBlackout_20 : decode cX8_addBlackout 20 = .ok (.iconst (-1), 1) := by decide +kernel
theorem dX8_addBlackout_21 : decode cX8_addBlackout 21 = .ok (.ireturn, 1) := by decide +kernel
theorem dX8_addBlackout_22 : decode cX8_addBlackout 22 = .ok (.aload_n 0, 1) := by decide +kernel
theorem dX8_addBlackout_23 : decode cX8_addBlackout 23 = .ok (.getfield 12, 3) := by decide +kernel
theorem dX8_addBlackout_26 : decode cX8_addBlackout 26 = .ok (.getfield 83, 3) := by decide +kernel
theorem dX8_addBlackout_29 : decode cX8_addBlackout 29 = .ok (.getfield 87, 3) := by decide +kernel
theorem dX8_addBlackout_32 : decode cX8_addBlackout 32 = .ok (.bipush 10, 2) := by decide +kernel
theorem dX8_addBlackout_34 : decode cX8_addBlackout 34 = .ok (.if_icmp .lt 6, 3) := by decide +kernel
theorem dX8_addBlackout_37 : decode cX8_addBlackout 37 = .ok (.bipush (-3), 2) := by decide +kernel
theorem dX8_addBlackout_39 : decode cX8_addBlackout 39 = .ok (.ireturn, 1) := by decide +kernel
theorem dX8_addBlackout_40 : decode cX8_addBlackout 40 = .ok (.aload_n 0, 1) := by decide +kernel
theorem dX8_addBlackout_41 : decode cX8_addBlackout 41 = .ok (.getfield 19, 3) := by decide +kernel
theorem dX8_addBlackout_44 : decode cX8_addBlackout 44 = .ok (.aload_n 0, 1) := by decide +kernel
theorem dX8_addBlackout_45 : decode cX8_addBlackout 45 = .ok (.getfield 12, 3) := by decide +kernel
theorem dX8_addBlackout_48 : decode cX8_addBlackout 48 = .ok (.invokevirtual 58, 3) := by decide +kernel
theorem dX8_addBlackout_51 : decode cX8_addBlackout 51 = .ok (.aload_n 0, 1) := by decide +kernel
theorem dX8_addBlackout_52 : decode cX8_addBlackout 52 = .ok (.getfield 12, 3) := by decide +kernel
theorem dX8_addBlackout_55 : decode cX8_addBlackout 55 = .ok (.getfield 83, 3) := by decide +kernel
theorem dX8_addBlackout_58 : decode cX8_addBlackout 58 = .ok (.iload_n 1, 1) := by decide +kernel
theorem dX8_addBlackout_59 : decode cX8_addBlackout 59 = .ok (.iload_n 2, 1) := by decide +kernel
theorem dX8_addBlackout_60 : decode cX8_addBlackout 60 = .ok (.iload_n 3, 1) := by decide +kernel
theorem dX8_addBlackout_61 : decode cX8_addBlackout 61 = .ok (.invokevirtual 90, 3) := by decide +kernel
theorem dX8_addBlackout_64 : decode cX8_addBlackout 64 = .ok (.ireturn, 1) := by decide +kernel
theorem dX8_place_0 : decode cX8_place 0 = .ok (.aload_n 0, 1) := by decide +kernel
theorem dX8_place_1 : decode cX8_place 1 = .ok (.iload_n 1, 1) := by decide +kernel
theorem dX8_place_2 : decode cX8_place 2 = .ok (.iload_n 2, 1) := by decide +kernel
theorem dX8_place_3 : decode cX8_place 3 = .ok (.invokevirtual 91, 3) := by decide +kernel
theorem dX8_place_6 : decode cX8_place 6 = .ok (.istore 4, 2) := by decide +kernel
theorem dX8_place_8 : decode cX8_place 8 = .ok (.iload 4, 2) := by decide +kernel
theorem dX8_place_10 : decode cX8_place 10 = .ok (.ifCond .eq 6, 3) := by decide +kernel
theorem dX8_place_13 : decode cX8_place 13 = .ok (.iload 4, 2) := by decide +kernel
theorem dX8_place_15 : decode cX8_place 15 = .ok (.ireturn, 1) := by decide +kernel
theorem dX8_place_16 : decode cX8_place 16 = .ok (.aload_n 0, 1) := by decide +kernel
theorem dX8_place_17 : decode cX8_place 17 = .ok (.getfield 19, 3) := by decide +kernel
theorem dX8_place_20 : decode cX8_place 20 = .ok (.aload_n 0, 1) := by decide +kernel
theorem dX8_place_21 : decode cX8_place 21 = .ok (.getfield 12, 3) := by decide +kernel
theorem dX8_place_24 : decode cX8_place 24 = .ok (.invokevirtual 58, 3) := by decide +kernel
theorem dX8_place_27 : decode cX8_place 27 = .ok (.aload_n 0, 1) := by decide +kernel
theorem dX8_place_28 : decode cX8_place 28 = .ok (.iload_n 1, 1) := by decide +kernel
theorem dX8_place_29 : decode cX8_place 29 = .ok (.iload_n 2, 1) := by decide +kernel
theorem dX8_place_30 : decode cX8_place 30 = .ok (.iload_n 3, 1) := by decide +kernel
theorem dX8_place_31 : decode cX8_place 31 = .ok (.invokevirtual 95, 3) := by decide +kernel
theorem dX8_place_34 : decode cX8_place 34 = .ok (.ireturn, 1) := by decide +kernel
theorem dX8_remove_0 : decode cX8_remove 0 = .ok (.aload_n 0, 1) := by decide +kernel
theorem dX8_remove_1 : decode cX8_remove 1 = .ok (.iload_n 1, 1) := by decide +kernel
theorem dX8_remove_2 : decode cX8_remove 2 = .ok (.invokevirtual 99, 3) := by decide +kernel
theorem dX8_remove_5 : decode cX8_remove 5 = .ok (.ifCond .ne 5, 3) := by decide +kernel
theorem dX8_remove_8 : decode cX8_remove 8 = .ok (.iconst (-1), 1) := by decide +kernel
theorem dX8_remove_9 : decode cX8_remove 9 = .ok (.ireturn, 1) := by decide +kernel
theorem dX8_remove_10 : decode cX8_remove 10 = .ok (.aload_n 0, 1) := by decide +kernel
theorem dX8_remove_11 : decode cX8_remove 11 = .ok (.getfield 19, 3) := by decide +kernel
theorem dX8_remove_14 : decode cX8_remove 14 = .ok (.aload_n 0, 1) := by decide +kernel
theorem dX8_remove_15 : decode cX8_remove 15 = .ok (.getfield 12, 3) := by decide +kernel
theorem dX8_remove_18 : decode cX8_remove 18 = .ok (.invokevirtual 58, 3) := by decide +kernel
theorem dX8_remove_21 : decode cX8_remove 21 = .ok (.aload_n 0, 1) := by decide +kernel
theorem dX8_remove_22 : decode cX8_remove 22 = .ok (.getfield 12, 3) := by decide +kernel
theorem dX8_remove_25 : decode cX8_remove 25 = .ok (.getfield 102, 3) := by decide +kernel
theorem dX8_remove_28 : decode cX8_remove 28 = .ok (.iload_n 1, 1) := by decide +kernel
theorem dX8_remove_29 : decode cX8_remove 29 = .ok (.invokevirtual 106, 3) := by decide +kernel
theorem dX8_remove_32 : decode cX8_remove 32 = .ok (.aload_n 0, 1) := by decide +kernel
theorem dX8_remove_33 : decode cX8_remove 33 = .ok (.getfield 12, 3) := by decide +kernel
theorem dX8_remove_36 : decode cX8_remove 36 = .ok (.getfield 102, 3) := by decide +kernel
theorem dX8_remove_39 : decode cX8_remove 39 = .ok (.getfield 112, 3) := by decide +kernel
theorem dX8_remove_42 : decode cX8_remove 42 = .ok (.ireturn, 1) := by decide +kernel
theorem dX8_earliest_0 : decode cX8_earliest 0 = .ok (.aload_n 0, 1) := by decide +kernel
theorem dX8_earliest_1 : decode cX8_earliest 1 = .ok (.iload_n 1, 1) := by decide +kernel
theorem dX8_earliest_2 : decode cX8_earliest 2 = .ok (.invokevirtual 66, 3) := by decide +kernel
theorem dX8_earliest_5 : decode cX8_earliest 5 = .ok (.ifCond .eq 10, 3) := by decide +kernel
theorem dX8_earliest_8 : decode cX8_earliest 8 = .ok (.iload_n 2, 1) := by decide +kernel
theorem dX8_earliest_9 : decode cX8_earliest 9 = .ok (.invokestatic 113, 3) := by decide +kernel
theorem dX8_earliest_12 : decode cX8_earliest 12 = .ok (.ifCond .ne 5, 3) := by decide +kernel
theorem dX8_earliest_15 : decode cX8_earliest 15 = .ok (.iconst (-1), 1) := by decide +kernel
theorem dX8_earliest_16 : decode cX8_earliest 16 = .ok (.ireturn, 1) := by decide +kernel
theorem dX8_earliest_17 : decode cX8_earliest 17 = .ok (.aload_n 0, 1) := by decide +kernel
theorem dX8_earliest_18 : decode cX8_earliest 18 = .ok (.iload_n 1, 1) := by decide +kernel
theorem dX8_earliest_19 : decode cX8_earliest 19 = .ok (.iload_n 2, 1) := by decide +kernel
theorem dX8_earliest_20 : decode cX8_earliest 20 = .ok (.invokevirtual 116, 3) := by decide +kernel
theorem dX8_earliest_23 : decode cX8_earliest 23 = .ok (.ireturn, 1) := by decide +kernel
theorem dX8_fill_0 : decode cX8_fill 0 = .ok (.iload_n 1, 1) := by decide +kernel
theorem dX8_fill_1 : decode cX8_fill 1 = .ok (.iload_n 2, 1) := by decide +kernel
theorem dX8_fill_2 : decode cX8_fill 2 = .ok (.sipush 10080, 3) := by decide +kernel
theorem dX8_fill_5 : decode cX8_fill 5 = .ok (.invokestatic 70, 3) := by decide +kernel
theorem dX8_fill_8 : decode cX8_fill 8 = .ok (.ifCond .eq 12, 3) := by decide +kernel
theorem dX8_fill_11 : decode cX8_fill 11 = .ok (.iload_n 2, 1) := by decide +kernel
theorem dX8_fill_12 : decode cX8_fill 12 = .ok (.iload_n 1, 1) := by decide +kernel
theorem dX8_fill_13 : decode cX8_fill 13 = .ok (.isub, 1) := by decide +kernel
theorem dX8_fill_14 : decode cX8_fill 14 = .ok (.sipush 240, 3) := by decide +kernel
theorem dX8_fill_17 : decode cX8_fill 17 = .ok (.if_icmp .le 5, 3) := by decide +kernel
theorem dX8_fill_20 : decode cX8_fill 20 = .ok (.iconst (-1), 1) := by decide +kernel
theorem dX8_fill_21 : decode cX8_fill 21 = .ok (.ireturn, 1) := by decide +kernel
theorem dX8_fill_22 : decode cX8_fill 22 = .ok (.aload_n 0, 1) := by decide +kernel
theorem dX8_fill_23 : decode cX8_fill 23 = .ok (.getfield 12, 3) := by decide +kernel
theorem dX8_fill_26 : decode cX8_fill 26 = .ok (.getfield 102, 3) := by decide +kernel
theorem dX8_fill_29 : decode cX8_fill 29 = .ok (.iload_n 1, 1) := by decide +kernel
theorem dX8_fill_30 : decode cX8_fill 30 = .ok (.iload_n 2, 1) := by decide +kernel
theorem dX8_fill_31 : decode cX8_fill 31 = .ok (.invokevirtual 119, 3) := by decide +kernel
theorem dX8_fill_34 : decode cX8_fill 34 = .ok (.bipush (-9), 2) := by decide +kernel
theorem dX8_fill_36 : decode cX8_fill 36 = .ok (.if_icmp .eq 6, 3) := by decide +kernel
theorem dX8_fill_39 : decode cX8_fill 39 = .ok (.bipush (-4), 2) := by decide +kernel
theorem dX8_fill_41 : decode cX8_fill 41 = .ok (.ireturn, 1) := by decide +kernel
theorem dX8_fill_42 : decode cX8_fill 42 = .ok (.aload_n 0, 1) := by decide +kernel
theorem dX8_fill_43 : decode cX8_fill 43 = .ok (.getfield 33, 3) := by decide +kernel
theorem dX8_fill_46 : decode cX8_fill 46 = .ok (.aload_n 0, 1) := by decide +kernel
theorem dX8_fill_47 : decode cX8_fill 47 = .ok (.getfield 12, 3) := by decide +kernel
theorem dX8_fill_50 : decode cX8_fill 50 = .ok (.iload_n 1, 1) := by decide +kernel
theorem dX8_fill_51 : decode cX8_fill 51 = .ok (.iload_n 2, 1) := by decide +kernel
theorem dX8_fill_52 : decode cX8_fill 52 = .ok (.invokevirtual 122, 3) := by decide +kernel
theorem dX8_fill_55 : decode cX8_fill 55 = .ok (.istore_n 3, 1) := by decide +kernel
theorem dX8_fill_56 : decode cX8_fill 56 = .ok (.iload_n 3, 1) := by decide +kernel
theorem dX8_fill_57 : decode cX8_fill 57 = .ok (.bipush (-9), 2) := by decide +kernel
theorem dX8_fill_59 : decode cX8_fill 59 = .ok (.if_icmp .ne 6, 3) := by decide +kernel
theorem dX8_fill_62 : decode cX8_fill 62 = .ok (.bipush (-9), 2) := by decide +kernel
theorem dX8_fill_64 : decode cX8_fill 64 = .ok (.ireturn, 1) := by decide +kernel
theorem dX8_fill_65 : decode cX8_fill 65 = .ok (.aload_n 0, 1) := by decide +kernel
theorem dX8_fill_66 : decode cX8_fill 66 = .ok (.getfield 12, 3) := by decide +kernel
theorem dX8_fill_69 : decode cX8_fill 69 = .ok (.getfield 102, 3) := by decide +kernel
theorem dX8_fill_72 : decode cX8_fill 72 = .ok (.getfield 112, 3) := by decide +kernel
theorem dX8_fill_75 : decode cX8_fill 75 = .ok (.iload_n 3, 1) := by decide +kernel
theorem dX8_fill_76 : decode cX8_fill 76 = .ok (.iadd, 1) := by decide +kernel
theorem dX8_fill_77 : decode cX8_fill 77 = .ok (.bipush 60, 2) := by decide +kernel
theorem dX8_fill_79 : decode cX8_fill 79 = .ok (.if_icmp .le 6, 3) := by decide +kernel
theorem dX8_fill_82 : decode cX8_fill 82 = .ok (.bipush (-3), 2) := by decide +kernel
theorem dX8_fill_84 : decode cX8_fill 84 = .ok (.ireturn, 1) := by decide +kernel
theorem dX8_fill_85 : decode cX8_fill 85 = .ok (.aload_n 0, 1) := by decide +kernel
theorem dX8_fill_86 : decode cX8_fill 86 = .ok (.getfield 19, 3) := by decide +kernel
theorem dX8_fill_89 : decode cX8_fill 89 = .ok (.aload_n 0, 1) := by decide +kernel
theorem dX8_fill_90 : decode cX8_fill 90 = .ok (.getfield 12, 3) := by decide +kernel
theorem dX8_fill_93 : decode cX8_fill 93 = .ok (.invokevirtual 58, 3) := by decide +kernel
theorem dX8_fill_96 : decode cX8_fill 96 = .ok (.iload_n 1, 1) := by decide +kernel
theorem dX8_fill_97 : decode cX8_fill 97 = .ok (.istore 4, 2) := by decide +kernel
theorem dX8_fill_99 : decode cX8_fill 99 = .ok (.iconst 0, 1) := by decide +kernel
theorem dX8_fill_100 : decode cX8_fill 100 = .ok (.istore 5, 2) := by decide +kernel
theorem dX8_fill_102 : decode cX8_fill 102 = .ok (.iload 5, 2) := by decide +kernel
theorem dX8_fill_104 : decode cX8_fill 104 = .ok (.iload_n 3, 1) := by decide +kernel
theorem dX8_fill_105 : decode cX8_fill 105 = .ok (.if_icmp .ge 49, 3) := by decide +kernel
theorem dX8_fill_108 : decode cX8_fill 108 = .ok (.aload_n 0, 1) := by decide +kernel
theorem dX8_fill_109 : decode cX8_fill 109 = .ok (.getfield 33, 3) := by decide +kernel
theorem dX8_fill_112 : decode cX8_fill 112 = .ok (.getfield 126, 3) := by decide +kernel
theorem dX8_fill_115 : decode cX8_fill 115 = .ok (.iload 5, 2) := by decide +kernel
theorem dX8_fill_117 : decode cX8_fill 117 = .ok (.iaload, 1) := by decide +kernel
theorem dX8_fill_118 : decode cX8_fill 118 = .ok (.istore 6, 2) := by decide +kernel
theorem dX8_fill_120 : decode cX8_fill 120 = .ok (.aload_n 0, 1) := by decide +kernel
theorem dX8_fill_121 : decode cX8_fill 121 = .ok (.iload 6, 2) := by decide +kernel
theorem dX8_fill_123 : decode cX8_fill 123 = .ok (.iload 4, 2) := by decide +kernel
theorem dX8_fill_125 : decode cX8_fill 125 = .ok (.iconst 0, 1) := by decide +kernel
theorem dX8_fill_126 : decode cX8_fill 126 = .ok (.invokevirtual 95, 3) := by decide +kernel
theorem dX8_fill_129 : decode cX8_fill 129 = .ok (.pop, 1) := by decide +kernel
theorem dX8_fill_130 : decode cX8_fill 130 = .ok (.iload 4, 2) := by decide +kernel
theorem dX8_fill_132 : decode cX8_fill 132 = .ok (.aload_n 0, 1) := by decide +kernel
theorem dX8_fill_133 : decode cX8_fill 133 = .ok (.getfield 12, 3) := by decide +kernel
theorem dX8_fill_136 : decode cX8_fill 136 = .ok (.getfield 48, 3) := by decide +kernel
theorem dX8_fill_139 : decode cX8_fill 139 = .ok (.getfield 130, 3) := by decide +kernel
theorem dX8_fill_142 : decode cX8_fill 142 = .ok (.iload 6, 2) := by decide +kernel
theorem dX8_fill_144 : decode cX8_fill 144 = .ok (.iaload, 1) := by decide +kernel
theorem dX8_fill_145 : decode cX8_fill 145 = .ok (.iadd, 1) := by decide +kernel
theorem dX8_fill_146 : decode cX8_fill 146 = .ok (.istore 4, 2) := by decide +kernel
theorem dX8_fill_148 : decode cX8_fill 148 = .ok (.iinc 5 1, 3) := by decide +kernel
theorem dX8_fill_151 : decode cX8_fill 151 = .ok (.goto (-49), 3) := by decide +kernel
theorem dX8_fill_154 : decode cX8_fill 154 = .ok (.iload_n 3, 1) := by decide +kernel
theorem dX8_fill_155 : decode cX8_fill 155 = .ok (.ireturn, 1) := by decide +kernel
theorem dX8_runOver_0 : decode cX8_runOver 0 = .ok (.aload_n 0, 1) := by decide +kernel
theorem dX8_runOver_1 : decode cX8_runOver 1 = .ok (.iload_n 1, 1) := by decide +kernel
theorem dX8_runOver_2 : decode cX8_runOver 2 = .ok (.invokevirtual 99, 3) := by decide +kernel
theorem dX8_runOver_5 : decode cX8_runOver 5 = .ok (.ifCond .eq 13, 3) := by decide +kernel
theorem dX8_runOver_8 : decode cX8_runOver 8 = .ok (.iload_n 2, 1) := by decide +kernel
theorem dX8_runOver_9 : decode cX8_runOver 9 = .ok (.iconst 1, 1) := by decide +kernel
theorem dX8_runOver_10 : decode cX8_runOver 10 = .ok (.bipush 120, 2) := by decide +kernel
theorem dX8_runOver_12 : decode cX8_runOver 12 = .ok (.invokestatic 44, 3) := by decide +kernel
theorem dX8_runOver_15 : decode cX8_runOver 15 = .ok (.ifCond .ne 5, 3) := by decide +kernel
theorem dX8_runOver_18 : decode cX8_runOver 18 = .ok (.iconst (-1), 1) := by decide +kernel
theorem dX8_runOver_19 : decode cX8_runOver 19 = .ok (.ireturn, 1) := by decide +kernel
theorem dX8_runOver_20 : decode cX8_runOver 20 = .ok (.aload_n 0, 1) := by decide +kernel
theorem dX8_runOver_21 : decode cX8_runOver 21 = .ok (.iload_n 1, 1) := by decide +kernel
theorem dX8_runOver_22 : decode cX8_runOver 22 = .ok (.invokevirtual 133, 3) := by decide +kernel
theorem dX8_runOver_25 : decode cX8_runOver 25 = .ok (.iconst 1, 1) := by decide +kernel
theorem dX8_runOver_26 : decode cX8_runOver 26 = .ok (.if_icmp .eq 6, 3) := by decide +kernel
theorem dX8_runOver_29 : decode cX8_runOver 29 = .ok (.bipush (-2), 2) := by decide +kernel
theorem dX8_runOver_31 : decode cX8_runOver 31 = .ok (.ireturn, 1) := by decide +kernel
theorem dX8_runOver_32 : decode cX8_runOver 32 = .ok (.aload_n 0, 1) := by decide +kernel
theorem dX8_runOver_33 : decode cX8_runOver 33 = .ok (.getfield 12, 3) := by decide +kernel
theorem dX8_runOver_36 : decode cX8_runOver 36 = .ok (.getfield 102, 3) := by decide +kernel
theorem dX8_runOver_39 : decode cX8_runOver 39 = .ok (.iload_n 1, 1) := by decide +kernel
theorem dX8_runOver_40 : decode cX8_runOver 40 = .ok (.invokevirtual 137, 3) := by decide +kernel
theorem dX8_runOver_43 : decode cX8_runOver 43 = .ok (.iload_n 2, 1) := by decide +kernel
theorem dX8_runOver_44 : decode cX8_runOver 44 = .ok (.iadd, 1) := by decide +kernel
theorem dX8_runOver_45 : decode cX8_runOver 45 = .ok (.sipush 10080, 3) := by decide +kernel
theorem dX8_runOver_48 : decode cX8_runOver 48 = .ok (.if_icmp .le 6, 3) := by decide +kernel
theorem dX8_runOver_51 : decode cX8_runOver 51 = .ok (.bipush (-4), 2) := by decide +kernel
theorem dX8_runOver_53 : decode cX8_runOver 53 = .ok (.ireturn, 1) := by decide +kernel
theorem dX8_runOver_54 : decode cX8_runOver 54 = .ok (.aload_n 0, 1) := by decide +kernel
theorem dX8_runOver_55 : decode cX8_runOver 55 = .ok (.getfield 19, 3) := by decide +kernel
theorem dX8_runOver_58 : decode cX8_runOver 58 = .ok (.aload_n 0, 1) := by decide +kernel
theorem dX8_runOver_59 : decode cX8_runOver 59 = .ok (.getfield 12, 3) := by decide +kernel
theorem dX8_runOver_62 : decode cX8_runOver 62 = .ok (.invokevirtual 58, 3) := by decide +kernel
theorem dX8_runOver_65 : decode cX8_runOver 65 = .ok (.aload_n 0, 1) := by decide +kernel
theorem dX8_runOver_66 : decode cX8_runOver 66 = .ok (.getfield 12, 3) := by decide +kernel
theorem dX8_runOver_69 : decode cX8_runOver 69 = .ok (.getfield 102, 3) := by decide +kernel
theorem dX8_runOver_72 : decode cX8_runOver 72 = .ok (.getfield 140, 3) := by decide +kernel
theorem dX8_runOver_75 : decode cX8_runOver 75 = .ok (.iload_n 1, 1) := by decide +kernel
theorem dX8_runOver_76 : decode cX8_runOver 76 = .ok (.dup2, 1) := by decide +kernel
theorem dX8_runOver_77 : decode cX8_runOver 77 = .ok (.iaload, 1) := by decide +kernel
theorem dX8_runOver_78 : decode cX8_runOver 78 = .ok (.iload_n 2, 1) := by decide +kernel
theorem dX8_runOver_79 : decode cX8_runOver 79 = .ok (.iadd, 1) := by decide +kernel
theorem dX8_runOver_80 : decode cX8_runOver 80 = .ok (.iastore, 1) := by decide +kernel
theorem dX8_runOver_81 : decode cX8_runOver 81 = .ok (.aload_n 0, 1) := by decide +kernel
theorem dX8_runOver_82 : decode cX8_runOver 82 = .ok (.iload_n 1, 1) := by decide +kernel
theorem dX8_runOver_83 : decode cX8_runOver 83 = .ok (.invokevirtual 141, 3) := by decide +kernel
theorem dX8_runOver_86 : decode cX8_runOver 86 = .ok (.ireturn, 1) := by decide +kernel
theorem dX8_makeGood_0 : decode cX8_makeGood 0 = .ok (.aload_n 0, 1) := by decide +kernel
theorem dX8_makeGood_1 : decode cX8_makeGood 1 = .ok (.iload_n 1, 1) := by decide +kernel
theorem dX8_makeGood_2 : decode cX8_makeGood 2 = .ok (.invokevirtual 66, 3) := by decide +kernel
theorem dX8_makeGood_5 : decode cX8_makeGood 5 = .ok (.ifCond .eq 10, 3) := by decide +kernel
theorem dX8_makeGood_8 : decode cX8_makeGood 8 = .ok (.iload_n 2, 1) := by decide +kernel
theorem dX8_makeGood_9 : decode cX8_makeGood 9 = .ok (.invokestatic 113, 3) := by decide +kernel
theorem dX8_makeGood_12 : decode cX8_makeGood 12 = .ok (.ifCond .ne 5, 3) := by decide +kernel
theorem dX8_makeGood_15 : decode cX8_makeGood 15 = .ok (.iconst (-1), 1) := by decide +kernel
theorem dX8_makeGood_16 : decode cX8_makeGood 16 = .ok (.ireturn, 1) := by decide +kernel
theorem dX8_makeGood_17 : decode cX8_makeGood 17 = .ok (.aload_n 0, 1) := by decide +kernel
theorem dX8_makeGood_18 : decode cX8_makeGood 18 = .ok (.getfield 12, 3) := by decide +kernel
theorem dX8_makeGood_21 : decode cX8_makeGood 21 = .ok (.getfield 48, 3) := by decide +kernel
theorem dX8_makeGood_24 : decode cX8_makeGood 24 = .ok (.getfield 144, 3) := by decide +kernel
theorem dX8_makeGood_27 : decode cX8_makeGood 27 = .ok (.iload_n 1, 1) := by decide +kernel
theorem dX8_makeGood_28 : decode cX8_makeGood 28 = .ok (.iaload, 1) := by decide +kernel
theorem dX8_makeGood_29 : decode cX8_makeGood 29 = .ok (.ifCond .gt 6, 3) := by decide +kernel
theorem dX8_makeGood_32 : decode cX8_makeGood 32 = .ok (.bipush (-2), 2) := by decide +kernel
theorem dX8_makeGood_34 : decode cX8_makeGood 34 = .ok (.ireturn, 1) := by decide +kernel
theorem dX8_makeGood_35 : decode cX8_makeGood 35 = .ok (.aload_n 0, 1) := by decide +kernel
theorem dX8_makeGood_36 : decode cX8_makeGood 36 = .ok (.iload_n 1, 1) := by decide +kernel
theorem dX8_makeGood_37 : decode cX8_makeGood 37 = .ok (.iload_n 2, 1) := by decide +kernel
theorem dX8_makeGood_38 : decode cX8_makeGood 38 = .ok (.invokevirtual 116, 3) := by decide +kernel
theorem dX8_makeGood_41 : decode cX8_makeGood 41 = .ok (.istore_n 3, 1) := by decide +kernel
theorem dX8_makeGood_42 : decode cX8_makeGood 42 = .ok (.iload_n 3, 1) := by decide +kernel
theorem dX8_makeGood_43 : decode cX8_makeGood 43 = .ok (.bipush (-9), 2) := by decide +kernel
theorem dX8_makeGood_45 : decode cX8_makeGood 45 = .ok (.if_icmp .ne 6, 3) := by decide +kernel
theorem dX8_makeGood_48 : decode cX8_makeGood 48 = .ok (.bipush (-9), 2) := by decide +kernel
theorem dX8_makeGood_50 : decode cX8_makeGood 50 = .ok (.ireturn, 1) := by decide +kernel
theorem dX8_makeGood_51 : decode cX8_makeGood 51 = .ok (.aload_n 0, 1) := by decide +kernel
theorem dX8_makeGood_52 : decode cX8_makeGood 52 = .ok (.getfield 19, 3) := by decide +kernel
theorem dX8_makeGood_55 : decode cX8_makeGood 55 = .ok (.aload_n 0, 1) := by decide +kernel
theorem dX8_makeGood_56 : decode cX8_makeGood 56 = .ok (.getfield 12, 3) := by decide +kernel
theorem dX8_makeGood_59 : decode cX8_makeGood 59 = .ok (.invokevirtual 58, 3) := by decide +kernel
theorem dX8_makeGood_62 : decode cX8_makeGood 62 = .ok (.aload_n 0, 1) := by decide +kernel
theorem dX8_makeGood_63 : decode cX8_makeGood 63 = .ok (.iload_n 1, 1) := by decide +kernel
theorem dX8_makeGood_64 : decode cX8_makeGood 64 = .ok (.iload_n 3, 1) := by decide +kernel
theorem dX8_makeGood_65 : decode cX8_makeGood 65 = .ok (.iconst 0, 1) := by decide +kernel
theorem dX8_makeGood_66 : decode cX8_makeGood 66 = .ok (.invokevirtual 95, 3) := by decide +kernel
theorem dX8_makeGood_69 : decode cX8_makeGood 69 = .ok (.pop, 1) := by decide +kernel
theorem dX8_makeGood_70 : decode cX8_makeGood 70 = .ok (.aload_n 0, 1) := by decide +kernel
theorem dX8_makeGood_71 : decode cX8_makeGood 71 = .ok (.getfield 12, 3) := by decide +kernel
theorem dX8_makeGood_74 : decode cX8_makeGood 74 = .ok (.getfield 48, 3) := by decide +kernel
theorem dX8_makeGood_77 : decode cX8_makeGood 77 = .ok (.getfield 144, 3) := by decide +kernel
theorem dX8_makeGood_80 : decode cX8_makeGood 80 = .ok (.iload_n 1, 1) := by decide +kernel
theorem dX8_makeGood_81 : decode cX8_makeGood 81 = .ok (.dup2, 1) := by decide +kernel
theorem dX8_makeGood_82 : decode cX8_makeGood 82 = .ok (.iaload, 1) := by decide +kernel
theorem dX8_makeGood_83 : decode cX8_makeGood 83 = .ok (.iconst 1, 1) := by decide +kernel
theorem dX8_makeGood_84 : decode cX8_makeGood 84 = .ok (.isub, 1) := by decide +kernel
theorem dX8_makeGood_85 : decode cX8_makeGood 85 = .ok (.iastore, 1) := by decide +kernel
theorem dX8_makeGood_86 : decode cX8_makeGood 86 = .ok (.iload_n 3, 1) := by decide +kernel
theorem dX8_makeGood_87 : decode cX8_makeGood 87 = .ok (.ireturn, 1) := by decide +kernel
theorem dX8_items_0 : decode cX8_items 0 = .ok (.aload_n 0, 1) := by decide +kernel
theorem dX8_items_1 : decode cX8_items 1 = .ok (.getfield 12, 3) := by decide +kernel
theorem dX8_items_4 : decode cX8_items 4 = .ok (.getfield 102, 3) := by decide +kernel
theorem dX8_items_7 : decode cX8_items 7 = .ok (.getfield 112, 3) := by decide +kernel
theorem dX8_items_10 : decode cX8_items 10 = .ok (.ireturn, 1) := by decide +kernel
theorem dX8_item_0 : decode cX8_item 0 = .ok (.aload_n 0, 1) := by decide +kernel
theorem dX8_item_1 : decode cX8_item 1 = .ok (.iload_n 1, 1) := by decide +kernel
theorem dX8_item_2 : decode cX8_item 2 = .ok (.invokevirtual 99, 3) := by decide +kernel
theorem dX8_item_5 : decode cX8_item 5 = .ok (.ifCond .ne 5, 3) := by decide +kernel
theorem dX8_item_8 : decode cX8_item 8 = .ok (.iconst (-1), 1) := by decide +kernel
theorem dX8_item_9 : decode cX8_item 9 = .ok (.ireturn, 1) := by decide +kernel
theorem dX8_item_10 : decode cX8_item 10 = .ok (.iload_n 2, 1) := by decide +kernel
theorem dX8_item_11 : decode cX8_item 11 = .ok (.tableswitch 99 0 4 #[33, 46, 59, 72, 85], 33) := by decide +kernel
theorem dX8_item_44 : decode cX8_item 44 = .ok (.aload_n 0, 1) := by decide +kernel
theorem dX8_item_45 : decode cX8_item 45 = .ok (.getfield 12, 3) := by decide +kernel
theorem dX8_item_48 : decode cX8_item 48 = .ok (.getfield 102, 3) := by decide +kernel
theorem dX8_item_51 : decode cX8_item 51 = .ok (.getfield 147, 3) := by decide +kernel
theorem dX8_item_54 : decode cX8_item 54 = .ok (.iload_n 1, 1) := by decide +kernel
theorem dX8_item_55 : decode cX8_item 55 = .ok (.iaload, 1) := by decide +kernel
theorem dX8_item_56 : decode cX8_item 56 = .ok (.ireturn, 1) := by decide +kernel
theorem dX8_item_57 : decode cX8_item 57 = .ok (.aload_n 0, 1) := by decide +kernel
theorem dX8_item_58 : decode cX8_item 58 = .ok (.getfield 12, 3) := by decide +kernel
theorem dX8_item_61 : decode cX8_item 61 = .ok (.getfield 102, 3) := by decide +kernel
theorem dX8_item_64 : decode cX8_item 64 = .ok (.getfield 150, 3) := by decide +kernel
theorem dX8_item_67 : decode cX8_item 67 = .ok (.iload_n 1, 1) := by decide +kernel
theorem dX8_item_68 : decode cX8_item 68 = .ok (.iaload, 1) := by decide +kernel
theorem dX8_item_69 : decode cX8_item 69 = .ok (.ireturn, 1) := by decide +kernel
theorem dX8_item_70 : decode cX8_item 70 = .ok (.aload_n 0, 1) := by decide +kernel
theorem dX8_item_71 : decode cX8_item 71 = .ok (.getfield 12, 3) := by decide +kernel
theorem dX8_item_74 : decode cX8_item 74 = .ok (.getfield 102, 3) := by decide +kernel
theorem dX8_item_77 : decode cX8_item 77 = .ok (.getfield 140, 3) := by decide +kernel
theorem dX8_item_80 : decode cX8_item 80 = .ok (.iload_n 1, 1) := by decide +kernel
theorem dX8_item_81 : decode cX8_item 81 = .ok (.iaload, 1) := by decide +kernel
theorem dX8_item_82 : decode cX8_item 82 = .ok (.ireturn, 1) := by decide +kernel
theorem dX8_item_83 : decode cX8_item 83 = .ok (.aload_n 0, 1) := by decide +kernel
theorem dX8_item_84 : decode cX8_item 84 = .ok (.getfield 12, 3) := by decide +kernel
theorem dX8_item_87 : decode cX8_item 87 = .ok (.getfield 102, 3) := by decide +kernel
theorem dX8_item_90 : decode cX8_item 90 = .ok (.getfield 153, 3) := by decide +kernel
theorem dX8_item_93 : decode cX8_item 93 = .ok (.iload_n 1, 1) := by decide +kernel
theorem dX8_item_94 : decode cX8_item 94 = .ok (.iaload, 1) := by decide +kernel
theorem dX8_item_95 : decode cX8_item 95 = .ok (.ireturn, 1) := by decide +kernel
theorem dX8_item_96 : decode cX8_item 96 = .ok (.aload_n 0, 1) := by decide +kernel
theorem dX8_item_97 : decode cX8_item 97 = .ok (.invokevirtual 156, 3) := by decide +kernel
theorem dX8_item_100 : decode cX8_item 100 = .ok (.aload_n 0, 1) := by decide +kernel
theorem dX8_item_101 : decode cX8_item 101 = .ok (.getfield 26, 3) := by decide +kernel
theorem dX8_item_104 : decode cX8_item 104 = .ok (.getfield 159, 3) := by decide +kernel
theorem dX8_item_107 : decode cX8_item 107 = .ok (.iload_n 1, 1) := by decide +kernel
theorem dX8_item_108 : decode cX8_item 108 = .ok (.iaload, 1) := by decide +kernel
theorem dX8_item_109 : decode cX8_item 109 = .ok (.ireturn, 1) := by decide +kernel
theorem dX8_item_110 : decode cX8_item 110 = .ok (.iconst (-1), 1) := by decide +kernel
theorem dX8_item_111 : decode cX8_item 111 = .ok (.ireturn, 1) := by decide +kernel
theorem dX8_onAir_0 : decode cX8_onAir 0 = .ok (.iload_n 1, 1) := by decide +kernel
theorem dX8_onAir_1 : decode cX8_onAir 1 = .ok (.invokestatic 113, 3) := by decide +kernel
theorem dX8_onAir_4 : decode cX8_onAir 4 = .ok (.ifCond .ne 5, 3) := by decide +kernel
theorem dX8_onAir_7 : decode cX8_onAir 7 = .ok (.iconst (-1), 1) := by decide +kernel
theorem dX8_onAir_8 : decode cX8_onAir 8 = .ok (.ireturn, 1) := by decide +kernel
theorem dX8_onAir_9 : decode cX8_onAir 9 = .ok (.aload_n 0, 1) := by decide +kernel
theorem dX8_onAir_10 : decode cX8_onAir 10 = .ok (.getfield 12, 3) := by decide +kernel
theorem dX8_onAir_13 : decode cX8_onAir 13 = .ok (.getfield 102, 3) := by decide +kernel
theorem dX8_onAir_16 : decode cX8_onAir 16 = .ok (.iload_n 1, 1) := by decide +kernel
theorem dX8_onAir_17 : decode cX8_onAir 17 = .ok (.iload_n 1, 1) := by decide +kernel
theorem dX8_onAir_18 : decode cX8_onAir 18 = .ok (.iconst 1, 1) := by decide +kernel
theorem dX8_onAir_19 : decode cX8_onAir 19 = .ok (.iadd, 1) := by decide +kernel
theorem dX8_onAir_20 : decode cX8_onAir 20 = .ok (.invokevirtual 119, 3) := by decide +kernel
theorem dX8_onAir_23 : decode cX8_onAir 23 = .ok (.ireturn, 1) := by decide +kernel
theorem dX8_left_0 : decode cX8_left 0 = .ok (.iload_n 1, 1) := by decide +kernel
theorem dX8_left_1 : decode cX8_left 1 = .ok (.iconst 0, 1) := by decide +kernel
theorem dX8_left_2 : decode cX8_left 2 = .ok (.aload_n 0, 1) := by decide +kernel
theorem dX8_left_3 : decode cX8_left 3 = .ok (.getfield 12, 3) := by decide +kernel
theorem dX8_left_6 : decode cX8_left 6 = .ok (.getfield 73, 3) := by decide +kernel
theorem dX8_left_9 : decode cX8_left 9 = .ok (.getfield 77, 3) := by decide +kernel
theorem dX8_left_12 : decode cX8_left 12 = .ok (.iconst 1, 1) := by decide +kernel
theorem dX8_left_13 : decode cX8_left 13 = .ok (.isub, 1) := by decide +kernel
theorem dX8_left_14 : decode cX8_left 14 = .ok (.invokestatic 44, 3) := by decide +kernel
theorem dX8_left_17 : decode cX8_left 17 = .ok (.ifCond .ne 5, 3) := by decide +kernel
theorem dX8_left_20 : decode cX8_left 20 = .ok (.iconst (-1), 1) := by decide +kernel
theorem dX8_left_21 : decode cX8_left 21 = .ok (.ireturn, 1) := by decide +kernel
theorem dX8_left_22 : decode cX8_left 22 = .ok (.aload_n 0, 1) := by decide +kernel
theorem dX8_left_23 : decode cX8_left 23 = .ok (.invokevirtual 156, 3) := by decide +kernel
theorem dX8_left_26 : decode cX8_left 26 = .ok (.aload_n 0, 1) := by decide +kernel
theorem dX8_left_27 : decode cX8_left 27 = .ok (.getfield 26, 3) := by decide +kernel
theorem dX8_left_30 : decode cX8_left 30 = .ok (.getfield 162, 3) := by decide +kernel
theorem dX8_left_33 : decode cX8_left 33 = .ok (.iload_n 1, 1) := by decide +kernel
theorem dX8_left_34 : decode cX8_left 34 = .ok (.iaload, 1) := by decide +kernel
theorem dX8_left_35 : decode cX8_left 35 = .ok (.ireturn, 1) := by decide +kernel
theorem dX8_mayPlace_0 : decode cX8_mayPlace 0 = .ok (.aload_n 0, 1) := by decide +kernel
theorem dX8_mayPlace_1 : decode cX8_mayPlace 1 = .ok (.iload_n 1, 1) := by decide +kernel
theorem dX8_mayPlace_2 : decode cX8_mayPlace 2 = .ok (.invokevirtual 66, 3) := by decide +kernel
theorem dX8_mayPlace_5 : decode cX8_mayPlace 5 = .ok (.ifCond .eq 10, 3) := by decide +kernel
theorem dX8_mayPlace_8 : decode cX8_mayPlace 8 = .ok (.iload_n 2, 1) := by decide +kernel
theorem dX8_mayPlace_9 : decode cX8_mayPlace 9 = .ok (.invokestatic 113, 3) := by decide +kernel
theorem dX8_mayPlace_12 : decode cX8_mayPlace 12 = .ok (.ifCond .ne 5, 3) := by decide +kernel
theorem dX8_mayPlace_15 : decode cX8_mayPlace 15 = .ok (.iconst (-1), 1) := by decide +kernel
theorem dX8_mayPlace_16 : decode cX8_mayPlace 16 = .ok (.ireturn, 1) := by decide +kernel
theorem dX8_mayPlace_17 : decode cX8_mayPlace 17 = .ok (.aload_n 0, 1) := by decide +kernel
theorem dX8_mayPlace_18 : decode cX8_mayPlace 18 = .ok (.iload_n 1, 1) := by decide +kernel
theorem dX8_mayPlace_19 : decode cX8_mayPlace 19 = .ok (.iload_n 2, 1) := by decide +kernel
theorem dX8_mayPlace_20 : decode cX8_mayPlace 20 = .ok (.invokevirtual 165, 3) := by decide +kernel
theorem dX8_mayPlace_23 : decode cX8_mayPlace 23 = .ok (.ireturn, 1) := by decide +kernel
theorem dX8_owed_0 : decode cX8_owed 0 = .ok (.aload_n 0, 1) := by decide +kernel
theorem dX8_owed_1 : decode cX8_owed 1 = .ok (.iload_n 1, 1) := by decide +kernel
theorem dX8_owed_2 : decode cX8_owed 2 = .ok (.invokevirtual 66, 3) := by decide +kernel
theorem dX8_owed_5 : decode cX8_owed 5 = .ok (.ifCond .ne 5, 3) := by decide +kernel
theorem dX8_owed_8 : decode cX8_owed 8 = .ok (.iconst (-1), 1) := by decide +kernel
theorem dX8_owed_9 : decode cX8_owed 9 = .ok (.ireturn, 1) := by decide +kernel
theorem dX8_owed_10 : decode cX8_owed 10 = .ok (.aload_n 0, 1) := by decide +kernel
theorem dX8_owed_11 : decode cX8_owed 11 = .ok (.getfield 12, 3) := by decide +kernel
theorem dX8_owed_14 : decode cX8_owed 14 = .ok (.getfield 48, 3) := by decide +kernel
theorem dX8_owed_17 : decode cX8_owed 17 = .ok (.getfield 144, 3) := by decide +kernel
theorem dX8_owed_20 : decode cX8_owed 20 = .ok (.iload_n 1, 1) := by decide +kernel
theorem dX8_owed_21 : decode cX8_owed 21 = .ok (.iaload, 1) := by decide +kernel
theorem dX8_owed_22 : decode cX8_owed 22 = .ok (.ireturn, 1) := by decide +kernel
theorem dX8_minutes_0 : decode cX8_minutes 0 = .ok (.iload_n 1, 1) := by decide +kernel
theorem dX8_minutes_1 : decode cX8_minutes 1 = .ok (.iconst 0, 1) := by decide +kernel
theorem dX8_minutes_2 : decode cX8_minutes 2 = .ok (.iconst 4, 1) := by decide +kernel
theorem dX8_minutes_3 : decode cX8_minutes 3 = .ok (.invokestatic 44, 3) := by decide +kernel
theorem dX8_minutes_6 : decode cX8_minutes 6 = .ok (.ifCond .eq 14, 3) := by decide +kernel
theorem dX8_minutes_9 : decode cX8_minutes 9 = .ok (.iload_n 2, 1) := by decide +kernel
theorem dX8_minutes_10 : decode cX8_minutes 10 = .ok (.iload_n 3, 1) := by decide +kernel
theorem dX8_minutes_11 : decode cX8_minutes 11 = .ok (.sipush 10080, 3) := by decide +kernel
theorem dX8_minutes_14 : decode cX8_minutes 14 = .ok (.invokestatic 70, 3) := by decide +kernel
theorem dX8_minutes_17 : decode cX8_minutes 17 = .ok (.ifCond .ne 5, 3) := by decide +kernel
theorem dX8_minutes_20 : decode cX8_minutes 20 = .ok (.iconst (-1), 1) := by decide +kernel
theorem dX8_minutes_21 : decode cX8_minutes 21 = .ok (.ireturn, 1) := by decide +kernel
theorem dX8_minutes_22 : decode cX8_minutes 22 = .ok (.iconst 0, 1) := by decide +kernel
theorem dX8_minutes_23 : decode cX8_minutes 23 = .ok (.istore 4, 2) := by decide +kernel
theorem dX8_minutes_25 : decode cX8_minutes 25 = .ok (.iconst 0, 1) := by decide +kernel
theorem dX8_minutes_26 : decode cX8_minutes 26 = .ok (.istore 5, 2) := by decide +kernel
theorem dX8_minutes_28 : decode cX8_minutes 28 = .ok (.iconst 0, 1) := by decide +kernel
theorem dX8_minutes_29 : decode cX8_minutes 29 = .ok (.istore 6, 2) := by decide +kernel
theorem dX8_minutes_31 : decode cX8_minutes 31 = .ok (.iload 6, 2) := by decide +kernel
theorem dX8_minutes_33 : decode cX8_minutes 33 = .ok (.aload_n 0, 1) := by decide +kernel
theorem dX8_minutes_34 : decode cX8_minutes 34 = .ok (.getfield 12, 3) := by decide +kernel
theorem dX8_minutes_37 : decode cX8_minutes 37 = .ok (.getfield 102, 3) := by decide +kernel
theorem dX8_minutes_40 : decode cX8_minutes 40 = .ok (.getfield 112, 3) := by decide +kernel
theorem dX8_minutes_43 : decode cX8_minutes 43 = .ok (.if_icmp .ge 49, 3) := by decide +kernel
theorem dX8_minutes_46 : decode cX8_minutes 46 = .ok (.aload_n 0, 1) := by decide +kernel
theorem dX8_minutes_47 : decode cX8_minutes 47 = .ok (.getfield 12, 3) := by decide +kernel
theorem dX8_minutes_50 : decode cX8_minutes 50 = .ok (.getfield 102, 3) := by decide +kernel
theorem dX8_minutes_53 : decode cX8_minutes 53 = .ok (.iload 6, 2) := by decide +kernel
theorem dX8_minutes_55 : decode cX8_minutes 55 = .ok (.iload_n 2, 1) := by decide +kernel
theorem dX8_minutes_56 : decode cX8_minutes 56 = .ok (.iload_n 3, 1) := by decide +kernel
theorem dX8_minutes_57 : decode cX8_minutes 57 = .ok (.invokevirtual 168, 3) := by decide +kernel
theorem dX8_minutes_60 : decode cX8_minutes 60 = .ok (.istore 7, 2) := by decide +kernel
theorem dX8_minutes_62 : decode cX8_minutes 62 = .ok (.iload 5, 2) := by decide +kernel
theorem dX8_minutes_64 : decode cX8_minutes 64 = .ok (.iload 7, 2) := by decide +kernel
theorem dX8_minutes_66 : decode cX8_minutes 66 = .ok (.iadd, 1) := by decide +kernel
theorem dX8_minutes_67 : decode cX8_minutes 67 = .ok (.istore 5, 2) := by decide +kernel
theorem dX8_minutes_69 : decode cX8_minutes 69 = .ok (.aload_n 0, 1) := by decide +kernel
theorem dX8_minutes_70 : decode cX8_minutes 70 = .ok (.iload 6, 2) := by decide +kernel
theorem dX8_minutes_72 : decode cX8_minutes 72 = .ok (.invokevirtual 133, 3) := by decide +kernel
theorem dX8_minutes_75 : decode cX8_minutes 75 = .ok (.iload_n 1, 1) := by decide +kernel
theorem dX8_minutes_76 : decode cX8_minutes 76 = .ok (.if_icmp .ne 10, 3) := by decide +kernel
theorem dX8_minutes_79 : decode cX8_minutes 79 = .ok (.iload 4, 2) := by decide +kernel
theorem dX8_minutes_81 : decode cX8_minutes 81 = .ok (.iload 7, 2) := by decide +kernel
theorem dX8_minutes_83 : decode cX8_minutes 83 = .ok (.iadd, 1) := by decide +kernel
theorem dX8_minutes_84 : decode cX8_minutes 84 = .ok (.istore 4, 2) := by decide +kernel
theorem dX8_minutes_86 : decode cX8_minutes 86 = .ok (.iinc 6 1, 3) := by decide +kernel
theorem dX8_minutes_89 : decode cX8_minutes 89 = .ok (.goto (-58), 3) := by decide +kernel
theorem dX8_minutes_92 : decode cX8_minutes 92 = .ok (.iload_n 1, 1) := by decide +kernel
theorem dX8_minutes_93 : decode cX8_minutes 93 = .ok (.iconst 4, 1) := by decide +kernel
theorem dX8_minutes_94 : decode cX8_minutes 94 = .ok (.if_icmp .ne 12, 3) := by decide +kernel
theorem dX8_minutes_97 : decode cX8_minutes 97 = .ok (.iload_n 3, 1) := by decide +kernel
theorem dX8_minutes_98 : decode cX8_minutes 98 = .ok (.iload_n 2, 1) := by decide +kernel
theorem dX8_minutes_99 : decode cX8_minutes 99 = .ok (.isub, 1) := by decide +kernel
theorem dX8_minutes_100 : decode cX8_minutes 100 = .ok (.iload 5, 2) := by decide +kernel
theorem dX8_minutes_102 : decode cX8_minutes 102 = .ok (.isub, 1) := by decide +kernel
theorem dX8_minutes_103 : decode cX8_minutes 103 = .ok (.goto 5, 3) := by decide +kernel
theorem dX8_minutes_106 : decode cX8_minutes 106 = .ok (.iload 4, 2) := by decide +kernel
theorem dX8_minutes_108 : decode cX8_minutes 108 = .ok (.ireturn, 1) := by decide +kernel
theorem dX8_silence_0 : decode cX8_silence 0 = .ok (.iload_n 1, 1) := by decide +kernel
theorem dX8_silence_1 : decode cX8_silence 1 = .ok (.iload_n 2, 1) := by decide +kernel
theorem dX8_silence_2 : decode cX8_silence 2 = .ok (.sipush 10080, 3) := by decide +kernel
theorem dX8_silence_5 : decode cX8_silence 5 = .ok (.invokestatic 70, 3) := by decide +kernel
theorem dX8_silence_8 : decode cX8_silence 8 = .ok (.ifCond .ne 5, 3) := by decide +kernel
theorem dX8_silence_11 : decode cX8_silence 11 = .ok (.iconst (-1), 1) := by decide +kernel
theorem dX8_silence_12 : decode cX8_silence 12 = .ok (.ireturn, 1) := by decide +kernel
theorem dX8_silence_13 : decode cX8_silence 13 = .ok (.iconst 0, 1) := by decide +kernel
theorem dX8_silence_14 : decode cX8_silence 14 = .ok (.istore_n 3, 1) := by decide +kernel
theorem dX8_silence_15 : decode cX8_silence 15 = .ok (.iload_n 1, 1) := by decide +kernel
theorem dX8_silence_16 : decode cX8_silence 16 = .ok (.istore 4, 2) := by decide +kernel
theorem dX8_silence_18 : decode cX8_silence 18 = .ok (.iload_n 1, 1) := by decide +kernel
theorem dX8_silence_19 : decode cX8_silence 19 = .ok (.istore 5, 2) := by decide +kernel
theorem dX8_silence_21 : decode cX8_silence 21 = .ok (.iconst 0, 1) := by decide +kernel
theorem dX8_silence_22 : decode cX8_silence 22 = .ok (.istore 6, 2) := by decide +kernel
theorem dX8_silence_24 : decode cX8_silence 24 = .ok (.iload 6, 2) := by decide +kernel
theorem dX8_silence_26 : decode cX8_silence 26 = .ok (.aload_n 0, 1) := by decide +kernel
theorem dX8_silence_27 : decode cX8_silence 27 = .ok (.getfield 12, 3) := by decide +kernel
theorem dX8_silence_30 : decode cX8_silence 30 = .ok (.getfield 102, 3) := by decide +kernel
theorem dX8_silence_33 : decode cX8_silence 33 = .ok (.getfield 112, 3) := by decide +kernel
theorem dX8_silence_36 : decode cX8_silence 36 = .ok (.if_icmp .gt 100, 3) := by decide +kernel
theorem dX8_silence_39 : decode cX8_silence 39 = .ok (.iload 6, 2) := by decide +kernel
theorem dX8_silence_41 : decode cX8_silence 41 = .ok (.aload_n 0, 1) := by decide +kernel
theorem dX8_silence_42 : decode cX8_silence 42 = .ok (.getfield 12, 3) := by decide +kernel
theorem dX8_silence_45 : decode cX8_silence 45 = .ok (.getfield 102, 3) := by decide +kernel
theorem dX8_silence_48 : decode cX8_silence 48 = .ok (.getfield 112, 3) := by decide +kernel
theorem dX8_silence_51 : decode cX8_silence 51 = .ok (.if_icmp .ge 23, 3) := by decide +kernel
theorem dX8_silence_54 : decode cX8_silence 54 = .ok (.aload_n 0, 1) := by decide +kernel
theorem dX8_silence_55 : decode cX8_silence 55 = .ok (.getfield 12, 3) := by decide +kernel
theorem dX8_silence_58 : decode cX8_silence 58 = .ok (.getfield 102, 3) := by decide +kernel
theorem dX8_silence_61 : decode cX8_silence 61 = .ok (.getfield 150, 3) := by decide +kernel
theorem dX8_silence_64 : decode cX8_silence 64 = .ok (.iload 6, 2) := by decide +kernel
theorem dX8_silence_66 : decode cX8_silence 66 = .ok (.iaload, 1) := by decide +kernel
theorem dX8_silence_67 : decode cX8_silence 67 = .ok (.iload_n 2, 1) := by decide +kernel
theorem dX8_silence_68 : decode cX8_silence 68 = .ok (.invokestatic 171, 3) := by decide +kernel
theorem dX8_silence_71 : decode cX8_silence 71 = .ok (.goto 4, 3) := by decide +kernel
theorem dX8_silence_74 : decode cX8_silence 74 = .ok (.iload_n 2, 1) := by decide +kernel
theorem dX8_silence_75 : decode cX8_silence 75 = .ok (.istore 7, 2) := by decide +kernel
theorem dX8_silence_77 : decode cX8_silence 77 = .ok (.iload 7, 2) := by decide +kernel
theorem dX8_silence_79 : decode cX8_silence 79 = .ok (.iload 5, 2) := by decide +kernel
theorem dX8_silence_81 : decode cX8_silence 81 = .ok (.isub, 1) := by decide +kernel
theorem dX8_silence_82 : decode cX8_silence 82 = .ok (.iload_n 3, 1) := by decide +kernel
theorem dX8_silence_83 : decode cX8_silence 83 = .ok (.if_icmp .le 13, 3) := by decide +kernel
theorem dX8_silence_86 : decode cX8_silence 86 = .ok (.iload 7, 2) := by decide +kernel
theorem dX8_silence_88 : decode cX8_silence 88 = .ok (.iload 5, 2) := by decide +kernel
theorem dX8_silence_90 : decode cX8_silence 90 = .ok (.isub, 1) := by decide +kernel
theorem dX8_silence_91 : decode cX8_silence 91 = .ok (.istore_n 3, 1) := by decide +kernel
theorem dX8_silence_92 : decode cX8_silence 92 = .ok (.iload 5, 2) := by decide +kernel
theorem dX8_silence_94 : decode cX8_silence 94 = .ok (.istore 4, 2) := by decide +kernel
theorem dX8_silence_96 : decode cX8_silence 96 = .ok (.iload 6, 2) := by decide +kernel
theorem dX8_silence_98 : decode cX8_silence 98 = .ok (.aload_n 0, 1) := by decide +kernel
theorem dX8_silence_99 : decode cX8_silence 99 = .ok (.getfield 12, 3) := by decide +kernel
theorem dX8_silence_102 : decode cX8_silence 102 = .ok (.getfield 102, 3) := by decide +kernel
theorem dX8_silence_105 : decode cX8_silence 105 = .ok (.getfield 112, 3) := by decide +kernel
theorem dX8_silence_108 : decode cX8_silence 108 = .ok (.if_icmp .ge 22, 3) := by decide +kernel
theorem dX8_silence_111 : decode cX8_silence 111 = .ok (.iload 5, 2) := by decide +kernel
theorem dX8_silence_113 : decode cX8_silence 113 = .ok (.aload_n 0, 1) := by decide +kernel
theorem dX8_silence_114 : decode cX8_silence 114 = .ok (.getfield 12, 3) := by decide +kernel
theorem dX8_silence_117 : decode cX8_silence 117 = .ok (.getfield 102, 3) := by decide +kernel
theorem dX8_silence_120 : decode cX8_silence 120 = .ok (.iload 6, 2) := by decide +kernel
theorem dX8_silence_122 : decode cX8_silence 122 = .ok (.invokevirtual 137, 3) := by decide +kernel
theorem dX8_silence_125 : decode cX8_silence 125 = .ok (.invokestatic 176, 3) := by decide +kernel
theorem dX8_silence_128 : decode cX8_silence 128 = .ok (.istore 5, 2) := by decide +kernel
theorem dX8_silence_130 : decode cX8_silence 130 = .ok (.iinc 6 1, 3) := by decide +kernel
theorem dX8_silence_133 : decode cX8_silence 133 = .ok (.goto (-109), 3) := by decide +kernel
theorem dX8_silence_136 : decode cX8_silence 136 = .ok (.iload_n 3, 1) := by decide +kernel
theorem dX8_silence_137 : decode cX8_silence 137 = .ok (.ifCond .ne 8, 3) := by decide +kernel
theorem dX8_silence_140 : decode cX8_silence 140 = .ok (.bipush (-9), 2) := by decide +kernel
theorem dX8_silence_142 : decode cX8_silence 142 = .ok (.goto 11, 3) := by decide +kernel
theorem dX8_silence_145 : decode cX8_silence 145 = .ok (.sipush 10081, 3) := by decide +kernel
theorem dX8_silence_148 : decode cX8_silence 148 = .ok (.iload_n 3, 1) := by decide +kernel
theorem dX8_silence_149 : decode cX8_silence 149 = .ok (.imul, 1) := by decide +kernel
theorem dX8_silence_150 : decode cX8_silence 150 = .ok (.iload 4, 2) := by decide +kernel
theorem dX8_silence_152 : decode cX8_silence 152 = .ok (.iadd, 1) := by decide +kernel
theorem dX8_silence_153 : decode cX8_silence 153 = .ok (.ireturn, 1) := by decide +kernel
theorem dX8_ranked_0 : decode cX8_ranked 0 = .ok (.iload_n 1, 1) := by decide +kernel
theorem dX8_ranked_1 : decode cX8_ranked 1 = .ok (.iconst 0, 1) := by decide +kernel
theorem dX8_ranked_2 : decode cX8_ranked 2 = .ok (.aload_n 0, 1) := by decide +kernel
theorem dX8_ranked_3 : decode cX8_ranked 3 = .ok (.getfield 12, 3) := by decide +kernel
theorem dX8_ranked_6 : decode cX8_ranked 6 = .ok (.getfield 48, 3) := by decide +kernel
theorem dX8_ranked_9 : decode cX8_ranked 9 = .ok (.getfield 52, 3) := by decide +kernel
theorem dX8_ranked_12 : decode cX8_ranked 12 = .ok (.iconst 1, 1) := by decide +kernel
theorem dX8_ranked_13 : decode cX8_ranked 13 = .ok (.isub, 1) := by decide +kernel
theorem dX8_ranked_14 : decode cX8_ranked 14 = .ok (.invokestatic 44, 3) := by decide +kernel
theorem dX8_ranked_17 : decode cX8_ranked 17 = .ok (.ifCond .ne 5, 3) := by decide +kernel
theorem dX8_ranked_20 : decode cX8_ranked 20 = .ok (.iconst (-1), 1) := by decide +kernel
theorem dX8_ranked_21 : decode cX8_ranked 21 = .ok (.ireturn, 1) := by decide +kernel
theorem dX8_ranked_22 : decode cX8_ranked 22 = .ok (.iconst 0, 1) := by decide +kernel
theorem dX8_ranked_23 : decode cX8_ranked 23 = .ok (.istore_n 2, 1) := by decide +kernel
theorem dX8_ranked_24 : decode cX8_ranked 24 = .ok (.iload_n 2, 1) := by decide +kernel
theorem dX8_ranked_25 : decode cX8_ranked 25 = .ok (.aload_n 0, 1) := by decide +kernel
theorem dX8_ranked_26 : decode cX8_ranked 26 = .ok (.getfield 12, 3) := by decide +kernel
theorem dX8_ranked_29 : decode cX8_ranked 29 = .ok (.getfield 48, 3) := by decide +kernel
theorem dX8_ranked_32 : decode cX8_ranked 32 = .ok (.getfield 52, 3) := by decide +kernel
theorem dX8_ranked_35 : decode cX8_ranked 35 = .ok (.if_icmp .ge 20, 3) := by decide +kernel
theorem dX8_ranked_38 : decode cX8_ranked 38 = .ok (.aload_n 0, 1) := by decide +kernel
theorem dX8_ranked_39 : decode cX8_ranked 39 = .ok (.iload_n 2, 1) := by decide +kernel
theorem dX8_ranked_40 : decode cX8_ranked 40 = .ok (.invokevirtual 179, 3) := by decide +kernel
theorem dX8_ranked_43 : decode cX8_ranked 43 = .ok (.iload_n 1, 1) := by decide +kernel
theorem dX8_ranked_44 : decode cX8_ranked 44 = .ok (.if_icmp .ne 5, 3) := by decide +kernel
theorem dX8_ranked_47 : decode cX8_ranked 47 = .ok (.iload_n 2, 1) := by decide +kernel
theorem dX8_ranked_48 : decode cX8_ranked 48 = .ok (.ireturn, 1) := by decide +kernel
theorem dX8_ranked_49 : decode cX8_ranked 49 = .ok (.iinc 2 1, 3) := by decide +kernel
theorem dX8_ranked_52 : decode cX8_ranked 52 = .ok (.goto (-28), 3) := by decide +kernel
theorem dX8_ranked_55 : decode cX8_ranked 55 = .ok (.iconst (-1), 1) := by decide +kernel
theorem dX8_ranked_56 : decode cX8_ranked 56 = .ok (.ireturn, 1) := by decide +kernel
theorem dX8_broken_0 : decode cX8_broken 0 = .ok (.iconst 0, 1) := by decide +kernel
theorem dX8_broken_1 : decode cX8_broken 1 = .ok (.istore_n 1, 1) := by decide +kernel
theorem dX8_broken_2 : decode cX8_broken 2 = .ok (.iconst 0, 1) := by decide +kernel
theorem dX8_broken_3 : decode cX8_broken 3 = .ok (.istore_n 2, 1) := by decide +kernel
theorem dX8_broken_4 : decode cX8_broken 4 = .ok (.iload_n 2, 1) := by decide +kernel
theorem dX8_broken_5 : decode cX8_broken 5 = .ok (.aload_n 0, 1) := by decide +kernel
theorem dX8_broken_6 : decode cX8_broken 6 = .ok (.getfield 12, 3) := by decide +kernel
theorem dX8_broken_9 : decode cX8_broken 9 = .ok (.getfield 102, 3) := by decide +kernel
theorem dX8_broken_12 : decode cX8_broken 12 = .ok (.getfield 112, 3) := by decide +kernel
theorem dX8_broken_15 : decode cX8_broken 15 = .ok (.if_icmp .ge 75, 3) := by decide +kernel
theorem dX8_broken_18 : decode cX8_broken 18 = .ok (.aload_n 0, 1) := by decide +kernel
theorem dX8_broken_19 : decode cX8_broken 19 = .ok (.getfield 12, 3) := by decide +kernel
theorem dX8_broken_22 : decode cX8_broken 22 = .ok (.getfield 48, 3) := by decide +kernel
theorem dX8_broken_25 : decode cX8_broken 25 = .ok (.getfield 182, 3) := by decide +kernel
theorem dX8_broken_28 : decode cX8_broken 28 = .ok (.aload_n 0, 1) := by decide +kernel
theorem dX8_broken_29 : decode cX8_broken 29 = .ok (.getfield 12, 3) := by decide +kernel
theorem dX8_broken_32 : decode cX8_broken 32 = .ok (.getfield 102, 3) := by decide +kernel
theorem dX8_broken_35 : decode cX8_broken 35 = .ok (.getfield 147, 3) := by decide +kernel
theorem dX8_broken_38 : decode cX8_broken 38 = .ok (.iload_n 2, 1) := by decide +kernel
theorem dX8_broken_39 : decode cX8_broken 39 = .ok (.iaload, 1) := by decide +kernel
theorem dX8_broken_40 : decode cX8_broken 40 = .ok (.iaload, 1) := by decide +kernel
theorem dX8_broken_41 : decode cX8_broken 41 = .ok (.istore_n 3, 1) := by decide +kernel
theorem dX8_broken_42 : decode cX8_broken 42 = .ok (.aload_n 0, 1) := by decide +kernel
theorem dX8_broken_43 : decode cX8_broken 43 = .ok (.getfield 12, 3) := by decide +kernel
theorem dX8_broken_46 : decode cX8_broken 46 = .ok (.getfield 83, 3) := by decide +kernel
theorem dX8_broken_49 : decode cX8_broken 49 = .ok (.iload_n 3, 1) := by decide +kernel
theorem dX8_broken_50 : decode cX8_broken 50 = .ok (.aload_n 0, 1) := by decide +kernel
theorem dX8_broken_51 : decode cX8_broken 51 = .ok (.getfield 12, 3) := by decide +kernel
theorem dX8_broken_54 : decode cX8_broken 54 = .ok (.getfield 102, 3) := by decide +kernel
theorem dX8_broken_57 : decode cX8_broken 57 = .ok (.getfield 150, 3) := by decide +kernel
theorem dX8_broken_60 : decode cX8_broken 60 = .ok (.iload_n 2, 1) := by decide +kernel
theorem dX8_broken_61 : decode cX8_broken 61 = .ok (.iaload, 1) := by decide +kernel
theorem dX8_broken_62 : decode cX8_broken 62 = .ok (.aload_n 0, 1) := by decide +kernel
theorem dX8_broken_63 : decode cX8_broken 63 = .ok (.getfield 12, 3) := by decide +kernel
theorem dX8_broken_66 : decode cX8_broken 66 = .ok (.getfield 102, 3) := by decide +kernel
theorem dX8_broken_69 : decode cX8_broken 69 = .ok (.iload_n 2, 1) := by decide +kernel
theorem dX8_broken_70 : decode cX8_broken 70 = .ok (.invokevirtual 137, 3) := by decide +kernel
theorem dX8_broken_73 : decode cX8_broken 73 = .ok (.invokevirtual 185, 3) := by decide +kernel
theorem dX8_broken_76 : decode cX8_broken 76 = .ok (.bipush (-9), 2) := by decide +kernel
theorem dX8_broken_78 : decode cX8_broken 78 = .ok (.if_icmp .eq 6, 3) := by decide +kernel
theorem dX8_broken_81 : decode cX8_broken 81 = .ok (.iinc 1 1, 3) := by decide +kernel
theorem dX8_broken_84 : decode cX8_broken 84 = .ok (.iinc 2 1, 3) := by decide +kernel
theorem dX8_broken_87 : decode cX8_broken 87 = .ok (.goto (-83), 3) := by decide +kernel
theorem dX8_broken_90 : decode cX8_broken 90 = .ok (.iload_n 1, 1) := by decide +kernel
theorem dX8_broken_91 : decode cX8_broken 91 = .ok (.ireturn, 1) := by decide +kernel
theorem dX8_line_0 : decode cX8_line 0 = .ok (.aload_n 0, 1) := by decide +kernel
theorem dX8_line_1 : decode cX8_line 1 = .ok (.iload_n 1, 1) := by decide +kernel
theorem dX8_line_2 : decode cX8_line 2 = .ok (.invokevirtual 99, 3) := by decide +kernel
theorem dX8_line_5 : decode cX8_line 5 = .ok (.ifCond .eq 7, 3) := by decide +kernel
theorem dX8_line_8 : decode cX8_line 8 = .ok (.iload_n 2, 1) := by decide +kernel
theorem dX8_line_9 : decode cX8_line 9 = .ok (.ifCond .ge 5, 3) := by decide +kernel
theorem dX8_line_12 : decode cX8_line 12 = .ok (.iconst (-1), 1) := by decide +kernel
theorem dX8_line_13 : decode cX8_line 13 = .ok (.ireturn, 1) := by decide +kernel
theorem dX8_line_14 : decode cX8_line 14 = .ok (.aload_n 0, 1) := by decide +kernel
theorem dX8_line_15 : decode cX8_line 15 = .ok (.iload_n 1, 1) := by decide +kernel
theorem dX8_line_16 : decode cX8_line 16 = .ok (.invokevirtual 188, 3) := by decide +kernel
theorem dX8_line_19 : decode cX8_line 19 = .ok (.iload_n 2, 1) := by decide +kernel
theorem dX8_line_20 : decode cX8_line 20 = .ok (.aload_n 0, 1) := by decide +kernel
theorem dX8_line_21 : decode cX8_line 21 = .ok (.getfield 40, 3) := by decide +kernel
theorem dX8_line_24 : decode cX8_line 24 = .ok (.invokevirtual 191, 3) := by decide +kernel
theorem dX8_line_27 : decode cX8_line 27 = .ok (.if_icmp .ge 14, 3) := by decide +kernel
theorem dX8_line_30 : decode cX8_line 30 = .ok (.aload_n 0, 1) := by decide +kernel
theorem dX8_line_31 : decode cX8_line 31 = .ok (.getfield 40, 3) := by decide +kernel
theorem dX8_line_34 : decode cX8_line 34 = .ok (.iload_n 2, 1) := by decide +kernel
theorem dX8_line_35 : decode cX8_line 35 = .ok (.invokevirtual 194, 3) := by decide +kernel
theorem dX8_line_38 : decode cX8_line 38 = .ok (.goto 5, 3) := by decide +kernel
theorem dX8_line_41 : decode cX8_line 41 = .ok (.bipush (-9), 2) := by decide +kernel
theorem dX8_line_43 : decode cX8_line 43 = .ok (.ireturn, 1) := by decide +kernel
theorem dX8_undo_0 : decode cX8_undo 0 = .ok (.aload_n 0, 1) := by decide +kernel
theorem dX8_undo_1 : decode cX8_undo 1 = .ok (.getfield 19, 3) := by decide +kernel
theorem dX8_undo_4 : decode cX8_undo 4 = .ok (.getfield 198, 3) := by decide +kernel
theorem dX8_undo_7 : decode cX8_undo 7 = .ok (.ifCond .ne 6, 3) := by decide +kernel
theorem dX8_undo_10 : decode cX8_undo 10 = .ok (.bipush (-9), 2) := by decide +kernel
theorem dX8_undo_12 : decode cX8_undo 12 = .ok (.ireturn, 1) := by decide +kernel
theorem dX8_undo_13 : decode cX8_undo 13 = .ok (.aload_n 0, 1) := by decide +kernel
theorem dX8_undo_14 : decode cX8_undo 14 = .ok (.getfield 19, 3) := by decide +kernel
theorem dX8_undo_17 : decode cX8_undo 17 = .ok (.aload_n 0, 1) := by decide +kernel
theorem dX8_undo_18 : decode cX8_undo 18 = .ok (.getfield 12, 3) := by decide +kernel
theorem dX8_undo_21 : decode cX8_undo 21 = .ok (.invokevirtual 199, 3) := by decide +kernel
theorem dX8_undo_24 : decode cX8_undo 24 = .ok (.aload_n 0, 1) := by decide +kernel
theorem dX8_undo_25 : decode cX8_undo 25 = .ok (.getfield 19, 3) := by decide +kernel
theorem dX8_undo_28 : decode cX8_undo 28 = .ok (.getfield 198, 3) := by decide +kernel
theorem dX8_undo_31 : decode cX8_undo 31 = .ok (.ireturn, 1) := by decide +kernel
theorem dX8_fingerprint_0 : decode cX8_fingerprint 0 = .ok (.aload_n 0, 1) := by decide +kernel
theorem dX8_fingerprint_1 : decode cX8_fingerprint 1 = .ok (.invokevirtual 156, 3) := by decide +kernel
theorem dX8_fingerprint_4 : decode cX8_fingerprint 4 = .ok (.ldc2_w 202, 3) := by decide +kernel
theorem dX8_fingerprint_7 : decode cX8_fingerprint 7 = .ok (.lstore_n 1, 1) := by decide +kernel
theorem dX8_fingerprint_8 : decode cX8_fingerprint 8 = .ok (.ldc2_w 204, 3) := by decide +kernel
theorem dX8_fingerprint_11 : decode cX8_fingerprint 11 = .ok (.lload_n 1, 1) := by decide +kernel
theorem dX8_fingerprint_12 : decode cX8_fingerprint 12 = .ok (.lmul, 1) := by decide +kernel
theorem dX8_fingerprint_13 : decode cX8_fingerprint 13 = .ok (.aload_n 0, 1) := by decide +kernel
theorem dX8_fingerprint_14 : decode cX8_fingerprint 14 = .ok (.getfield 12, 3) := by decide +kernel
theorem dX8_fingerprint_17 : decode cX8_fingerprint 17 = .ok (.getfield 48, 3) := by decide +kernel
theorem dX8_fingerprint_20 : decode cX8_fingerprint 20 = .ok (.getfield 52, 3) := by decide +kernel
theorem dX8_fingerprint_23 : decode cX8_fingerprint 23 = .ok (.i2l, 1) := by decide +kernel
theorem dX8_fingerprint_24 : decode cX8_fingerprint 24 = .ok (.ladd, 1) := by decide +kernel
theorem dX8_fingerprint_25 : decode cX8_fingerprint 25 = .ok (.lstore_n 1, 1) := by decide +kernel
theorem dX8_fingerprint_26 : decode cX8_fingerprint 26 = .ok (.ldc2_w 204, 3) := by decide +kernel
theorem dX8_fingerprint_29 : decode cX8_fingerprint 29 = .ok (.lload_n 1, 1) := by decide +kernel
theorem dX8_fingerprint_30 : decode cX8_fingerprint 30 = .ok (.lmul, 1) := by decide +kernel
theorem dX8_fingerprint_31 : decode cX8_fingerprint 31 = .ok (.aload_n 0, 1) := by decide +kernel
theorem dX8_fingerprint_32 : decode cX8_fingerprint 32 = .ok (.getfield 12, 3) := by decide +kernel
theorem dX8_fingerprint_35 : decode cX8_fingerprint 35 = .ok (.getfield 73, 3) := by decide +kernel
theorem dX8_fingerprint_38 : decode cX8_fingerprint 38 = .ok (.getfield 77, 3) := by decide +kernel
theorem dX8_fingerprint_41 : decode cX8_fingerprint 41 = .ok (.i2l, 1) := by decide +kernel
theorem dX8_fingerprint_42 : decode cX8_fingerprint 42 = .ok (.ladd, 1) := by decide +kernel
theorem dX8_fingerprint_43 : decode cX8_fingerprint 43 = .ok (.lstore_n 1, 1) := by decide +kernel
theorem dX8_fingerprint_44 : decode cX8_fingerprint 44 = .ok (.ldc2_w 204, 3) := by decide +kernel
theorem dX8_fingerprint_47 : decode cX8_fingerprint 47 = .ok (.lload_n 1, 1) := by decide +kernel
theorem dX8_fingerprint_48 : decode cX8_fingerprint 48 = .ok (.lmul, 1) := by decide +kernel
theorem dX8_fingerprint_49 : decode cX8_fingerprint 49 = .ok (.aload_n 0, 1) := by decide +kernel
theorem dX8_fingerprint_50 : decode cX8_fingerprint 50 = .ok (.getfield 12, 3) := by decide +kernel
theorem dX8_fingerprint_53 : decode cX8_fingerprint 53 = .ok (.getfield 83, 3) := by decide +kernel
theorem dX8_fingerprint_56 : decode cX8_fingerprint 56 = .ok (.getfield 87, 3) := by decide +kernel
theorem dX8_fingerprint_59 : decode cX8_fingerprint 59 = .ok (.i2l, 1) := by decide +kernel
theorem dX8_fingerprint_60 : decode cX8_fingerprint 60 = .ok (.ladd, 1) := by decide +kernel
theorem dX8_fingerprint_61 : decode cX8_fingerprint 61 = .ok (.lstore_n 1, 1) := by decide +kernel
theorem dX8_fingerprint_62 : decode cX8_fingerprint 62 = .ok (.ldc2_w 204, 3) := by decide +kernel
theorem dX8_fingerprint_65 : decode cX8_fingerprint 65 = .ok (.lload_n 1, 1) := by decide +kernel
theorem dX8_fingerprint_66 : decode cX8_fingerprint 66 = .ok (.lmul, 1) := by decide +kernel
theorem dX8_fingerprint_67 : decode cX8_fingerprint 67 = .ok (.aload_n 0, 1) := by decide +kernel
theorem dX8_fingerprint_68 : decode cX8_fingerprint 68 = .ok (.getfield 12, 3) := by decide +kernel
theorem dX8_fingerprint_71 : decode cX8_fingerprint 71 = .ok (.getfield 102, 3) := by decide +kernel
theorem dX8_fingerprint_74 : decode cX8_fingerprint 74 = .ok (.getfield 112, 3) := by decide +kernel
theorem dX8_fingerprint_77 : decode cX8_fingerprint 77 = .ok (.i2l, 1) := by decide +kernel
theorem dX8_fingerprint_78 : decode cX8_fingerprint 78 = .ok (.ladd, 1) := by decide +kernel
theorem dX8_fingerprint_79 : decode cX8_fingerprint 79 = .ok (.lstore_n 1, 1) := by decide +kernel
theorem dX8_fingerprint_80 : decode cX8_fingerprint 80 = .ok (.iconst 0, 1) := by decide +kernel
theorem dX8_fingerprint_81 : decode cX8_fingerprint 81 = .ok (.istore_n 3, 1) := by decide +kernel
theorem dX8_fingerprint_82 : decode cX8_fingerprint 82 = .ok (.iload_n 3, 1) := by decide +kernel
theorem dX8_fingerprint_83 : decode cX8_fingerprint 83 = .ok (.aload_n 0, 1) := by decide +kernel
theorem dX8_fingerprint_84 : decode cX8_fingerprint 84 = .ok (.getfield 12, 3) := by decide +kernel
theorem dX8_fingerprint_87 : decode cX8_fingerprint 87 = .ok (.getfield 102, 3) := by decide +kernel
theorem dX8_fingerprint_90 : decode cX8_fingerprint 90 = .ok (.getfield 112, 3) := by decide +kernel
theorem dX8_fingerprint_93 : decode cX8_fingerprint 93 = .ok (.if_icmp .ge 106, 3) := by decide +kernel
theorem dX8_fingerprint_96 : decode cX8_fingerprint 96 = .ok (.ldc2_w 204, 3) := by decide +kernel
theorem dX8_fingerprint_99 : decode cX8_fingerprint 99 = .ok (.lload_n 1, 1) := by decide +kernel
theorem dX8_fingerprint_100 : decode cX8_fingerprint 100 = .ok (.lmul, 1) := by decide +kernel
theorem dX8_fingerprint_101 : decode cX8_fingerprint 101 = .ok (.aload_n 0, 1) := by decide +kernel
theorem dX8_fingerprint_102 : decode cX8_fingerprint 102 = .ok (.getfield 12, 3) := by decide +kernel
theorem dX8_fingerprint_105 : decode cX8_fingerprint 105 = .ok (.getfield 102, 3) := by decide +kernel
theorem dX8_fingerprint_108 : decode cX8_fingerprint 108 = .ok (.getfield 147, 3) := by decide +kernel
theorem dX8_fingerprint_111 : decode cX8_fingerprint 111 = .ok (.iload_n 3, 1) := by decide +kernel
theorem dX8_fingerprint_112 : decode cX8_fingerprint 112 = .ok (.iaload, 1) := by decide +kernel
theorem dX8_fingerprint_113 : decode cX8_fingerprint 113 = .ok (.i2l, 1) := by decide +kernel
theorem dX8_fingerprint_114 : decode cX8_fingerprint 114 = .ok (.ladd, 1) := by decide +kernel
theorem dX8_fingerprint_115 : decode cX8_fingerprint 115 = .ok (.lstore_n 1, 1) := by decide +kernel
theorem dX8_fingerprint_116 : decode cX8_fingerprint 116 = .ok (.ldc2_w 204, 3) := by decide +kernel
theorem dX8_fingerprint_119 : decode cX8_fingerprint 119 = .ok (.lload_n 1, 1) := by decide +kernel
theorem dX8_fingerprint_120 : decode cX8_fingerprint 120 = .ok (.lmul, 1) := by decide +kernel
theorem dX8_fingerprint_121 : decode cX8_fingerprint 121 = .ok (.aload_n 0, 1) := by decide +kernel
theorem dX8_fingerprint_122 : decode cX8_fingerprint 122 = .ok (.getfield 12, 3) := by decide +kernel
theorem dX8_fingerprint_125 : decode cX8_fingerprint 125 = .ok (.getfield 102, 3) := by decide +kernel
theorem dX8_fingerprint_128 : decode cX8_fingerprint 128 = .ok (.getfield 150, 3) := by decide +kernel
theorem dX8_fingerprint_131 : decode cX8_fingerprint 131 = .ok (.iload_n 3, 1) := by decide +kernel
theorem dX8_fingerprint_132 : decode cX8_fingerprint 132 = .ok (.iaload, 1) := by decide +kernel
theorem dX8_fingerprint_133 : decode cX8_fingerprint 133 = .ok (.i2l, 1) := by decide +kernel
theorem dX8_fingerprint_134 : decode cX8_fingerprint 134 = .ok (.ladd, 1) := by decide +kernel
theorem dX8_fingerprint_135 : decode cX8_fingerprint 135 = .ok (.lstore_n 1, 1) := by decide +kernel
theorem dX8_fingerprint_136 : decode cX8_fingerprint 136 = .ok (.ldc2_w 204, 3) := by decide +kernel
theorem dX8_fingerprint_139 : decode cX8_fingerprint 139 = .ok (.lload_n 1, 1) := by decide +kernel
theorem dX8_fingerprint_140 : decode cX8_fingerprint 140 = .ok (.lmul, 1) := by decide +kernel
theorem dX8_fingerprint_141 : decode cX8_fingerprint 141 = .ok (.aload_n 0, 1) := by decide +kernel
theorem dX8_fingerprint_142 : decode cX8_fingerprint 142 = .ok (.getfield 12, 3) := by decide +kernel
theorem dX8_fingerprint_145 : decode cX8_fingerprint 145 = .ok (.getfield 102, 3) := by decide +kernel
theorem dX8_fingerprint_148 : decode cX8_fingerprint 148 = .ok (.getfield 140, 3) := by decide +kernel
theorem dX8_fingerprint_151 : decode cX8_fingerprint 151 = .ok (.iload_n 3, 1) := by decide +kernel
theorem dX8_fingerprint_152 : decode cX8_fingerprint 152 = .ok (.iaload, 1) := by decide +kernel
theorem dX8_fingerprint_153 : decode cX8_fingerprint 153 = .ok (.i2l, 1) := by decide +kernel
theorem dX8_fingerprint_154 : decode cX8_fingerprint 154 = .ok (.ladd, 1) := by decide +kernel
theorem dX8_fingerprint_155 : decode cX8_fingerprint 155 = .ok (.lstore_n 1, 1) := by decide +kernel
theorem dX8_fingerprint_156 : decode cX8_fingerprint 156 = .ok (.ldc2_w 204, 3) := by decide +kernel
theorem dX8_fingerprint_159 : decode cX8_fingerprint 159 = .ok (.lload_n 1, 1) := by decide +kernel
theorem dX8_fingerprint_160 : decode cX8_fingerprint 160 = .ok (.lmul, 1) := by decide +kernel
theorem dX8_fingerprint_161 : decode cX8_fingerprint 161 = .ok (.aload_n 0, 1) := by decide +kernel
theorem dX8_fingerprint_162 : decode cX8_fingerprint 162 = .ok (.getfield 12, 3) := by decide +kernel
theorem dX8_fingerprint_165 : decode cX8_fingerprint 165 = .ok (.getfield 102, 3) := by decide +kernel
theorem dX8_fingerprint_168 : decode cX8_fingerprint 168 = .ok (.getfield 153, 3) := by decide +kernel
theorem dX8_fingerprint_171 : decode cX8_fingerprint 171 = .ok (.iload_n 3, 1) := by decide +kernel
theorem dX8_fingerprint_172 : decode cX8_fingerprint 172 = .ok (.iaload, 1) := by decide +kernel
theorem dX8_fingerprint_173 : decode cX8_fingerprint 173 = .ok (.i2l, 1) := by decide +kernel
theorem dX8_fingerprint_174 : decode cX8_fingerprint 174 = .ok (.ladd, 1) := by decide +kernel
theorem dX8_fingerprint_175 : decode cX8_fingerprint 175 = .ok (.lstore_n 1, 1) := by decide +kernel
theorem dX8_fingerprint_176 : decode cX8_fingerprint 176 = .ok (.ldc2_w 204, 3) := by decide +kernel
theorem dX8_fingerprint_179 : decode cX8_fingerprint 179 = .ok (.lload_n 1, 1) := by decide +kernel
theorem dX8_fingerprint_180 : decode cX8_fingerprint 180 = .ok (.lmul, 1) := by decide +kernel
theorem dX8_fingerprint_181 : decode cX8_fingerprint 181 = .ok (.aload_n 0, 1) := by decide +kernel
theorem dX8_fingerprint_182 : decode cX8_fingerprint 182 = .ok (.getfield 26, 3) := by decide +kernel
theorem dX8_fingerprint_185 : decode cX8_fingerprint 185 = .ok (.getfield 159, 3) := by decide +kernel
theorem dX8_fingerprint_188 : decode cX8_fingerprint 188 = .ok (.iload_n 3, 1) := by decide +kernel
theorem dX8_fingerprint_189 : decode cX8_fingerprint 189 = .ok (.iaload, 1) := by decide +kernel
theorem dX8_fingerprint_190 : decode cX8_fingerprint 190 = .ok (.i2l, 1) := by decide +kernel
theorem dX8_fingerprint_191 : decode cX8_fingerprint 191 = .ok (.ladd, 1) := by decide +kernel
theorem dX8_fingerprint_192 : decode cX8_fingerprint 192 = .ok (.lstore_n 1, 1) := by decide +kernel
theorem dX8_fingerprint_193 : decode cX8_fingerprint 193 = .ok (.iinc 3 1, 3) := by decide +kernel
theorem dX8_fingerprint_196 : decode cX8_fingerprint 196 = .ok (.goto (-114), 3) := by decide +kernel
theorem dX8_fingerprint_199 : decode cX8_fingerprint 199 = .ok (.iconst 0, 1) := by decide +kernel
theorem dX8_fingerprint_200 : decode cX8_fingerprint 200 = .ok (.istore_n 3, 1) := by decide +kernel
theorem dX8_fingerprint_201 : decode cX8_fingerprint 201 = .ok (.iload_n 3, 1) := by decide +kernel
theorem dX8_fingerprint_202 : decode cX8_fingerprint 202 = .ok (.aload_n 0, 1) := by decide +kernel
theorem dX8_fingerprint_203 : decode cX8_fingerprint 203 = .ok (.getfield 12, 3) := by decide +kernel
theorem dX8_fingerprint_206 : decode cX8_fingerprint 206 = .ok (.getfield 48, 3) := by decide +kernel
theorem dX8_fingerprint_209 : decode cX8_fingerprint 209 = .ok (.getfield 52, 3) := by decide +kernel
theorem dX8_fingerprint_212 : decode cX8_fingerprint 212 = .ok (.if_icmp .ge 29, 3) := by decide +kernel
theorem dX8_fingerprint_215 : decode cX8_fingerprint 215 = .ok (.ldc2_w 204, 3) := by decide +kernel
theorem dX8_fingerprint_218 : decode cX8_fingerprint 218 = .ok (.lload_n 1, 1) := by decide +kernel
theorem dX8_fingerprint_219 : decode cX8_fingerprint 219 = .ok (.lmul, 1) := by decide +kernel
theorem dX8_fingerprint_220 : decode cX8_fingerprint 220 = .ok (.aload_n 0, 1) := by decide +kernel
theorem dX8_fingerprint_221 : decode cX8_fingerprint 221 = .ok (.getfield 12, 3) := by decide +kernel
theorem dX8_fingerprint_224 : decode cX8_fingerprint 224 = .ok (.getfield 48, 3) := by decide +kernel
theorem dX8_fingerprint_227 : decode cX8_fingerprint 227 = .ok (.getfield 144, 3) := by decide +kernel
theorem dX8_fingerprint_230 : decode cX8_fingerprint 230 = .ok (.iload_n 3, 1) := by decide +kernel
theorem dX8_fingerprint_231 : decode cX8_fingerprint 231 = .ok (.iaload, 1) := by decide +kernel
theorem dX8_fingerprint_232 : decode cX8_fingerprint 232 = .ok (.i2l, 1) := by decide +kernel
theorem dX8_fingerprint_233 : decode cX8_fingerprint 233 = .ok (.ladd, 1) := by decide +kernel
theorem dX8_fingerprint_234 : decode cX8_fingerprint 234 = .ok (.lstore_n 1, 1) := by decide +kernel
theorem dX8_fingerprint_235 : decode cX8_fingerprint 235 = .ok (.iinc 3 1, 3) := by decide +kernel
theorem dX8_fingerprint_238 : decode cX8_fingerprint 238 = .ok (.goto (-37), 3) := by decide +kernel
theorem dX8_fingerprint_241 : decode cX8_fingerprint 241 = .ok (.iconst 0, 1) := by decide +kernel
theorem dX8_fingerprint_242 : decode cX8_fingerprint 242 = .ok (.istore_n 3, 1) := by decide +kernel
theorem dX8_fingerprint_243 : decode cX8_fingerprint 243 = .ok (.iload_n 3, 1) := by decide +kernel
theorem dX8_fingerprint_244 : decode cX8_fingerprint 244 = .ok (.aload_n 0, 1) := by decide +kernel
theorem dX8_fingerprint_245 : decode cX8_fingerprint 245 = .ok (.getfield 12, 3) := by decide +kernel
theorem dX8_fingerprint_248 : decode cX8_fingerprint 248 = .ok (.getfield 73, 3) := by decide +kernel
theorem dX8_fingerprint_251 : decode cX8_fingerprint 251 = .ok (.getfield 77, 3) := by decide +kernel
theorem dX8_fingerprint_254 : decode cX8_fingerprint 254 = .ok (.if_icmp .ge 26, 3) := by decide +kernel
theorem dX8_fingerprint_257 : decode cX8_fingerprint 257 = .ok (.ldc2_w 204, 3) := by decide +kernel
theorem dX8_fingerprint_260 : decode cX8_fingerprint 260 = .ok (.lload_n 1, 1) := by decide +kernel
theorem dX8_fingerprint_261 : decode cX8_fingerprint 261 = .ok (.lmul, 1) := by decide +kernel
theorem dX8_fingerprint_262 : decode cX8_fingerprint 262 = .ok (.aload_n 0, 1) := by decide +kernel
theorem dX8_fingerprint_263 : decode cX8_fingerprint 263 = .ok (.getfield 26, 3) := by decide +kernel
theorem dX8_fingerprint_266 : decode cX8_fingerprint 266 = .ok (.getfield 162, 3) := by decide +kernel
theorem dX8_fingerprint_269 : decode cX8_fingerprint 269 = .ok (.iload_n 3, 1) := by decide +kernel
theorem dX8_fingerprint_270 : decode cX8_fingerprint 270 = .ok (.iaload, 1) := by decide +kernel
theorem dX8_fingerprint_271 : decode cX8_fingerprint 271 = .ok (.i2l, 1) := by decide +kernel
theorem dX8_fingerprint_272 : decode cX8_fingerprint 272 = .ok (.ladd, 1) := by decide +kernel
theorem dX8_fingerprint_273 : decode cX8_fingerprint 273 = .ok (.lstore_n 1, 1) := by decide +kernel
theorem dX8_fingerprint_274 : decode cX8_fingerprint 274 = .ok (.iinc 3 1, 3) := by decide +kernel
theorem dX8_fingerprint_277 : decode cX8_fingerprint 277 = .ok (.goto (-34), 3) := by decide +kernel
theorem dX8_fingerprint_280 : decode cX8_fingerprint 280 = .ok (.lload_n 1, 1) := by decide +kernel
theorem dX8_fingerprint_281 : decode cX8_fingerprint 281 = .ok (.lreturn, 1) := by decide +kernel
theorem dX8_within_0 : decode cX8_within 0 = .ok (.iload_n 0, 1) := by decide +kernel
theorem dX8_within_1 : decode cX8_within 1 = .ok (.iload_n 1, 1) := by decide +kernel
theorem dX8_within_2 : decode cX8_within 2 = .ok (.if_icmp .lt 12, 3) := by decide +kernel
theorem dX8_within_5 : decode cX8_within 5 = .ok (.iload_n 0, 1) := by decide +kernel
theorem dX8_within_6 : decode cX8_within 6 = .ok (.iload_n 2, 1) := by decide +kernel
end
section
theorem dX8_within_7 : decode cX8_within 7 = .ok (.if_icmp .gt 7, 3) := by decide +kernel
theorem dX8_within_10 : decode cX8_within 10 = .ok (.iconst 1, 1) := by decide +kernel
theorem dX8_within_11 : decode cX8_within 11 = .ok (.goto 4, 3) := by decide +kernel
theorem dX8_within_14 : decode cX8_within 14 = .ok (.iconst 0, 1) := by decide +kernel
theorem dX8_within_15 : decode cX8_within 15 = .ok (.ireturn, 1) := by decide +kernel
theorem dX8_isTime_0 : decode cX8_isTime 0 = .ok (.iload_n 0, 1) := by decide +kernel
theorem dX8_isTime_1 : decode cX8_isTime 1 = .ok (.iconst 0, 1) := by decide +kernel
theorem dX8_isTime_2 : decode cX8_isTime 2 = .ok (.sipush 10079, 3) := by decide +kernel
theorem dX8_isTime_5 : decode cX8_isTime 5 = .ok (.invokestatic 44, 3) := by decide +kernel
theorem dX8_isTime_8 : decode cX8_isTime 8 = .ok (.ireturn, 1) := by decide +kernel
theorem dX8_isInterval_0 : decode cX8_isInterval 0 = .ok (.iload_n 0, 1) := by decide +kernel
theorem dX8_isInterval_1 : decode cX8_isInterval 1 = .ok (.ifCond .lt 17, 3) := by decide +kernel
theorem dX8_isInterval_4 : decode cX8_isInterval 4 = .ok (.iload_n 0, 1) := by decide +kernel
theorem dX8_isInterval_5 : decode cX8_isInterval 5 = .ok (.iload_n 1, 1) := by decide +kernel
theorem dX8_isInterval_6 : decode cX8_isInterval 6 = .ok (.if_icmp .ge 12, 3) := by decide +kernel
theorem dX8_isInterval_9 : decode cX8_isInterval 9 = .ok (.iload_n 1, 1) := by decide +kernel
theorem dX8_isInterval_10 : decode cX8_isInterval 10 = .ok (.iload_n 2, 1) := by decide +kernel
theorem dX8_isInterval_11 : decode cX8_isInterval 11 = .ok (.if_icmp .gt 7, 3) := by decide +kernel
theorem dX8_isInterval_14 : decode cX8_isInterval 14 = .ok (.iconst 1, 1) := by decide +kernel
theorem dX8_isInterval_15 : decode cX8_isInterval 15 = .ok (.goto 4, 3) := by decide +kernel
theorem dX8_isInterval_18 : decode cX8_isInterval 18 = .ok (.iconst 0, 1) := by decide +kernel
theorem dX8_isInterval_19 : decode cX8_isInterval 19 = .ok (.ireturn, 1) := by decide +kernel
theorem dX8_isProgramme_0 : decode cX8_isProgramme 0 = .ok (.iload_n 1, 1) := by decide +kernel
theorem dX8_isProgramme_1 : decode cX8_isProgramme 1 = .ok (.iconst 0, 1) := by decide +kernel
theorem dX8_isProgramme_2 : decode cX8_isProgramme 2 = .ok (.aload_n 0, 1) := by decide +kernel
theorem dX8_isProgramme_3 : decode cX8_isProgramme 3 = .ok (.getfield 12, 3) := by decide +kernel
theorem dX8_isProgramme_6 : decode cX8_isProgramme 6 = .ok (.getfield 48, 3) := by decide +kernel
theorem dX8_isProgramme_9 : decode cX8_isProgramme 9 = .ok (.getfield 52, 3) := by decide +kernel
theorem dX8_isProgramme_12 : decode cX8_isProgramme 12 = .ok (.iconst 1, 1) := by decide +kernel
theorem dX8_isProgramme_13 : decode cX8_isProgramme 13 = .ok (.isub, 1) := by decide +kernel
theorem dX8_isProgramme_14 : decode cX8_isProgramme 14 = .ok (.invokestatic 44, 3) := by decide +kernel
theorem dX8_isProgramme_17 : decode cX8_isProgramme 17 = .ok (.ireturn, 1) := by decide +kernel
theorem dX8_isItem_0 : decode cX8_isItem 0 = .ok (.iload_n 1, 1) := by decide +kernel
theorem dX8_isItem_1 : decode cX8_isItem 1 = .ok (.iconst 0, 1) := by decide +kernel
theorem dX8_isItem_2 : decode cX8_isItem 2 = .ok (.aload_n 0, 1) := by decide +kernel
theorem dX8_isItem_3 : decode cX8_isItem 3 = .ok (.getfield 12, 3) := by decide +kernel
theorem dX8_isItem_6 : decode cX8_isItem 6 = .ok (.getfield 102, 3) := by decide +kernel
theorem dX8_isItem_9 : decode cX8_isItem 9 = .ok (.getfield 112, 3) := by decide +kernel
theorem dX8_isItem_12 : decode cX8_isItem 12 = .ok (.iconst 1, 1) := by decide +kernel
theorem dX8_isItem_13 : decode cX8_isItem 13 = .ok (.isub, 1) := by decide +kernel
theorem dX8_isItem_14 : decode cX8_isItem 14 = .ok (.invokestatic 44, 3) := by decide +kernel
theorem dX8_isItem_17 : decode cX8_isItem 17 = .ok (.ireturn, 1) := by decide +kernel
theorem dX8_obstacle_0 : decode cX8_obstacle 0 = .ok (.aload_n 0, 1) := by decide +kernel
theorem dX8_obstacle_1 : decode cX8_obstacle 1 = .ok (.getfield 12, 3) := by decide +kernel
theorem dX8_obstacle_4 : decode cX8_obstacle 4 = .ok (.getfield 102, 3) := by decide +kernel
theorem dX8_obstacle_7 : decode cX8_obstacle 7 = .ok (.getfield 112, 3) := by decide +kernel
theorem dX8_obstacle_10 : decode cX8_obstacle 10 = .ok (.bipush 60, 2) := by decide +kernel
theorem dX8_obstacle_12 : decode cX8_obstacle 12 = .ok (.if_icmp .lt 6, 3) := by decide +kernel
theorem dX8_obstacle_15 : decode cX8_obstacle 15 = .ok (.bipush (-3), 2) := by decide +kernel
theorem dX8_obstacle_17 : decode cX8_obstacle 17 = .ok (.ireturn, 1) := by decide +kernel
theorem dX8_obstacle_18 : decode cX8_obstacle 18 = .ok (.iload_n 2, 1) := by decide +kernel
theorem dX8_obstacle_19 : decode cX8_obstacle 19 = .ok (.aload_n 0, 1) := by decide +kernel
theorem dX8_obstacle_20 : decode cX8_obstacle 20 = .ok (.getfield 12, 3) := by decide +kernel
theorem dX8_obstacle_23 : decode cX8_obstacle 23 = .ok (.getfield 48, 3) := by decide +kernel
theorem dX8_obstacle_26 : decode cX8_obstacle 26 = .ok (.getfield 130, 3) := by decide +kernel
theorem dX8_obstacle_29 : decode cX8_obstacle 29 = .ok (.iload_n 1, 1) := by decide +kernel
theorem dX8_obstacle_30 : decode cX8_obstacle 30 = .ok (.iaload, 1) := by decide +kernel
theorem dX8_obstacle_31 : decode cX8_obstacle 31 = .ok (.iadd, 1) := by decide +kernel
theorem dX8_obstacle_32 : decode cX8_obstacle 32 = .ok (.istore_n 3, 1) := by decide +kernel
theorem dX8_obstacle_33 : decode cX8_obstacle 33 = .ok (.iload_n 3, 1) := by decide +kernel
theorem dX8_obstacle_34 : decode cX8_obstacle 34 = .ok (.sipush 10080, 3) := by decide +kernel
theorem dX8_obstacle_37 : decode cX8_obstacle 37 = .ok (.if_icmp .gt 20, 3) := by decide +kernel
theorem dX8_obstacle_40 : decode cX8_obstacle 40 = .ok (.aload_n 0, 1) := by decide +kernel
theorem dX8_obstacle_41 : decode cX8_obstacle 41 = .ok (.getfield 12, 3) := by decide +kernel
theorem dX8_obstacle_44 : decode cX8_obstacle 44 = .ok (.getfield 102, 3) := by decide +kernel
theorem dX8_obstacle_47 : decode cX8_obstacle 47 = .ok (.iload_n 2, 1) := by decide +kernel
theorem dX8_obstacle_48 : decode cX8_obstacle 48 = .ok (.iload_n 3, 1) := by decide +kernel
theorem dX8_obstacle_49 : decode cX8_obstacle 49 = .ok (.invokevirtual 119, 3) := by decide +kernel
theorem dX8_obstacle_52 : decode cX8_obstacle 52 = .ok (.bipush (-9), 2) := by decide +kernel
theorem dX8_obstacle_54 : decode cX8_obstacle 54 = .ok (.if_icmp .eq 6, 3) := by decide +kernel
theorem dX8_obstacle_57 : decode cX8_obstacle 57 = .ok (.bipush (-4), 2) := by decide +kernel
theorem dX8_obstacle_59 : decode cX8_obstacle 59 = .ok (.ireturn, 1) := by decide +kernel
theorem dX8_obstacle_60 : decode cX8_obstacle 60 = .ok (.aload_n 0, 1) := by decide +kernel
theorem dX8_obstacle_61 : decode cX8_obstacle 61 = .ok (.iload_n 1, 1) := by decide +kernel
theorem dX8_obstacle_62 : decode cX8_obstacle 62 = .ok (.iload_n 2, 1) := by decide +kernel
theorem dX8_obstacle_63 : decode cX8_obstacle 63 = .ok (.iload_n 3, 1) := by decide +kernel
theorem dX8_obstacle_64 : decode cX8_obstacle 64 = .ok (.invokevirtual 206, 3) := by decide +kernel
theorem dX8_obstacle_67 : decode cX8_obstacle 67 = .ok (.ifCond .ne 6, 3) := by decide +kernel
theorem dX8_obstacle_70 : decode cX8_obstacle 70 = .ok (.bipush (-5), 2) := by decide +kernel
theorem dX8_obstacle_72 : decode cX8_obstacle 72 = .ok (.ireturn, 1) := by decide +kernel
theorem dX8_obstacle_73 : decode cX8_obstacle 73 = .ok (.aload_n 0, 1) := by decide +kernel
theorem dX8_obstacle_74 : decode cX8_obstacle 74 = .ok (.getfield 12, 3) := by decide +kernel
theorem dX8_obstacle_77 : decode cX8_obstacle 77 = .ok (.getfield 83, 3) := by decide +kernel
theorem dX8_obstacle_80 : decode cX8_obstacle 80 = .ok (.aload_n 0, 1) := by decide +kernel
theorem dX8_obstacle_81 : decode cX8_obstacle 81 = .ok (.getfield 12, 3) := by decide +kernel
theorem dX8_obstacle_84 : decode cX8_obstacle 84 = .ok (.getfield 48, 3) := by decide +kernel
theorem dX8_obstacle_87 : decode cX8_obstacle 87 = .ok (.getfield 182, 3) := by decide +kernel
theorem dX8_obstacle_90 : decode cX8_obstacle 90 = .ok (.iload_n 1, 1) := by decide +kernel
theorem dX8_obstacle_91 : decode cX8_obstacle 91 = .ok (.iaload, 1) := by decide +kernel
theorem dX8_obstacle_92 : decode cX8_obstacle 92 = .ok (.iload_n 2, 1) := by decide +kernel
theorem dX8_obstacle_93 : decode cX8_obstacle 93 = .ok (.iload_n 3, 1) := by decide +kernel
theorem dX8_obstacle_94 : decode cX8_obstacle 94 = .ok (.invokevirtual 185, 3) := by decide +kernel
theorem dX8_obstacle_97 : decode cX8_obstacle 97 = .ok (.bipush (-9), 2) := by decide +kernel
theorem dX8_obstacle_99 : decode cX8_obstacle 99 = .ok (.if_icmp .eq 6, 3) := by decide +kernel
theorem dX8_obstacle_102 : decode cX8_obstacle 102 = .ok (.bipush (-6), 2) := by decide +kernel
theorem dX8_obstacle_104 : decode cX8_obstacle 104 = .ok (.ireturn, 1) := by decide +kernel
theorem dX8_obstacle_105 : decode cX8_obstacle 105 = .ok (.iconst 0, 1) := by decide +kernel
theorem dX8_obstacle_106 : decode cX8_obstacle 106 = .ok (.ireturn, 1) := by decide +kernel
theorem dX8_rightsAllow_0 : decode cX8_rightsAllow 0 = .ok (.aload_n 0, 1) := by decide +kernel
theorem dX8_rightsAllow_1 : decode cX8_rightsAllow 1 = .ok (.getfield 12, 3) := by decide +kernel
theorem dX8_rightsAllow_4 : decode cX8_rightsAllow 4 = .ok (.getfield 48, 3) := by decide +kernel
theorem dX8_rightsAllow_7 : decode cX8_rightsAllow 7 = .ok (.getfield 209, 3) := by decide +kernel
theorem dX8_rightsAllow_10 : decode cX8_rightsAllow 10 = .ok (.iload_n 1, 1) := by decide +kernel
theorem dX8_rightsAllow_11 : decode cX8_rightsAllow 11 = .ok (.iaload, 1) := by decide +kernel
theorem dX8_rightsAllow_12 : decode cX8_rightsAllow 12 = .ok (.iconst 2, 1) := by decide +kernel
theorem dX8_rightsAllow_13 : decode cX8_rightsAllow 13 = .ok (.if_icmp .ne 5, 3) := by decide +kernel
theorem dX8_rightsAllow_16 : decode cX8_rightsAllow 16 = .ok (.iconst 1, 1) := by decide +kernel
theorem dX8_rightsAllow_17 : decode cX8_rightsAllow 17 = .ok (.ireturn, 1) := by decide +kernel
theorem dX8_rightsAllow_18 : decode cX8_rightsAllow 18 = .ok (.aload_n 0, 1) := by decide +kernel
theorem dX8_rightsAllow_19 : decode cX8_rightsAllow 19 = .ok (.iload_n 1, 1) := by decide +kernel
theorem dX8_rightsAllow_20 : decode cX8_rightsAllow 20 = .ok (.invokevirtual 212, 3) := by decide +kernel
theorem dX8_rightsAllow_23 : decode cX8_rightsAllow 23 = .ok (.aload_n 0, 1) := by decide +kernel
theorem dX8_rightsAllow_24 : decode cX8_rightsAllow 24 = .ok (.getfield 26, 3) := by decide +kernel
theorem dX8_rightsAllow_27 : decode cX8_rightsAllow 27 = .ok (.iload_n 1, 1) := by decide +kernel
theorem dX8_rightsAllow_28 : decode cX8_rightsAllow 28 = .ok (.iload_n 2, 1) := by decide +kernel
theorem dX8_rightsAllow_29 : decode cX8_rightsAllow 29 = .ok (.iload_n 3, 1) := by decide +kernel
theorem dX8_rightsAllow_30 : decode cX8_rightsAllow 30 = .ok (.invokevirtual 215, 3) := by decide +kernel
theorem dX8_rightsAllow_33 : decode cX8_rightsAllow 33 = .ok (.aload_n 0, 1) := by decide +kernel
theorem dX8_rightsAllow_34 : decode cX8_rightsAllow 34 = .ok (.getfield 26, 3) := by decide +kernel
theorem dX8_rightsAllow_37 : decode cX8_rightsAllow 37 = .ok (.aload_n 0, 1) := by decide +kernel
theorem dX8_rightsAllow_38 : decode cX8_rightsAllow 38 = .ok (.getfield 12, 3) := by decide +kernel
theorem dX8_rightsAllow_41 : decode cX8_rightsAllow 41 = .ok (.getfield 73, 3) := by decide +kernel
theorem dX8_rightsAllow_44 : decode cX8_rightsAllow 44 = .ok (.invokevirtual 219, 3) := by decide +kernel
theorem dX8_rightsAllow_47 : decode cX8_rightsAllow 47 = .ok (.ireturn, 1) := by decide +kernel
theorem dX8_gatherItemsOf_0 : decode cX8_gatherItemsOf 0 = .ok (.aload_n 0, 1) := by decide +kernel
theorem dX8_gatherItemsOf_1 : decode cX8_gatherItemsOf 1 = .ok (.getfield 26, 3) := by decide +kernel
theorem dX8_gatherItemsOf_4 : decode cX8_gatherItemsOf 4 = .ok (.invokevirtual 223, 3) := by decide +kernel
theorem dX8_gatherItemsOf_7 : decode cX8_gatherItemsOf 7 = .ok (.iconst 0, 1) := by decide +kernel
theorem dX8_gatherItemsOf_8 : decode cX8_gatherItemsOf 8 = .ok (.istore_n 2, 1) := by decide +kernel
theorem dX8_gatherItemsOf_9 : decode cX8_gatherItemsOf 9 = .ok (.iload_n 2, 1) := by decide +kernel
theorem dX8_gatherItemsOf_10 : decode cX8_gatherItemsOf 10 = .ok (.aload_n 0, 1) := by decide +kernel
theorem dX8_gatherItemsOf_11 : decode cX8_gatherItemsOf 11 = .ok (.getfield 12, 3) := by decide +kernel
theorem dX8_gatherItemsOf_14 : decode cX8_gatherItemsOf 14 = .ok (.getfield 102, 3) := by decide +kernel
theorem dX8_gatherItemsOf_17 : decode cX8_gatherItemsOf 17 = .ok (.getfield 112, 3) := by decide +kernel
theorem dX8_gatherItemsOf_20 : decode cX8_gatherItemsOf 20 = .ok (.if_icmp .ge 56, 3) := by decide +kernel
theorem dX8_gatherItemsOf_23 : decode cX8_gatherItemsOf 23 = .ok (.aload_n 0, 1) := by decide +kernel
theorem dX8_gatherItemsOf_24 : decode cX8_gatherItemsOf 24 = .ok (.getfield 12, 3) := by decide +kernel
theorem dX8_gatherItemsOf_27 : decode cX8_gatherItemsOf 27 = .ok (.getfield 102, 3) := by decide +kernel
theorem dX8_gatherItemsOf_30 : decode cX8_gatherItemsOf 30 = .ok (.getfield 147, 3) := by decide +kernel
theorem dX8_gatherItemsOf_33 : decode cX8_gatherItemsOf 33 = .ok (.iload_n 2, 1) := by decide +kernel
theorem dX8_gatherItemsOf_34 : decode cX8_gatherItemsOf 34 = .ok (.iaload, 1) := by decide +kernel
theorem dX8_gatherItemsOf_35 : decode cX8_gatherItemsOf 35 = .ok (.iload_n 1, 1) := by decide +kernel
theorem dX8_gatherItemsOf_36 : decode cX8_gatherItemsOf 36 = .ok (.if_icmp .ne 34, 3) := by decide +kernel
theorem dX8_gatherItemsOf_39 : decode cX8_gatherItemsOf 39 = .ok (.aload_n 0, 1) := by decide +kernel
theorem dX8_gatherItemsOf_40 : decode cX8_gatherItemsOf 40 = .ok (.getfield 26, 3) := by decide +kernel
theorem dX8_gatherItemsOf_43 : decode cX8_gatherItemsOf 43 = .ok (.iload_n 1, 1) := by decide +kernel
theorem dX8_gatherItemsOf_44 : decode cX8_gatherItemsOf 44 = .ok (.aload_n 0, 1) := by decide +kernel
theorem dX8_gatherItemsOf_45 : decode cX8_gatherItemsOf 45 = .ok (.getfield 12, 3) := by decide +kernel
theorem dX8_gatherItemsOf_48 : decode cX8_gatherItemsOf 48 = .ok (.getfield 102, 3) := by decide +kernel
theorem dX8_gatherItemsOf_51 : decode cX8_gatherItemsOf 51 = .ok (.getfield 150, 3) := by decide +kernel
theorem dX8_gatherItemsOf_54 : decode cX8_gatherItemsOf 54 = .ok (.iload_n 2, 1) := by decide +kernel
theorem dX8_gatherItemsOf_55 : decode cX8_gatherItemsOf 55 = .ok (.iaload, 1) := by decide +kernel
theorem dX8_gatherItemsOf_56 : decode cX8_gatherItemsOf 56 = .ok (.aload_n 0, 1) := by decide +kernel
theorem dX8_gatherItemsOf_57 : decode cX8_gatherItemsOf 57 = .ok (.getfield 12, 3) := by decide +kernel
theorem dX8_gatherItemsOf_60 : decode cX8_gatherItemsOf 60 = .ok (.getfield 102, 3) := by decide +kernel
theorem dX8_gatherItemsOf_63 : decode cX8_gatherItemsOf 63 = .ok (.iload_n 2, 1) := by decide +kernel
theorem dX8_gatherItemsOf_64 : decode cX8_gatherItemsOf 64 = .ok (.invokevirtual 137, 3) := by decide +kernel
theorem dX8_gatherItemsOf_67 : decode cX8_gatherItemsOf 67 = .ok (.invokevirtual 215, 3) := by decide +kernel
theorem dX8_gatherItemsOf_70 : decode cX8_gatherItemsOf 70 = .ok (.iinc 2 1, 3) := by decide +kernel
theorem dX8_gatherItemsOf_73 : decode cX8_gatherItemsOf 73 = .ok (.goto (-64), 3) := by decide +kernel
theorem dX8_gatherItemsOf_76 : decode cX8_gatherItemsOf 76 = .ok (.return_, 1) := by decide +kernel
theorem dX8_putOnAir_0 : decode cX8_putOnAir 0 = .ok (.aload_n 0, 1) := by decide +kernel
theorem dX8_putOnAir_1 : decode cX8_putOnAir 1 = .ok (.getfield 12, 3) := by decide +kernel
theorem dX8_putOnAir_4 : decode cX8_putOnAir 4 = .ok (.getfield 102, 3) := by decide +kernel
theorem dX8_putOnAir_7 : decode cX8_putOnAir 7 = .ok (.iload_n 2, 1) := by decide +kernel
theorem dX8_putOnAir_8 : decode cX8_putOnAir 8 = .ok (.invokevirtual 226, 3) := by decide +kernel
theorem dX8_putOnAir_11 : decode cX8_putOnAir 11 = .ok (.istore 4, 2) := by decide +kernel
theorem dX8_putOnAir_13 : decode cX8_putOnAir 13 = .ok (.aload_n 0, 1) := by decide +kernel
theorem dX8_putOnAir_14 : decode cX8_putOnAir 14 = .ok (.getfield 12, 3) := by decide +kernel
theorem dX8_putOnAir_17 : decode cX8_putOnAir 17 = .ok (.getfield 102, 3) := by decide +kernel
theorem dX8_putOnAir_20 : decode cX8_putOnAir 20 = .ok (.iload 4, 2) := by decide +kernel
theorem dX8_putOnAir_22 : decode cX8_putOnAir 22 = .ok (.iload_n 1, 1) := by decide +kernel
theorem dX8_putOnAir_23 : decode cX8_putOnAir 23 = .ok (.iload_n 2, 1) := by decide +kernel
theorem dX8_putOnAir_24 : decode cX8_putOnAir 24 = .ok (.aload_n 0, 1) := by decide +kernel
theorem dX8_putOnAir_25 : decode cX8_putOnAir 25 = .ok (.getfield 12, 3) := by decide +kernel
theorem dX8_putOnAir_28 : decode cX8_putOnAir 28 = .ok (.getfield 48, 3) := by decide +kernel
theorem dX8_putOnAir_31 : decode cX8_putOnAir 31 = .ok (.getfield 130, 3) := by decide +kernel
theorem dX8_putOnAir_34 : decode cX8_putOnAir 34 = .ok (.iload_n 1, 1) := by decide +kernel
theorem dX8_putOnAir_35 : decode cX8_putOnAir 35 = .ok (.iaload, 1) := by decide +kernel
theorem dX8_putOnAir_36 : decode cX8_putOnAir 36 = .ok (.iload_n 3, 1) := by decide +kernel
theorem dX8_putOnAir_37 : decode cX8_putOnAir 37 = .ok (.invokevirtual 229, 3) := by decide +kernel
theorem dX8_putOnAir_40 : decode cX8_putOnAir 40 = .ok (.iload 4, 2) := by decide +kernel
theorem dX8_putOnAir_42 : decode cX8_putOnAir 42 = .ok (.ireturn, 1) := by decide +kernel
theorem dX8_earliestStart_0 : decode cX8_earliestStart 0 = .ok (.iload_n 2, 1) := by decide +kernel
theorem dX8_earliestStart_1 : decode cX8_earliestStart 1 = .ok (.sipush 1440, 3) := by decide +kernel
theorem dX8_earliestStart_4 : decode cX8_earliestStart 4 = .ok (.iadd, 1) := by decide +kernel
theorem dX8_earliestStart_5 : decode cX8_earliestStart 5 = .ok (.iconst 1, 1) := by decide +kernel
theorem dX8_earliestStart_6 : decode cX8_earliestStart 6 = .ok (.isub, 1) := by decide +kernel
theorem dX8_earliestStart_7 : decode cX8_earliestStart 7 = .ok (.sipush 10079, 3) := by decide +kernel
theorem dX8_earliestStart_10 : decode cX8_earliestStart 10 = .ok (.invokestatic 171, 3) := by decide +kernel
theorem dX8_earliestStart_13 : decode cX8_earliestStart 13 = .ok (.istore_n 3, 1) := by decide +kernel
theorem dX8_earliestStart_14 : decode cX8_earliestStart 14 = .ok (.iload_n 2, 1) := by decide +kernel
theorem dX8_earliestStart_15 : decode cX8_earliestStart 15 = .ok (.istore 4, 2) := by decide +kernel
theorem dX8_earliestStart_17 : decode cX8_earliestStart 17 = .ok (.iconst 0, 1) := by decide +kernel
theorem dX8_earliestStart_18 : decode cX8_earliestStart 18 = .ok (.istore 5, 2) := by decide +kernel
theorem dX8_earliestStart_20 : decode cX8_earliestStart 20 = .ok (.iload 5, 2) := by decide +kernel
theorem dX8_earliestStart_22 : decode cX8_earliestStart 22 = .ok (.sipush 1440, 3) := by decide +kernel
theorem dX8_earliestStart_25 : decode cX8_earliestStart 25 = .ok (.if_icmp .ge 43, 3) := by decide +kernel
theorem dX8_earliestStart_28 : decode cX8_earliestStart 28 = .ok (.iload 4, 2) := by decide +kernel
theorem dX8_earliestStart_30 : decode cX8_earliestStart 30 = .ok (.iload_n 3, 1) := by decide +kernel
theorem dX8_earliestStart_31 : decode cX8_earliestStart 31 = .ok (.if_icmp .gt 37, 3) := by decide +kernel
theorem dX8_earliestStart_34 : decode cX8_earliestStart 34 = .ok (.aload_n 0, 1) := by decide +kernel
theorem dX8_earliestStart_35 : decode cX8_earliestStart 35 = .ok (.iload_n 1, 1) := by decide +kernel
theorem dX8_earliestStart_36 : decode cX8_earliestStart 36 = .ok (.iload 4, 2) := by decide +kernel
theorem dX8_earliestStart_38 : decode cX8_earliestStart 38 = .ok (.invokevirtual 165, 3) := by decide +kernel
theorem dX8_earliestStart_41 : decode cX8_earliestStart 41 = .ok (.istore 6, 2) := by decide +kernel
theorem dX8_earliestStart_43 : decode cX8_earliestStart 43 = .ok (.iload 6, 2) := by decide +kernel
theorem dX8_earliestStart_45 : decode cX8_earliestStart 45 = .ok (.ifCond .ne 6, 3) := by decide +kernel
theorem dX8_earliestStart_48 : decode cX8_earliestStart 48 = .ok (.iload 4, 2) := by decide +kernel
theorem dX8_earliestStart_50 : decode cX8_earliestStart 50 = .ok (.ireturn, 1) := by decide +kernel
theorem dX8_earliestStart_51 : decode cX8_earliestStart 51 = .ok (.aload_n 0, 1) := by decide +kernel
theorem dX8_earliestStart_52 : decode cX8_earliestStart 52 = .ok (.iload_n 1, 1) := by decide +kernel
theorem dX8_earliestStart_53 : decode cX8_earliestStart 53 = .ok (.iload 4, 2) := by decide +kernel
theorem dX8_earliestStart_55 : decode cX8_earliestStart 55 = .ok (.iload 6, 2) := by decide +kernel
theorem dX8_earliestStart_57 : decode cX8_earliestStart 57 = .ok (.invokevirtual 233, 3) := by decide +kernel
theorem dX8_earliestStart_60 : decode cX8_earliestStart 60 = .ok (.istore 4, 2) := by decide +kernel
theorem dX8_earliestStart_62 : decode cX8_earliestStart 62 = .ok (.iinc 5 1, 3) := by decide +kernel
theorem dX8_earliestStart_65 : decode cX8_earliestStart 65 = .ok (.goto (-45), 3) := by decide +kernel
theorem dX8_earliestStart_68 : decode cX8_earliestStart 68 = .ok (.bipush (-9), 2) := by decide +kernel
theorem dX8_earliestStart_70 : decode cX8_earliestStart 70 = .ok (.ireturn, 1) := by decide +kernel
theorem dX8_nextToTry_0 : decode cX8_nextToTry 0 = .ok (.iload_n 2, 1) := by decide +kernel
theorem dX8_nextToTry_1 : decode cX8_nextToTry 1 = .ok (.aload_n 0, 1) := by decide +kernel
theorem dX8_nextToTry_2 : decode cX8_nextToTry 2 = .ok (.getfield 12, 3) := by decide +kernel
theorem dX8_nextToTry_5 : decode cX8_nextToTry 5 = .ok (.getfield 48, 3) := by decide +kernel
theorem dX8_nextToTry_8 : decode cX8_nextToTry 8 = .ok (.getfield 130, 3) := by decide +kernel
theorem dX8_nextToTry_11 : decode cX8_nextToTry 11 = .ok (.iload_n 1, 1) := by decide +kernel
theorem dX8_nextToTry_12 : decode cX8_nextToTry 12 = .ok (.iaload, 1) := by decide +kernel
theorem dX8_nextToTry_13 : decode cX8_nextToTry 13 = .ok (.iadd, 1) := by decide +kernel
theorem dX8_nextToTry_14 : decode cX8_nextToTry 14 = .ok (.istore 4, 2) := by decide +kernel
theorem dX8_nextToTry_16 : decode cX8_nextToTry 16 = .ok (.iload_n 3, 1) := by decide +kernel
theorem dX8_nextToTry_17 : decode cX8_nextToTry 17 = .ok (.bipush (-5), 2) := by decide +kernel
theorem dX8_nextToTry_19 : decode cX8_nextToTry 19 = .ok (.if_icmp .ne 10, 3) := by decide +kernel
theorem dX8_nextToTry_22 : decode cX8_nextToTry 22 = .ok (.aload_n 0, 1) := by decide +kernel
theorem dX8_nextToTry_23 : decode cX8_nextToTry 23 = .ok (.iload_n 1, 1) := by decide +kernel
theorem dX8_nextToTry_24 : decode cX8_nextToTry 24 = .ok (.iload_n 2, 1) := by decide +kernel
theorem dX8_nextToTry_25 : decode cX8_nextToTry 25 = .ok (.invokevirtual 236, 3) := by decide +kernel
theorem dX8_nextToTry_28 : decode cX8_nextToTry 28 = .ok (.ireturn, 1) := by decide +kernel
theorem dX8_nextToTry_29 : decode cX8_nextToTry 29 = .ok (.iload_n 3, 1) := by decide +kernel
theorem dX8_nextToTry_30 : decode cX8_nextToTry 30 = .ok (.bipush (-6), 2) := by decide +kernel
theorem dX8_nextToTry_32 : decode cX8_nextToTry 32 = .ok (.if_icmp .ne 29, 3) := by decide +kernel
theorem dX8_nextToTry_35 : decode cX8_nextToTry 35 = .ok (.aload_n 0, 1) := by decide +kernel
theorem dX8_nextToTry_36 : decode cX8_nextToTry 36 = .ok (.getfield 12, 3) := by decide +kernel
theorem dX8_nextToTry_39 : decode cX8_nextToTry 39 = .ok (.getfield 83, 3) := by decide +kernel
theorem dX8_nextToTry_42 : decode cX8_nextToTry 42 = .ok (.aload_n 0, 1) := by decide +kernel
theorem dX8_nextToTry_43 : decode cX8_nextToTry 43 = .ok (.getfield 12, 3) := by decide +kernel
theorem dX8_nextToTry_46 : decode cX8_nextToTry 46 = .ok (.getfield 48, 3) := by decide +kernel
theorem dX8_nextToTry_49 : decode cX8_nextToTry 49 = .ok (.getfield 182, 3) := by decide +kernel
theorem dX8_nextToTry_52 : decode cX8_nextToTry 52 = .ok (.iload_n 1, 1) := by decide +kernel
theorem dX8_nextToTry_53 : decode cX8_nextToTry 53 = .ok (.iaload, 1) := by decide +kernel
theorem dX8_nextToTry_54 : decode cX8_nextToTry 54 = .ok (.iload_n 2, 1) := by decide +kernel
theorem dX8_nextToTry_55 : decode cX8_nextToTry 55 = .ok (.iload 4, 2) := by decide +kernel
theorem dX8_nextToTry_57 : decode cX8_nextToTry 57 = .ok (.invokevirtual 185, 3) := by decide +kernel
theorem dX8_nextToTry_60 : decode cX8_nextToTry 60 = .ok (.ireturn, 1) := by decide +kernel
theorem dX8_nextToTry_61 : decode cX8_nextToTry 61 = .ok (.aload_n 0, 1) := by decide +kernel
theorem dX8_nextToTry_62 : decode cX8_nextToTry 62 = .ok (.getfield 12, 3) := by decide +kernel
theorem dX8_nextToTry_65 : decode cX8_nextToTry 65 = .ok (.getfield 102, 3) := by decide +kernel
theorem dX8_nextToTry_68 : decode cX8_nextToTry 68 = .ok (.iload_n 2, 1) := by decide +kernel
theorem dX8_nextToTry_69 : decode cX8_nextToTry 69 = .ok (.iload 4, 2) := by decide +kernel
theorem dX8_nextToTry_71 : decode cX8_nextToTry 71 = .ok (.invokevirtual 119, 3) := by decide +kernel
theorem dX8_nextToTry_74 : decode cX8_nextToTry 74 = .ok (.istore 5, 2) := by decide +kernel
theorem dX8_nextToTry_76 : decode cX8_nextToTry 76 = .ok (.iload_n 3, 1) := by decide +kernel
theorem dX8_nextToTry_77 : decode cX8_nextToTry 77 = .ok (.bipush (-3), 2) := by decide +kernel
theorem dX8_nextToTry_79 : decode cX8_nextToTry 79 = .ok (.if_icmp .eq 10, 3) := by decide +kernel
theorem dX8_nextToTry_82 : decode cX8_nextToTry 82 = .ok (.iload 5, 2) := by decide +kernel
theorem dX8_nextToTry_84 : decode cX8_nextToTry 84 = .ok (.bipush (-9), 2) := by decide +kernel
theorem dX8_nextToTry_86 : decode cX8_nextToTry 86 = .ok (.if_icmp .ne 9, 3) := by decide +kernel
theorem dX8_nextToTry_89 : decode cX8_nextToTry 89 = .ok (.sipush 10080, 3) := by decide +kernel
theorem dX8_nextToTry_92 : decode cX8_nextToTry 92 = .ok (.goto 15, 3) := by decide +kernel
theorem dX8_nextToTry_95 : decode cX8_nextToTry 95 = .ok (.aload_n 0, 1) := by decide +kernel
theorem dX8_nextToTry_96 : decode cX8_nextToTry 96 = .ok (.getfield 12, 3) := by decide +kernel
theorem dX8_nextToTry_99 : decode cX8_nextToTry 99 = .ok (.getfield 102, 3) := by decide +kernel
theorem dX8_nextToTry_102 : decode cX8_nextToTry 102 = .ok (.iload 5, 2) := by decide +kernel
theorem dX8_nextToTry_104 : decode cX8_nextToTry 104 = .ok (.invokevirtual 137, 3) := by decide +kernel
theorem dX8_nextToTry_107 : decode cX8_nextToTry 107 = .ok (.ireturn, 1) := by decide +kernel
theorem dX8_nextWindow_0 : decode cX8_nextWindow 0 = .ok (.sipush 10080, 3) := by decide +kernel
theorem dX8_nextWindow_3 : decode cX8_nextWindow 3 = .ok (.istore_n 3, 1) := by decide +kernel
theorem dX8_nextWindow_4 : decode cX8_nextWindow 4 = .ok (.iconst 0, 1) := by decide +kernel
theorem dX8_nextWindow_5 : decode cX8_nextWindow 5 = .ok (.istore 4, 2) := by decide +kernel
theorem dX8_nextWindow_7 : decode cX8_nextWindow 7 = .ok (.iload 4, 2) := by decide +kernel
theorem dX8_nextWindow_9 : decode cX8_nextWindow 9 = .ok (.aload_n 0, 1) := by decide +kernel
theorem dX8_nextWindow_10 : decode cX8_nextWindow 10 = .ok (.getfield 12, 3) := by decide +kernel
theorem dX8_nextWindow_13 : decode cX8_nextWindow 13 = .ok (.getfield 73, 3) := by decide +kernel
theorem dX8_nextWindow_16 : decode cX8_nextWindow 16 = .ok (.getfield 77, 3) := by decide +kernel
theorem dX8_nextWindow_19 : decode cX8_nextWindow 19 = .ok (.if_icmp .ge 56, 3) := by decide +kernel
theorem dX8_nextWindow_22 : decode cX8_nextWindow 22 = .ok (.aload_n 0, 1) := by decide +kernel
theorem dX8_nextWindow_23 : decode cX8_nextWindow 23 = .ok (.getfield 12, 3) := by decide +kernel
theorem dX8_nextWindow_26 : decode cX8_nextWindow 26 = .ok (.getfield 73, 3) := by decide +kernel
theorem dX8_nextWindow_29 : decode cX8_nextWindow 29 = .ok (.getfield 239, 3) := by decide +kernel
theorem dX8_nextWindow_32 : decode cX8_nextWindow 32 = .ok (.iload 4, 2) := by decide +kernel
theorem dX8_nextWindow_34 : decode cX8_nextWindow 34 = .ok (.iaload, 1) := by decide +kernel
theorem dX8_nextWindow_35 : decode cX8_nextWindow 35 = .ok (.istore 5, 2) := by decide +kernel
theorem dX8_nextWindow_37 : decode cX8_nextWindow 37 = .ok (.aload_n 0, 1) := by decide +kernel
theorem dX8_nextWindow_38 : decode cX8_nextWindow 38 = .ok (.getfield 12, 3) := by decide +kernel
theorem dX8_nextWindow_41 : decode cX8_nextWindow 41 = .ok (.getfield 73, 3) := by decide +kernel
theorem dX8_nextWindow_44 : decode cX8_nextWindow 44 = .ok (.getfield 242, 3) := by decide +kernel
theorem dX8_nextWindow_47 : decode cX8_nextWindow 47 = .ok (.iload 4, 2) := by decide +kernel
theorem dX8_nextWindow_49 : decode cX8_nextWindow 49 = .ok (.iaload, 1) := by decide +kernel
theorem dX8_nextWindow_50 : decode cX8_nextWindow 50 = .ok (.iload_n 1, 1) := by decide +kernel
theorem dX8_nextWindow_51 : decode cX8_nextWindow 51 = .ok (.if_icmp .ne 18, 3) := by decide +kernel
theorem dX8_nextWindow_54 : decode cX8_nextWindow 54 = .ok (.iload 5, 2) := by decide +kernel
theorem dX8_nextWindow_56 : decode cX8_nextWindow 56 = .ok (.iload_n 2, 1) := by decide +kernel
theorem dX8_nextWindow_57 : decode cX8_nextWindow 57 = .ok (.if_icmp .le 12, 3) := by decide +kernel
theorem dX8_nextWindow_60 : decode cX8_nextWindow 60 = .ok (.iload 5, 2) := by decide +kernel
theorem dX8_nextWindow_62 : decode cX8_nextWindow 62 = .ok (.iload_n 3, 1) := by decide +kernel
theorem dX8_nextWindow_63 : decode cX8_nextWindow 63 = .ok (.if_icmp .ge 6, 3) := by decide +kernel
theorem dX8_nextWindow_66 : decode cX8_nextWindow 66 = .ok (.iload 5, 2) := by decide +kernel
theorem dX8_nextWindow_68 : decode cX8_nextWindow 68 = .ok (.istore_n 3, 1) := by decide +kernel
theorem dX8_nextWindow_69 : decode cX8_nextWindow 69 = .ok (.iinc 4 1, 3) := by decide +kernel
theorem dX8_nextWindow_72 : decode cX8_nextWindow 72 = .ok (.goto (-65), 3) := by decide +kernel
theorem dX8_nextWindow_75 : decode cX8_nextWindow 75 = .ok (.iload_n 3, 1) := by decide +kernel
theorem dX8_nextWindow_76 : decode cX8_nextWindow 76 = .ok (.ireturn, 1) := by decide +kernel
theorem dX8_makeRoomAfter_0 : decode cX8_makeRoomAfter 0 = .ok (.aload_n 0, 1) := by decide +kernel
theorem dX8_makeRoomAfter_1 : decode cX8_makeRoomAfter 1 = .ok (.getfield 12, 3) := by decide +kernel
theorem dX8_makeRoomAfter_4 : decode cX8_makeRoomAfter 4 = .ok (.getfield 102, 3) := by decide +kernel
theorem dX8_makeRoomAfter_7 : decode cX8_makeRoomAfter 7 = .ok (.getfield 112, 3) := by decide +kernel
theorem dX8_makeRoomAfter_10 : decode cX8_makeRoomAfter 10 = .ok (.istore_n 2, 1) := by decide +kernel
theorem dX8_makeRoomAfter_11 : decode cX8_makeRoomAfter 11 = .ok (.aload_n 0, 1) := by decide +kernel
theorem dX8_makeRoomAfter_12 : decode cX8_makeRoomAfter 12 = .ok (.getfield 12, 3) := by decide +kernel
theorem dX8_makeRoomAfter_15 : decode cX8_makeRoomAfter 15 = .ok (.getfield 102, 3) := by decide +kernel
theorem dX8_makeRoomAfter_18 : decode cX8_makeRoomAfter 18 = .ok (.iload_n 1, 1) := by decide +kernel
theorem dX8_makeRoomAfter_19 : decode cX8_makeRoomAfter 19 = .ok (.invokevirtual 137, 3) := by decide +kernel
theorem dX8_makeRoomAfter_22 : decode cX8_makeRoomAfter 22 = .ok (.istore_n 3, 1) := by decide +kernel
theorem dX8_makeRoomAfter_23 : decode cX8_makeRoomAfter 23 = .ok (.iload_n 1, 1) := by decide +kernel
theorem dX8_makeRoomAfter_24 : decode cX8_makeRoomAfter 24 = .ok (.iconst 1, 1) := by decide +kernel
theorem dX8_makeRoomAfter_25 : decode cX8_makeRoomAfter 25 = .ok (.iadd, 1) := by decide +kernel
theorem dX8_makeRoomAfter_26 : decode cX8_makeRoomAfter 26 = .ok (.istore 4, 2) := by decide +kernel
theorem dX8_makeRoomAfter_28 : decode cX8_makeRoomAfter 28 = .ok (.iload_n 1, 1) := by decide +kernel
theorem dX8_makeRoomAfter_29 : decode cX8_makeRoomAfter 29 = .ok (.iconst 1, 1) := by decide +kernel
theorem dX8_makeRoomAfter_30 : decode cX8_makeRoomAfter 30 = .ok (.iadd, 1) := by decide +kernel
theorem dX8_makeRoomAfter_31 : decode cX8_makeRoomAfter 31 = .ok (.istore 5, 2) := by decide +kernel
theorem dX8_makeRoomAfter_33 : decode cX8_makeRoomAfter 33 = .ok (.iload 5, 2) := by decide +kernel
theorem dX8_makeRoomAfter_35 : decode cX8_makeRoomAfter 35 = .ok (.iload_n 2, 1) := by decide +kernel
theorem dX8_makeRoomAfter_36 : decode cX8_makeRoomAfter 36 = .ok (.if_icmp .ge 79, 3) := by decide +kernel
theorem dX8_makeRoomAfter_39 : decode cX8_makeRoomAfter 39 = .ok (.iload 4, 2) := by decide +kernel
theorem dX8_makeRoomAfter_41 : decode cX8_makeRoomAfter 41 = .ok (.aload_n 0, 1) := by decide +kernel
theorem dX8_makeRoomAfter_42 : decode cX8_makeRoomAfter 42 = .ok (.getfield 12, 3) := by decide +kernel
theorem dX8_makeRoomAfter_45 : decode cX8_makeRoomAfter 45 = .ok (.getfield 102, 3) := by decide +kernel
theorem dX8_makeRoomAfter_48 : decode cX8_makeRoomAfter 48 = .ok (.getfield 112, 3) := by decide +kernel
theorem dX8_makeRoomAfter_51 : decode cX8_makeRoomAfter 51 = .ok (.if_icmp .ge 64, 3) := by decide +kernel
theorem dX8_makeRoomAfter_54 : decode cX8_makeRoomAfter 54 = .ok (.aload_n 0, 1) := by decide +kernel
theorem dX8_makeRoomAfter_55 : decode cX8_makeRoomAfter 55 = .ok (.getfield 12, 3) := by decide +kernel
theorem dX8_makeRoomAfter_58 : decode cX8_makeRoomAfter 58 = .ok (.getfield 102, 3) := by decide +kernel
theorem dX8_makeRoomAfter_61 : decode cX8_makeRoomAfter 61 = .ok (.getfield 150, 3) := by decide +kernel
theorem dX8_makeRoomAfter_64 : decode cX8_makeRoomAfter 64 = .ok (.iload 4, 2) := by decide +kernel
theorem dX8_makeRoomAfter_66 : decode cX8_makeRoomAfter 66 = .ok (.iaload, 1) := by decide +kernel
theorem dX8_makeRoomAfter_67 : decode cX8_makeRoomAfter 67 = .ok (.iload_n 3, 1) := by decide +kernel
theorem dX8_makeRoomAfter_68 : decode cX8_makeRoomAfter 68 = .ok (.if_icmp .lt 6, 3) := by decide +kernel
theorem dX8_makeRoomAfter_71 : decode cX8_makeRoomAfter 71 = .ok (.goto 44, 3) := by decide +kernel
theorem dX8_makeRoomAfter_74 : decode cX8_makeRoomAfter 74 = .ok (.aload_n 0, 1) := by decide +kernel
theorem dX8_makeRoomAfter_75 : decode cX8_makeRoomAfter 75 = .ok (.iload 4, 2) := by decide +kernel
theorem dX8_makeRoomAfter_77 : decode cX8_makeRoomAfter 77 = .ok (.iload_n 3, 1) := by decide +kernel
theorem dX8_makeRoomAfter_78 : decode cX8_makeRoomAfter 78 = .ok (.invokevirtual 243, 3) := by decide +kernel
theorem dX8_makeRoomAfter_81 : decode cX8_makeRoomAfter 81 = .ok (.ifCond .eq 22, 3) := by decide +kernel
theorem dX8_makeRoomAfter_84 : decode cX8_makeRoomAfter 84 = .ok (.aload_n 0, 1) := by decide +kernel
theorem dX8_makeRoomAfter_85 : decode cX8_makeRoomAfter 85 = .ok (.getfield 12, 3) := by decide +kernel
theorem dX8_makeRoomAfter_88 : decode cX8_makeRoomAfter 88 = .ok (.getfield 102, 3) := by decide +kernel
theorem dX8_makeRoomAfter_91 : decode cX8_makeRoomAfter 91 = .ok (.iload 4, 2) := by decide +kernel
theorem dX8_makeRoomAfter_93 : decode cX8_makeRoomAfter 93 = .ok (.invokevirtual 137, 3) := by decide +kernel
theorem dX8_makeRoomAfter_96 : decode cX8_makeRoomAfter 96 = .ok (.istore_n 3, 1) := by decide +kernel
theorem dX8_makeRoomAfter_97 : decode cX8_makeRoomAfter 97 = .ok (.iinc 4 1, 3) := by decide +kernel
theorem dX8_makeRoomAfter_100 : decode cX8_makeRoomAfter 100 = .ok (.goto 9, 3) := by decide +kernel
theorem dX8_makeRoomAfter_103 : decode cX8_makeRoomAfter 103 = .ok (.aload_n 0, 1) := by decide +kernel
theorem dX8_makeRoomAfter_104 : decode cX8_makeRoomAfter 104 = .ok (.iload 4, 2) := by decide +kernel
theorem dX8_makeRoomAfter_106 : decode cX8_makeRoomAfter 106 = .ok (.invokevirtual 247, 3) := by decide +kernel
theorem dX8_makeRoomAfter_109 : decode cX8_makeRoomAfter 109 = .ok (.iinc 5 1, 3) := by decide +kernel
theorem dX8_makeRoomAfter_112 : decode cX8_makeRoomAfter 112 = .ok (.goto (-79), 3) := by decide +kernel
theorem dX8_makeRoomAfter_115 : decode cX8_makeRoomAfter 115 = .ok (.iload_n 2, 1) := by decide +kernel
theorem dX8_makeRoomAfter_116 : decode cX8_makeRoomAfter 116 = .ok (.aload_n 0, 1) := by decide +kernel
theorem dX8_makeRoomAfter_117 : decode cX8_makeRoomAfter 117 = .ok (.getfield 12, 3) := by decide +kernel
theorem dX8_makeRoomAfter_120 : decode cX8_makeRoomAfter 120 = .ok (.getfield 102, 3) := by decide +kernel
theorem dX8_makeRoomAfter_123 : decode cX8_makeRoomAfter 123 = .ok (.getfield 112, 3) := by decide +kernel
theorem dX8_makeRoomAfter_126 : decode cX8_makeRoomAfter 126 = .ok (.isub, 1) := by decide +kernel
theorem dX8_makeRoomAfter_127 : decode cX8_makeRoomAfter 127 = .ok (.ireturn, 1) := by decide +kernel
theorem dX8_giveWay_0 : decode cX8_giveWay 0 = .ok (.aload_n 0, 1) := by decide +kernel
theorem dX8_giveWay_1 : decode cX8_giveWay 1 = .ok (.iload_n 1, 1) := by decide +kernel
theorem dX8_giveWay_2 : decode cX8_giveWay 2 = .ok (.invokevirtual 133, 3) := by decide +kernel
theorem dX8_giveWay_5 : decode cX8_giveWay 5 = .ok (.iconst 2, 1) := by decide +kernel
theorem dX8_giveWay_6 : decode cX8_giveWay 6 = .ok (.if_icmp .ne 5, 3) := by decide +kernel
theorem dX8_giveWay_9 : decode cX8_giveWay 9 = .ok (.iconst 0, 1) := by decide +kernel
theorem dX8_giveWay_10 : decode cX8_giveWay 10 = .ok (.ireturn, 1) := by decide +kernel
theorem dX8_giveWay_11 : decode cX8_giveWay 11 = .ok (.aload_n 0, 1) := by decide +kernel
theorem dX8_giveWay_12 : decode cX8_giveWay 12 = .ok (.getfield 12, 3) := by decide +kernel
theorem dX8_giveWay_15 : decode cX8_giveWay 15 = .ok (.getfield 102, 3) := by decide +kernel
theorem dX8_giveWay_18 : decode cX8_giveWay 18 = .ok (.getfield 153, 3) := by decide +kernel
theorem dX8_giveWay_21 : decode cX8_giveWay 21 = .ok (.iload_n 1, 1) := by decide +kernel
theorem dX8_giveWay_22 : decode cX8_giveWay 22 = .ok (.iaload, 1) := by decide +kernel
theorem dX8_giveWay_23 : decode cX8_giveWay 23 = .ok (.iconst 1, 1) := by decide +kernel
theorem dX8_giveWay_24 : decode cX8_giveWay 24 = .ok (.if_icmp .ne 12, 3) := by decide +kernel
theorem dX8_giveWay_27 : decode cX8_giveWay 27 = .ok (.aload_n 0, 1) := by decide +kernel
theorem dX8_giveWay_28 : decode cX8_giveWay 28 = .ok (.iload_n 1, 1) := by decide +kernel
theorem dX8_giveWay_29 : decode cX8_giveWay 29 = .ok (.iload_n 2, 1) := by decide +kernel
theorem dX8_giveWay_30 : decode cX8_giveWay 30 = .ok (.invokevirtual 250, 3) := by decide +kernel
theorem dX8_giveWay_33 : decode cX8_giveWay 33 = .ok (.goto 9, 3) := by decide +kernel
theorem dX8_giveWay_36 : decode cX8_giveWay 36 = .ok (.aload_n 0, 1) := by decide +kernel
theorem dX8_giveWay_37 : decode cX8_giveWay 37 = .ok (.iload_n 1, 1) := by decide +kernel
theorem dX8_giveWay_38 : decode cX8_giveWay 38 = .ok (.iload_n 2, 1) := by decide +kernel
theorem dX8_giveWay_39 : decode cX8_giveWay 39 = .ok (.invokevirtual 253, 3) := by decide +kernel
theorem dX8_giveWay_42 : decode cX8_giveWay 42 = .ok (.ireturn, 1) := by decide +kernel
theorem dX8_cut_0 : decode cX8_cut 0 = .ok (.aload_n 0, 1) := by decide +kernel
theorem dX8_cut_1 : decode cX8_cut 1 = .ok (.getfield 12, 3) := by decide +kernel
theorem dX8_cut_4 : decode cX8_cut 4 = .ok (.getfield 102, 3) := by decide +kernel
theorem dX8_cut_7 : decode cX8_cut 7 = .ok (.iload_n 1, 1) := by decide +kernel
theorem dX8_cut_8 : decode cX8_cut 8 = .ok (.invokevirtual 137, 3) := by decide +kernel
theorem dX8_cut_11 : decode cX8_cut 11 = .ok (.istore_n 3, 1) := by decide +kernel
theorem dX8_cut_12 : decode cX8_cut 12 = .ok (.iload_n 3, 1) := by decide +kernel
theorem dX8_cut_13 : decode cX8_cut 13 = .ok (.iload_n 2, 1) := by decide +kernel
theorem dX8_cut_14 : decode cX8_cut 14 = .ok (.if_icmp .gt 5, 3) := by decide +kernel
theorem dX8_cut_17 : decode cX8_cut 17 = .ok (.iconst 0, 1) := by decide +kernel
theorem dX8_cut_18 : decode cX8_cut 18 = .ok (.ireturn, 1) := by decide +kernel
theorem dX8_cut_19 : decode cX8_cut 19 = .ok (.aload_n 0, 1) := by decide +kernel
theorem dX8_cut_20 : decode cX8_cut 20 = .ok (.getfield 12, 3) := by decide +kernel
theorem dX8_cut_23 : decode cX8_cut 23 = .ok (.getfield 102, 3) := by decide +kernel
theorem dX8_cut_26 : decode cX8_cut 26 = .ok (.getfield 150, 3) := by decide +kernel
theorem dX8_cut_29 : decode cX8_cut 29 = .ok (.iload_n 1, 1) := by decide +kernel
theorem dX8_cut_30 : decode cX8_cut 30 = .ok (.iload_n 2, 1) := by decide +kernel
theorem dX8_cut_31 : decode cX8_cut 31 = .ok (.iastore, 1) := by decide +kernel
theorem dX8_cut_32 : decode cX8_cut 32 = .ok (.aload_n 0, 1) := by decide +kernel
theorem dX8_cut_33 : decode cX8_cut 33 = .ok (.getfield 12, 3) := by decide +kernel
theorem dX8_cut_36 : decode cX8_cut 36 = .ok (.getfield 102, 3) := by decide +kernel
theorem dX8_cut_39 : decode cX8_cut 39 = .ok (.getfield 140, 3) := by decide +kernel
theorem dX8_cut_42 : decode cX8_cut 42 = .ok (.iload_n 1, 1) := by decide +kernel
theorem dX8_cut_43 : decode cX8_cut 43 = .ok (.iload_n 3, 1) := by decide +kernel
theorem dX8_cut_44 : decode cX8_cut 44 = .ok (.iload_n 2, 1) := by decide +kernel
theorem dX8_cut_45 : decode cX8_cut 45 = .ok (.isub, 1) := by decide +kernel
theorem dX8_cut_46 : decode cX8_cut 46 = .ok (.iastore, 1) := by decide +kernel
theorem dX8_cut_47 : decode cX8_cut 47 = .ok (.iconst 1, 1) := by decide +kernel
theorem dX8_cut_48 : decode cX8_cut 48 = .ok (.ireturn, 1) := by decide +kernel
theorem dX8_push_0 : decode cX8_push 0 = .ok (.aload_n 0, 1) := by decide +kernel
theorem dX8_push_1 : decode cX8_push 1 = .ok (.getfield 12, 3) := by decide +kernel
theorem dX8_push_4 : decode cX8_push 4 = .ok (.getfield 102, 3) := by decide +kernel
theorem dX8_push_7 : decode cX8_push 7 = .ok (.getfield 147, 3) := by decide +kernel
theorem dX8_push_10 : decode cX8_push 10 = .ok (.iload_n 1, 1) := by decide +kernel
theorem dX8_push_11 : decode cX8_push 11 = .ok (.iaload, 1) := by decide +kernel
theorem dX8_push_12 : decode cX8_push 12 = .ok (.istore_n 3, 1) := by decide +kernel
theorem dX8_push_13 : decode cX8_push 13 = .ok (.iload_n 2, 1) := by decide +kernel
theorem dX8_push_14 : decode cX8_push 14 = .ok (.aload_n 0, 1) := by decide +kernel
theorem dX8_push_15 : decode cX8_push 15 = .ok (.getfield 12, 3) := by decide +kernel
theorem dX8_push_18 : decode cX8_push 18 = .ok (.getfield 102, 3) := by decide +kernel
theorem dX8_push_21 : decode cX8_push 21 = .ok (.getfield 140, 3) := by decide +kernel
theorem dX8_push_24 : decode cX8_push 24 = .ok (.iload_n 1, 1) := by decide +kernel
theorem dX8_push_25 : decode cX8_push 25 = .ok (.iaload, 1) := by decide +kernel
theorem dX8_push_26 : decode cX8_push 26 = .ok (.iadd, 1) := by decide +kernel
theorem dX8_push_27 : decode cX8_push 27 = .ok (.istore 4, 2) := by decide +kernel
theorem dX8_push_29 : decode cX8_push 29 = .ok (.iload 4, 2) := by decide +kernel
theorem dX8_push_31 : decode cX8_push 31 = .ok (.sipush 10080, 3) := by decide +kernel
theorem dX8_push_34 : decode cX8_push 34 = .ok (.if_icmp .gt 33, 3) := by decide +kernel
theorem dX8_push_37 : decode cX8_push 37 = .ok (.aload_n 0, 1) := by decide +kernel
theorem dX8_push_38 : decode cX8_push 38 = .ok (.getfield 12, 3) := by decide +kernel
theorem dX8_push_41 : decode cX8_push 41 = .ok (.getfield 83, 3) := by decide +kernel
theorem dX8_push_44 : decode cX8_push 44 = .ok (.aload_n 0, 1) := by decide +kernel
theorem dX8_push_45 : decode cX8_push 45 = .ok (.getfield 12, 3) := by decide +kernel
theorem dX8_push_48 : decode cX8_push 48 = .ok (.getfield 48, 3) := by decide +kernel
theorem dX8_push_51 : decode cX8_push 51 = .ok (.getfield 182, 3) := by decide +kernel
theorem dX8_push_54 : decode cX8_push 54 = .ok (.iload_n 3, 1) := by decide +kernel
theorem dX8_push_55 : decode cX8_push 55 = .ok (.iaload, 1) := by decide +kernel
theorem dX8_push_56 : decode cX8_push 56 = .ok (.iload_n 2, 1) := by decide +kernel
theorem dX8_push_57 : decode cX8_push 57 = .ok (.iload 4, 2) := by decide +kernel
theorem dX8_push_59 : decode cX8_push 59 = .ok (.invokevirtual 185, 3) := by decide +kernel
theorem dX8_push_62 : decode cX8_push 62 = .ok (.bipush (-9), 2) := by decide +kernel
theorem dX8_push_64 : decode cX8_push 64 = .ok (.if_icmp .eq 5, 3) := by decide +kernel
theorem dX8_push_67 : decode cX8_push 67 = .ok (.iconst 0, 1) := by decide +kernel
theorem dX8_push_68 : decode cX8_push 68 = .ok (.ireturn, 1) := by decide +kernel
theorem dX8_push_69 : decode cX8_push 69 = .ok (.aload_n 0, 1) := by decide +kernel
theorem dX8_push_70 : decode cX8_push 70 = .ok (.getfield 12, 3) := by decide +kernel
theorem dX8_push_73 : decode cX8_push 73 = .ok (.getfield 102, 3) := by decide +kernel
theorem dX8_push_76 : decode cX8_push 76 = .ok (.getfield 150, 3) := by decide +kernel
theorem dX8_push_79 : decode cX8_push 79 = .ok (.iload_n 1, 1) := by decide +kernel
theorem dX8_push_80 : decode cX8_push 80 = .ok (.iload_n 2, 1) := by decide +kernel
theorem dX8_push_81 : decode cX8_push 81 = .ok (.iastore, 1) := by decide +kernel
theorem dX8_push_82 : decode cX8_push 82 = .ok (.aload_n 0, 1) := by decide +kernel
theorem dX8_push_83 : decode cX8_push 83 = .ok (.iload_n 3, 1) := by decide +kernel
theorem dX8_push_84 : decode cX8_push 84 = .ok (.invokevirtual 212, 3) := by decide +kernel
theorem dX8_push_87 : decode cX8_push 87 = .ok (.aload_n 0, 1) := by decide +kernel
theorem dX8_push_88 : decode cX8_push 88 = .ok (.getfield 26, 3) := by decide +kernel
theorem dX8_push_91 : decode cX8_push 91 = .ok (.aload_n 0, 1) := by decide +kernel
theorem dX8_push_92 : decode cX8_push 92 = .ok (.getfield 12, 3) := by decide +kernel
theorem dX8_push_95 : decode cX8_push 95 = .ok (.getfield 73, 3) := by decide +kernel
theorem dX8_push_98 : decode cX8_push 98 = .ok (.invokevirtual 219, 3) := by decide +kernel
theorem dX8_push_101 : decode cX8_push 101 = .ok (.ireturn, 1) := by decide +kernel
theorem dX8_drop_0 : decode cX8_drop 0 = .ok (.aload_n 0, 1) := by decide +kernel
theorem dX8_drop_1 : decode cX8_drop 1 = .ok (.iload_n 1, 1) := by decide +kernel
theorem dX8_drop_2 : decode cX8_drop 2 = .ok (.invokevirtual 133, 3) := by decide +kernel
theorem dX8_drop_5 : decode cX8_drop 5 = .ok (.iconst 3, 1) := by decide +kernel
theorem dX8_drop_6 : decode cX8_drop 6 = .ok (.if_icmp .ne 30, 3) := by decide +kernel
theorem dX8_drop_9 : decode cX8_drop 9 = .ok (.aload_n 0, 1) := by decide +kernel
theorem dX8_drop_10 : decode cX8_drop 10 = .ok (.getfield 12, 3) := by decide +kernel
theorem dX8_drop_13 : decode cX8_drop 13 = .ok (.getfield 48, 3) := by decide +kernel
theorem dX8_drop_16 : decode cX8_drop 16 = .ok (.getfield 144, 3) := by decide +kernel
theorem dX8_drop_19 : decode cX8_drop 19 = .ok (.aload_n 0, 1) := by decide +kernel
theorem dX8_drop_20 : decode cX8_drop 20 = .ok (.getfield 12, 3) := by decide +kernel
theorem dX8_drop_23 : decode cX8_drop 23 = .ok (.getfield 102, 3) := by decide +kernel
theorem dX8_drop_26 : decode cX8_drop 26 = .ok (.getfield 147, 3) := by decide +kernel
theorem dX8_drop_29 : decode cX8_drop 29 = .ok (.iload_n 1, 1) := by decide +kernel
theorem dX8_drop_30 : decode cX8_drop 30 = .ok (.iaload, 1) := by decide +kernel
theorem dX8_drop_31 : decode cX8_drop 31 = .ok (.dup2, 1) := by decide +kernel
theorem dX8_drop_32 : decode cX8_drop 32 = .ok (.iaload, 1) := by decide +kernel
theorem dX8_drop_33 : decode cX8_drop 33 = .ok (.iconst 1, 1) := by decide +kernel
theorem dX8_drop_34 : decode cX8_drop 34 = .ok (.iadd, 1) := by decide +kernel
theorem dX8_drop_35 : decode cX8_drop 35 = .ok (.iastore, 1) := by decide +kernel
theorem dX8_drop_36 : decode cX8_drop 36 = .ok (.aload_n 0, 1) := by decide +kernel
theorem dX8_drop_37 : decode cX8_drop 37 = .ok (.getfield 12, 3) := by decide +kernel
theorem dX8_drop_40 : decode cX8_drop 40 = .ok (.getfield 102, 3) := by decide +kernel
theorem dX8_drop_43 : decode cX8_drop 43 = .ok (.iload_n 1, 1) := by decide +kernel
theorem dX8_drop_44 : decode cX8_drop 44 = .ok (.invokevirtual 106, 3) := by decide +kernel
theorem dX8_drop_47 : decode cX8_drop 47 = .ok (.return_, 1) := by decide +kernel
theorem dX8_kindOf_0 : decode cX8_kindOf 0 = .ok (.aload_n 0, 1) := by decide +kernel
theorem dX8_kindOf_1 : decode cX8_kindOf 1 = .ok (.getfield 12, 3) := by decide +kernel
theorem dX8_kindOf_4 : decode cX8_kindOf 4 = .ok (.getfield 48, 3) := by decide +kernel
theorem dX8_kindOf_7 : decode cX8_kindOf 7 = .ok (.getfield 209, 3) := by decide +kernel
theorem dX8_kindOf_10 : decode cX8_kindOf 10 = .ok (.aload_n 0, 1) := by decide +kernel
theorem dX8_kindOf_11 : decode cX8_kindOf 11 = .ok (.getfield 12, 3) := by decide +kernel
theorem dX8_kindOf_14 : decode cX8_kindOf 14 = .ok (.getfield 102, 3) := by decide +kernel
theorem dX8_kindOf_17 : decode cX8_kindOf 17 = .ok (.getfield 147, 3) := by decide +kernel
theorem dX8_kindOf_20 : decode cX8_kindOf 20 = .ok (.iload_n 1, 1) := by decide +kernel
theorem dX8_kindOf_21 : decode cX8_kindOf 21 = .ok (.iaload, 1) := by decide +kernel
theorem dX8_kindOf_22 : decode cX8_kindOf 22 = .ok (.iaload, 1) := by decide +kernel
theorem dX8_kindOf_23 : decode cX8_kindOf 23 = .ok (.ireturn, 1) := by decide +kernel
theorem dX8_shareRights_0 : decode cX8_shareRights 0 = .ok (.aload_n 0, 1) := by decide +kernel
theorem dX8_shareRights_1 : decode cX8_shareRights 1 = .ok (.getfield 26, 3) := by decide +kernel
theorem dX8_shareRights_4 : decode cX8_shareRights 4 = .ok (.invokevirtual 223, 3) := by decide +kernel
theorem dX8_shareRights_7 : decode cX8_shareRights 7 = .ok (.iconst 0, 1) := by decide +kernel
theorem dX8_shareRights_8 : decode cX8_shareRights 8 = .ok (.istore_n 1, 1) := by decide +kernel
theorem dX8_shareRights_9 : decode cX8_shareRights 9 = .ok (.iload_n 1, 1) := by decide +kernel
theorem dX8_shareRights_10 : decode cX8_shareRights 10 = .ok (.aload_n 0, 1) := by decide +kernel
theorem dX8_shareRights_11 : decode cX8_shareRights 11 = .ok (.getfield 12, 3) := by decide +kernel
theorem dX8_shareRights_14 : decode cX8_shareRights 14 = .ok (.getfield 102, 3) := by decide +kernel
theorem dX8_shareRights_17 : decode cX8_shareRights 17 = .ok (.getfield 112, 3) := by decide +kernel
theorem dX8_shareRights_20 : decode cX8_shareRights 20 = .ok (.if_icmp .ge 67, 3) := by decide +kernel
theorem dX8_shareRights_23 : decode cX8_shareRights 23 = .ok (.aload_n 0, 1) := by decide +kernel
theorem dX8_shareRights_24 : decode cX8_shareRights 24 = .ok (.iload_n 1, 1) := by decide +kernel
theorem dX8_shareRights_25 : decode cX8_shareRights 25 = .ok (.invokevirtual 133, 3) := by decide +kernel
theorem dX8_shareRights_28 : decode cX8_shareRights 28 = .ok (.iconst 2, 1) := by decide +kernel
theorem dX8_shareRights_29 : decode cX8_shareRights 29 = .ok (.if_icmp .ne 8, 3) := by decide +kernel
theorem dX8_shareRights_32 : decode cX8_shareRights 32 = .ok (.bipush (-9), 2) := by decide +kernel
theorem dX8_shareRights_34 : decode cX8_shareRights 34 = .ok (.goto 15, 3) := by decide +kernel
theorem dX8_shareRights_37 : decode cX8_shareRights 37 = .ok (.aload_n 0, 1) := by decide +kernel
theorem dX8_shareRights_38 : decode cX8_shareRights 38 = .ok (.getfield 12, 3) := by decide +kernel
theorem dX8_shareRights_41 : decode cX8_shareRights 41 = .ok (.getfield 102, 3) := by decide +kernel
theorem dX8_shareRights_44 : decode cX8_shareRights 44 = .ok (.getfield 147, 3) := by decide +kernel
theorem dX8_shareRights_47 : decode cX8_shareRights 47 = .ok (.iload_n 1, 1) := by decide +kernel
theorem dX8_shareRights_48 : decode cX8_shareRights 48 = .ok (.iaload, 1) := by decide +kernel
theorem dX8_shareRights_49 : decode cX8_shareRights 49 = .ok (.istore_n 2, 1) := by decide +kernel
theorem dX8_shareRights_50 : decode cX8_shareRights 50 = .ok (.aload_n 0, 1) := by decide +kernel
theorem dX8_shareRights_51 : decode cX8_shareRights 51 = .ok (.getfield 26, 3) := by decide +kernel
theorem dX8_shareRights_54 : decode cX8_shareRights 54 = .ok (.iload_n 2, 1) := by decide +kernel
theorem dX8_shareRights_55 : decode cX8_shareRights 55 = .ok (.aload_n 0, 1) := by decide +kernel
theorem dX8_shareRights_56 : decode cX8_shareRights 56 = .ok (.getfield 12, 3) := by decide +kernel
theorem dX8_shareRights_59 : decode cX8_shareRights 59 = .ok (.getfield 102, 3) := by decide +kernel
theorem dX8_shareRights_62 : decode cX8_shareRights 62 = .ok (.getfield 150, 3) := by decide +kernel
theorem dX8_shareRights_65 : decode cX8_shareRights 65 = .ok (.iload_n 1, 1) := by decide +kernel
theorem dX8_shareRights_66 : decode cX8_shareRights 66 = .ok (.iaload, 1) := by decide +kernel
theorem dX8_shareRights_67 : decode cX8_shareRights 67 = .ok (.aload_n 0, 1) := by decide +kernel
theorem dX8_shareRights_68 : decode cX8_shareRights 68 = .ok (.getfield 12, 3) := by decide +kernel
theorem dX8_shareRights_71 : decode cX8_shareRights 71 = .ok (.getfield 102, 3) := by decide +kernel
theorem dX8_shareRights_74 : decode cX8_shareRights 74 = .ok (.iload_n 1, 1) := by decide +kernel
theorem dX8_shareRights_75 : decode cX8_shareRights 75 = .ok (.invokevirtual 137, 3) := by decide +kernel
theorem dX8_shareRights_78 : decode cX8_shareRights 78 = .ok (.invokevirtual 215, 3) := by decide +kernel
theorem dX8_shareRights_81 : decode cX8_shareRights 81 = .ok (.iinc 1 1, 3) := by decide +kernel
theorem dX8_shareRights_84 : decode cX8_shareRights 84 = .ok (.goto (-75), 3) := by decide +kernel
theorem dX8_shareRights_87 : decode cX8_shareRights 87 = .ok (.aload_n 0, 1) := by decide +kernel
theorem dX8_shareRights_88 : decode cX8_shareRights 88 = .ok (.getfield 26, 3) := by decide +kernel
theorem dX8_shareRights_91 : decode cX8_shareRights 91 = .ok (.aload_n 0, 1) := by decide +kernel
theorem dX8_shareRights_92 : decode cX8_shareRights 92 = .ok (.getfield 12, 3) := by decide +kernel
theorem dX8_shareRights_95 : decode cX8_shareRights 95 = .ok (.getfield 73, 3) := by decide +kernel
theorem dX8_shareRights_98 : decode cX8_shareRights 98 = .ok (.invokevirtual 219, 3) := by decide +kernel
theorem dX8_shareRights_101 : decode cX8_shareRights 101 = .ok (.pop, 1) := by decide +kernel
theorem dX8_shareRights_102 : decode cX8_shareRights 102 = .ok (.return_, 1) := by decide +kernel
theorem dX8_programmesAhead_0 : decode cX8_programmesAhead 0 = .ok (.aload_n 0, 1) := by decide +kernel
theorem dX8_programmesAhead_1 : decode cX8_programmesAhead 1 = .ok (.getfield 12, 3) := by decide +kernel
theorem dX8_programmesAhead_4 : decode cX8_programmesAhead 4 = .ok (.getfield 102, 3) := by decide +kernel
theorem dX8_programmesAhead_7 : decode cX8_programmesAhead 7 = .ok (.iload_n 1, 1) := by decide +kernel
theorem dX8_programmesAhead_8 : decode cX8_programmesAhead 8 = .ok (.invokevirtual 256, 3) := by decide +kernel
theorem dX8_programmesAhead_11 : decode cX8_programmesAhead 11 = .ok (.istore_n 2, 1) := by decide +kernel
theorem dX8_programmesAhead_12 : decode cX8_programmesAhead 12 = .ok (.iconst 0, 1) := by decide +kernel
theorem dX8_programmesAhead_13 : decode cX8_programmesAhead 13 = .ok (.istore_n 3, 1) := by decide +kernel
theorem dX8_programmesAhead_14 : decode cX8_programmesAhead 14 = .ok (.iconst 0, 1) := by decide +kernel
theorem dX8_programmesAhead_15 : decode cX8_programmesAhead 15 = .ok (.istore 4, 2) := by decide +kernel
theorem dX8_programmesAhead_17 : decode cX8_programmesAhead 17 = .ok (.iload 4, 2) := by decide +kernel
theorem dX8_programmesAhead_19 : decode cX8_programmesAhead 19 = .ok (.aload_n 0, 1) := by decide +kernel
theorem dX8_programmesAhead_20 : decode cX8_programmesAhead 20 = .ok (.getfield 12, 3) := by decide +kernel
theorem dX8_programmesAhead_23 : decode cX8_programmesAhead 23 = .ok (.getfield 48, 3) := by decide +kernel
theorem dX8_programmesAhead_26 : decode cX8_programmesAhead 26 = .ok (.getfield 52, 3) := by decide +kernel
theorem dX8_programmesAhead_29 : decode cX8_programmesAhead 29 = .ok (.if_icmp .ge 44, 3) := by decide +kernel
theorem dX8_programmesAhead_32 : decode cX8_programmesAhead 32 = .ok (.aload_n 0, 1) := by decide +kernel
theorem dX8_programmesAhead_33 : decode cX8_programmesAhead 33 = .ok (.getfield 12, 3) := by decide +kernel
theorem dX8_programmesAhead_36 : decode cX8_programmesAhead 36 = .ok (.getfield 102, 3) := by decide +kernel
theorem dX8_programmesAhead_39 : decode cX8_programmesAhead 39 = .ok (.iload 4, 2) := by decide +kernel
theorem dX8_programmesAhead_41 : decode cX8_programmesAhead 41 = .ok (.invokevirtual 256, 3) := by decide +kernel
theorem dX8_programmesAhead_44 : decode cX8_programmesAhead 44 = .ok (.istore 5, 2) := by decide +kernel
theorem dX8_programmesAhead_46 : decode cX8_programmesAhead 46 = .ok (.iload 5, 2) := by decide +kernel
theorem dX8_programmesAhead_48 : decode cX8_programmesAhead 48 = .ok (.iload_n 2, 1) := by decide +kernel
theorem dX8_programmesAhead_49 : decode cX8_programmesAhead 49 = .ok (.if_icmp .gt 15, 3) := by decide +kernel
theorem dX8_programmesAhead_52 : decode cX8_programmesAhead 52 = .ok (.iload 5, 2) := by decide +kernel
theorem dX8_programmesAhead_54 : decode cX8_programmesAhead 54 = .ok (.iload_n 2, 1) := by decide +kernel
theorem dX8_programmesAhead_55 : decode cX8_programmesAhead 55 = .ok (.if_icmp .ne 12, 3) := by decide +kernel
theorem dX8_programmesAhead_58 : decode cX8_programmesAhead 58 = .ok (.iload 4, 2) := by decide +kernel
theorem dX8_programmesAhead_60 : decode cX8_programmesAhead 60 = .ok (.iload_n 1, 1) := by decide +kernel
theorem dX8_programmesAhead_61 : decode cX8_programmesAhead 61 = .ok (.if_icmp .ge 6, 3) := by decide +kernel
theorem dX8_programmesAhead_64 : decode cX8_programmesAhead 64 = .ok (.iinc 3 1, 3) := by decide +kernel
theorem dX8_programmesAhead_67 : decode cX8_programmesAhead 67 = .ok (.iinc 4 1, 3) := by decide +kernel
theorem dX8_programmesAhead_70 : decode cX8_programmesAhead 70 = .ok (.goto (-53), 3) := by decide +kernel
theorem dX8_programmesAhead_73 : decode cX8_programmesAhead 73 = .ok (.iload_n 3, 1) := by decide +kernel
theorem dX8_programmesAhead_74 : decode cX8_programmesAhead 74 = .ok (.ireturn, 1) := by decide +kernel
theorem dX8_writeLine_0 : decode cX8_writeLine 0 = .ok (.aload_n 0, 1) := by decide +kernel
theorem dX8_writeLine_1 : decode cX8_writeLine 1 = .ok (.getfield 12, 3) := by decide +kernel
theorem dX8_writeLine_4 : decode cX8_writeLine 4 = .ok (.getfield 102, 3) := by decide +kernel
theorem dX8_writeLine_7 : decode cX8_writeLine 7 = .ok (.getfield 150, 3) := by decide +kernel
theorem dX8_writeLine_10 : decode cX8_writeLine 10 = .ok (.iload_n 1, 1) := by decide +kernel
theorem dX8_writeLine_11 : decode cX8_writeLine 11 = .ok (.iaload, 1) := by decide +kernel
theorem dX8_writeLine_12 : decode cX8_writeLine 12 = .ok (.sipush 1440, 3) := by decide +kernel
theorem dX8_writeLine_15 : decode cX8_writeLine 15 = .ok (.irem, 1) := by decide +kernel
theorem dX8_writeLine_16 : decode cX8_writeLine 16 = .ok (.istore_n 2, 1) := by decide +kernel
theorem dX8_writeLine_17 : decode cX8_writeLine 17 = .ok (.aload_n 0, 1) := by decide +kernel
theorem dX8_writeLine_18 : decode cX8_writeLine 18 = .ok (.getfield 40, 3) := by decide +kernel
theorem dX8_writeLine_21 : decode cX8_writeLine 21 = .ok (.iconst 0, 1) := by decide +kernel
theorem dX8_writeLine_22 : decode cX8_writeLine 22 = .ok (.invokevirtual 259, 3) := by decide +kernel
theorem dX8_writeLine_25 : decode cX8_writeLine 25 = .ok (.aload_n 0, 1) := by decide +kernel
theorem dX8_writeLine_26 : decode cX8_writeLine 26 = .ok (.getfield 40, 3) := by decide +kernel
theorem dX8_writeLine_29 : decode cX8_writeLine 29 = .ok (.aload_n 0, 1) := by decide +kernel
theorem dX8_writeLine_30 : decode cX8_writeLine 30 = .ok (.getfield 12, 3) := by decide +kernel
theorem dX8_writeLine_33 : decode cX8_writeLine 33 = .ok (.getfield 102, 3) := by decide +kernel
theorem dX8_writeLine_36 : decode cX8_writeLine 36 = .ok (.getfield 150, 3) := by decide +kernel
theorem dX8_writeLine_39 : decode cX8_writeLine 39 = .ok (.iload_n 1, 1) := by decide +kernel
theorem dX8_writeLine_40 : decode cX8_writeLine 40 = .ok (.iaload, 1) := by decide +kernel
theorem dX8_writeLine_41 : decode cX8_writeLine 41 = .ok (.sipush 1440, 3) := by decide +kernel
theorem dX8_writeLine_44 : decode cX8_writeLine 44 = .ok (.idiv, 1) := by decide +kernel
theorem dX8_writeLine_45 : decode cX8_writeLine 45 = .ok (.invokevirtual 262, 3) := by decide +kernel
theorem dX8_writeLine_48 : decode cX8_writeLine 48 = .ok (.bipush 32, 2) := by decide +kernel
theorem dX8_writeLine_50 : decode cX8_writeLine 50 = .ok (.invokevirtual 265, 3) := by decide +kernel
theorem dX8_writeLine_53 : decode cX8_writeLine 53 = .ok (.pop, 1) := by decide +kernel
theorem dX8_writeLine_54 : decode cX8_writeLine 54 = .ok (.aload_n 0, 1) := by decide +kernel
theorem dX8_writeLine_55 : decode cX8_writeLine 55 = .ok (.iload_n 2, 1) := by decide +kernel
theorem dX8_writeLine_56 : decode cX8_writeLine 56 = .ok (.bipush 60, 2) := by decide +kernel
theorem dX8_writeLine_58 : decode cX8_writeLine 58 = .ok (.idiv, 1) := by decide +kernel
theorem dX8_writeLine_59 : decode cX8_writeLine 59 = .ok (.invokevirtual 268, 3) := by decide +kernel
theorem dX8_writeLine_62 : decode cX8_writeLine 62 = .ok (.aload_n 0, 1) := by decide +kernel
theorem dX8_writeLine_63 : decode cX8_writeLine 63 = .ok (.getfield 40, 3) := by decide +kernel
theorem dX8_writeLine_66 : decode cX8_writeLine 66 = .ok (.bipush 58, 2) := by decide +kernel
theorem dX8_writeLine_68 : decode cX8_writeLine 68 = .ok (.invokevirtual 265, 3) := by decide +kernel
theorem dX8_writeLine_71 : decode cX8_writeLine 71 = .ok (.pop, 1) := by decide +kernel
theorem dX8_writeLine_72 : decode cX8_writeLine 72 = .ok (.aload_n 0, 1) := by decide +kernel
theorem dX8_writeLine_73 : decode cX8_writeLine 73 = .ok (.iload_n 2, 1) := by decide +kernel
theorem dX8_writeLine_74 : decode cX8_writeLine 74 = .ok (.bipush 60, 2) := by decide +kernel
theorem dX8_writeLine_76 : decode cX8_writeLine 76 = .ok (.irem, 1) := by decide +kernel
theorem dX8_writeLine_77 : decode cX8_writeLine 77 = .ok (.invokevirtual 268, 3) := by decide +kernel
theorem dX8_writeLine_80 : decode cX8_writeLine 80 = .ok (.aload_n 0, 1) := by decide +kernel
theorem dX8_writeLine_81 : decode cX8_writeLine 81 = .ok (.getfield 40, 3) := by decide +kernel
theorem dX8_writeLine_84 : decode cX8_writeLine 84 = .ok (.ldc_w 271, 3) := by decide +kernel
theorem dX8_writeLine_87 : decode cX8_writeLine 87 = .ok (.invokevirtual 273, 3) := by decide +kernel
theorem dX8_writeLine_90 : decode cX8_writeLine 90 = .ok (.aload_n 0, 1) := by decide +kernel
theorem dX8_writeLine_91 : decode cX8_writeLine 91 = .ok (.getfield 12, 3) := by decide +kernel
theorem dX8_writeLine_94 : decode cX8_writeLine 94 = .ok (.getfield 102, 3) := by decide +kernel
theorem dX8_writeLine_97 : decode cX8_writeLine 97 = .ok (.getfield 140, 3) := by decide +kernel
theorem dX8_writeLine_100 : decode cX8_writeLine 100 = .ok (.iload_n 1, 1) := by decide +kernel
theorem dX8_writeLine_101 : decode cX8_writeLine 101 = .ok (.iaload, 1) := by decide +kernel
theorem dX8_writeLine_102 : decode cX8_writeLine 102 = .ok (.invokevirtual 262, 3) := by decide +kernel
theorem dX8_writeLine_105 : decode cX8_writeLine 105 = .ok (.pop, 1) := by decide +kernel
theorem dX8_writeLine_106 : decode cX8_writeLine 106 = .ok (.aload_n 0, 1) := by decide +kernel
theorem dX8_writeLine_107 : decode cX8_writeLine 107 = .ok (.getfield 40, 3) := by decide +kernel
theorem dX8_writeLine_110 : decode cX8_writeLine 110 = .ok (.ldc_w 276, 3) := by decide +kernel
theorem dX8_writeLine_113 : decode cX8_writeLine 113 = .ok (.invokevirtual 273, 3) := by decide +kernel
theorem dX8_writeLine_116 : decode cX8_writeLine 116 = .ok (.aload_n 0, 1) := by decide +kernel
theorem dX8_writeLine_117 : decode cX8_writeLine 117 = .ok (.getfield 12, 3) := by decide +kernel
theorem dX8_writeLine_120 : decode cX8_writeLine 120 = .ok (.getfield 102, 3) := by decide +kernel
theorem dX8_writeLine_123 : decode cX8_writeLine 123 = .ok (.getfield 147, 3) := by decide +kernel
theorem dX8_writeLine_126 : decode cX8_writeLine 126 = .ok (.iload_n 1, 1) := by decide +kernel
theorem dX8_writeLine_127 : decode cX8_writeLine 127 = .ok (.iaload, 1) := by decide +kernel
theorem dX8_writeLine_128 : decode cX8_writeLine 128 = .ok (.invokevirtual 262, 3) := by decide +kernel
theorem dX8_writeLine_131 : decode cX8_writeLine 131 = .ok (.pop, 1) := by decide +kernel
theorem dX8_writeLine_132 : decode cX8_writeLine 132 = .ok (.aload_n 0, 1) := by decide +kernel
theorem dX8_writeLine_133 : decode cX8_writeLine 133 = .ok (.getfield 12, 3) := by decide +kernel
theorem dX8_writeLine_136 : decode cX8_writeLine 136 = .ok (.getfield 102, 3) := by decide +kernel
theorem dX8_writeLine_139 : decode cX8_writeLine 139 = .ok (.getfield 153, 3) := by decide +kernel
theorem dX8_writeLine_142 : decode cX8_writeLine 142 = .ok (.iload_n 1, 1) := by decide +kernel
theorem dX8_writeLine_143 : decode cX8_writeLine 143 = .ok (.iaload, 1) := by decide +kernel
theorem dX8_writeLine_144 : decode cX8_writeLine 144 = .ok (.iconst 1, 1) := by decide +kernel
theorem dX8_writeLine_145 : decode cX8_writeLine 145 = .ok (.if_icmp .ne 13, 3) := by decide +kernel
theorem dX8_writeLine_148 : decode cX8_writeLine 148 = .ok (.aload_n 0, 1) := by decide +kernel
theorem dX8_writeLine_149 : decode cX8_writeLine 149 = .ok (.getfield 40, 3) := by decide +kernel
theorem dX8_writeLine_152 : decode cX8_writeLine 152 = .ok (.bipush 33, 2) := by decide +kernel
theorem dX8_writeLine_154 : decode cX8_writeLine 154 = .ok (.invokevirtual 265, 3) := by decide +kernel
theorem dX8_writeLine_157 : decode cX8_writeLine 157 = .ok (.pop, 1) := by decide +kernel
theorem dX8_writeLine_158 : decode cX8_writeLine 158 = .ok (.return_, 1) := by decide +kernel
theorem dX8_writeTwoDigits_0 : decode cX8_writeTwoDigits 0 = .ok (.aload_n 0, 1) := by decide +kernel
theorem dX8_writeTwoDigits_1 : decode cX8_writeTwoDigits 1 = .ok (.getfield 40, 3) := by decide +kernel
theorem dX8_writeTwoDigits_4 : decode cX8_writeTwoDigits 4 = .ok (.iload_n 1, 1) := by decide +kernel
theorem dX8_writeTwoDigits_5 : decode cX8_writeTwoDigits 5 = .ok (.bipush 10, 2) := by decide +kernel
theorem dX8_writeTwoDigits_7 : decode cX8_writeTwoDigits 7 = .ok (.idiv, 1) := by decide +kernel
theorem dX8_writeTwoDigits_8 : decode cX8_writeTwoDigits 8 = .ok (.invokevirtual 262, 3) := by decide +kernel
theorem dX8_writeTwoDigits_11 : decode cX8_writeTwoDigits 11 = .ok (.iload_n 1, 1) := by decide +kernel
theorem dX8_writeTwoDigits_12 : decode cX8_writeTwoDigits 12 = .ok (.bipush 10, 2) := by decide +kernel
theorem dX8_writeTwoDigits_14 : decode cX8_writeTwoDigits 14 = .ok (.irem, 1) := by decide +kernel
theorem dX8_writeTwoDigits_15 : decode cX8_writeTwoDigits 15 = .ok (.invokevirtual 262, 3) := by decide +kernel
theorem dX8_writeTwoDigits_18 : decode cX8_writeTwoDigits 18 = .ok (.pop, 1) := by decide +kernel
theorem dX8_writeTwoDigits_19 : decode cX8_writeTwoDigits 19 = .ok (.return_, 1) := by decide +kernel
theorem dX9_init_0 : decode cX9_init 0 = .ok (.aload_n 0, 1) := by decide +kernel
theorem dX9_init_1 : decode cX9_init 1 = .ok (.invokespecial 1, 3) := by decide +kernel
theorem dX9_init_4 : decode cX9_init 4 = .ok (.aload_n 0, 1) := by decide +kernel
theorem dX9_init_5 : decode cX9_init 5 = .ok (.sipush 480, 3) := by decide +kernel
theorem dX9_init_8 : decode cX9_init 8 = .ok (.newarray .int, 2) := by decide +kernel
theorem dX9_init_10 : decode cX9_init 10 = .ok (.putfield 7, 3) := by decide +kernel
theorem dX9_init_13 : decode cX9_init 13 = .ok (.aload_n 0, 1) := by decide +kernel
theorem dX9_init_14 : decode cX9_init 14 = .ok (.sipush 2400, 3) := by decide +kernel
theorem dX9_init_17 : decode cX9_init 17 = .ok (.newarray .int, 2) := by decide +kernel
theorem dX9_init_19 : decode cX9_init 19 = .ok (.putfield 13, 3) := by decide +kernel
theorem dX9_init_22 : decode cX9_init 22 = .ok (.aload_n 0, 1) := by decide +kernel
theorem dX9_init_23 : decode cX9_init 23 = .ok (.bipush 61, 2) := by decide +kernel
theorem dX9_init_25 : decode cX9_init 25 = .ok (.newarray .int, 2) := by decide +kernel
theorem dX9_init_27 : decode cX9_init 27 = .ok (.putfield 16, 3) := by decide +kernel
theorem dX9_init_30 : decode cX9_init 30 = .ok (.aload_n 0, 1) := by decide +kernel
theorem dX9_init_31 : decode cX9_init 31 = .ok (.bipush 61, 2) := by decide +kernel
theorem dX9_init_33 : decode cX9_init 33 = .ok (.newarray .int, 2) := by decide +kernel
theorem dX9_init_35 : decode cX9_init 35 = .ok (.putfield 19, 3) := by decide +kernel
theorem dX9_init_38 : decode cX9_init 38 = .ok (.aload_n 0, 1) := by decide +kernel
theorem dX9_init_39 : decode cX9_init 39 = .ok (.bipush 61, 2) := by decide +kernel
theorem dX9_init_41 : decode cX9_init 41 = .ok (.newarray .int, 2) := by decide +kernel
theorem dX9_init_43 : decode cX9_init 43 = .ok (.putfield 22, 3) := by decide +kernel
theorem dX9_init_46 : decode cX9_init 46 = .ok (.aload_n 0, 1) := by decide +kernel
theorem dX9_init_47 : decode cX9_init 47 = .ok (.bipush 61, 2) := by decide +kernel
theorem dX9_init_49 : decode cX9_init 49 = .ok (.newarray .int, 2) := by decide +kernel
theorem dX9_init_51 : decode cX9_init 51 = .ok (.putfield 25, 3) := by decide +kernel
theorem dX9_init_54 : decode cX9_init 54 = .ok (.aload_n 0, 1) := by decide +kernel
theorem dX9_init_55 : decode cX9_init 55 = .ok (.bipush 30, 2) := by decide +kernel
theorem dX9_init_57 : decode cX9_init 57 = .ok (.newarray .int, 2) := by decide +kernel
theorem dX9_init_59 : decode cX9_init 59 = .ok (.putfield 28, 3) := by decide +kernel
theorem dX9_init_62 : decode cX9_init 62 = .ok (.aload_n 0, 1) := by decide +kernel
theorem dX9_init_63 : decode cX9_init 63 = .ok (.sipush 4097, 3) := by decide +kernel
theorem dX9_init_66 : decode cX9_init 66 = .ok (.newarray .int, 2) := by decide +kernel
theorem dX9_init_68 : decode cX9_init 68 = .ok (.putfield 31, 3) := by decide +kernel
theorem dX9_init_71 : decode cX9_init 71 = .ok (.aload_n 0, 1) := by decide +kernel
theorem dX9_init_72 : decode cX9_init 72 = .ok (.bipush 40, 2) := by decide +kernel
theorem dX9_init_74 : decode cX9_init 74 = .ok (.newarray .int, 2) := by decide +kernel
theorem dX9_init_76 : decode cX9_init 76 = .ok (.putfield 34, 3) := by decide +kernel
theorem dX9_init_79 : decode cX9_init 79 = .ok (.return_, 1) := by decide +kernel
theorem dX9_in_0 : decode cX9_in 0 = .ok (.iload_n 0, 1) := by decide +kernel
theorem dX9_in_1 : decode cX9_in 1 = .ok (.iload_n 1, 1) := by decide +kernel
theorem dX9_in_2 : decode cX9_in 2 = .ok (.if_icmp .lt 12, 3) := by decide +kernel
theorem dX9_in_5 : decode cX9_in 5 = .ok (.iload_n 0, 1) := by decide +kernel
theorem dX9_in_6 : decode cX9_in 6 = .ok (.iload_n 2, 1) := by decide +kernel
theorem dX9_in_7 : decode cX9_in 7 = .ok (.if_icmp .gt 7, 3) := by decide +kernel
theorem dX9_in_10 : decode cX9_in 10 = .ok (.iconst 1, 1) := by decide +kernel
theorem dX9_in_11 : decode cX9_in 11 = .ok (.goto 4, 3) := by decide +kernel
theorem dX9_in_14 : decode cX9_in 14 = .ok (.iconst 0, 1) := by decide +kernel
theorem dX9_in_15 : decode cX9_in 15 = .ok (.ireturn, 1) := by decide +kernel
theorem dX9_act_0 : decode cX9_act 0 = .ok (.aload_n 0, 1) := by decide +kernel
theorem dX9_act_1 : decode cX9_act 1 = .ok (.getfield 37, 3) := by decide +kernel
theorem dX9_act_4 : decode cX9_act 4 = .ok (.iconst 5, 1) := by decide +kernel
theorem dX9_act_5 : decode cX9_act 5 = .ok (.if_icmp .ne 44, 3) := by decide +kernel
theorem dX9_act_8 : decode cX9_act 8 = .ok (.iconst 0, 1) := by decide +kernel
theorem dX9_act_9 : decode cX9_act 9 = .ok (.istore_n 1, 1) := by decide +kernel
theorem dX9_act_10 : decode cX9_act 10 = .ok (.iload_n 1, 1) := by decide +kernel
theorem dX9_act_11 : decode cX9_act 11 = .ok (.sipush 1920, 3) := by decide +kernel
theorem dX9_act_14 : decode cX9_act 14 = .ok (.if_icmp .ge 25, 3) := by decide +kernel
theorem dX9_act_17 : decode cX9_act 17 = .ok (.aload_n 0, 1) := by decide +kernel
theorem dX9_act_18 : decode cX9_act 18 = .ok (.getfield 13, 3) := by decide +kernel
theorem dX9_act_21 : decode cX9_act 21 = .ok (.iload_n 1, 1) := by decide +kernel
theorem dX9_act_22 : decode cX9_act 22 = .ok (.aload_n 0, 1) := by decide +kernel
theorem dX9_act_23 : decode cX9_act 23 = .ok (.getfield 13, 3) := by decide +kernel
theorem dX9_act_26 : decode cX9_act 26 = .ok (.iload_n 1, 1) := by decide +kernel
theorem dX9_act_27 : decode cX9_act 27 = .ok (.sipush 480, 3) := by decide +kernel
theorem dX9_act_30 : decode cX9_act 30 = .ok (.iadd, 1) := by decide +kernel
theorem dX9_act_31 : decode cX9_act 31 = .ok (.iaload, 1) := by decide +kernel
theorem dX9_act_32 : decode cX9_act 32 = .ok (.iastore, 1) := by decide +kernel
theorem dX9_act_33 : decode cX9_act 33 = .ok (.iinc 1 1, 3) := by decide +kernel
theorem dX9_act_36 : decode cX9_act 36 = .ok (.goto (-26), 3) := by decide +kernel
theorem dX9_act_39 : decode cX9_act 39 = .ok (.aload_n 0, 1) := by decide +kernel
theorem dX9_act_40 : decode cX9_act 40 = .ok (.dup, 1) := by decide +kernel
theorem dX9_act_41 : decode cX9_act 41 = .ok (.getfield 37, 3) := by decide +kernel
theorem dX9_act_44 : decode cX9_act 44 = .ok (.iconst 1, 1) := by decide +kernel
theorem dX9_act_45 : decode cX9_act 45 = .ok (.isub, 1) := by decide +kernel
theorem dX9_act_46 : decode cX9_act 46 = .ok (.putfield 37, 3) := by decide +kernel
theorem dX9_act_49 : decode cX9_act 49 = .ok (.iconst 0, 1) := by decide +kernel
theorem dX9_act_50 : decode cX9_act 50 = .ok (.istore_n 1, 1) := by decide +kernel
theorem dX9_act_51 : decode cX9_act 51 = .ok (.iload_n 1, 1) := by decide +kernel
theorem dX9_act_52 : decode cX9_act 52 = .ok (.sipush 480, 3) := by decide +kernel
theorem dX9_act_55 : decode cX9_act 55 = .ok (.if_icmp .ge 30, 3) := by decide +kernel
theorem dX9_act_58 : decode cX9_act 58 = .ok (.aload_n 0, 1) := by decide +kernel
theorem dX9_act_59 : decode cX9_act 59 = .ok (.getfield 13, 3) := by decide +kernel
theorem dX9_act_62 : decode cX9_act 62 = .ok (.sipush 480, 3) := by decide +kernel
theorem dX9_act_65 : decode cX9_act 65 = .ok (.aload_n 0, 1) := by decide +kernel
theorem dX9_act_66 : decode cX9_act 66 = .ok (.getfield 37, 3) := by decide +kernel
theorem dX9_act_69 : decode cX9_act 69 = .ok (.imul, 1) := by decide +kernel
theorem dX9_act_70 : decode cX9_act 70 = .ok (.iload_n 1, 1) := by decide +kernel
theorem dX9_act_71 : decode cX9_act 71 = .ok (.iadd, 1) := by decide +kernel
theorem dX9_act_72 : decode cX9_act 72 = .ok (.aload_n 0, 1) := by decide +kernel
theorem dX9_act_73 : decode cX9_act 73 = .ok (.getfield 7, 3) := by decide +kernel
theorem dX9_act_76 : decode cX9_act 76 = .ok (.iload_n 1, 1) := by decide +kernel
theorem dX9_act_77 : decode cX9_act 77 = .ok (.iaload, 1) := by decide +kernel
theorem dX9_act_78 : decode cX9_act 78 = .ok (.iastore, 1) := by decide +kernel
theorem dX9_act_79 : decode cX9_act 79 = .ok (.iinc 1 1, 3) := by decide +kernel
theorem dX9_act_82 : decode cX9_act 82 = .ok (.goto (-31), 3) := by decide +kernel
theorem dX9_act_85 : decode cX9_act 85 = .ok (.aload_n 0, 1) := by decide +kernel
theorem dX9_act_86 : decode cX9_act 86 = .ok (.dup, 1) := by decide +kernel
theorem dX9_act_87 : decode cX9_act 87 = .ok (.getfield 37, 3) := by decide +kernel
theorem dX9_act_90 : decode cX9_act 90 = .ok (.iconst 1, 1) := by decide +kernel
theorem dX9_act_91 : decode cX9_act 91 = .ok (.iadd, 1) := by decide +kernel
theorem dX9_act_92 : decode cX9_act 92 = .ok (.putfield 37, 3) := by decide +kernel
theorem dX9_act_95 : decode cX9_act 95 = .ok (.return_, 1) := by decide +kernel
theorem dX9_isProgramme_0 : decode cX9_isProgramme 0 = .ok (.iload_n 1, 1) := by decide +kernel
theorem dX9_isProgramme_1 : decode cX9_isProgramme 1 = .ok (.iconst 0, 1) := by decide +kernel
theorem dX9_isProgramme_2 : decode cX9_isProgramme 2 = .ok (.aload_n 0, 1) := by decide +kernel
theorem dX9_isProgramme_3 : decode cX9_isProgramme 3 = .ok (.getfield 7, 3) := by decide +kernel
theorem dX9_isProgramme_6 : decode cX9_isProgramme 6 = .ok (.iconst 0, 1) := by decide +kernel
theorem dX9_isProgramme_7 : decode cX9_isProgramme 7 = .ok (.iaload, 1) := by decide +kernel
theorem dX9_isProgramme_8 : decode cX9_isProgramme 8 = .ok (.iconst 1, 1) := by decide +kernel
theorem dX9_isProgramme_9 : decode cX9_isProgramme 9 = .ok (.isub, 1) := by decide +kernel
theorem dX9_isProgramme_10 : decode cX9_isProgramme 10 = .ok (.invokestatic 41, 3) := by decide +kernel
theorem dX9_isProgramme_13 : decode cX9_isProgramme 13 = .ok (.ireturn, 1) := by decide +kernel
theorem dX9_isItem_0 : decode cX9_isItem 0 = .ok (.iload_n 1, 1) := by decide +kernel
theorem dX9_isItem_1 : decode cX9_isItem 1 = .ok (.iconst 0, 1) := by decide +kernel
theorem dX9_isItem_2 : decode cX9_isItem 2 = .ok (.aload_n 0, 1) := by decide +kernel
theorem dX9_isItem_3 : decode cX9_isItem 3 = .ok (.getfield 7, 3) := by decide +kernel
theorem dX9_isItem_6 : decode cX9_isItem 6 = .ok (.iconst 3, 1) := by decide +kernel
theorem dX9_isItem_7 : decode cX9_isItem 7 = .ok (.iaload, 1) := by decide +kernel
theorem dX9_isItem_8 : decode cX9_isItem 8 = .ok (.iconst 1, 1) := by decide +kernel
theorem dX9_isItem_9 : decode cX9_isItem 9 = .ok (.isub, 1) := by decide +kernel
theorem dX9_isItem_10 : decode cX9_isItem 10 = .ok (.invokestatic 41, 3) := by decide +kernel
theorem dX9_isItem_13 : decode cX9_isItem 13 = .ok (.ireturn, 1) := by decide +kernel
theorem dX9_kind_0 : decode cX9_kind 0 = .ok (.aload_n 0, 1) := by decide +kernel
theorem dX9_kind_1 : decode cX9_kind 1 = .ok (.getfield 7, 3) := by decide +kernel
theorem dX9_kind_4 : decode cX9_kind 4 = .ok (.bipush 10, 2) := by decide +kernel
theorem dX9_kind_6 : decode cX9_kind 6 = .ok (.iconst 4, 1) := by decide +kernel
theorem dX9_kind_7 : decode cX9_kind 7 = .ok (.iload_n 1, 1) := by decide +kernel
theorem dX9_kind_8 : decode cX9_kind 8 = .ok (.imul, 1) := by decide +kernel
theorem dX9_kind_9 : decode cX9_kind 9 = .ok (.iadd, 1) := by decide +kernel
theorem dX9_kind_10 : decode cX9_kind 10 = .ok (.iaload, 1) := by decide +kernel
theorem dX9_kind_11 : decode cX9_kind 11 = .ok (.ireturn, 1) := by decide +kernel
theorem dX9_length_0 : decode cX9_length 0 = .ok (.aload_n 0, 1) := by decide +kernel
theorem dX9_length_1 : decode cX9_length 1 = .ok (.getfield 7, 3) := by decide +kernel
theorem dX9_length_4 : decode cX9_length 4 = .ok (.bipush 10, 2) := by decide +kernel
theorem dX9_length_6 : decode cX9_length 6 = .ok (.iconst 4, 1) := by decide +kernel
theorem dX9_length_7 : decode cX9_length 7 = .ok (.iload_n 1, 1) := by decide +kernel
theorem dX9_length_8 : decode cX9_length 8 = .ok (.imul, 1) := by decide +kernel
theorem dX9_length_9 : decode cX9_length 9 = .ok (.iadd, 1) := by decide +kernel
theorem dX9_length_10 : decode cX9_length 10 = .ok (.iconst 1, 1) := by decide +kernel
theorem dX9_length_11 : decode cX9_length 11 = .ok (.iadd, 1) := by decide +kernel
theorem dX9_length_12 : decode cX9_length 12 = .ok (.iaload, 1) := by decide +kernel
theorem dX9_length_13 : decode cX9_length 13 = .ok (.ireturn, 1) := by decide +kernel
theorem dX9_of_0 : decode cX9_of 0 = .ok (.aload_n 0, 1) := by decide +kernel
theorem dX9_of_1 : decode cX9_of 1 = .ok (.getfield 7, 3) := by decide +kernel
theorem dX9_of_4 : decode cX9_of 4 = .ok (.sipush 230, 3) := by decide +kernel
theorem dX9_of_7 : decode cX9_of 7 = .ok (.iconst 4, 1) := by decide +kernel
theorem dX9_of_8 : decode cX9_of 8 = .ok (.iload_n 1, 1) := by decide +kernel
theorem dX9_of_9 : decode cX9_of 9 = .ok (.imul, 1) := by decide +kernel
theorem dX9_of_10 : decode cX9_of 10 = .ok (.iadd, 1) := by decide +kernel
theorem dX9_of_11 : decode cX9_of 11 = .ok (.iload_n 2, 1) := by decide +kernel
theorem dX9_of_12 : decode cX9_of 12 = .ok (.iadd, 1) := by decide +kernel
theorem dX9_of_13 : decode cX9_of 13 = .ok (.iaload, 1) := by decide +kernel
theorem dX9_of_14 : decode cX9_of 14 = .ok (.ireturn, 1) := by decide +kernel
theorem dX9_end_0 : decode cX9_end 0 = .ok (.aload_n 0, 1) := by decide +kernel
theorem dX9_end_1 : decode cX9_end 1 = .ok (.iload_n 1, 1) := by decide +kernel
theorem dX9_end_2 : decode cX9_end 2 = .ok (.iconst 1, 1) := by decide +kernel
theorem dX9_end_3 : decode cX9_end 3 = .ok (.invokevirtual 45, 3) := by decide +kernel
theorem dX9_end_6 : decode cX9_end 6 = .ok (.aload_n 0, 1) := by decide +kernel
theorem dX9_end_7 : decode cX9_end 7 = .ok (.iload_n 1, 1) := by decide +kernel
theorem dX9_end_8 : decode cX9_end 8 = .ok (.iconst 2, 1) := by decide +kernel
theorem dX9_end_9 : decode cX9_end 9 = .ok (.invokevirtual 45, 3) := by decide +kernel
theorem dX9_end_12 : decode cX9_end 12 = .ok (.iadd, 1) := by decide +kernel
theorem dX9_end_13 : decode cX9_end 13 = .ok (.ireturn, 1) := by decide +kernel
theorem dX9_addProgramme_0 : decode cX9_addProgramme 0 = .ok (.iload_n 1, 1) := by decide +kernel
theorem dX9_addProgramme_1 : decode cX9_addProgramme 1 = .ok (.iconst 0, 1) := by decide +kernel
theorem dX9_addProgramme_2 : decode cX9_addProgramme 2 = .ok (.iconst 3, 1) := by decide +kernel
theorem dX9_addProgramme_3 : decode cX9_addProgramme 3 = .ok (.invokestatic 41, 3) := by decide +kernel
theorem dX9_addProgramme_6 : decode cX9_addProgramme 6 = .ok (.ifCond .eq 23, 3) := by decide +kernel
theorem dX9_addProgramme_9 : decode cX9_addProgramme 9 = .ok (.iload_n 2, 1) := by decide +kernel
theorem dX9_addProgramme_10 : decode cX9_addProgramme 10 = .ok (.iconst 1, 1) := by decide +kernel
theorem dX9_addProgramme_11 : decode cX9_addProgramme 11 = .ok (.sipush 240, 3) := by decide +kernel
theorem dX9_addProgramme_14 : decode cX9_addProgramme 14 = .ok (.invokestatic 41, 3) := by decide +kernel
theorem dX9_addProgramme_17 : decode cX9_addProgramme 17 = .ok (.ifCond .eq 12, 3) := by decide +kernel
theorem dX9_addProgramme_20 : decode cX9_addProgramme 20 = .ok (.iload_n 3, 1) := by decide +kernel
theorem dX9_addProgramme_21 : decode cX9_addProgramme 21 = .ok (.iconst 0, 1) := by decide +kernel
theorem dX9_addProgramme_22 : decode cX9_addProgramme 22 = .ok (.iconst 3, 1) := by decide +kernel
theorem dX9_addProgramme_23 : decode cX9_addProgramme 23 = .ok (.invokestatic 41, 3) := by decide +kernel
theorem dX9_addProgramme_26 : decode cX9_addProgramme 26 = .ok (.ifCond .ne 5, 3) := by decide +kernel
theorem dX9_addProgramme_29 : decode cX9_addProgramme 29 = .ok (.iconst (-1), 1) := by decide +kernel
theorem dX9_addProgramme_30 : decode cX9_addProgramme 30 = .ok (.ireturn, 1) := by decide +kernel
theorem dX9_addProgramme_31 : decode cX9_addProgramme 31 = .ok (.aload_n 0, 1) := by decide +kernel
theorem dX9_addProgramme_32 : decode cX9_addProgramme 32 = .ok (.getfield 7, 3) := by decide +kernel
theorem dX9_addProgramme_35 : decode cX9_addProgramme 35 = .ok (.iconst 0, 1) := by decide +kernel
theorem dX9_addProgramme_36 : decode cX9_addProgramme 36 = .ok (.iaload, 1) := by decide +kernel
theorem dX9_addProgramme_37 : decode cX9_addProgramme 37 = .ok (.bipush 16, 2) := by decide +kernel
theorem dX9_addProgramme_39 : decode cX9_addProgramme 39 = .ok (.if_icmp .ne 6, 3) := by decide +kernel
theorem dX9_addProgramme_42 : decode cX9_addProgramme 42 = .ok (.bipush (-3), 2) := by decide +kernel
theorem dX9_addProgramme_44 : decode cX9_addProgramme 44 = .ok (.ireturn, 1) := by decide +kernel
theorem dX9_addProgramme_45 : decode cX9_addProgramme 45 = .ok (.aload_n 0, 1) := by decide +kernel
theorem dX9_addProgramme_46 : decode cX9_addProgramme 46 = .ok (.invokevirtual 49, 3) := by decide +kernel
theorem dX9_addProgramme_49 : decode cX9_addProgramme 49 = .ok (.bipush 10, 2) := by decide +kernel
theorem dX9_addProgramme_51 : decode cX9_addProgramme 51 = .ok (.iconst 4, 1) := by decide +kernel
theorem dX9_addProgramme_52 : decode cX9_addProgramme 52 = .ok (.aload_n 0, 1) := by decide +kernel
theorem dX9_addProgramme_53 : decode cX9_addProgramme 53 = .ok (.getfield 7, 3) := by decide +kernel
theorem dX9_addProgramme_56 : decode cX9_addProgramme 56 = .ok (.iconst 0, 1) := by decide +kernel
theorem dX9_addProgramme_57 : decode cX9_addProgramme 57 = .ok (.iaload, 1) := by decide +kernel
theorem dX9_addProgramme_58 : decode cX9_addProgramme 58 = .ok (.imul, 1) := by decide +kernel
theorem dX9_addProgramme_59 : decode cX9_addProgramme 59 = .ok (.iadd, 1) := by decide +kernel
theorem dX9_addProgramme_60 : decode cX9_addProgramme 60 = .ok (.istore 4, 2) := by decide +kernel
theorem dX9_addProgramme_62 : decode cX9_addProgramme 62 = .ok (.aload_n 0, 1) := by decide +kernel
theorem dX9_addProgramme_63 : decode cX9_addProgramme 63 = .ok (.getfield 7, 3) := by decide +kernel
theorem dX9_addProgramme_66 : decode cX9_addProgramme 66 = .ok (.iload 4, 2) := by decide +kernel
theorem dX9_addProgramme_68 : decode cX9_addProgramme 68 = .ok (.iload_n 1, 1) := by decide +kernel
theorem dX9_addProgramme_69 : decode cX9_addProgramme 69 = .ok (.iastore, 1) := by decide +kernel
theorem dX9_addProgramme_70 : decode cX9_addProgramme 70 = .ok (.aload_n 0, 1) := by decide +kernel
theorem dX9_addProgramme_71 : decode cX9_addProgramme 71 = .ok (.getfield 7, 3) := by decide +kernel
theorem dX9_addProgramme_74 : decode cX9_addProgramme 74 = .ok (.iload 4, 2) := by decide +kernel
theorem dX9_addProgramme_76 : decode cX9_addProgramme 76 = .ok (.iconst 1, 1) := by decide +kernel
theorem dX9_addProgramme_77 : decode cX9_addProgramme 77 = .ok (.iadd, 1) := by decide +kernel
theorem dX9_addProgramme_78 : decode cX9_addProgramme 78 = .ok (.iload_n 2, 1) := by decide +kernel
theorem dX9_addProgramme_79 : decode cX9_addProgramme 79 = .ok (.iastore, 1) := by decide +kernel
theorem dX9_addProgramme_80 : decode cX9_addProgramme 80 = .ok (.aload_n 0, 1) := by decide +kernel
theorem dX9_addProgramme_81 : decode cX9_addProgramme 81 = .ok (.getfield 7, 3) := by decide +kernel
theorem dX9_addProgramme_84 : decode cX9_addProgramme 84 = .ok (.iload 4, 2) := by decide +kernel
theorem dX9_addProgramme_86 : decode cX9_addProgramme 86 = .ok (.iconst 2, 1) := by decide +kernel
theorem dX9_addProgramme_87 : decode cX9_addProgramme 87 = .ok (.iadd, 1) := by decide +kernel
theorem dX9_addProgramme_88 : decode cX9_addProgramme 88 = .ok (.iload_n 3, 1) := by decide +kernel
theorem dX9_addProgramme_89 : decode cX9_addProgramme 89 = .ok (.iastore, 1) := by decide +kernel
theorem dX9_addProgramme_90 : decode cX9_addProgramme 90 = .ok (.aload_n 0, 1) := by decide +kernel
theorem dX9_addProgramme_91 : decode cX9_addProgramme 91 = .ok (.getfield 7, 3) := by decide +kernel
theorem dX9_addProgramme_94 : decode cX9_addProgramme 94 = .ok (.iload 4, 2) := by decide +kernel
theorem dX9_addProgramme_96 : decode cX9_addProgramme 96 = .ok (.iconst 3, 1) := by decide +kernel
theorem dX9_addProgramme_97 : decode cX9_addProgramme 97 = .ok (.iadd, 1) := by decide +kernel
theorem dX9_addProgramme_98 : decode cX9_addProgramme 98 = .ok (.iconst 0, 1) := by decide +kernel
theorem dX9_addProgramme_99 : decode cX9_addProgramme 99 = .ok (.iastore, 1) := by decide +kernel
theorem dX9_addProgramme_100 : decode cX9_addProgramme 100 = .ok (.aload_n 0, 1) := by decide +kernel
theorem dX9_addProgramme_101 : decode cX9_addProgramme 101 = .ok (.getfield 7, 3) := by decide +kernel
theorem dX9_addProgramme_104 : decode cX9_addProgramme 104 = .ok (.iconst 0, 1) := by decide +kernel
theorem dX9_addProgramme_105 : decode cX9_addProgramme 105 = .ok (.dup2, 1) := by decide +kernel
theorem dX9_addProgramme_106 : decode cX9_addProgramme 106 = .ok (.iaload, 1) := by decide +kernel
theorem dX9_addProgramme_107 : decode cX9_addProgramme 107 = .ok (.iconst 1, 1) := by decide +kernel
theorem dX9_addProgramme_108 : decode cX9_addProgramme 108 = .ok (.iadd, 1) := by decide +kernel
theorem dX9_addProgramme_109 : decode cX9_addProgramme 109 = .ok (.iastore, 1) := by decide +kernel
theorem dX9_addProgramme_110 : decode cX9_addProgramme 110 = .ok (.aload_n 0, 1) := by decide +kernel
theorem dX9_addProgramme_111 : decode cX9_addProgramme 111 = .ok (.getfield 7, 3) := by decide +kernel
theorem dX9_addProgramme_114 : decode cX9_addProgramme 114 = .ok (.iconst 0, 1) := by decide +kernel
theorem dX9_addProgramme_115 : decode cX9_addProgramme 115 = .ok (.iaload, 1) := by decide +kernel
theorem dX9_addProgramme_116 : decode cX9_addProgramme 116 = .ok (.iconst 1, 1) := by decide +kernel
theorem dX9_addProgramme_117 : decode cX9_addProgramme 117 = .ok (.isub, 1) := by decide +kernel
theorem dX9_addProgramme_118 : decode cX9_addProgramme 118 = .ok (.ireturn, 1) := by decide +kernel
theorem dX9_addRight_0 : decode cX9_addRight 0 = .ok (.aload_n 0, 1) := by decide +kernel
theorem dX9_addRight_1 : decode cX9_addRight 1 = .ok (.iload_n 1, 1) := by decide +kernel
theorem dX9_addRight_2 : decode cX9_addRight 2 = .ok (.invokevirtual 52, 3) := by decide +kernel
theorem dX9_addRight_5 : decode cX9_addRight 5 = .ok (.ifCond .eq 38, 3) := by decide +kernel
theorem dX9_addRight_8 : decode cX9_addRight 8 = .ok (.iload_n 2, 1) := by decide +kernel
theorem dX9_addRight_9 : decode cX9_addRight 9 = .ok (.iconst 0, 1) := by decide +kernel
theorem dX9_addRight_10 : decode cX9_addRight 10 = .ok (.sipush 10079, 3) := by decide +kernel
theorem dX9_addRight_13 : decode cX9_addRight 13 = .ok (.invokestatic 41, 3) := by decide +kernel
theorem dX9_addRight_16 : decode cX9_addRight 16 = .ok (.ifCond .eq 27, 3) := by decide +kernel
theorem dX9_addRight_19 : decode cX9_addRight 19 = .ok (.iload_n 3, 1) := by decide +kernel
theorem dX9_addRight_20 : decode cX9_addRight 20 = .ok (.iload_n 2, 1) := by decide +kernel
theorem dX9_addRight_21 : decode cX9_addRight 21 = .ok (.iconst 1, 1) := by decide +kernel
theorem dX9_addRight_22 : decode cX9_addRight 22 = .ok (.iadd, 1) := by decide +kernel
theorem dX9_addRight_23 : decode cX9_addRight 23 = .ok (.sipush 10080, 3) := by decide +kernel
theorem dX9_addRight_26 : decode cX9_addRight 26 = .ok (.invokestatic 41, 3) := by decide +kernel
theorem dX9_addRight_29 : decode cX9_addRight 29 = .ok (.ifCond .eq 14, 3) := by decide +kernel
theorem dX9_addRight_32 : decode cX9_addRight 32 = .ok (.iload 4, 2) := by decide +kernel
theorem dX9_addRight_34 : decode cX9_addRight 34 = .ok (.iconst 1, 1) := by decide +kernel
theorem dX9_addRight_35 : decode cX9_addRight 35 = .ok (.bipush 50, 2) := by decide +kernel
theorem dX9_addRight_37 : decode cX9_addRight 37 = .ok (.invokestatic 41, 3) := by decide +kernel
theorem dX9_addRight_40 : decode cX9_addRight 40 = .ok (.ifCond .ne 5, 3) := by decide +kernel
theorem dX9_addRight_43 : decode cX9_addRight 43 = .ok (.iconst (-1), 1) := by decide +kernel
theorem dX9_addRight_44 : decode cX9_addRight 44 = .ok (.ireturn, 1) := by decide +kernel
theorem dX9_addRight_45 : decode cX9_addRight 45 = .ok (.aload_n 0, 1) := by decide +kernel
theorem dX9_addRight_46 : decode cX9_addRight 46 = .ok (.getfield 7, 3) := by decide +kernel
theorem dX9_addRight_49 : decode cX9_addRight 49 = .ok (.iconst 2, 1) := by decide +kernel
theorem dX9_addRight_50 : decode cX9_addRight 50 = .ok (.iaload, 1) := by decide +kernel
theorem dX9_addRight_51 : decode cX9_addRight 51 = .ok (.bipush 30, 2) := by decide +kernel
theorem dX9_addRight_53 : decode cX9_addRight 53 = .ok (.if_icmp .ne 6, 3) := by decide +kernel
theorem dX9_addRight_56 : decode cX9_addRight 56 = .ok (.bipush (-3), 2) := by decide +kernel
theorem dX9_addRight_58 : decode cX9_addRight 58 = .ok (.ireturn, 1) := by decide +kernel
theorem dX9_addRight_59 : decode cX9_addRight 59 = .ok (.aload_n 0, 1) := by decide +kernel
theorem dX9_addRight_60 : decode cX9_addRight 60 = .ok (.invokevirtual 49, 3) := by decide +kernel
theorem dX9_addRight_63 : decode cX9_addRight 63 = .ok (.bipush 110, 2) := by decide +kernel
theorem dX9_addRight_65 : decode cX9_addRight 65 = .ok (.iconst 4, 1) := by decide +kernel
theorem dX9_addRight_66 : decode cX9_addRight 66 = .ok (.aload_n 0, 1) := by decide +kernel
theorem dX9_addRight_67 : decode cX9_addRight 67 = .ok (.getfield 7, 3) := by decide +kernel
theorem dX9_addRight_70 : decode cX9_addRight 70 = .ok (.iconst 2, 1) := by decide +kernel
theorem dX9_addRight_71 : decode cX9_addRight 71 = .ok (.iaload, 1) := by decide +kernel
theorem dX9_addRight_72 : decode cX9_addRight 72 = .ok (.imul, 1) := by decide +kernel
theorem dX9_addRight_73 : decode cX9_addRight 73 = .ok (.iadd, 1) := by decide +kernel
theorem dX9_addRight_74 : decode cX9_addRight 74 = .ok (.istore 5, 2) := by decide +kernel
theorem dX9_addRight_76 : decode cX9_addRight 76 = .ok (.aload_n 0, 1) := by decide +kernel
theorem dX9_addRight_77 : decode cX9_addRight 77 = .ok (.getfield 7, 3) := by decide +kernel
theorem dX9_addRight_80 : decode cX9_addRight 80 = .ok (.iload 5, 2) := by decide +kernel
theorem dX9_addRight_82 : decode cX9_addRight 82 = .ok (.iload_n 1, 1) := by decide +kernel
theorem dX9_addRight_83 : decode cX9_addRight 83 = .ok (.iastore, 1) := by decide +kernel
theorem dX9_addRight_84 : decode cX9_addRight 84 = .ok (.aload_n 0, 1) := by decide +kernel
theorem dX9_addRight_85 : decode cX9_addRight 85 = .ok (.getfield 7, 3) := by decide +kernel
theorem dX9_addRight_88 : decode cX9_addRight 88 = .ok (.iload 5, 2) := by decide +kernel
theorem dX9_addRight_90 : decode cX9_addRight 90 = .ok (.iconst 1, 1) := by decide +kernel
theorem dX9_addRight_91 : decode cX9_addRight 91 = .ok (.iadd, 1) := by decide +kernel
theorem dX9_addRight_92 : decode cX9_addRight 92 = .ok (.iload_n 2, 1) := by decide +kernel
theorem dX9_addRight_93 : decode cX9_addRight 93 = .ok (.iastore, 1) := by decide +kernel
theorem dX9_addRight_94 : decode cX9_addRight 94 = .ok (.aload_n 0, 1) := by decide +kernel
theorem dX9_addRight_95 : decode cX9_addRight 95 = .ok (.getfield 7, 3) := by decide +kernel
theorem dX9_addRight_98 : decode cX9_addRight 98 = .ok (.iload 5, 2) := by decide +kernel
theorem dX9_addRight_100 : decode cX9_addRight 100 = .ok (.iconst 2, 1) := by decide +kernel
theorem dX9_addRight_101 : decode cX9_addRight 101 = .ok (.iadd, 1) := by decide +kernel
theorem dX9_addRight_102 : decode cX9_addRight 102 = .ok (.iload_n 3, 1) := by decide +kernel
theorem dX9_addRight_103 : decode cX9_addRight 103 = .ok (.iastore, 1) := by decide +kernel
theorem dX9_addRight_104 : decode cX9_addRight 104 = .ok (.aload_n 0, 1) := by decide +kernel
theorem dX9_addRight_105 : decode cX9_addRight 105 = .ok (.getfield 7, 3) := by decide +kernel
theorem dX9_addRight_108 : decode cX9_addRight 108 = .ok (.iload 5, 2) := by decide +kernel
theorem dX9_addRight_110 : decode cX9_addRight 110 = .ok (.iconst 3, 1) := by decide +kernel
theorem dX9_addRight_111 : decode cX9_addRight 111 = .ok (.iadd, 1) := by decide +kernel
theorem dX9_addRight_112 : decode cX9_addRight 112 = .ok (.iload 4, 2) := by decide +kernel
theorem dX9_addRight_114 : decode cX9_addRight 114 = .ok (.iastore, 1) := by decide +kernel
theorem dX9_addRight_115 : decode cX9_addRight 115 = .ok (.aload_n 0, 1) := by decide +kernel
theorem dX9_addRight_116 : decode cX9_addRight 116 = .ok (.getfield 7, 3) := by decide +kernel
theorem dX9_addRight_119 : decode cX9_addRight 119 = .ok (.iconst 2, 1) := by decide +kernel
theorem dX9_addRight_120 : decode cX9_addRight 120 = .ok (.dup2, 1) := by decide +kernel
theorem dX9_addRight_121 : decode cX9_addRight 121 = .ok (.iaload, 1) := by decide +kernel
theorem dX9_addRight_122 : decode cX9_addRight 122 = .ok (.iconst 1, 1) := by decide +kernel
theorem dX9_addRight_123 : decode cX9_addRight 123 = .ok (.iadd, 1) := by decide +kernel
theorem dX9_addRight_124 : decode cX9_addRight 124 = .ok (.iastore, 1) := by decide +kernel
theorem dX9_addRight_125 : decode cX9_addRight 125 = .ok (.aload_n 0, 1) := by decide +kernel
theorem dX9_addRight_126 : decode cX9_addRight 126 = .ok (.getfield 7, 3) := by decide +kernel
theorem dX9_addRight_129 : decode cX9_addRight 129 = .ok (.iconst 2, 1) := by decide +kernel
theorem dX9_addRight_130 : decode cX9_addRight 130 = .ok (.iaload, 1) := by decide +kernel
theorem dX9_addRight_131 : decode cX9_addRight 131 = .ok (.iconst 1, 1) := by decide +kernel
theorem dX9_addRight_132 : decode cX9_addRight 132 = .ok (.isub, 1) := by decide +kernel
theorem dX9_addRight_133 : decode cX9_addRight 133 = .ok (.ireturn, 1) := by decide +kernel
theorem dX9_addBlackout_0 : decode cX9_addBlackout 0 = .ok (.iload_n 1, 1) := by decide +kernel
theorem dX9_addBlackout_1 : decode cX9_addBlackout 1 = .ok (.iconst 0, 1) := by decide +kernel
theorem dX9_addBlackout_2 : decode cX9_addBlackout 2 = .ok (.sipush 1439, 3) := by decide +kernel
theorem dX9_addBlackout_5 : decode cX9_addBlackout 5 = .ok (.invokestatic 41, 3) := by decide +kernel
theorem dX9_addBlackout_8 : decode cX9_addBlackout 8 = .ok (.ifCond .eq 25, 3) := by decide +kernel
theorem dX9_addBlackout_11 : decode cX9_addBlackout 11 = .ok (.iload_n 2, 1) := by decide +kernel
theorem dX9_addBlackout_12 : decode cX9_addBlackout 12 = .ok (.iload_n 1, 1) := by decide +kernel
theorem dX9_addBlackout_13 : decode cX9_addBlackout 13 = .ok (.iconst 1, 1) := by decide +kernel
theorem dX9_addBlackout_14 : decode cX9_addBlackout 14 = .ok (.iadd, 1) := by decide +kernel
theorem dX9_addBlackout_15 : decode cX9_addBlackout 15 = .ok (.sipush 1440, 3) := by decide +kernel
theorem dX9_addBlackout_18 : decode cX9_addBlackout 18 = .ok (.invokestatic 41, 3) := by decide +kernel
theorem dX9_addBlackout_21 : decode cX9_addBlackout 21 = .ok (.ifCond .eq 12, 3) := by decide +kernel
theorem dX9_addBlackout_24 : decode cX9_addBlackout 24 = .ok (.iload_n 3, 1) := by decide +kernel
theorem dX9_addBlackout_25 : decode cX9_addBlackout 25 = .ok (.iconst 0, 1) := by decide +kernel
theorem dX9_addBlackout_26 : decode cX9_addBlackout 26 = .ok (.iconst 3, 1) := by decide +kernel
theorem dX9_addBlackout_27 : decode cX9_addBlackout 27 = .ok (.invokestatic 41, 3) := by decide +kernel
theorem dX9_addBlackout_30 : decode cX9_addBlackout 30 = .ok (.ifCond .ne 5, 3) := by decide +kernel
theorem dX9_addBlackout_33 : decode cX9_addBlackout 33 = .ok (.iconst (-1), 1) := by decide +kernel
theorem dX9_addBlackout_34 : decode cX9_addBlackout 34 = .ok (.ireturn, 1) := by decide +kernel
theorem dX9_addBlackout_35 : decode cX9_addBlackout 35 = .ok (.aload_n 0, 1) := by decide +kernel
theorem dX9_addBlackout_36 : decode cX9_addBlackout 36 = .ok (.getfield 7, 3) := by decide +kernel
theorem dX9_addBlackout_39 : decode cX9_addBlackout 39 = .ok (.iconst 1, 1) := by decide +kernel
theorem dX9_addBlackout_40 : decode cX9_addBlackout 40 = .ok (.iaload, 1) := by decide +kernel
theorem dX9_addBlackout_41 : decode cX9_addBlackout 41 = .ok (.bipush 10, 2) := by decide +kernel
theorem dX9_addBlackout_43 : decode cX9_addBlackout 43 = .ok (.if_icmp .ne 6, 3) := by decide +kernel
theorem dX9_addBlackout_46 : decode cX9_addBlackout 46 = .ok (.bipush (-3), 2) := by decide +kernel
theorem dX9_addBlackout_48 : decode cX9_addBlackout 48 = .ok (.ireturn, 1) := by decide +kernel
theorem dX9_addBlackout_49 : decode cX9_addBlackout 49 = .ok (.aload_n 0, 1) := by decide +kernel
theorem dX9_addBlackout_50 : decode cX9_addBlackout 50 = .ok (.invokevirtual 49, 3) := by decide +kernel
theorem dX9_addBlackout_53 : decode cX9_addBlackout 53 = .ok (.bipush 80, 2) := by decide +kernel
theorem dX9_addBlackout_55 : decode cX9_addBlackout 55 = .ok (.iconst 3, 1) := by decide +kernel
theorem dX9_addBlackout_56 : decode cX9_addBlackout 56 = .ok (.aload_n 0, 1) := by decide +kernel
theorem dX9_addBlackout_57 : decode cX9_addBlackout 57 = .ok (.getfield 7, 3) := by decide +kernel
theorem dX9_addBlackout_60 : decode cX9_addBlackout 60 = .ok (.iconst 1, 1) := by decide +kernel
theorem dX9_addBlackout_61 : decode cX9_addBlackout 61 = .ok (.iaload, 1) := by decide +kernel
theorem dX9_addBlackout_62 : decode cX9_addBlackout 62 = .ok (.imul, 1) := by decide +kernel
theorem dX9_addBlackout_63 : decode cX9_addBlackout 63 = .ok (.iadd, 1) := by decide +kernel
theorem dX9_addBlackout_64 : decode cX9_addBlackout 64 = .ok (.istore 4, 2) := by decide +kernel
theorem dX9_addBlackout_66 : decode cX9_addBlackout 66 = .ok (.aload_n 0, 1) := by decide +kernel
theorem dX9_addBlackout_67 : decode cX9_addBlackout 67 = .ok (.getfield 7, 3) := by decide +kernel
theorem dX9_addBlackout_70 : decode cX9_addBlackout 70 = .ok (.iload 4, 2) := by decide +kernel
theorem dX9_addBlackout_72 : decode cX9_addBlackout 72 = .ok (.iload_n 1, 1) := by decide +kernel
theorem dX9_addBlackout_73 : decode cX9_addBlackout 73 = .ok (.iastore, 1) := by decide +kernel
theorem dX9_addBlackout_74 : decode cX9_addBlackout 74 = .ok (.aload_n 0, 1) := by decide +kernel
theorem dX9_addBlackout_75 : decode cX9_addBlackout 75 = .ok (.getfield 7, 3) := by decide +kernel
theorem dX9_addBlackout_78 : decode cX9_addBlackout 78 = .ok (.iload 4, 2) := by decide +kernel
theorem dX9_addBlackout_80 : decode cX9_addBlackout 80 = .ok (.iconst 1, 1) := by decide +kernel
theorem dX9_addBlackout_81 : decode cX9_addBlackout 81 = .ok (.iadd, 1) := by decide +kernel
theorem dX9_addBlackout_82 : decode cX9_addBlackout 82 = .ok (.iload_n 2, 1) := by decide +kernel
theorem dX9_addBlackout_83 : decode cX9_addBlackout 83 = .ok (.iastore, 1) := by decide +kernel
theorem dX9_addBlackout_84 : decode cX9_addBlackout 84 = .ok (.aload_n 0, 1) := by decide +kernel
theorem dX9_addBlackout_85 : decode cX9_addBlackout 85 = .ok (.getfield 7, 3) := by decide +kernel
theorem dX9_addBlackout_88 : decode cX9_addBlackout 88 = .ok (.iload 4, 2) := by decide +kernel
theorem dX9_addBlackout_90 : decode cX9_addBlackout 90 = .ok (.iconst 2, 1) := by decide +kernel
theorem dX9_addBlackout_91 : decode cX9_addBlackout 91 = .ok (.iadd, 1) := by decide +kernel
theorem dX9_addBlackout_92 : decode cX9_addBlackout 92 = .ok (.iload_n 3, 1) := by decide +kernel
theorem dX9_addBlackout_93 : decode cX9_addBlackout 93 = .ok (.iastore, 1) := by decide +kernel
theorem dX9_addBlackout_94 : decode cX9_addBlackout 94 = .ok (.aload_n 0, 1) := by decide +kernel
theorem dX9_addBlackout_95 : decode cX9_addBlackout 95 = .ok (.getfield 7, 3) := by decide +kernel
theorem dX9_addBlackout_98 : decode cX9_addBlackout 98 = .ok (.iconst 1, 1) := by decide +kernel
theorem dX9_addBlackout_99 : decode cX9_addBlackout 99 = .ok (.dup2, 1) := by decide +kernel
theorem dX9_addBlackout_100 : decode cX9_addBlackout 100 = .ok (.iaload, 1) := by decide +kernel
theorem dX9_addBlackout_101 : decode cX9_addBlackout 101 = .ok (.iconst 1, 1) := by decide +kernel
theorem dX9_addBlackout_102 : decode cX9_addBlackout 102 = .ok (.iadd, 1) := by decide +kernel
theorem dX9_addBlackout_103 : decode cX9_addBlackout 103 = .ok (.iastore, 1) := by decide +kernel
theorem dX9_addBlackout_104 : decode cX9_addBlackout 104 = .ok (.aload_n 0, 1) := by decide +kernel
theorem dX9_addBlackout_105 : decode cX9_addBlackout 105 = .ok (.getfield 7, 3) := by decide +kernel
theorem dX9_addBlackout_108 : decode cX9_addBlackout 108 = .ok (.iconst 1, 1) := by decide +kernel
theorem dX9_addBlackout_109 : decode cX9_addBlackout 109 = .ok (.iaload, 1) := by decide +kernel
theorem dX9_addBlackout_110 : decode cX9_addBlackout 110 = .ok (.iconst 1, 1) := by decide +kernel
theorem dX9_addBlackout_111 : decode cX9_addBlackout 111 = .ok (.isub, 1) := by decide +kernel
theorem dX9_addBlackout_112 : decode cX9_addBlackout 112 = .ok (.ireturn, 1) := by decide +kernel
theorem dX9_lists_0 : decode cX9_lists 0 = .ok (.aload_n 0, 1) := by decide +kernel
theorem dX9_lists_1 : decode cX9_lists 1 = .ok (.getfield 56, 3) := by decide +kernel
theorem dX9_lists_4 : decode cX9_lists 4 = .ok (.istore 4, 2) := by decide +kernel
theorem dX9_lists_6 : decode cX9_lists 6 = .ok (.iload 4, 2) := by decide +kernel
theorem dX9_lists_8 : decode cX9_lists 8 = .ok (.ifCond .le 70, 3) := by decide +kernel
theorem dX9_lists_11 : decode cX9_lists 11 = .ok (.aload_n 0, 1) := by decide +kernel
theorem dX9_lists_12 : decode cX9_lists 12 = .ok (.getfield 19, 3) := by decide +kernel
theorem dX9_lists_15 : decode cX9_lists 15 = .ok (.iload 4, 2) := by decide +kernel
theorem dX9_lists_17 : decode cX9_lists 17 = .ok (.iconst 1, 1) := by decide +kernel
theorem dX9_lists_18 : decode cX9_lists 18 = .ok (.isub, 1) := by decide +kernel
theorem dX9_lists_19 : decode cX9_lists 19 = .ok (.iaload, 1) := by decide +kernel
theorem dX9_lists_20 : decode cX9_lists 20 = .ok (.iload_n 2, 1) := by decide +kernel
theorem dX9_lists_21 : decode cX9_lists 21 = .ok (.if_icmp .lt 57, 3) := by decide +kernel
theorem dX9_lists_24 : decode cX9_lists 24 = .ok (.aload_n 0, 1) := by decide +kernel
theorem dX9_lists_25 : decode cX9_lists 25 = .ok (.getfield 16, 3) := by decide +kernel
theorem dX9_lists_28 : decode cX9_lists 28 = .ok (.iload 4, 2) := by decide +kernel
theorem dX9_lists_30 : decode cX9_lists 30 = .ok (.aload_n 0, 1) := by decide +kernel
theorem dX9_lists_31 : decode cX9_lists 31 = .ok (.getfield 16, 3) := by decide +kernel
theorem dX9_lists_34 : decode cX9_lists 34 = .ok (.iload 4, 2) := by decide +kernel
theorem dX9_lists_36 : decode cX9_lists 36 = .ok (.iconst 1, 1) := by decide +kernel
theorem dX9_lists_37 : decode cX9_lists 37 = .ok (.isub, 1) := by decide +kernel
theorem dX9_lists_38 : decode cX9_lists 38 = .ok (.iaload, 1) := by decide +kernel
theorem dX9_lists_39 : decode cX9_lists 39 = .ok (.iastore, 1) := by decide +kernel
theorem dX9_lists_40 : decode cX9_lists 40 = .ok (.aload_n 0, 1) := by decide +kernel
theorem dX9_lists_41 : decode cX9_lists 41 = .ok (.getfield 19, 3) := by decide +kernel
theorem dX9_lists_44 : decode cX9_lists 44 = .ok (.iload 4, 2) := by decide +kernel
theorem dX9_lists_46 : decode cX9_lists 46 = .ok (.aload_n 0, 1) := by decide +kernel
theorem dX9_lists_47 : decode cX9_lists 47 = .ok (.getfield 19, 3) := by decide +kernel
theorem dX9_lists_50 : decode cX9_lists 50 = .ok (.iload 4, 2) := by decide +kernel
theorem dX9_lists_52 : decode cX9_lists 52 = .ok (.iconst 1, 1) := by decide +kernel
theorem dX9_lists_53 : decode cX9_lists 53 = .ok (.isub, 1) := by decide +kernel
theorem dX9_lists_54 : decode cX9_lists 54 = .ok (.iaload, 1) := by decide +kernel
theorem dX9_lists_55 : decode cX9_lists 55 = .ok (.iastore, 1) := by decide +kernel
theorem dX9_lists_56 : decode cX9_lists 56 = .ok (.aload_n 0, 1) := by decide +kernel
theorem dX9_lists_57 : decode cX9_lists 57 = .ok (.getfield 22, 3) := by decide +kernel
theorem dX9_lists_60 : decode cX9_lists 60 = .ok (.iload 4, 2) := by decide +kernel
theorem dX9_lists_62 : decode cX9_lists 62 = .ok (.aload_n 0, 1) := by decide +kernel
theorem dX9_lists_63 : decode cX9_lists 63 = .ok (.getfield 22, 3) := by decide +kernel
theorem dX9_lists_66 : decode cX9_lists 66 = .ok (.iload 4, 2) := by decide +kernel
theorem dX9_lists_68 : decode cX9_lists 68 = .ok (.iconst 1, 1) := by decide +kernel
theorem dX9_lists_69 : decode cX9_lists 69 = .ok (.isub, 1) := by decide +kernel
theorem dX9_lists_70 : decode cX9_lists 70 = .ok (.iaload, 1) := by decide +kernel
theorem dX9_lists_71 : decode cX9_lists 71 = .ok (.iastore, 1) := by decide +kernel
theorem dX9_lists_72 : decode cX9_lists 72 = .ok (.iinc 4 (-1), 3) := by decide +kernel
theorem dX9_lists_75 : decode cX9_lists 75 = .ok (.goto (-69), 3) := by decide +kernel
theorem dX9_lists_78 : decode cX9_lists 78 = .ok (.aload_n 0, 1) := by decide +kernel
theorem dX9_lists_79 : decode cX9_lists 79 = .ok (.getfield 16, 3) := by decide +kernel
theorem dX9_lists_82 : decode cX9_lists 82 = .ok (.iload 4, 2) := by decide +kernel
theorem dX9_lists_84 : decode cX9_lists 84 = .ok (.iload_n 1, 1) := by decide +kernel
theorem dX9_lists_85 : decode cX9_lists 85 = .ok (.iastore, 1) := by decide +kernel
theorem dX9_lists_86 : decode cX9_lists 86 = .ok (.aload_n 0, 1) := by decide +kernel
theorem dX9_lists_87 : decode cX9_lists 87 = .ok (.getfield 19, 3) := by decide +kernel
theorem dX9_lists_90 : decode cX9_lists 90 = .ok (.iload 4, 2) := by decide +kernel
theorem dX9_lists_92 : decode cX9_lists 92 = .ok (.iload_n 2, 1) := by decide +kernel
theorem dX9_lists_93 : decode cX9_lists 93 = .ok (.iastore, 1) := by decide +kernel
theorem dX9_lists_94 : decode cX9_lists 94 = .ok (.aload_n 0, 1) := by decide +kernel
theorem dX9_lists_95 : decode cX9_lists 95 = .ok (.getfield 22, 3) := by decide +kernel
theorem dX9_lists_98 : decode cX9_lists 98 = .ok (.iload 4, 2) := by decide +kernel
theorem dX9_lists_100 : decode cX9_lists 100 = .ok (.iload_n 3, 1) := by decide +kernel
theorem dX9_lists_101 : decode cX9_lists 101 = .ok (.iastore, 1) := by decide +kernel
theorem dX9_lists_102 : decode cX9_lists 102 = .ok (.aload_n 0, 1) := by decide +kernel
theorem dX9_lists_103 : decode cX9_lists 103 = .ok (.dup, 1) := by decide +kernel
theorem dX9_lists_104 : decode cX9_lists 104 = .ok (.getfield 56, 3) := by decide +kernel
theorem dX9_lists_107 : decode cX9_lists 107 = .ok (.iconst 1, 1) := by decide +kernel
theorem dX9_lists_108 : decode cX9_lists 108 = .ok (.iadd, 1) := by decide +kernel
theorem dX9_lists_109 : decode cX9_lists 109 = .ok (.putfield 56, 3) := by decide +kernel
theorem dX9_lists_112 : decode cX9_lists 112 = .ok (.return_, 1) := by decide +kernel
theorem dX9_listsAll_0 : decode cX9_listsAll 0 = .ok (.aload_n 0, 1) := by decide +kernel
theorem dX9_listsAll_1 : decode cX9_listsAll 1 = .ok (.iconst 0, 1) := by decide +kernel
theorem dX9_listsAll_2 : decode cX9_listsAll 2 = .ok (.putfield 56, 3) := by decide +kernel
theorem dX9_listsAll_5 : decode cX9_listsAll 5 = .ok (.iconst 0, 1) := by decide +kernel
theorem dX9_listsAll_6 : decode cX9_listsAll 6 = .ok (.istore_n 1, 1) := by decide +kernel
theorem dX9_listsAll_7 : decode cX9_listsAll 7 = .ok (.iload_n 1, 1) := by decide +kernel
theorem dX9_listsAll_8 : decode cX9_listsAll 8 = .ok (.aload_n 0, 1) := by decide +kernel
theorem dX9_listsAll_9 : decode cX9_listsAll 9 = .ok (.getfield 7, 3) := by decide +kernel
theorem dX9_listsAll_12 : decode cX9_listsAll 12 = .ok (.iconst 3, 1) := by decide +kernel
theorem dX9_listsAll_13 : decode cX9_listsAll 13 = .ok (.iaload, 1) := by decide +kernel
theorem dX9_listsAll_14 : decode cX9_listsAll 14 = .ok (.if_icmp .ge 55, 3) := by decide +kernel
theorem dX9_listsAll_17 : decode cX9_listsAll 17 = .ok (.aload_n 0, 1) := by decide +kernel
theorem dX9_listsAll_18 : decode cX9_listsAll 18 = .ok (.getfield 16, 3) := by decide +kernel
theorem dX9_listsAll_21 : decode cX9_listsAll 21 = .ok (.iload_n 1, 1) := by decide +kernel
theorem dX9_listsAll_22 : decode cX9_listsAll 22 = .ok (.aload_n 0, 1) := by decide +kernel
theorem dX9_listsAll_23 : decode cX9_listsAll 23 = .ok (.iload_n 1, 1) := by decide +kernel
theorem dX9_listsAll_24 : decode cX9_listsAll 24 = .ok (.iconst 0, 1) := by decide +kernel
theorem dX9_listsAll_25 : decode cX9_listsAll 25 = .ok (.invokevirtual 45, 3) := by decide +kernel
theorem dX9_listsAll_28 : decode cX9_listsAll 28 = .ok (.iastore, 1) := by decide +kernel
theorem dX9_listsAll_29 : decode cX9_listsAll 29 = .ok (.aload_n 0, 1) := by decide +kernel
theorem dX9_listsAll_30 : decode cX9_listsAll 30 = .ok (.getfield 19, 3) := by decide +kernel
theorem dX9_listsAll_33 : decode cX9_listsAll 33 = .ok (.iload_n 1, 1) := by decide +kernel
theorem dX9_listsAll_34 : decode cX9_listsAll 34 = .ok (.aload_n 0, 1) := by decide +kernel
theorem dX9_listsAll_35 : decode cX9_listsAll 35 = .ok (.iload_n 1, 1) := by decide +kernel
theorem dX9_listsAll_36 : decode cX9_listsAll 36 = .ok (.iconst 1, 1) := by decide +kernel
theorem dX9_listsAll_37 : decode cX9_listsAll 37 = .ok (.invokevirtual 45, 3) := by decide +kernel
theorem dX9_listsAll_40 : decode cX9_listsAll 40 = .ok (.iastore, 1) := by decide +kernel
theorem dX9_listsAll_41 : decode cX9_listsAll 41 = .ok (.aload_n 0, 1) := by decide +kernel
theorem dX9_listsAll_42 : decode cX9_listsAll 42 = .ok (.getfield 22, 3) := by decide +kernel
theorem dX9_listsAll_45 : decode cX9_listsAll 45 = .ok (.iload_n 1, 1) := by decide +kernel
theorem dX9_listsAll_46 : decode cX9_listsAll 46 = .ok (.aload_n 0, 1) := by decide +kernel
theorem dX9_listsAll_47 : decode cX9_listsAll 47 = .ok (.iload_n 1, 1) := by decide +kernel
theorem dX9_listsAll_48 : decode cX9_listsAll 48 = .ok (.iconst 2, 1) := by decide +kernel
theorem dX9_listsAll_49 : decode cX9_listsAll 49 = .ok (.invokevirtual 45, 3) := by decide +kernel
theorem dX9_listsAll_52 : decode cX9_listsAll 52 = .ok (.iastore, 1) := by decide +kernel
theorem dX9_listsAll_53 : decode cX9_listsAll 53 = .ok (.aload_n 0, 1) := by decide +kernel
theorem dX9_listsAll_54 : decode cX9_listsAll 54 = .ok (.dup, 1) := by decide +kernel
theorem dX9_listsAll_55 : decode cX9_listsAll 55 = .ok (.getfield 56, 3) := by decide +kernel
theorem dX9_listsAll_58 : decode cX9_listsAll 58 = .ok (.iconst 1, 1) := by decide +kernel
theorem dX9_listsAll_59 : decode cX9_listsAll 59 = .ok (.iadd, 1) := by decide +kernel
theorem dX9_listsAll_60 : decode cX9_listsAll 60 = .ok (.putfield 56, 3) := by decide +kernel
theorem dX9_listsAll_63 : decode cX9_listsAll 63 = .ok (.iinc 1 1, 3) := by decide +kernel
theorem dX9_listsAll_66 : decode cX9_listsAll 66 = .ok (.goto (-59), 3) := by decide +kernel
theorem dX9_listsAll_69 : decode cX9_listsAll 69 = .ok (.return_, 1) := by decide +kernel
theorem dX9_rightFor_0 : decode cX9_rightFor 0 = .ok (.bipush (-9), 2) := by decide +kernel
theorem dX9_rightFor_2 : decode cX9_rightFor 2 = .ok (.istore 4, 2) := by decide +kernel
theorem dX9_rightFor_4 : decode cX9_rightFor 4 = .ok (.iconst 0, 1) := by decide +kernel
theorem dX9_rightFor_5 : decode cX9_rightFor 5 = .ok (.istore 5, 2) := by decide +kernel
theorem dX9_rightFor_7 : decode cX9_rightFor 7 = .ok (.iload 5, 2) := by decide +kernel
theorem dX9_rightFor_9 : decode cX9_rightFor 9 = .ok (.aload_n 0, 1) := by decide +kernel
theorem dX9_rightFor_10 : decode cX9_rightFor 10 = .ok (.getfield 7, 3) := by decide +kernel
theorem dX9_rightFor_13 : decode cX9_rightFor 13 = .ok (.iconst 2, 1) := by decide +kernel
theorem dX9_rightFor_14 : decode cX9_rightFor 14 = .ok (.iaload, 1) := by decide +kernel
theorem dX9_rightFor_15 : decode cX9_rightFor 15 = .ok (.if_icmp .ge 117, 3) := by decide +kernel
theorem dX9_rightFor_18 : decode cX9_rightFor 18 = .ok (.bipush 110, 2) := by decide +kernel
theorem dX9_rightFor_20 : decode cX9_rightFor 20 = .ok (.iconst 4, 1) := by decide +kernel
theorem dX9_rightFor_21 : decode cX9_rightFor 21 = .ok (.iload 5, 2) := by decide +kernel
theorem dX9_rightFor_23 : decode cX9_rightFor 23 = .ok (.imul, 1) := by decide +kernel
theorem dX9_rightFor_24 : decode cX9_rightFor 24 = .ok (.iadd, 1) := by decide +kernel
theorem dX9_rightFor_25 : decode cX9_rightFor 25 = .ok (.istore 6, 2) := by decide +kernel
theorem dX9_rightFor_27 : decode cX9_rightFor 27 = .ok (.aload_n 0, 1) := by decide +kernel
theorem dX9_rightFor_28 : decode cX9_rightFor 28 = .ok (.getfield 7, 3) := by decide +kernel
theorem dX9_rightFor_31 : decode cX9_rightFor 31 = .ok (.iload 6, 2) := by decide +kernel
theorem dX9_rightFor_33 : decode cX9_rightFor 33 = .ok (.iaload, 1) := by decide +kernel
theorem dX9_rightFor_34 : decode cX9_rightFor 34 = .ok (.iload_n 1, 1) := by decide +kernel
theorem dX9_rightFor_35 : decode cX9_rightFor 35 = .ok (.if_icmp .ne 43, 3) := by decide +kernel
theorem dX9_rightFor_38 : decode cX9_rightFor 38 = .ok (.iload_n 2, 1) := by decide +kernel
theorem dX9_rightFor_39 : decode cX9_rightFor 39 = .ok (.aload_n 0, 1) := by decide +kernel
theorem dX9_rightFor_40 : decode cX9_rightFor 40 = .ok (.getfield 7, 3) := by decide +kernel
theorem dX9_rightFor_43 : decode cX9_rightFor 43 = .ok (.iload 6, 2) := by decide +kernel
theorem dX9_rightFor_45 : decode cX9_rightFor 45 = .ok (.iconst 1, 1) := by decide +kernel
theorem dX9_rightFor_46 : decode cX9_rightFor 46 = .ok (.iadd, 1) := by decide +kernel
theorem dX9_rightFor_47 : decode cX9_rightFor 47 = .ok (.iaload, 1) := by decide +kernel
theorem dX9_rightFor_48 : decode cX9_rightFor 48 = .ok (.if_icmp .lt 30, 3) := by decide +kernel
theorem dX9_rightFor_51 : decode cX9_rightFor 51 = .ok (.iload_n 3, 1) := by decide +kernel
theorem dX9_rightFor_52 : decode cX9_rightFor 52 = .ok (.aload_n 0, 1) := by decide +kernel
theorem dX9_rightFor_53 : decode cX9_rightFor 53 = .ok (.getfield 7, 3) := by decide +kernel
theorem dX9_rightFor_56 : decode cX9_rightFor 56 = .ok (.iload 6, 2) := by decide +kernel
theorem dX9_rightFor_58 : decode cX9_rightFor 58 = .ok (.iconst 2, 1) := by decide +kernel
theorem dX9_rightFor_59 : decode cX9_rightFor 59 = .ok (.iadd, 1) := by decide +kernel
theorem dX9_rightFor_60 : decode cX9_rightFor 60 = .ok (.iaload, 1) := by decide +kernel
theorem dX9_rightFor_61 : decode cX9_rightFor 61 = .ok (.if_icmp .gt 17, 3) := by decide +kernel
theorem dX9_rightFor_64 : decode cX9_rightFor 64 = .ok (.aload_n 0, 1) := by decide +kernel
theorem dX9_rightFor_65 : decode cX9_rightFor 65 = .ok (.getfield 28, 3) := by decide +kernel
theorem dX9_rightFor_68 : decode cX9_rightFor 68 = .ok (.iload 5, 2) := by decide +kernel
theorem dX9_rightFor_70 : decode cX9_rightFor 70 = .ok (.iaload, 1) := by decide +kernel
theorem dX9_rightFor_71 : decode cX9_rightFor 71 = .ok (.ifCond .le 7, 3) := by decide +kernel
theorem dX9_rightFor_74 : decode cX9_rightFor 74 = .ok (.iconst 1, 1) := by decide +kernel
theorem dX9_rightFor_75 : decode cX9_rightFor 75 = .ok (.goto 4, 3) := by decide +kernel
theorem dX9_rightFor_78 : decode cX9_rightFor 78 = .ok (.iconst 0, 1) := by decide +kernel
theorem dX9_rightFor_79 : decode cX9_rightFor 79 = .ok (.istore 7, 2) := by decide +kernel
theorem dX9_rightFor_81 : decode cX9_rightFor 81 = .ok (.iload 7, 2) := by decide +kernel
theorem dX9_rightFor_83 : decode cX9_rightFor 83 = .ok (.ifCond .eq 39, 3) := by decide +kernel
theorem dX9_rightFor_86 : decode cX9_rightFor 86 = .ok (.iload 4, 2) := by decide +kernel
theorem dX9_rightFor_88 : decode cX9_rightFor 88 = .ok (.ifCond .lt 29, 3) := by decide +kernel
theorem dX9_rightFor_91 : decode cX9_rightFor 91 = .ok (.aload_n 0, 1) := by decide +kernel
theorem dX9_rightFor_92 : decode cX9_rightFor 92 = .ok (.getfield 7, 3) := by decide +kernel
theorem dX9_rightFor_95 : decode cX9_rightFor 95 = .ok (.iload 6, 2) := by decide +kernel
theorem dX9_rightFor_97 : decode cX9_rightFor 97 = .ok (.iconst 2, 1) := by decide +kernel
theorem dX9_rightFor_98 : decode cX9_rightFor 98 = .ok (.iadd, 1) := by decide +kernel
theorem dX9_rightFor_99 : decode cX9_rightFor 99 = .ok (.iaload, 1) := by decide +kernel
theorem dX9_rightFor_100 : decode cX9_rightFor 100 = .ok (.aload_n 0, 1) := by decide +kernel
theorem dX9_rightFor_101 : decode cX9_rightFor 101 = .ok (.getfield 7, 3) := by decide +kernel
theorem dX9_rightFor_104 : decode cX9_rightFor 104 = .ok (.bipush 110, 2) := by decide +kernel
theorem dX9_rightFor_106 : decode cX9_rightFor 106 = .ok (.iconst 4, 1) := by decide +kernel
theorem dX9_rightFor_107 : decode cX9_rightFor 107 = .ok (.iload 4, 2) := by decide +kernel
theorem dX9_rightFor_109 : decode cX9_rightFor 109 = .ok (.imul, 1) := by decide +kernel
theorem dX9_rightFor_110 : decode cX9_rightFor 110 = .ok (.iadd, 1) := by decide +kernel
theorem dX9_rightFor_111 : decode cX9_rightFor 111 = .ok (.iconst 2, 1) := by decide +kernel
theorem dX9_rightFor_112 : decode cX9_rightFor 112 = .ok (.iadd, 1) := by decide +kernel
theorem dX9_rightFor_113 : decode cX9_rightFor 113 = .ok (.iaload, 1) := by decide +kernel
theorem dX9_rightFor_114 : decode cX9_rightFor 114 = .ok (.if_icmp .ge 8, 3) := by decide +kernel
theorem dX9_rightFor_117 : decode cX9_rightFor 117 = .ok (.iload 5, 2) := by decide +kernel
theorem dX9_rightFor_119 : decode cX9_rightFor 119 = .ok (.goto 5, 3) := by decide +kernel
theorem dX9_rightFor_122 : decode cX9_rightFor 122 = .ok (.iload 4, 2) := by decide +kernel
theorem dX9_rightFor_124 : decode cX9_rightFor 124 = .ok (.istore 4, 2) := by decide +kernel
theorem dX9_rightFor_126 : decode cX9_rightFor 126 = .ok (.iinc 5 1, 3) := by decide +kernel
theorem dX9_rightFor_129 : decode cX9_rightFor 129 = .ok (.goto (-122), 3) := by decide +kernel
theorem dX9_rightFor_132 : decode cX9_rightFor 132 = .ok (.iload 4, 2) := by decide +kernel
theorem dX9_rightFor_134 : decode cX9_rightFor 134 = .ok (.ireturn, 1) := by decide +kernel
theorem dX9_gives_0 : decode cX9_gives 0 = .ok (.iconst 0, 1) := by decide +kernel
theorem dX9_gives_1 : decode cX9_gives 1 = .ok (.istore_n 1, 1) := by decide +kernel
theorem dX9_gives_2 : decode cX9_gives 2 = .ok (.iload_n 1, 1) := by decide +kernel
theorem dX9_gives_3 : decode cX9_gives 3 = .ok (.aload_n 0, 1) := by decide +kernel
theorem dX9_gives_4 : decode cX9_gives 4 = .ok (.getfield 7, 3) := by decide +kernel
theorem dX9_gives_7 : decode cX9_gives 7 = .ok (.iconst 2, 1) := by decide +kernel
theorem dX9_gives_8 : decode cX9_gives 8 = .ok (.iaload, 1) := by decide +kernel
theorem dX9_gives_9 : decode cX9_gives 9 = .ok (.if_icmp .ge 28, 3) := by decide +kernel
theorem dX9_gives_12 : decode cX9_gives 12 = .ok (.aload_n 0, 1) := by decide +kernel
theorem dX9_gives_13 : decode cX9_gives 13 = .ok (.getfield 28, 3) := by decide +kernel
theorem dX9_gives_16 : decode cX9_gives 16 = .ok (.iload_n 1, 1) := by decide +kernel
theorem dX9_gives_17 : decode cX9_gives 17 = .ok (.aload_n 0, 1) := by decide +kernel
theorem dX9_gives_18 : decode cX9_gives 18 = .ok (.getfield 7, 3) := by decide +kernel
theorem dX9_gives_21 : decode cX9_gives 21 = .ok (.bipush 110, 2) := by decide +kernel
theorem dX9_gives_23 : decode cX9_gives 23 = .ok (.iconst 4, 1) := by decide +kernel
theorem dX9_gives_24 : decode cX9_gives 24 = .ok (.iload_n 1, 1) := by decide +kernel
theorem dX9_gives_25 : decode cX9_gives 25 = .ok (.imul, 1) := by decide +kernel
theorem dX9_gives_26 : decode cX9_gives 26 = .ok (.iadd, 1) := by decide +kernel
theorem dX9_gives_27 : decode cX9_gives 27 = .ok (.iconst 3, 1) := by decide +kernel
theorem dX9_gives_28 : decode cX9_gives 28 = .ok (.iadd, 1) := by decide +kernel
theorem dX9_gives_29 : decode cX9_gives 29 = .ok (.iaload, 1) := by decide +kernel
theorem dX9_gives_30 : decode cX9_gives 30 = .ok (.iastore, 1) := by decide +kernel
theorem dX9_gives_31 : decode cX9_gives 31 = .ok (.iinc 1 1, 3) := by decide +kernel
theorem dX9_gives_34 : decode cX9_gives 34 = .ok (.goto (-32), 3) := by decide +kernel
theorem dX9_gives_37 : decode cX9_gives 37 = .ok (.iconst 0, 1) := by decide +kernel
theorem dX9_gives_38 : decode cX9_gives 38 = .ok (.istore_n 1, 1) := by decide +kernel
theorem dX9_gives_39 : decode cX9_gives 39 = .ok (.iload_n 1, 1) := by decide +kernel
theorem dX9_gives_40 : decode cX9_gives 40 = .ok (.aload_n 0, 1) := by decide +kernel
theorem dX9_gives_41 : decode cX9_gives 41 = .ok (.getfield 56, 3) := by decide +kernel
theorem dX9_gives_44 : decode cX9_gives 44 = .ok (.if_icmp .ge 87, 3) := by decide +kernel
theorem dX9_gives_47 : decode cX9_gives 47 = .ok (.aload_n 0, 1) := by decide +kernel
theorem dX9_gives_48 : decode cX9_gives 48 = .ok (.getfield 25, 3) := by decide +kernel
theorem dX9_gives_51 : decode cX9_gives 51 = .ok (.iload_n 1, 1) := by decide +kernel
theorem dX9_gives_52 : decode cX9_gives 52 = .ok (.aload_n 0, 1) := by decide +kernel
theorem dX9_gives_53 : decode cX9_gives 53 = .ok (.aload_n 0, 1) := by decide +kernel
theorem dX9_gives_54 : decode cX9_gives 54 = .ok (.getfield 16, 3) := by decide +kernel
theorem dX9_gives_57 : decode cX9_gives 57 = .ok (.iload_n 1, 1) := by decide +kernel
theorem dX9_gives_58 : decode cX9_gives 58 = .ok (.iaload, 1) := by decide +kernel
theorem dX9_gives_59 : decode cX9_gives 59 = .ok (.invokevirtual 59, 3) := by decide +kernel
theorem dX9_gives_62 : decode cX9_gives 62 = .ok (.iconst 2, 1) := by decide +kernel
theorem dX9_gives_63 : decode cX9_gives 63 = .ok (.if_icmp .ne 8, 3) := by decide +kernel
theorem dX9_gives_66 : decode cX9_gives 66 = .ok (.bipush (-9), 2) := by decide +kernel
theorem dX9_gives_68 : decode cX9_gives 68 = .ok (.goto 32, 3) := by decide +kernel
theorem dX9_gives_71 : decode cX9_gives 71 = .ok (.aload_n 0, 1) := by decide +kernel
theorem dX9_gives_72 : decode cX9_gives 72 = .ok (.aload_n 0, 1) := by decide +kernel
theorem dX9_gives_73 : decode cX9_gives 73 = .ok (.getfield 16, 3) := by decide +kernel
theorem dX9_gives_76 : decode cX9_gives 76 = .ok (.iload_n 1, 1) := by decide +kernel
theorem dX9_gives_77 : decode cX9_gives 77 = .ok (.iaload, 1) := by decide +kernel
theorem dX9_gives_78 : decode cX9_gives 78 = .ok (.aload_n 0, 1) := by decide +kernel
theorem dX9_gives_79 : decode cX9_gives 79 = .ok (.getfield 19, 3) := by decide +kernel
theorem dX9_gives_82 : decode cX9_gives 82 = .ok (.iload_n 1, 1) := by decide +kernel
theorem dX9_gives_83 : decode cX9_gives 83 = .ok (.iaload, 1) := by decide +kernel
theorem dX9_gives_84 : decode cX9_gives 84 = .ok (.aload_n 0, 1) := by decide +kernel
theorem dX9_gives_85 : decode cX9_gives 85 = .ok (.getfield 19, 3) := by decide +kernel
theorem dX9_gives_88 : decode cX9_gives 88 = .ok (.iload_n 1, 1) := by decide +kernel
theorem dX9_gives_89 : decode cX9_gives 89 = .ok (.iaload, 1) := by decide +kernel
theorem dX9_gives_90 : decode cX9_gives 90 = .ok (.aload_n 0, 1) := by decide +kernel
theorem dX9_gives_91 : decode cX9_gives 91 = .ok (.getfield 22, 3) := by decide +kernel
theorem dX9_gives_94 : decode cX9_gives 94 = .ok (.iload_n 1, 1) := by decide +kernel
theorem dX9_gives_95 : decode cX9_gives 95 = .ok (.iaload, 1) := by decide +kernel
theorem dX9_gives_96 : decode cX9_gives 96 = .ok (.iadd, 1) := by decide +kernel
theorem dX9_gives_97 : decode cX9_gives 97 = .ok (.invokevirtual 63, 3) := by decide +kernel
theorem dX9_gives_100 : decode cX9_gives 100 = .ok (.iastore, 1) := by decide +kernel
theorem dX9_gives_101 : decode cX9_gives 101 = .ok (.aload_n 0, 1) := by decide +kernel
theorem dX9_gives_102 : decode cX9_gives 102 = .ok (.getfield 25, 3) := by decide +kernel
theorem dX9_gives_105 : decode cX9_gives 105 = .ok (.iload_n 1, 1) := by decide +kernel
theorem dX9_gives_106 : decode cX9_gives 106 = .ok (.iaload, 1) := by decide +kernel
theorem dX9_gives_107 : decode cX9_gives 107 = .ok (.ifCond .lt 18, 3) := by decide +kernel
theorem dX9_gives_110 : decode cX9_gives 110 = .ok (.aload_n 0, 1) := by decide +kernel
theorem dX9_gives_111 : decode cX9_gives 111 = .ok (.getfield 28, 3) := by decide +kernel
theorem dX9_gives_114 : decode cX9_gives 114 = .ok (.aload_n 0, 1) := by decide +kernel
theorem dX9_gives_115 : decode cX9_gives 115 = .ok (.getfield 25, 3) := by decide +kernel
theorem dX9_gives_118 : decode cX9_gives 118 = .ok (.iload_n 1, 1) := by decide +kernel
theorem dX9_gives_119 : decode cX9_gives 119 = .ok (.iaload, 1) := by decide +kernel
theorem dX9_gives_120 : decode cX9_gives 120 = .ok (.dup2, 1) := by decide +kernel
theorem dX9_gives_121 : decode cX9_gives 121 = .ok (.iaload, 1) := by decide +kernel
theorem dX9_gives_122 : decode cX9_gives 122 = .ok (.iconst 1, 1) := by decide +kernel
theorem dX9_gives_123 : decode cX9_gives 123 = .ok (.isub, 1) := by decide +kernel
theorem dX9_gives_124 : decode cX9_gives 124 = .ok (.iastore, 1) := by decide +kernel
theorem dX9_gives_125 : decode cX9_gives 125 = .ok (.iinc 1 1, 3) := by decide +kernel
theorem dX9_gives_128 : decode cX9_gives 128 = .ok (.goto (-89), 3) := by decide +kernel
theorem dX9_gives_131 : decode cX9_gives 131 = .ok (.return_, 1) := by decide +kernel
theorem dX9_isBroken_0 : decode cX9_isBroken 0 = .ok (.aload_n 0, 1) := by decide +kernel
theorem dX9_isBroken_1 : decode cX9_isBroken 1 = .ok (.invokevirtual 67, 3) := by decide +kernel
theorem dX9_isBroken_4 : decode cX9_isBroken 4 = .ok (.iconst 0, 1) := by decide +kernel
theorem dX9_isBroken_5 : decode cX9_isBroken 5 = .ok (.istore_n 2, 1) := by decide +kernel
theorem dX9_isBroken_6 : decode cX9_isBroken 6 = .ok (.iconst 0, 1) := by decide +kernel
theorem dX9_isBroken_7 : decode cX9_isBroken 7 = .ok (.istore_n 3, 1) := by decide +kernel
theorem dX9_isBroken_8 : decode cX9_isBroken 8 = .ok (.iload_n 3, 1) := by decide +kernel
theorem dX9_isBroken_9 : decode cX9_isBroken 9 = .ok (.aload_n 0, 1) := by decide +kernel
theorem dX9_isBroken_10 : decode cX9_isBroken 10 = .ok (.getfield 56, 3) := by decide +kernel
theorem dX9_isBroken_13 : decode cX9_isBroken 13 = .ok (.if_icmp .ge 47, 3) := by decide +kernel
theorem dX9_isBroken_16 : decode cX9_isBroken 16 = .ok (.iload_n 2, 1) := by decide +kernel
theorem dX9_isBroken_17 : decode cX9_isBroken 17 = .ok (.ifCond .ne 31, 3) := by decide +kernel
theorem dX9_isBroken_20 : decode cX9_isBroken 20 = .ok (.aload_n 0, 1) := by decide +kernel
theorem dX9_isBroken_21 : decode cX9_isBroken 21 = .ok (.getfield 16, 3) := by decide +kernel
theorem dX9_isBroken_24 : decode cX9_isBroken 24 = .ok (.iload_n 3, 1) := by decide +kernel
theorem dX9_isBroken_25 : decode cX9_isBroken 25 = .ok (.iaload, 1) := by decide +kernel
theorem dX9_isBroken_26 : decode cX9_isBroken 26 = .ok (.iload_n 1, 1) := by decide +kernel
theorem dX9_isBroken_27 : decode cX9_isBroken 27 = .ok (.if_icmp .ne 25, 3) := by decide +kernel
theorem dX9_isBroken_30 : decode cX9_isBroken 30 = .ok (.aload_n 0, 1) := by decide +kernel
theorem dX9_isBroken_31 : decode cX9_isBroken 31 = .ok (.getfield 25, 3) := by decide +kernel
theorem dX9_isBroken_34 : decode cX9_isBroken 34 = .ok (.iload_n 3, 1) := by decide +kernel
theorem dX9_isBroken_35 : decode cX9_isBroken 35 = .ok (.iaload, 1) := by decide +kernel
theorem dX9_isBroken_36 : decode cX9_isBroken 36 = .ok (.ifCond .ge 16, 3) := by decide +kernel
theorem dX9_isBroken_39 : decode cX9_isBroken 39 = .ok (.aload_n 0, 1) := by decide +kernel
theorem dX9_isBroken_40 : decode cX9_isBroken 40 = .ok (.iload_n 1, 1) := by decide +kernel
theorem dX9_isBroken_41 : decode cX9_isBroken 41 = .ok (.invokevirtual 59, 3) := by decide +kernel
theorem dX9_isBroken_44 : decode cX9_isBroken 44 = .ok (.iconst 2, 1) := by decide +kernel
theorem dX9_isBroken_45 : decode cX9_isBroken 45 = .ok (.if_icmp .eq 7, 3) := by decide +kernel
theorem dX9_isBroken_48 : decode cX9_isBroken 48 = .ok (.iconst 1, 1) := by decide +kernel
theorem dX9_isBroken_49 : decode cX9_isBroken 49 = .ok (.goto 4, 3) := by decide +kernel
theorem dX9_isBroken_52 : decode cX9_isBroken 52 = .ok (.iconst 0, 1) := by decide +kernel
theorem dX9_isBroken_53 : decode cX9_isBroken 53 = .ok (.istore_n 2, 1) := by decide +kernel
theorem dX9_isBroken_54 : decode cX9_isBroken 54 = .ok (.iinc 3 1, 3) := by decide +kernel
theorem dX9_isBroken_57 : decode cX9_isBroken 57 = .ok (.goto (-49), 3) := by decide +kernel
theorem dX9_isBroken_60 : decode cX9_isBroken 60 = .ok (.iload_n 2, 1) := by decide +kernel
theorem dX9_isBroken_61 : decode cX9_isBroken 61 = .ok (.ireturn, 1) := by decide +kernel
theorem dX9_isDark_0 : decode cX9_isDark 0 = .ok (.iconst 0, 1) := by decide +kernel
theorem dX9_isDark_1 : decode cX9_isDark 1 = .ok (.istore 4, 2) := by decide +kernel
theorem dX9_isDark_3 : decode cX9_isDark 3 = .ok (.iload 4, 2) := by decide +kernel
theorem dX9_isDark_5 : decode cX9_isDark 5 = .ok (.aload_n 0, 1) := by decide +kernel
theorem dX9_isDark_6 : decode cX9_isDark 6 = .ok (.getfield 7, 3) := by decide +kernel
theorem dX9_isDark_9 : decode cX9_isDark 9 = .ok (.iconst 1, 1) := by decide +kernel
theorem dX9_isDark_10 : decode cX9_isDark 10 = .ok (.iaload, 1) := by decide +kernel
theorem dX9_isDark_11 : decode cX9_isDark 11 = .ok (.if_icmp .ge 90, 3) := by decide +kernel
theorem dX9_isDark_14 : decode cX9_isDark 14 = .ok (.bipush 80, 2) := by decide +kernel
theorem dX9_isDark_16 : decode cX9_isDark 16 = .ok (.iconst 3, 1) := by decide +kernel
theorem dX9_isDark_17 : decode cX9_isDark 17 = .ok (.iload 4, 2) := by decide +kernel
theorem dX9_isDark_19 : decode cX9_isDark 19 = .ok (.imul, 1) := by decide +kernel
theorem dX9_isDark_20 : decode cX9_isDark 20 = .ok (.iadd, 1) := by decide +kernel
theorem dX9_isDark_21 : decode cX9_isDark 21 = .ok (.istore 5, 2) := by decide +kernel
theorem dX9_isDark_23 : decode cX9_isDark 23 = .ok (.iload_n 2, 1) := by decide +kernel
theorem dX9_isDark_24 : decode cX9_isDark 24 = .ok (.istore 6, 2) := by decide +kernel
theorem dX9_isDark_26 : decode cX9_isDark 26 = .ok (.iload 6, 2) := by decide +kernel
theorem dX9_isDark_28 : decode cX9_isDark 28 = .ok (.iload_n 3, 1) := by decide +kernel
theorem dX9_isDark_29 : decode cX9_isDark 29 = .ok (.if_icmp .ge 66, 3) := by decide +kernel
theorem dX9_isDark_32 : decode cX9_isDark 32 = .ok (.aload_n 0, 1) := by decide +kernel
theorem dX9_isDark_33 : decode cX9_isDark 33 = .ok (.getfield 7, 3) := by decide +kernel
theorem dX9_isDark_36 : decode cX9_isDark 36 = .ok (.bipush 10, 2) := by decide +kernel
theorem dX9_isDark_38 : decode cX9_isDark 38 = .ok (.iconst 4, 1) := by decide +kernel
theorem dX9_isDark_39 : decode cX9_isDark 39 = .ok (.iload_n 1, 1) := by decide +kernel
theorem dX9_isDark_40 : decode cX9_isDark 40 = .ok (.imul, 1) := by decide +kernel
theorem dX9_isDark_41 : decode cX9_isDark 41 = .ok (.iadd, 1) := by decide +kernel
theorem dX9_isDark_42 : decode cX9_isDark 42 = .ok (.iconst 2, 1) := by decide +kernel
theorem dX9_isDark_43 : decode cX9_isDark 43 = .ok (.iadd, 1) := by decide +kernel
theorem dX9_isDark_44 : decode cX9_isDark 44 = .ok (.iaload, 1) := by decide +kernel
theorem dX9_isDark_45 : decode cX9_isDark 45 = .ok (.aload_n 0, 1) := by decide +kernel
theorem dX9_isDark_46 : decode cX9_isDark 46 = .ok (.getfield 7, 3) := by decide +kernel
theorem dX9_isDark_49 : decode cX9_isDark 49 = .ok (.iload 5, 2) := by decide +kernel
theorem dX9_isDark_51 : decode cX9_isDark 51 = .ok (.iconst 2, 1) := by decide +kernel
theorem dX9_isDark_52 : decode cX9_isDark 52 = .ok (.iadd, 1) := by decide +kernel
theorem dX9_isDark_53 : decode cX9_isDark 53 = .ok (.iaload, 1) := by decide +kernel
theorem dX9_isDark_54 : decode cX9_isDark 54 = .ok (.if_icmp .lt 41, 3) := by decide +kernel
theorem dX9_isDark_57 : decode cX9_isDark 57 = .ok (.iload 6, 2) := by decide +kernel
theorem dX9_isDark_59 : decode cX9_isDark 59 = .ok (.sipush 1440, 3) := by decide +kernel
theorem dX9_isDark_62 : decode cX9_isDark 62 = .ok (.irem, 1) := by decide +kernel
theorem dX9_isDark_63 : decode cX9_isDark 63 = .ok (.aload_n 0, 1) := by decide +kernel
theorem dX9_isDark_64 : decode cX9_isDark 64 = .ok (.getfield 7, 3) := by decide +kernel
theorem dX9_isDark_67 : decode cX9_isDark 67 = .ok (.iload 5, 2) := by decide +kernel
theorem dX9_isDark_69 : decode cX9_isDark 69 = .ok (.iaload, 1) := by decide +kernel
theorem dX9_isDark_70 : decode cX9_isDark 70 = .ok (.aload_n 0, 1) := by decide +kernel
theorem dX9_isDark_71 : decode cX9_isDark 71 = .ok (.getfield 7, 3) := by decide +kernel
theorem dX9_isDark_74 : decode cX9_isDark 74 = .ok (.iload 5, 2) := by decide +kernel
theorem dX9_isDark_76 : decode cX9_isDark 76 = .ok (.iconst 1, 1) := by decide +kernel
theorem dX9_isDark_77 : decode cX9_isDark 77 = .ok (.iadd, 1) := by decide +kernel
theorem dX9_isDark_78 : decode cX9_isDark 78 = .ok (.iaload, 1) := by decide +kernel
theorem dX9_isDark_79 : decode cX9_isDark 79 = .ok (.iconst 1, 1) := by decide +kernel
theorem dX9_isDark_80 : decode cX9_isDark 80 = .ok (.isub, 1) := by decide +kernel
theorem dX9_isDark_81 : decode cX9_isDark 81 = .ok (.invokestatic 41, 3) := by decide +kernel
theorem dX9_isDark_84 : decode cX9_isDark 84 = .ok (.ifCond .eq 5, 3) := by decide +kernel
theorem dX9_isDark_87 : decode cX9_isDark 87 = .ok (.iconst 1, 1) := by decide +kernel
theorem dX9_isDark_88 : decode cX9_isDark 88 = .ok (.ireturn, 1) := by decide +kernel
theorem dX9_isDark_89 : decode cX9_isDark 89 = .ok (.iinc 6 1, 3) := by decide +kernel
theorem dX9_isDark_92 : decode cX9_isDark 92 = .ok (.goto (-66), 3) := by decide +kernel
theorem dX9_isDark_95 : decode cX9_isDark 95 = .ok (.iinc 4 1, 3) := by decide +kernel
theorem dX9_isDark_98 : decode cX9_isDark 98 = .ok (.goto (-95), 3) := by decide +kernel
theorem dX9_isDark_101 : decode cX9_isDark 101 = .ok (.iconst 0, 1) := by decide +kernel
theorem dX9_isDark_102 : decode cX9_isDark 102 = .ok (.ireturn, 1) := by decide +kernel
theorem dX9_isTaken_0 : decode cX9_isTaken 0 = .ok (.iconst 0, 1) := by decide +kernel
theorem dX9_isTaken_1 : decode cX9_isTaken 1 = .ok (.istore_n 3, 1) := by decide +kernel
theorem dX9_isTaken_2 : decode cX9_isTaken 2 = .ok (.iconst 0, 1) := by decide +kernel
theorem dX9_isTaken_3 : decode cX9_isTaken 3 = .ok (.istore 4, 2) := by decide +kernel
theorem dX9_isTaken_5 : decode cX9_isTaken 5 = .ok (.iload 4, 2) := by decide +kernel
theorem dX9_isTaken_7 : decode cX9_isTaken 7 = .ok (.aload_n 0, 1) := by decide +kernel
theorem dX9_isTaken_8 : decode cX9_isTaken 8 = .ok (.getfield 7, 3) := by decide +kernel
theorem dX9_isTaken_11 : decode cX9_isTaken 11 = .ok (.iconst 3, 1) := by decide +kernel
theorem dX9_isTaken_12 : decode cX9_isTaken 12 = .ok (.iaload, 1) := by decide +kernel
theorem dX9_isTaken_13 : decode cX9_isTaken 13 = .ok (.if_icmp .ge 40, 3) := by decide +kernel
theorem dX9_isTaken_16 : decode cX9_isTaken 16 = .ok (.iload_n 3, 1) := by decide +kernel
theorem dX9_isTaken_17 : decode cX9_isTaken 17 = .ok (.ifCond .ne 24, 3) := by decide +kernel
theorem dX9_isTaken_20 : decode cX9_isTaken 20 = .ok (.aload_n 0, 1) := by decide +kernel
theorem dX9_isTaken_21 : decode cX9_isTaken 21 = .ok (.iload 4, 2) := by decide +kernel
theorem dX9_isTaken_23 : decode cX9_isTaken 23 = .ok (.iconst 1, 1) := by decide +kernel
theorem dX9_isTaken_24 : decode cX9_isTaken 24 = .ok (.invokevirtual 45, 3) := by decide +kernel
theorem dX9_isTaken_27 : decode cX9_isTaken 27 = .ok (.iload_n 2, 1) := by decide +kernel
theorem dX9_isTaken_28 : decode cX9_isTaken 28 = .ok (.if_icmp .ge 17, 3) := by decide +kernel
theorem dX9_isTaken_31 : decode cX9_isTaken 31 = .ok (.iload_n 1, 1) := by decide +kernel
theorem dX9_isTaken_32 : decode cX9_isTaken 32 = .ok (.aload_n 0, 1) := by decide +kernel
theorem dX9_isTaken_33 : decode cX9_isTaken 33 = .ok (.iload 4, 2) := by decide +kernel
theorem dX9_isTaken_35 : decode cX9_isTaken 35 = .ok (.invokevirtual 70, 3) := by decide +kernel
theorem dX9_isTaken_38 : decode cX9_isTaken 38 = .ok (.if_icmp .ge 7, 3) := by decide +kernel
theorem dX9_isTaken_41 : decode cX9_isTaken 41 = .ok (.iconst 1, 1) := by decide +kernel
theorem dX9_isTaken_42 : decode cX9_isTaken 42 = .ok (.goto 4, 3) := by decide +kernel
theorem dX9_isTaken_45 : decode cX9_isTaken 45 = .ok (.iconst 0, 1) := by decide +kernel
theorem dX9_isTaken_46 : decode cX9_isTaken 46 = .ok (.istore_n 3, 1) := by decide +kernel
theorem dX9_isTaken_47 : decode cX9_isTaken 47 = .ok (.iinc 4 1, 3) := by decide +kernel
theorem dX9_isTaken_50 : decode cX9_isTaken 50 = .ok (.goto (-45), 3) := by decide +kernel
theorem dX9_isTaken_53 : decode cX9_isTaken 53 = .ok (.iload_n 3, 1) := by decide +kernel
theorem dX9_isTaken_54 : decode cX9_isTaken 54 = .ok (.ireturn, 1) := by decide +kernel
theorem dX9_fault_0 : decode cX9_fault 0 = .ok (.iload_n 2, 1) := by decide +kernel
theorem dX9_fault_1 : decode cX9_fault 1 = .ok (.aload_n 0, 1) := by decide +kernel
theorem dX9_fault_2 : decode cX9_fault 2 = .ok (.iload_n 1, 1) := by decide +kernel
theorem dX9_fault_3 : decode cX9_fault 3 = .ok (.invokevirtual 73, 3) := by decide +kernel
theorem dX9_fault_6 : decode cX9_fault 6 = .ok (.iadd, 1) := by decide +kernel
theorem dX9_fault_7 : decode cX9_fault 7 = .ok (.istore_n 3, 1) := by decide +kernel
theorem dX9_fault_8 : decode cX9_fault 8 = .ok (.aload_n 0, 1) := by decide +kernel
theorem dX9_fault_9 : decode cX9_fault 9 = .ok (.getfield 7, 3) := by decide +kernel
theorem dX9_fault_12 : decode cX9_fault 12 = .ok (.iconst 3, 1) := by decide +kernel
theorem dX9_fault_13 : decode cX9_fault 13 = .ok (.iaload, 1) := by decide +kernel
theorem dX9_fault_14 : decode cX9_fault 14 = .ok (.bipush 60, 2) := by decide +kernel
theorem dX9_fault_16 : decode cX9_fault 16 = .ok (.if_icmp .ne 6, 3) := by decide +kernel
theorem dX9_fault_19 : decode cX9_fault 19 = .ok (.bipush (-3), 2) := by decide +kernel
theorem dX9_fault_21 : decode cX9_fault 21 = .ok (.ireturn, 1) := by decide +kernel
theorem dX9_fault_22 : decode cX9_fault 22 = .ok (.iload_n 3, 1) := by decide +kernel
theorem dX9_fault_23 : decode cX9_fault 23 = .ok (.sipush 10080, 3) := by decide +kernel
theorem dX9_fault_26 : decode cX9_fault 26 = .ok (.if_icmp .gt 12, 3) := by decide +kernel
theorem dX9_fault_29 : decode cX9_fault 29 = .ok (.aload_n 0, 1) := by decide +kernel
theorem dX9_fault_30 : decode cX9_fault 30 = .ok (.iload_n 2, 1) := by decide +kernel
theorem dX9_fault_31 : decode cX9_fault 31 = .ok (.iload_n 3, 1) := by decide +kernel
theorem dX9_fault_32 : decode cX9_fault 32 = .ok (.invokevirtual 76, 3) := by decide +kernel
theorem dX9_fault_35 : decode cX9_fault 35 = .ok (.ifCond .eq 6, 3) := by decide +kernel
theorem dX9_fault_38 : decode cX9_fault 38 = .ok (.bipush (-4), 2) := by decide +kernel
theorem dX9_fault_40 : decode cX9_fault 40 = .ok (.ireturn, 1) := by decide +kernel
theorem dX9_fault_41 : decode cX9_fault 41 = .ok (.aload_n 0, 1) := by decide +kernel
theorem dX9_fault_42 : decode cX9_fault 42 = .ok (.invokevirtual 80, 3) := by decide +kernel
theorem dX9_fault_45 : decode cX9_fault 45 = .ok (.aload_n 0, 1) := by decide +kernel
theorem dX9_fault_46 : decode cX9_fault 46 = .ok (.iload_n 1, 1) := by decide +kernel
theorem dX9_fault_47 : decode cX9_fault 47 = .ok (.iload_n 2, 1) := by decide +kernel
theorem dX9_fault_48 : decode cX9_fault 48 = .ok (.iload_n 3, 1) := by decide +kernel
theorem dX9_fault_49 : decode cX9_fault 49 = .ok (.iload_n 2, 1) := by decide +kernel
theorem dX9_fault_50 : decode cX9_fault 50 = .ok (.isub, 1) := by decide +kernel
theorem dX9_fault_51 : decode cX9_fault 51 = .ok (.invokevirtual 83, 3) := by decide +kernel
theorem dX9_fault_54 : decode cX9_fault 54 = .ok (.aload_n 0, 1) := by decide +kernel
theorem dX9_fault_55 : decode cX9_fault 55 = .ok (.iload_n 1, 1) := by decide +kernel
theorem dX9_fault_56 : decode cX9_fault 56 = .ok (.invokevirtual 87, 3) := by decide +kernel
theorem dX9_fault_59 : decode cX9_fault 59 = .ok (.ifCond .eq 8, 3) := by decide +kernel
theorem dX9_fault_62 : decode cX9_fault 62 = .ok (.bipush (-5), 2) := by decide +kernel
theorem dX9_fault_64 : decode cX9_fault 64 = .ok (.goto 19, 3) := by decide +kernel
theorem dX9_fault_67 : decode cX9_fault 67 = .ok (.aload_n 0, 1) := by decide +kernel
theorem dX9_fault_68 : decode cX9_fault 68 = .ok (.iload_n 1, 1) := by decide +kernel
theorem dX9_fault_69 : decode cX9_fault 69 = .ok (.iload_n 2, 1) := by decide +kernel
theorem dX9_fault_70 : decode cX9_fault 70 = .ok (.iload_n 3, 1) := by decide +kernel
theorem dX9_fault_71 : decode cX9_fault 71 = .ok (.invokevirtual 90, 3) := by decide +kernel
theorem dX9_fault_74 : decode cX9_fault 74 = .ok (.ifCond .eq 8, 3) := by decide +kernel
theorem dX9_fault_77 : decode cX9_fault 77 = .ok (.bipush (-6), 2) := by decide +kernel
theorem dX9_fault_79 : decode cX9_fault 79 = .ok (.goto 4, 3) := by decide +kernel
theorem dX9_fault_82 : decode cX9_fault 82 = .ok (.iconst 0, 1) := by decide +kernel
theorem dX9_fault_83 : decode cX9_fault 83 = .ok (.ireturn, 1) := by decide +kernel
theorem dX9_puts_0 : decode cX9_puts 0 = .ok (.aload_n 0, 1) := by decide +kernel
theorem dX9_puts_1 : decode cX9_puts 1 = .ok (.getfield 7, 3) := by decide +kernel
theorem dX9_puts_4 : decode cX9_puts 4 = .ok (.iconst 3, 1) := by decide +kernel
theorem dX9_puts_5 : decode cX9_puts 5 = .ok (.iaload, 1) := by decide +kernel
theorem dX9_puts_6 : decode cX9_puts 6 = .ok (.istore 5, 2) := by decide +kernel
theorem dX9_puts_8 : decode cX9_puts 8 = .ok (.iload 5, 2) := by decide +kernel
theorem dX9_puts_10 : decode cX9_puts 10 = .ok (.ifCond .le 71, 3) := by decide +kernel
theorem dX9_puts_13 : decode cX9_puts 13 = .ok (.aload_n 0, 1) := by decide +kernel
theorem dX9_puts_14 : decode cX9_puts 14 = .ok (.iload 5, 2) := by decide +kernel
theorem dX9_puts_16 : decode cX9_puts 16 = .ok (.iconst 1, 1) := by decide +kernel
theorem dX9_puts_17 : decode cX9_puts 17 = .ok (.isub, 1) := by decide +kernel
theorem dX9_puts_18 : decode cX9_puts 18 = .ok (.iconst 1, 1) := by decide +kernel
theorem dX9_puts_19 : decode cX9_puts 19 = .ok (.invokevirtual 45, 3) := by decide +kernel
theorem dX9_puts_22 : decode cX9_puts 22 = .ok (.iload_n 2, 1) := by decide +kernel
theorem dX9_puts_23 : decode cX9_puts 23 = .ok (.if_icmp .le 58, 3) := by decide +kernel
theorem dX9_puts_26 : decode cX9_puts 26 = .ok (.iconst 0, 1) := by decide +kernel
theorem dX9_puts_27 : decode cX9_puts 27 = .ok (.istore 6, 2) := by decide +kernel
theorem dX9_puts_29 : decode cX9_puts 29 = .ok (.iload 6, 2) := by decide +kernel
theorem dX9_puts_31 : decode cX9_puts 31 = .ok (.iconst 4, 1) := by decide +kernel
theorem dX9_puts_32 : decode cX9_puts 32 = .ok (.if_icmp .ge 43, 3) := by decide +kernel
theorem dX9_puts_35 : decode cX9_puts 35 = .ok (.aload_n 0, 1) := by decide +kernel
theorem dX9_puts_36 : decode cX9_puts 36 = .ok (.getfield 7, 3) := by decide +kernel
theorem dX9_puts_39 : decode cX9_puts 39 = .ok (.sipush 230, 3) := by decide +kernel
theorem dX9_puts_42 : decode cX9_puts 42 = .ok (.iconst 4, 1) := by decide +kernel
theorem dX9_puts_43 : decode cX9_puts 43 = .ok (.iload 5, 2) := by decide +kernel
theorem dX9_puts_45 : decode cX9_puts 45 = .ok (.imul, 1) := by decide +kernel
theorem dX9_puts_46 : decode cX9_puts 46 = .ok (.iadd, 1) := by decide +kernel
theorem dX9_puts_47 : decode cX9_puts 47 = .ok (.iload 6, 2) := by decide +kernel
theorem dX9_puts_49 : decode cX9_puts 49 = .ok (.iadd, 1) := by decide +kernel
theorem dX9_puts_50 : decode cX9_puts 50 = .ok (.aload_n 0, 1) := by decide +kernel
theorem dX9_puts_51 : decode cX9_puts 51 = .ok (.getfield 7, 3) := by decide +kernel
theorem dX9_puts_54 : decode cX9_puts 54 = .ok (.sipush 230, 3) := by decide +kernel
theorem dX9_puts_57 : decode cX9_puts 57 = .ok (.iconst 4, 1) := by decide +kernel
theorem dX9_puts_58 : decode cX9_puts 58 = .ok (.iload 5, 2) := by decide +kernel
theorem dX9_puts_60 : decode cX9_puts 60 = .ok (.imul, 1) := by decide +kernel
theorem dX9_puts_61 : decode cX9_puts 61 = .ok (.iadd, 1) := by decide +kernel
theorem dX9_puts_62 : decode cX9_puts 62 = .ok (.iconst 4, 1) := by decide +kernel
theorem dX9_puts_63 : decode cX9_puts 63 = .ok (.isub, 1) := by decide +kernel
theorem dX9_puts_64 : decode cX9_puts 64 = .ok (.iload 6, 2) := by decide +kernel
theorem dX9_puts_66 : decode cX9_puts 66 = .ok (.iadd, 1) := by decide +kernel
theorem dX9_puts_67 : decode cX9_puts 67 = .ok (.iaload, 1) := by decide +kernel
theorem dX9_puts_68 : decode cX9_puts 68 = .ok (.iastore, 1) := by decide +kernel
theorem dX9_puts_69 : decode cX9_puts 69 = .ok (.iinc 6 1, 3) := by decide +kernel
theorem dX9_puts_72 : decode cX9_puts 72 = .ok (.goto (-43), 3) := by decide +kernel
theorem dX9_puts_75 : decode cX9_puts 75 = .ok (.iinc 5 (-1), 3) := by decide +kernel
theorem dX9_puts_78 : decode cX9_puts 78 = .ok (.goto (-70), 3) := by decide +kernel
theorem dX9_puts_81 : decode cX9_puts 81 = .ok (.aload_n 0, 1) := by decide +kernel
theorem dX9_puts_82 : decode cX9_puts 82 = .ok (.getfield 7, 3) := by decide +kernel
theorem dX9_puts_85 : decode cX9_puts 85 = .ok (.sipush 230, 3) := by decide +kernel
theorem dX9_puts_88 : decode cX9_puts 88 = .ok (.iconst 4, 1) := by decide +kernel
theorem dX9_puts_89 : decode cX9_puts 89 = .ok (.iload 5, 2) := by decide +kernel
theorem dX9_puts_91 : decode cX9_puts 91 = .ok (.imul, 1) := by decide +kernel
theorem dX9_puts_92 : decode cX9_puts 92 = .ok (.iadd, 1) := by decide +kernel
theorem dX9_puts_93 : decode cX9_puts 93 = .ok (.iload_n 1, 1) := by decide +kernel
theorem dX9_puts_94 : decode cX9_puts 94 = .ok (.iastore, 1) := by decide +kernel
theorem dX9_puts_95 : decode cX9_puts 95 = .ok (.aload_n 0, 1) := by decide +kernel
theorem dX9_puts_96 : decode cX9_puts 96 = .ok (.getfield 7, 3) := by decide +kernel
theorem dX9_puts_99 : decode cX9_puts 99 = .ok (.sipush 230, 3) := by decide +kernel
theorem dX9_puts_102 : decode cX9_puts 102 = .ok (.iconst 4, 1) := by decide +kernel
theorem dX9_puts_103 : decode cX9_puts 103 = .ok (.iload 5, 2) := by decide +kernel
theorem dX9_puts_105 : decode cX9_puts 105 = .ok (.imul, 1) := by decide +kernel
theorem dX9_puts_106 : decode cX9_puts 106 = .ok (.iadd, 1) := by decide +kernel
theorem dX9_puts_107 : decode cX9_puts 107 = .ok (.iconst 1, 1) := by decide +kernel
theorem dX9_puts_108 : decode cX9_puts 108 = .ok (.iadd, 1) := by decide +kernel
theorem dX9_puts_109 : decode cX9_puts 109 = .ok (.iload_n 2, 1) := by decide +kernel
theorem dX9_puts_110 : decode cX9_puts 110 = .ok (.iastore, 1) := by decide +kernel
theorem dX9_puts_111 : decode cX9_puts 111 = .ok (.aload_n 0, 1) := by decide +kernel
theorem dX9_puts_112 : decode cX9_puts 112 = .ok (.getfield 7, 3) := by decide +kernel
theorem dX9_puts_115 : decode cX9_puts 115 = .ok (.sipush 230, 3) := by decide +kernel
theorem dX9_puts_118 : decode cX9_puts 118 = .ok (.iconst 4, 1) := by decide +kernel
theorem dX9_puts_119 : decode cX9_puts 119 = .ok (.iload 5, 2) := by decide +kernel
theorem dX9_puts_121 : decode cX9_puts 121 = .ok (.imul, 1) := by decide +kernel
theorem dX9_puts_122 : decode cX9_puts 122 = .ok (.iadd, 1) := by decide +kernel
theorem dX9_puts_123 : decode cX9_puts 123 = .ok (.iconst 2, 1) := by decide +kernel
theorem dX9_puts_124 : decode cX9_puts 124 = .ok (.iadd, 1) := by decide +kernel
theorem dX9_puts_125 : decode cX9_puts 125 = .ok (.iload_n 3, 1) := by decide +kernel
theorem dX9_puts_126 : decode cX9_puts 126 = .ok (.iastore, 1) := by decide +kernel
theorem dX9_puts_127 : decode cX9_puts 127 = .ok (.aload_n 0, 1) := by decide +kernel
theorem dX9_puts_128 : decode cX9_puts 128 = .ok (.getfield 7, 3) := by decide +kernel
theorem dX9_puts_131 : decode cX9_puts 131 = .ok (.sipush 230, 3) := by decide +kernel
theorem dX9_puts_134 : decode cX9_puts 134 = .ok (.iconst 4, 1) := by decide +kernel
theorem dX9_puts_135 : decode cX9_puts 135 = .ok (.iload 5, 2) := by decide +kernel
theorem dX9_puts_137 : decode cX9_puts 137 = .ok (.imul, 1) := by decide +kernel
theorem dX9_puts_138 : decode cX9_puts 138 = .ok (.iadd, 1) := by decide +kernel
theorem dX9_puts_139 : decode cX9_puts 139 = .ok (.iconst 3, 1) := by decide +kernel
theorem dX9_puts_140 : decode cX9_puts 140 = .ok (.iadd, 1) := by decide +kernel
theorem dX9_puts_141 : decode cX9_puts 141 = .ok (.iload 4, 2) := by decide +kernel
theorem dX9_puts_143 : decode cX9_puts 143 = .ok (.iastore, 1) := by decide +kernel
theorem dX9_puts_144 : decode cX9_puts 144 = .ok (.aload_n 0, 1) := by decide +kernel
theorem dX9_puts_145 : decode cX9_puts 145 = .ok (.getfield 7, 3) := by decide +kernel
theorem dX9_puts_148 : decode cX9_puts 148 = .ok (.iconst 3, 1) := by decide +kernel
theorem dX9_puts_149 : decode cX9_puts 149 = .ok (.dup2, 1) := by decide +kernel
theorem dX9_puts_150 : decode cX9_puts 150 = .ok (.iaload, 1) := by decide +kernel
theorem dX9_puts_151 : decode cX9_puts 151 = .ok (.iconst 1, 1) := by decide +kernel
theorem dX9_puts_152 : decode cX9_puts 152 = .ok (.iadd, 1) := by decide +kernel
theorem dX9_puts_153 : decode cX9_puts 153 = .ok (.iastore, 1) := by decide +kernel
theorem dX9_puts_154 : decode cX9_puts 154 = .ok (.iload 5, 2) := by decide +kernel
theorem dX9_puts_156 : decode cX9_puts 156 = .ok (.ireturn, 1) := by decide +kernel
theorem dX9_drops_0 : decode cX9_drops 0 = .ok (.aload_n 0, 1) := by decide +kernel
theorem dX9_drops_1 : decode cX9_drops 1 = .ok (.getfield 7, 3) := by decide +kernel
theorem dX9_drops_4 : decode cX9_drops 4 = .ok (.iconst 3, 1) := by decide +kernel
theorem dX9_drops_5 : decode cX9_drops 5 = .ok (.dup2, 1) := by decide +kernel
theorem dX9_drops_6 : decode cX9_drops 6 = .ok (.iaload, 1) := by decide +kernel
theorem dX9_drops_7 : decode cX9_drops 7 = .ok (.iconst 1, 1) := by decide +kernel
theorem dX9_drops_8 : decode cX9_drops 8 = .ok (.isub, 1) := by decide +kernel
theorem dX9_drops_9 : decode cX9_drops 9 = .ok (.iastore, 1) := by decide +kernel
theorem dX9_drops_10 : decode cX9_drops 10 = .ok (.sipush 230, 3) := by decide +kernel
theorem dX9_drops_13 : decode cX9_drops 13 = .ok (.iconst 4, 1) := by decide +kernel
theorem dX9_drops_14 : decode cX9_drops 14 = .ok (.iload_n 1, 1) := by decide +kernel
theorem dX9_drops_15 : decode cX9_drops 15 = .ok (.imul, 1) := by decide +kernel
theorem dX9_drops_16 : decode cX9_drops 16 = .ok (.iadd, 1) := by decide +kernel
theorem dX9_drops_17 : decode cX9_drops 17 = .ok (.istore_n 2, 1) := by decide +kernel
theorem dX9_drops_18 : decode cX9_drops 18 = .ok (.iload_n 2, 1) := by decide +kernel
theorem dX9_drops_19 : decode cX9_drops 19 = .ok (.sipush 230, 3) := by decide +kernel
theorem dX9_drops_22 : decode cX9_drops 22 = .ok (.iconst 4, 1) := by decide +kernel
theorem dX9_drops_23 : decode cX9_drops 23 = .ok (.aload_n 0, 1) := by decide +kernel
theorem dX9_drops_24 : decode cX9_drops 24 = .ok (.getfield 7, 3) := by decide +kernel
theorem dX9_drops_27 : decode cX9_drops 27 = .ok (.iconst 3, 1) := by decide +kernel
theorem dX9_drops_28 : decode cX9_drops 28 = .ok (.iaload, 1) := by decide +kernel
theorem dX9_drops_29 : decode cX9_drops 29 = .ok (.imul, 1) := by decide +kernel
theorem dX9_drops_30 : decode cX9_drops 30 = .ok (.iadd, 1) := by decide +kernel
theorem dX9_drops_31 : decode cX9_drops 31 = .ok (.if_icmp .ge 23, 3) := by decide +kernel
theorem dX9_drops_34 : decode cX9_drops 34 = .ok (.aload_n 0, 1) := by decide +kernel
theorem dX9_drops_35 : decode cX9_drops 35 = .ok (.getfield 7, 3) := by decide +kernel
theorem dX9_drops_38 : decode cX9_drops 38 = .ok (.iload_n 2, 1) := by decide +kernel
theorem dX9_drops_39 : decode cX9_drops 39 = .ok (.aload_n 0, 1) := by decide +kernel
theorem dX9_drops_40 : decode cX9_drops 40 = .ok (.getfield 7, 3) := by decide +kernel
theorem dX9_drops_43 : decode cX9_drops 43 = .ok (.iload_n 2, 1) := by decide +kernel
theorem dX9_drops_44 : decode cX9_drops 44 = .ok (.iconst 4, 1) := by decide +kernel
theorem dX9_drops_45 : decode cX9_drops 45 = .ok (.iadd, 1) := by decide +kernel
theorem dX9_drops_46 : decode cX9_drops 46 = .ok (.iaload, 1) := by decide +kernel
theorem dX9_drops_47 : decode cX9_drops 47 = .ok (.iastore, 1) := by decide +kernel
theorem dX9_drops_48 : decode cX9_drops 48 = .ok (.iinc 2 1, 3) := by decide +kernel
theorem dX9_drops_51 : decode cX9_drops 51 = .ok (.goto (-33), 3) := by decide +kernel
theorem dX9_drops_54 : decode cX9_drops 54 = .ok (.return_, 1) := by decide +kernel
theorem dX9_place_0 : decode cX9_place 0 = .ok (.aload_n 0, 1) := by decide +kernel
theorem dX9_place_1 : decode cX9_place 1 = .ok (.iload_n 1, 1) := by decide +kernel
theorem dX9_place_2 : decode cX9_place 2 = .ok (.invokevirtual 52, 3) := by decide +kernel
theorem dX9_place_5 : decode cX9_place 5 = .ok (.ifCond .eq 14, 3) := by decide +kernel
theorem dX9_place_8 : decode cX9_place 8 = .ok (.iload_n 2, 1) := by decide +kernel
theorem dX9_place_9 : decode cX9_place 9 = .ok (.iconst 0, 1) := by decide +kernel
theorem dX9_place_10 : decode cX9_place 10 = .ok (.sipush 10079, 3) := by decide +kernel
theorem dX9_place_13 : decode cX9_place 13 = .ok (.invokestatic 41, 3) := by decide +kernel
theorem dX9_place_16 : decode cX9_place 16 = .ok (.ifCond .ne 5, 3) := by decide +kernel
theorem dX9_place_19 : decode cX9_place 19 = .ok (.iconst (-1), 1) := by decide +kernel
theorem dX9_place_20 : decode cX9_place 20 = .ok (.ireturn, 1) := by decide +kernel
theorem dX9_place_21 : decode cX9_place 21 = .ok (.aload_n 0, 1) := by decide +kernel
theorem dX9_place_22 : decode cX9_place 22 = .ok (.iload_n 1, 1) := by decide +kernel
theorem dX9_place_23 : decode cX9_place 23 = .ok (.iload_n 2, 1) := by decide +kernel
theorem dX9_place_24 : decode cX9_place 24 = .ok (.invokevirtual 93, 3) := by decide +kernel
theorem dX9_place_27 : decode cX9_place 27 = .ok (.istore 4, 2) := by decide +kernel
theorem dX9_place_29 : decode cX9_place 29 = .ok (.iload 4, 2) := by decide +kernel
theorem dX9_place_31 : decode cX9_place 31 = .ok (.ifCond .eq 6, 3) := by decide +kernel
theorem dX9_place_34 : decode cX9_place 34 = .ok (.iload 4, 2) := by decide +kernel
theorem dX9_place_36 : decode cX9_place 36 = .ok (.ireturn, 1) := by decide +kernel
theorem dX9_place_37 : decode cX9_place 37 = .ok (.aload_n 0, 1) := by decide +kernel
theorem dX9_place_38 : decode cX9_place 38 = .ok (.invokevirtual 49, 3) := by decide +kernel
theorem dX9_place_41 : decode cX9_place 41 = .ok (.aload_n 0, 1) := by decide +kernel
theorem dX9_place_42 : decode cX9_place 42 = .ok (.iload_n 1, 1) := by decide +kernel
theorem dX9_place_43 : decode cX9_place 43 = .ok (.iload_n 2, 1) := by decide +kernel
theorem dX9_place_44 : decode cX9_place 44 = .ok (.aload_n 0, 1) := by decide +kernel
theorem dX9_place_45 : decode cX9_place 45 = .ok (.iload_n 1, 1) := by decide +kernel
theorem dX9_place_46 : decode cX9_place 46 = .ok (.invokevirtual 73, 3) := by decide +kernel
theorem dX9_place_49 : decode cX9_place 49 = .ok (.iload_n 3, 1) := by decide +kernel
theorem dX9_place_50 : decode cX9_place 50 = .ok (.ifCond .eq 7, 3) := by decide +kernel
theorem dX9_place_53 : decode cX9_place 53 = .ok (.iconst 1, 1) := by decide +kernel
theorem dX9_place_54 : decode cX9_place 54 = .ok (.goto 4, 3) := by decide +kernel
theorem dX9_place_57 : decode cX9_place 57 = .ok (.iconst 0, 1) := by decide +kernel
theorem dX9_place_58 : decode cX9_place 58 = .ok (.invokevirtual 96, 3) := by decide +kernel
theorem dX9_place_61 : decode cX9_place 61 = .ok (.ireturn, 1) := by decide +kernel
theorem dX9_remove_0 : decode cX9_remove 0 = .ok (.aload_n 0, 1) := by decide +kernel
theorem dX9_remove_1 : decode cX9_remove 1 = .ok (.iload_n 1, 1) := by decide +kernel
theorem dX9_remove_2 : decode cX9_remove 2 = .ok (.invokevirtual 100, 3) := by decide +kernel
theorem dX9_remove_5 : decode cX9_remove 5 = .ok (.ifCond .ne 5, 3) := by decide +kernel
theorem dX9_remove_8 : decode cX9_remove 8 = .ok (.iconst (-1), 1) := by decide +kernel
theorem dX9_remove_9 : decode cX9_remove 9 = .ok (.ireturn, 1) := by decide +kernel
theorem dX9_remove_10 : decode cX9_remove 10 = .ok (.aload_n 0, 1) := by decide +kernel
theorem dX9_remove_11 : decode cX9_remove 11 = .ok (.invokevirtual 49, 3) := by decide +kernel
theorem dX9_remove_14 : decode cX9_remove 14 = .ok (.aload_n 0, 1) := by decide +kernel
theorem dX9_remove_15 : decode cX9_remove 15 = .ok (.iload_n 1, 1) := by decide +kernel
theorem dX9_remove_16 : decode cX9_remove 16 = .ok (.invokevirtual 103, 3) := by decide +kernel
theorem dX9_remove_19 : decode cX9_remove 19 = .ok (.aload_n 0, 1) := by decide +kernel
theorem dX9_remove_20 : decode cX9_remove 20 = .ok (.getfield 7, 3) := by decide +kernel
theorem dX9_remove_23 : decode cX9_remove 23 = .ok (.iconst 3, 1) := by decide +kernel
theorem dX9_remove_24 : decode cX9_remove 24 = .ok (.iaload, 1) := by decide +kernel
theorem dX9_remove_25 : decode cX9_remove 25 = .ok (.ireturn, 1) := by decide +kernel
theorem dX9_firstFor_0 : decode cX9_firstFor 0 = .ok (.iload_n 2, 1) := by decide +kernel
theorem dX9_firstFor_1 : decode cX9_firstFor 1 = .ok (.istore_n 3, 1) := by decide +kernel
theorem dX9_firstFor_2 : decode cX9_firstFor 2 = .ok (.iload_n 3, 1) := by decide +kernel
theorem dX9_firstFor_3 : decode cX9_firstFor 3 = .ok (.iload_n 2, 1) := by decide +kernel
theorem dX9_firstFor_4 : decode cX9_firstFor 4 = .ok (.sipush 1439, 3) := by decide +kernel
theorem dX9_firstFor_7 : decode cX9_firstFor 7 = .ok (.iadd, 1) := by decide +kernel
theorem dX9_firstFor_8 : decode cX9_firstFor 8 = .ok (.if_icmp .gt 27, 3) := by decide +kernel
theorem dX9_firstFor_11 : decode cX9_firstFor 11 = .ok (.iload_n 3, 1) := by decide +kernel
theorem dX9_firstFor_12 : decode cX9_firstFor 12 = .ok (.sipush 10080, 3) := by decide +kernel
theorem dX9_firstFor_15 : decode cX9_firstFor 15 = .ok (.if_icmp .ge 20, 3) := by decide +kernel
theorem dX9_firstFor_18 : decode cX9_firstFor 18 = .ok (.aload_n 0, 1) := by decide +kernel
theorem dX9_firstFor_19 : decode cX9_firstFor 19 = .ok (.iload_n 1, 1) := by decide +kernel
theorem dX9_firstFor_20 : decode cX9_firstFor 20 = .ok (.iload_n 3, 1) := by decide +kernel
theorem dX9_firstFor_21 : decode cX9_firstFor 21 = .ok (.invokevirtual 93, 3) := by decide +kernel
theorem dX9_firstFor_24 : decode cX9_firstFor 24 = .ok (.ifCond .ne 5, 3) := by decide +kernel
theorem dX9_firstFor_27 : decode cX9_firstFor 27 = .ok (.iload_n 3, 1) := by decide +kernel
theorem dX9_firstFor_28 : decode cX9_firstFor 28 = .ok (.ireturn, 1) := by decide +kernel
theorem dX9_firstFor_29 : decode cX9_firstFor 29 = .ok (.iinc 3 1, 3) := by decide +kernel
theorem dX9_firstFor_32 : decode cX9_firstFor 32 = .ok (.goto (-30), 3) := by decide +kernel
theorem dX9_firstFor_35 : decode cX9_firstFor 35 = .ok (.bipush (-9), 2) := by decide +kernel
theorem dX9_firstFor_37 : decode cX9_firstFor 37 = .ok (.ireturn, 1) := by decide +kernel
theorem dX9_earliest_0 : decode cX9_earliest 0 = .ok (.aload_n 0, 1) := by decide +kernel
theorem dX9_earliest_1 : decode cX9_earliest 1 = .ok (.iload_n 1, 1) := by decide +kernel
theorem dX9_earliest_2 : decode cX9_earliest 2 = .ok (.invokevirtual 52, 3) := by decide +kernel
theorem dX9_earliest_5 : decode cX9_earliest 5 = .ok (.ifCond .eq 23, 3) := by decide +kernel
theorem dX9_earliest_8 : decode cX9_earliest 8 = .ok (.iload_n 2, 1) := by decide +kernel
theorem dX9_earliest_9 : decode cX9_earliest 9 = .ok (.iconst 0, 1) := by decide +kernel
theorem dX9_earliest_10 : decode cX9_earliest 10 = .ok (.sipush 10079, 3) := by decide +kernel
theorem dX9_earliest_13 : decode cX9_earliest 13 = .ok (.invokestatic 41, 3) := by decide +kernel
theorem dX9_earliest_16 : decode cX9_earliest 16 = .ok (.ifCond .eq 12, 3) := by decide +kernel
theorem dX9_earliest_19 : decode cX9_earliest 19 = .ok (.aload_n 0, 1) := by decide +kernel
theorem dX9_earliest_20 : decode cX9_earliest 20 = .ok (.iload_n 1, 1) := by decide +kernel
theorem dX9_earliest_21 : decode cX9_earliest 21 = .ok (.iload_n 2, 1) := by decide +kernel
theorem dX9_earliest_22 : decode cX9_earliest 22 = .ok (.invokevirtual 107, 3) := by decide +kernel
theorem dX9_earliest_25 : decode cX9_earliest 25 = .ok (.goto 4, 3) := by decide +kernel
theorem dX9_earliest_28 : decode cX9_earliest 28 = .ok (.iconst (-1), 1) := by decide +kernel
theorem dX9_earliest_29 : decode cX9_earliest 29 = .ok (.ireturn, 1) := by decide +kernel
theorem dX9_mayFill_0 : decode cX9_mayFill 0 = .ok (.aload_n 0, 1) := by decide +kernel
theorem dX9_mayFill_1 : decode cX9_mayFill 1 = .ok (.iload_n 1, 1) := by decide +kernel
theorem dX9_mayFill_2 : decode cX9_mayFill 2 = .ok (.invokevirtual 59, 3) := by decide +kernel
theorem dX9_mayFill_5 : decode cX9_mayFill 5 = .ok (.iconst 2, 1) := by decide +kernel
theorem dX9_mayFill_6 : decode cX9_mayFill 6 = .ok (.if_icmp .ne 40, 3) := by decide +kernel
theorem dX9_mayFill_9 : decode cX9_mayFill 9 = .ok (.iload_n 1, 1) := by decide +kernel
theorem dX9_mayFill_10 : decode cX9_mayFill 10 = .ok (.iload_n 2, 1) := by decide +kernel
theorem dX9_mayFill_11 : decode cX9_mayFill 11 = .ok (.if_icmp .eq 35, 3) := by decide +kernel
theorem dX9_mayFill_14 : decode cX9_mayFill 14 = .ok (.iload_n 3, 1) := by decide +kernel
theorem dX9_mayFill_15 : decode cX9_mayFill 15 = .ok (.aload_n 0, 1) := by decide +kernel
theorem dX9_mayFill_16 : decode cX9_mayFill 16 = .ok (.iload_n 1, 1) := by decide +kernel
theorem dX9_mayFill_17 : decode cX9_mayFill 17 = .ok (.invokevirtual 73, 3) := by decide +kernel
theorem dX9_mayFill_20 : decode cX9_mayFill 20 = .ok (.iadd, 1) := by decide +kernel
theorem dX9_mayFill_21 : decode cX9_mayFill 21 = .ok (.iload 4, 2) := by decide +kernel
theorem dX9_mayFill_23 : decode cX9_mayFill 23 = .ok (.if_icmp .gt 23, 3) := by decide +kernel
theorem dX9_mayFill_26 : decode cX9_mayFill 26 = .ok (.aload_n 0, 1) := by decide +kernel
theorem dX9_mayFill_27 : decode cX9_mayFill 27 = .ok (.iload_n 1, 1) := by decide +kernel
theorem dX9_mayFill_28 : decode cX9_mayFill 28 = .ok (.iload_n 3, 1) := by decide +kernel
theorem dX9_mayFill_29 : decode cX9_mayFill 29 = .ok (.iload_n 3, 1) := by decide +kernel
theorem dX9_mayFill_30 : decode cX9_mayFill 30 = .ok (.aload_n 0, 1) := by decide +kernel
theorem dX9_mayFill_31 : decode cX9_mayFill 31 = .ok (.iload_n 1, 1) := by decide +kernel
theorem dX9_mayFill_32 : decode cX9_mayFill 32 = .ok (.invokevirtual 73, 3) := by decide +kernel
theorem dX9_mayFill_35 : decode cX9_mayFill 35 = .ok (.iadd, 1) := by decide +kernel
theorem dX9_mayFill_36 : decode cX9_mayFill 36 = .ok (.invokevirtual 90, 3) := by decide +kernel
theorem dX9_mayFill_39 : decode cX9_mayFill 39 = .ok (.ifCond .ne 7, 3) := by decide +kernel
theorem dX9_mayFill_42 : decode cX9_mayFill 42 = .ok (.iconst 1, 1) := by decide +kernel
theorem dX9_mayFill_43 : decode cX9_mayFill 43 = .ok (.goto 4, 3) := by decide +kernel
theorem dX9_mayFill_46 : decode cX9_mayFill 46 = .ok (.iconst 0, 1) := by decide +kernel
theorem dX9_mayFill_47 : decode cX9_mayFill 47 = .ok (.ireturn, 1) := by decide +kernel
theorem dX9_measures_0 : decode cX9_measures 0 = .ok (.iload_n 2, 1) := by decide +kernel
theorem dX9_measures_1 : decode cX9_measures 1 = .ok (.istore 4, 2) := by decide +kernel
theorem dX9_measures_3 : decode cX9_measures 3 = .ok (.iload 4, 2) := by decide +kernel
theorem dX9_measures_5 : decode cX9_measures 5 = .ok (.iload_n 1, 1) := by decide +kernel
theorem dX9_measures_6 : decode cX9_measures 6 = .ok (.if_icmp .lt 201, 3) := by decide +kernel
theorem dX9_measures_9 : decode cX9_measures 9 = .ok (.iconst 0, 1) := by decide +kernel
theorem dX9_measures_10 : decode cX9_measures 10 = .ok (.istore 5, 2) := by decide +kernel
theorem dX9_measures_12 : decode cX9_measures 12 = .ok (.iload 5, 2) := by decide +kernel
theorem dX9_measures_14 : decode cX9_measures 14 = .ok (.bipush 17, 2) := by decide +kernel
theorem dX9_measures_16 : decode cX9_measures 16 = .ok (.if_icmp .ge 54, 3) := by decide +kernel
theorem dX9_measures_19 : decode cX9_measures 19 = .ok (.iload 4, 2) := by decide +kernel
theorem dX9_measures_21 : decode cX9_measures 21 = .ok (.iload_n 2, 1) := by decide +kernel
theorem dX9_measures_22 : decode cX9_measures 22 = .ok (.if_icmp .ne 20, 3) := by decide +kernel
theorem dX9_measures_25 : decode cX9_measures 25 = .ok (.iload 5, 2) := by decide +kernel
theorem dX9_measures_27 : decode cX9_measures 27 = .ok (.bipush 16, 2) := by decide +kernel
theorem dX9_measures_29 : decode cX9_measures 29 = .ok (.if_icmp .eq 9, 3) := by decide +kernel
theorem dX9_measures_32 : decode cX9_measures 32 = .ok (.iload 5, 2) := by decide +kernel
theorem dX9_measures_34 : decode cX9_measures 34 = .ok (.iload_n 3, 1) := by decide +kernel
theorem dX9_measures_35 : decode cX9_measures 35 = .ok (.if_icmp .eq 7, 3) := by decide +kernel
theorem dX9_measures_38 : decode cX9_measures 38 = .ok (.iconst 0, 1) := by decide +kernel
theorem dX9_measures_39 : decode cX9_measures 39 = .ok (.goto 6, 3) := by decide +kernel
theorem dX9_measures_42 : decode cX9_measures 42 = .ok (.sipush 999, 3) := by decide +kernel
theorem dX9_measures_45 : decode cX9_measures 45 = .ok (.istore 6, 2) := by decide +kernel
theorem dX9_measures_47 : decode cX9_measures 47 = .ok (.aload_n 0, 1) := by decide +kernel
theorem dX9_measures_48 : decode cX9_measures 48 = .ok (.getfield 31, 3) := by decide +kernel
theorem dX9_measures_51 : decode cX9_measures 51 = .ok (.bipush 17, 2) := by decide +kernel
theorem dX9_measures_53 : decode cX9_measures 53 = .ok (.iload 4, 2) := by decide +kernel
theorem dX9_measures_55 : decode cX9_measures 55 = .ok (.iload_n 1, 1) := by decide +kernel
theorem dX9_measures_56 : decode cX9_measures 56 = .ok (.isub, 1) := by decide +kernel
theorem dX9_measures_57 : decode cX9_measures 57 = .ok (.imul, 1) := by decide +kernel
theorem dX9_measures_58 : decode cX9_measures 58 = .ok (.iload 5, 2) := by decide +kernel
theorem dX9_measures_60 : decode cX9_measures 60 = .ok (.iadd, 1) := by decide +kernel
theorem dX9_measures_61 : decode cX9_measures 61 = .ok (.iload 6, 2) := by decide +kernel
theorem dX9_measures_63 : decode cX9_measures 63 = .ok (.iastore, 1) := by decide +kernel
theorem dX9_measures_64 : decode cX9_measures 64 = .ok (.iinc 5 1, 3) := by decide +kernel
theorem dX9_measures_67 : decode cX9_measures 67 = .ok (.goto (-55), 3) := by decide +kernel
theorem dX9_measures_70 : decode cX9_measures 70 = .ok (.iconst 0, 1) := by decide +kernel
theorem dX9_measures_71 : decode cX9_measures 71 = .ok (.istore 5, 2) := by decide +kernel
theorem dX9_measures_73 : decode cX9_measures 73 = .ok (.iload 5, 2) := by decide +kernel
theorem dX9_measures_75 : decode cX9_measures 75 = .ok (.aload_n 0, 1) := by decide +kernel
theorem dX9_measures_76 : decode cX9_measures 76 = .ok (.getfield 7, 3) := by decide +kernel
theorem dX9_measures_79 : decode cX9_measures 79 = .ok (.iconst 0, 1) := by decide +kernel
theorem dX9_measures_80 : decode cX9_measures 80 = .ok (.iaload, 1) := by decide +kernel
theorem dX9_measures_81 : decode cX9_measures 81 = .ok (.if_icmp .ge 120, 3) := by decide +kernel
theorem dX9_measures_84 : decode cX9_measures 84 = .ok (.iload 4, 2) := by decide +kernel
theorem dX9_measures_86 : decode cX9_measures 86 = .ok (.iload_n 2, 1) := by decide +kernel
theorem dX9_measures_87 : decode cX9_measures 87 = .ok (.if_icmp .ge 114, 3) := by decide +kernel
theorem dX9_measures_90 : decode cX9_measures 90 = .ok (.aload_n 0, 1) := by decide +kernel
theorem dX9_measures_91 : decode cX9_measures 91 = .ok (.iload 5, 2) := by decide +kernel
theorem dX9_measures_93 : decode cX9_measures 93 = .ok (.iconst (-1), 1) := by decide +kernel
theorem dX9_measures_94 : decode cX9_measures 94 = .ok (.iload 4, 2) := by decide +kernel
theorem dX9_measures_96 : decode cX9_measures 96 = .ok (.iload_n 2, 1) := by decide +kernel
theorem dX9_measures_97 : decode cX9_measures 97 = .ok (.invokevirtual 110, 3) := by decide +kernel
theorem dX9_measures_100 : decode cX9_measures 100 = .ok (.ifCond .eq 95, 3) := by decide +kernel
theorem dX9_measures_103 : decode cX9_measures 103 = .ok (.iconst 1, 1) := by decide +kernel
theorem dX9_measures_104 : decode cX9_measures 104 = .ok (.aload_n 0, 1) := by decide +kernel
theorem dX9_measures_105 : decode cX9_measures 105 = .ok (.getfield 31, 3) := by decide +kernel
theorem dX9_measures_108 : decode cX9_measures 108 = .ok (.bipush 17, 2) := by decide +kernel
theorem dX9_measures_110 : decode cX9_measures 110 = .ok (.iload 4, 2) := by decide +kernel
theorem dX9_measures_112 : decode cX9_measures 112 = .ok (.aload_n 0, 1) := by decide +kernel
theorem dX9_measures_113 : decode cX9_measures 113 = .ok (.iload 5, 2) := by decide +kernel
theorem dX9_measures_115 : decode cX9_measures 115 = .ok (.invokevirtual 73, 3) := by decide +kernel
theorem dX9_measures_118 : decode cX9_measures 118 = .ok (.iadd, 1) := by decide +kernel
theorem dX9_measures_119 : decode cX9_measures 119 = .ok (.iload_n 1, 1) := by decide +kernel
theorem dX9_measures_120 : decode cX9_measures 120 = .ok (.isub, 1) := by decide +kernel
theorem dX9_measures_121 : decode cX9_measures 121 = .ok (.imul, 1) := by decide +kernel
theorem dX9_measures_122 : decode cX9_measures 122 = .ok (.iload 5, 2) := by decide +kernel
theorem dX9_measures_124 : decode cX9_measures 124 = .ok (.iadd, 1) := by decide +kernel
theorem dX9_measures_125 : decode cX9_measures 125 = .ok (.iaload, 1) := by decide +kernel
theorem dX9_measures_126 : decode cX9_measures 126 = .ok (.iadd, 1) := by decide +kernel
theorem dX9_measures_127 : decode cX9_measures 127 = .ok (.istore 6, 2) := by decide +kernel
theorem dX9_measures_129 : decode cX9_measures 129 = .ok (.iconst 0, 1) := by decide +kernel
theorem dX9_measures_130 : decode cX9_measures 130 = .ok (.istore 7, 2) := by decide +kernel
theorem dX9_measures_132 : decode cX9_measures 132 = .ok (.iload 7, 2) := by decide +kernel
theorem dX9_measures_134 : decode cX9_measures 134 = .ok (.bipush 17, 2) := by decide +kernel
theorem dX9_measures_136 : decode cX9_measures 136 = .ok (.if_icmp .ge 59, 3) := by decide +kernel
theorem dX9_measures_139 : decode cX9_measures 139 = .ok (.bipush 17, 2) := by decide +kernel
theorem dX9_measures_141 : decode cX9_measures 141 = .ok (.iload 4, 2) := by decide +kernel
theorem dX9_measures_143 : decode cX9_measures 143 = .ok (.iload_n 1, 1) := by decide +kernel
theorem dX9_measures_144 : decode cX9_measures 144 = .ok (.isub, 1) := by decide +kernel
theorem dX9_measures_145 : decode cX9_measures 145 = .ok (.imul, 1) := by decide +kernel
theorem dX9_measures_146 : decode cX9_measures 146 = .ok (.iload 7, 2) := by decide +kernel
theorem dX9_measures_148 : decode cX9_measures 148 = .ok (.iadd, 1) := by decide +kernel
theorem dX9_measures_149 : decode cX9_measures 149 = .ok (.istore 8, 2) := by decide +kernel
theorem dX9_measures_151 : decode cX9_measures 151 = .ok (.aload_n 0, 1) := by decide +kernel
theorem dX9_measures_152 : decode cX9_measures 152 = .ok (.getfield 31, 3) := by decide +kernel
theorem dX9_measures_155 : decode cX9_measures 155 = .ok (.iload 8, 2) := by decide +kernel
theorem dX9_measures_157 : decode cX9_measures 157 = .ok (.iload 7, 2) := by decide +kernel
theorem dX9_measures_159 : decode cX9_measures 159 = .ok (.iload 5, 2) := by decide +kernel
theorem dX9_measures_161 : decode cX9_measures 161 = .ok (.if_icmp .eq 20, 3) := by decide +kernel
theorem dX9_measures_164 : decode cX9_measures 164 = .ok (.iload 6, 2) := by decide +kernel
theorem dX9_measures_166 : decode cX9_measures 166 = .ok (.aload_n 0, 1) := by decide +kernel
theorem dX9_measures_167 : decode cX9_measures 167 = .ok (.getfield 31, 3) := by decide +kernel
theorem dX9_measures_170 : decode cX9_measures 170 = .ok (.iload 8, 2) := by decide +kernel
theorem dX9_measures_172 : decode cX9_measures 172 = .ok (.iaload, 1) := by decide +kernel
theorem dX9_measures_173 : decode cX9_measures 173 = .ok (.if_icmp .ge 8, 3) := by decide +kernel
theorem dX9_measures_176 : decode cX9_measures 176 = .ok (.iload 6, 2) := by decide +kernel
theorem dX9_measures_178 : decode cX9_measures 178 = .ok (.goto 10, 3) := by decide +kernel
theorem dX9_measures_181 : decode cX9_measures 181 = .ok (.aload_n 0, 1) := by decide +kernel
theorem dX9_measures_182 : decode cX9_measures 182 = .ok (.getfield 31, 3) := by decide +kernel
theorem dX9_measures_185 : decode cX9_measures 185 = .ok (.iload 8, 2) := by decide +kernel
theorem dX9_measures_187 : decode cX9_measures 187 = .ok (.iaload, 1) := by decide +kernel
theorem dX9_measures_188 : decode cX9_measures 188 = .ok (.iastore, 1) := by decide +kernel
theorem dX9_measures_189 : decode cX9_measures 189 = .ok (.iinc 7 1, 3) := by decide +kernel
theorem dX9_measures_192 : decode cX9_measures 192 = .ok (.goto (-60), 3) := by decide +kernel
theorem dX9_measures_195 : decode cX9_measures 195 = .ok (.iinc 5 1, 3) := by decide +kernel
theorem dX9_measures_198 : decode cX9_measures 198 = .ok (.goto (-125), 3) := by decide +kernel
theorem dX9_measures_201 : decode cX9_measures 201 = .ok (.iinc 4 (-1), 3) := by decide +kernel
theorem dX9_measures_204 : decode cX9_measures 204 = .ok (.goto (-201), 3) := by decide +kernel
theorem dX9_measures_207 : decode cX9_measures 207 = .ok (.return_, 1) := by decide +kernel
theorem dX9_fill_0 : decode cX9_fill 0 = .ok (.iload_n 1, 1) := by decide +kernel
theorem dX9_fill_1 : decode cX9_fill 1 = .ok (.iconst 0, 1) := by decide +kernel
theorem dX9_fill_2 : decode cX9_fill 2 = .ok (.sipush 10079, 3) := by decide +kernel
theorem dX9_fill_5 : decode cX9_fill 5 = .ok (.invokestatic 41, 3) := by decide +kernel
theorem dX9_fill_8 : decode cX9_fill 8 = .ok (.ifCond .eq 35, 3) := by decide +kernel
theorem dX9_fill_11 : decode cX9_fill 11 = .ok (.iload_n 2, 1) := by decide +kernel
theorem dX9_fill_12 : decode cX9_fill 12 = .ok (.iload_n 1, 1) := by decide +kernel
theorem dX9_fill_13 : decode cX9_fill 13 = .ok (.iconst 1, 1) := by decide +kernel
theorem dX9_fill_14 : decode cX9_fill 14 = .ok (.iadd, 1) := by decide +kernel
theorem dX9_fill_15 : decode cX9_fill 15 = .ok (.iload_n 1, 1) := by decide +kernel
theorem dX9_fill_16 : decode cX9_fill 16 = .ok (.sipush 240, 3) := by decide +kernel
theorem dX9_fill_19 : decode cX9_fill 19 = .ok (.iadd, 1) := by decide +kernel
theorem dX9_fill_20 : decode cX9_fill 20 = .ok (.sipush 10080, 3) := by decide +kernel
theorem dX9_fill_23 : decode cX9_fill 23 = .ok (.if_icmp .ge 11, 3) := by decide +kernel
theorem dX9_fill_26 : decode cX9_fill 26 = .ok (.iload_n 1, 1) := by decide +kernel
theorem dX9_fill_27 : decode cX9_fill 27 = .ok (.sipush 240, 3) := by decide +kernel
theorem dX9_fill_30 : decode cX9_fill 30 = .ok (.iadd, 1) := by decide +kernel
theorem dX9_fill_31 : decode cX9_fill 31 = .ok (.goto 6, 3) := by decide +kernel
theorem dX9_fill_34 : decode cX9_fill 34 = .ok (.sipush 10080, 3) := by decide +kernel
theorem dX9_fill_37 : decode cX9_fill 37 = .ok (.invokestatic 41, 3) := by decide +kernel
theorem dX9_fill_40 : decode cX9_fill 40 = .ok (.ifCond .ne 5, 3) := by decide +kernel
theorem dX9_fill_43 : decode cX9_fill 43 = .ok (.iconst (-1), 1) := by decide +kernel
theorem dX9_fill_44 : decode cX9_fill 44 = .ok (.ireturn, 1) := by decide +kernel
theorem dX9_fill_45 : decode cX9_fill 45 = .ok (.aload_n 0, 1) := by decide +kernel
theorem dX9_fill_46 : decode cX9_fill 46 = .ok (.iload_n 1, 1) := by decide +kernel
theorem dX9_fill_47 : decode cX9_fill 47 = .ok (.iload_n 2, 1) := by decide +kernel
theorem dX9_fill_48 : decode cX9_fill 48 = .ok (.invokevirtual 76, 3) := by decide +kernel
theorem dX9_fill_51 : decode cX9_fill 51 = .ok (.ifCond .eq 6, 3) := by decide +kernel
theorem dX9_fill_54 : decode cX9_fill 54 = .ok (.bipush (-4), 2) := by decide +kernel
theorem dX9_fill_56 : decode cX9_fill 56 = .ok (.ireturn, 1) := by decide +kernel
theorem dX9_fill_57 : decode cX9_fill 57 = .ok (.bipush 16, 2) := by decide +kernel
theorem dX9_fill_59 : decode cX9_fill 59 = .ok (.istore_n 3, 1) := by decide +kernel
theorem dX9_fill_60 : decode cX9_fill 60 = .ok (.iconst (-1), 1) := by decide +kernel
theorem dX9_fill_61 : decode cX9_fill 61 = .ok (.istore 4, 2) := by decide +kernel
theorem dX9_fill_63 : decode cX9_fill 63 = .ok (.iconst 0, 1) := by decide +kernel
theorem dX9_fill_64 : decode cX9_fill 64 = .ok (.istore 5, 2) := by decide +kernel
theorem dX9_fill_66 : decode cX9_fill 66 = .ok (.iload 5, 2) := by decide +kernel
theorem dX9_fill_68 : decode cX9_fill 68 = .ok (.aload_n 0, 1) := by decide +kernel
theorem dX9_fill_69 : decode cX9_fill 69 = .ok (.getfield 7, 3) := by decide +kernel
theorem dX9_fill_72 : decode cX9_fill 72 = .ok (.iconst 3, 1) := by decide +kernel
theorem dX9_fill_73 : decode cX9_fill 73 = .ok (.iaload, 1) := by decide +kernel
theorem dX9_fill_74 : decode cX9_fill 74 = .ok (.if_icmp .ge 56, 3) := by decide +kernel
theorem dX9_fill_77 : decode cX9_fill 77 = .ok (.aload_n 0, 1) := by decide +kernel
theorem dX9_fill_78 : decode cX9_fill 78 = .ok (.iload 5, 2) := by decide +kernel
theorem dX9_fill_80 : decode cX9_fill 80 = .ok (.invokevirtual 70, 3) := by decide +kernel
theorem dX9_fill_83 : decode cX9_fill 83 = .ok (.iload_n 1, 1) := by decide +kernel
theorem dX9_fill_84 : decode cX9_fill 84 = .ok (.if_icmp .ne 13, 3) := by decide +kernel
theorem dX9_fill_87 : decode cX9_fill 87 = .ok (.aload_n 0, 1) := by decide +kernel
theorem dX9_fill_88 : decode cX9_fill 88 = .ok (.iload 5, 2) := by decide +kernel
theorem dX9_fill_90 : decode cX9_fill 90 = .ok (.iconst 0, 1) := by decide +kernel
theorem dX9_fill_91 : decode cX9_fill 91 = .ok (.invokevirtual 45, 3) := by decide +kernel
theorem dX9_fill_94 : decode cX9_fill 94 = .ok (.goto 4, 3) := by decide +kernel
theorem dX9_fill_97 : decode cX9_fill 97 = .ok (.iload_n 3, 1) := by decide +kernel
theorem dX9_fill_98 : decode cX9_fill 98 = .ok (.istore_n 3, 1) := by decide +kernel
theorem dX9_fill_99 : decode cX9_fill 99 = .ok (.aload_n 0, 1) := by decide +kernel
theorem dX9_fill_100 : decode cX9_fill 100 = .ok (.iload 5, 2) := by decide +kernel
theorem dX9_fill_102 : decode cX9_fill 102 = .ok (.iconst 1, 1) := by decide +kernel
theorem dX9_fill_103 : decode cX9_fill 103 = .ok (.invokevirtual 45, 3) := by decide +kernel
theorem dX9_fill_106 : decode cX9_fill 106 = .ok (.iload_n 2, 1) := by decide +kernel
theorem dX9_fill_107 : decode cX9_fill 107 = .ok (.if_icmp .ne 13, 3) := by decide +kernel
theorem dX9_fill_110 : decode cX9_fill 110 = .ok (.aload_n 0, 1) := by decide +kernel
theorem dX9_fill_111 : decode cX9_fill 111 = .ok (.iload 5, 2) := by decide +kernel
theorem dX9_fill_113 : decode cX9_fill 113 = .ok (.iconst 0, 1) := by decide +kernel
theorem dX9_fill_114 : decode cX9_fill 114 = .ok (.invokevirtual 45, 3) := by decide +kernel
theorem dX9_fill_117 : decode cX9_fill 117 = .ok (.goto 5, 3) := by decide +kernel
theorem dX9_fill_120 : decode cX9_fill 120 = .ok (.iload 4, 2) := by decide +kernel
theorem dX9_fill_122 : decode cX9_fill 122 = .ok (.istore 4, 2) := by decide +kernel
theorem dX9_fill_124 : decode cX9_fill 124 = .ok (.iinc 5 1, 3) := by decide +kernel
theorem dX9_fill_127 : decode cX9_fill 127 = .ok (.goto (-61), 3) := by decide +kernel
theorem dX9_fill_130 : decode cX9_fill 130 = .ok (.aload_n 0, 1) := by decide +kernel
theorem dX9_fill_131 : decode cX9_fill 131 = .ok (.iload_n 1, 1) := by decide +kernel
theorem dX9_fill_132 : decode cX9_fill 132 = .ok (.iload_n 2, 1) := by decide +kernel
theorem dX9_fill_133 : decode cX9_fill 133 = .ok (.iload 4, 2) := by decide +kernel
theorem dX9_fill_135 : decode cX9_fill 135 = .ok (.invokevirtual 114, 3) := by decide +kernel
theorem dX9_fill_138 : decode cX9_fill 138 = .ok (.aload_n 0, 1) := by decide +kernel
theorem dX9_fill_139 : decode cX9_fill 139 = .ok (.getfield 31, 3) := by decide +kernel
theorem dX9_fill_142 : decode cX9_fill 142 = .ok (.iload_n 3, 1) := by decide +kernel
theorem dX9_fill_143 : decode cX9_fill 143 = .ok (.iaload, 1) := by decide +kernel
theorem dX9_fill_144 : decode cX9_fill 144 = .ok (.istore 5, 2) := by decide +kernel
theorem dX9_fill_146 : decode cX9_fill 146 = .ok (.iload 5, 2) := by decide +kernel
theorem dX9_fill_148 : decode cX9_fill 148 = .ok (.sipush 999, 3) := by decide +kernel
theorem dX9_fill_151 : decode cX9_fill 151 = .ok (.if_icmp .lt 6, 3) := by decide +kernel
theorem dX9_fill_154 : decode cX9_fill 154 = .ok (.bipush (-9), 2) := by decide +kernel
theorem dX9_fill_156 : decode cX9_fill 156 = .ok (.ireturn, 1) := by decide +kernel
theorem dX9_fill_157 : decode cX9_fill 157 = .ok (.aload_n 0, 1) := by decide +kernel
theorem dX9_fill_158 : decode cX9_fill 158 = .ok (.getfield 7, 3) := by decide +kernel
theorem dX9_fill_161 : decode cX9_fill 161 = .ok (.iconst 3, 1) := by decide +kernel
theorem dX9_fill_162 : decode cX9_fill 162 = .ok (.iaload, 1) := by decide +kernel
theorem dX9_fill_163 : decode cX9_fill 163 = .ok (.iload 5, 2) := by decide +kernel
theorem dX9_fill_165 : decode cX9_fill 165 = .ok (.iadd, 1) := by decide +kernel
theorem dX9_fill_166 : decode cX9_fill 166 = .ok (.bipush 60, 2) := by decide +kernel
theorem dX9_fill_168 : decode cX9_fill 168 = .ok (.if_icmp .le 6, 3) := by decide +kernel
theorem dX9_fill_171 : decode cX9_fill 171 = .ok (.bipush (-3), 2) := by decide +kernel
theorem dX9_fill_173 : decode cX9_fill 173 = .ok (.ireturn, 1) := by decide +kernel
theorem dX9_fill_174 : decode cX9_fill 174 = .ok (.aload_n 0, 1) := by decide +kernel
theorem dX9_fill_175 : decode cX9_fill 175 = .ok (.invokevirtual 49, 3) := by decide +kernel
theorem dX9_fill_178 : decode cX9_fill 178 = .ok (.iload_n 1, 1) := by decide +kernel
theorem dX9_fill_179 : decode cX9_fill 179 = .ok (.istore 6, 2) := by decide +kernel
theorem dX9_fill_181 : decode cX9_fill 181 = .ok (.iload_n 3, 1) := by decide +kernel
theorem dX9_fill_182 : decode cX9_fill 182 = .ok (.istore 7, 2) := by decide +kernel
theorem dX9_fill_184 : decode cX9_fill 184 = .ok (.iload 6, 2) := by decide +kernel
theorem dX9_fill_186 : decode cX9_fill 186 = .ok (.iload_n 2, 1) := by decide +kernel
theorem dX9_fill_187 : decode cX9_fill 187 = .ok (.if_icmp .ge 103, 3) := by decide +kernel
theorem dX9_fill_190 : decode cX9_fill 190 = .ok (.iconst 0, 1) := by decide +kernel
theorem dX9_fill_191 : decode cX9_fill 191 = .ok (.istore 8, 2) := by decide +kernel
theorem dX9_fill_193 : decode cX9_fill 193 = .ok (.aload_n 0, 1) := by decide +kernel
theorem dX9_fill_194 : decode cX9_fill 194 = .ok (.iload 8, 2) := by decide +kernel
theorem dX9_fill_196 : decode cX9_fill 196 = .ok (.iload 7, 2) := by decide +kernel
theorem dX9_fill_198 : decode cX9_fill 198 = .ok (.iload 6, 2) := by decide +kernel
theorem dX9_fill_200 : decode cX9_fill 200 = .ok (.iload_n 2, 1) := by decide +kernel
theorem dX9_fill_201 : decode cX9_fill 201 = .ok (.invokevirtual 110, 3) := by decide +kernel
theorem dX9_fill_204 : decode cX9_fill 204 = .ok (.ifCond .eq 45, 3) := by decide +kernel
theorem dX9_fill_207 : decode cX9_fill 207 = .ok (.iconst 1, 1) := by decide +kernel
theorem dX9_fill_208 : decode cX9_fill 208 = .ok (.aload_n 0, 1) := by decide +kernel
theorem dX9_fill_209 : decode cX9_fill 209 = .ok (.getfield 31, 3) := by decide +kernel
theorem dX9_fill_212 : decode cX9_fill 212 = .ok (.bipush 17, 2) := by decide +kernel
theorem dX9_fill_214 : decode cX9_fill 214 = .ok (.iload 6, 2) := by decide +kernel
theorem dX9_fill_216 : decode cX9_fill 216 = .ok (.aload_n 0, 1) := by decide +kernel
theorem dX9_fill_217 : decode cX9_fill 217 = .ok (.iload 8, 2) := by decide +kernel
theorem dX9_fill_219 : decode cX9_fill 219 = .ok (.invokevirtual 73, 3) := by decide +kernel
theorem dX9_fill_222 : decode cX9_fill 222 = .ok (.iadd, 1) := by decide +kernel
theorem dX9_fill_223 : decode cX9_fill 223 = .ok (.iload_n 1, 1) := by decide +kernel
theorem dX9_fill_224 : decode cX9_fill 224 = .ok (.isub, 1) := by decide +kernel
theorem dX9_fill_225 : decode cX9_fill 225 = .ok (.imul, 1) := by decide +kernel
theorem dX9_fill_226 : decode cX9_fill 226 = .ok (.iload 8, 2) := by decide +kernel
theorem dX9_fill_228 : decode cX9_fill 228 = .ok (.iadd, 1) := by decide +kernel
theorem dX9_fill_229 : decode cX9_fill 229 = .ok (.iaload, 1) := by decide +kernel
theorem dX9_fill_230 : decode cX9_fill 230 = .ok (.iadd, 1) := by decide +kernel
theorem dX9_fill_231 : decode cX9_fill 231 = .ok (.aload_n 0, 1) := by decide +kernel
theorem dX9_fill_232 : decode cX9_fill 232 = .ok (.getfield 31, 3) := by decide +kernel
theorem dX9_fill_235 : decode cX9_fill 235 = .ok (.bipush 17, 2) := by decide +kernel
theorem dX9_fill_237 : decode cX9_fill 237 = .ok (.iload 6, 2) := by decide +kernel
theorem dX9_fill_239 : decode cX9_fill 239 = .ok (.iload_n 1, 1) := by decide +kernel
theorem dX9_fill_240 : decode cX9_fill 240 = .ok (.isub, 1) := by decide +kernel
theorem dX9_fill_241 : decode cX9_fill 241 = .ok (.imul, 1) := by decide +kernel
theorem dX9_fill_242 : decode cX9_fill 242 = .ok (.iload 7, 2) := by decide +kernel
theorem dX9_fill_244 : decode cX9_fill 244 = .ok (.iadd, 1) := by decide +kernel
theorem dX9_fill_245 : decode cX9_fill 245 = .ok (.iaload, 1) := by decide +kernel
theorem dX9_fill_246 : decode cX9_fill 246 = .ok (.if_icmp .eq 9, 3) := by decide +kernel
theorem dX9_fill_249 : decode cX9_fill 249 = .ok (.iinc 8 1, 3) := by decide +kernel
theorem dX9_fill_252 : decode cX9_fill 252 = .ok (.goto (-59), 3) := by decide +kernel
theorem dX9_fill_255 : decode cX9_fill 255 = .ok (.aload_n 0, 1) := by decide +kernel
theorem dX9_fill_256 : decode cX9_fill 256 = .ok (.iload 8, 2) := by decide +kernel
theorem dX9_fill_258 : decode cX9_fill 258 = .ok (.iload 6, 2) := by decide +kernel
theorem dX9_fill_260 : decode cX9_fill 260 = .ok (.aload_n 0, 1) := by decide +kernel
theorem dX9_fill_261 : decode cX9_fill 261 = .ok (.iload 8, 2) := by decide +kernel
theorem dX9_fill_263 : decode cX9_fill 263 = .ok (.invokevirtual 73, 3) := by decide +kernel
theorem dX9_fill_266 : decode cX9_fill 266 = .ok (.iconst 0, 1) := by decide +kernel
theorem dX9_fill_267 : decode cX9_fill 267 = .ok (.invokevirtual 96, 3) := by decide +kernel
theorem dX9_fill_270 : decode cX9_fill 270 = .ok (.istore 9, 2) := by decide +kernel
theorem dX9_fill_272 : decode cX9_fill 272 = .ok (.iload 6, 2) := by decide +kernel
theorem dX9_fill_274 : decode cX9_fill 274 = .ok (.aload_n 0, 1) := by decide +kernel
theorem dX9_fill_275 : decode cX9_fill 275 = .ok (.iload 8, 2) := by decide +kernel
theorem dX9_fill_277 : decode cX9_fill 277 = .ok (.invokevirtual 73, 3) := by decide +kernel
theorem dX9_fill_280 : decode cX9_fill 280 = .ok (.iadd, 1) := by decide +kernel
theorem dX9_fill_281 : decode cX9_fill 281 = .ok (.istore 6, 2) := by decide +kernel
theorem dX9_fill_283 : decode cX9_fill 283 = .ok (.iload 8, 2) := by decide +kernel
theorem dX9_fill_285 : decode cX9_fill 285 = .ok (.istore 7, 2) := by decide +kernel
theorem dX9_fill_287 : decode cX9_fill 287 = .ok (.goto (-103), 3) := by decide +kernel
theorem dX9_fill_290 : decode cX9_fill 290 = .ok (.iload 5, 2) := by decide +kernel
theorem dX9_fill_292 : decode cX9_fill 292 = .ok (.ireturn, 1) := by decide +kernel
theorem dX9_mayPush_0 : decode cX9_mayPush 0 = .ok (.aload_n 0, 1) := by decide +kernel
theorem dX9_mayPush_1 : decode cX9_mayPush 1 = .ok (.iload_n 1, 1) := by decide +kernel
theorem dX9_mayPush_2 : decode cX9_mayPush 2 = .ok (.iconst 0, 1) := by decide +kernel
theorem dX9_mayPush_3 : decode cX9_mayPush 3 = .ok (.invokevirtual 45, 3) := by decide +kernel
theorem dX9_mayPush_6 : decode cX9_mayPush 6 = .ok (.istore_n 3, 1) := by decide +kernel
theorem dX9_mayPush_7 : decode cX9_mayPush 7 = .ok (.aload_n 0, 1) := by decide +kernel
theorem dX9_mayPush_8 : decode cX9_mayPush 8 = .ok (.iload_n 1, 1) := by decide +kernel
theorem dX9_mayPush_9 : decode cX9_mayPush 9 = .ok (.iconst 2, 1) := by decide +kernel
theorem dX9_mayPush_10 : decode cX9_mayPush 10 = .ok (.invokevirtual 45, 3) := by decide +kernel
theorem dX9_mayPush_13 : decode cX9_mayPush 13 = .ok (.istore 4, 2) := by decide +kernel
theorem dX9_mayPush_15 : decode cX9_mayPush 15 = .ok (.iload_n 2, 1) := by decide +kernel
theorem dX9_mayPush_16 : decode cX9_mayPush 16 = .ok (.iload 4, 2) := by decide +kernel
theorem dX9_mayPush_18 : decode cX9_mayPush 18 = .ok (.iadd, 1) := by decide +kernel
theorem dX9_mayPush_19 : decode cX9_mayPush 19 = .ok (.sipush 10080, 3) := by decide +kernel
theorem dX9_mayPush_22 : decode cX9_mayPush 22 = .ok (.if_icmp .gt 16, 3) := by decide +kernel
theorem dX9_mayPush_25 : decode cX9_mayPush 25 = .ok (.aload_n 0, 1) := by decide +kernel
theorem dX9_mayPush_26 : decode cX9_mayPush 26 = .ok (.iload_n 3, 1) := by decide +kernel
theorem dX9_mayPush_27 : decode cX9_mayPush 27 = .ok (.iload_n 2, 1) := by decide +kernel
theorem dX9_mayPush_28 : decode cX9_mayPush 28 = .ok (.iload_n 2, 1) := by decide +kernel
theorem dX9_mayPush_29 : decode cX9_mayPush 29 = .ok (.iload 4, 2) := by decide +kernel
theorem dX9_mayPush_31 : decode cX9_mayPush 31 = .ok (.iadd, 1) := by decide +kernel
theorem dX9_mayPush_32 : decode cX9_mayPush 32 = .ok (.invokevirtual 90, 3) := by decide +kernel
theorem dX9_mayPush_35 : decode cX9_mayPush 35 = .ok (.ifCond .eq 5, 3) := by decide +kernel
theorem dX9_mayPush_38 : decode cX9_mayPush 38 = .ok (.iconst 0, 1) := by decide +kernel
theorem dX9_mayPush_39 : decode cX9_mayPush 39 = .ok (.ireturn, 1) := by decide +kernel
theorem dX9_mayPush_40 : decode cX9_mayPush 40 = .ok (.aload_n 0, 1) := by decide +kernel
theorem dX9_mayPush_41 : decode cX9_mayPush 41 = .ok (.iconst 0, 1) := by decide +kernel
theorem dX9_mayPush_42 : decode cX9_mayPush 42 = .ok (.putfield 56, 3) := by decide +kernel
theorem dX9_mayPush_45 : decode cX9_mayPush 45 = .ok (.iload_n 1, 1) := by decide +kernel
theorem dX9_mayPush_46 : decode cX9_mayPush 46 = .ok (.iconst 1, 1) := by decide +kernel
theorem dX9_mayPush_47 : decode cX9_mayPush 47 = .ok (.iadd, 1) := by decide +kernel
theorem dX9_mayPush_48 : decode cX9_mayPush 48 = .ok (.istore 5, 2) := by decide +kernel
theorem dX9_mayPush_50 : decode cX9_mayPush 50 = .ok (.iload 5, 2) := by decide +kernel
theorem dX9_mayPush_52 : decode cX9_mayPush 52 = .ok (.aload_n 0, 1) := by decide +kernel
theorem dX9_mayPush_53 : decode cX9_mayPush 53 = .ok (.getfield 7, 3) := by decide +kernel
theorem dX9_mayPush_56 : decode cX9_mayPush 56 = .ok (.iconst 3, 1) := by decide +kernel
theorem dX9_mayPush_57 : decode cX9_mayPush 57 = .ok (.iaload, 1) := by decide +kernel
theorem dX9_mayPush_58 : decode cX9_mayPush 58 = .ok (.if_icmp .ge 34, 3) := by decide +kernel
theorem dX9_mayPush_61 : decode cX9_mayPush 61 = .ok (.aload_n 0, 1) := by decide +kernel
theorem dX9_mayPush_62 : decode cX9_mayPush 62 = .ok (.aload_n 0, 1) := by decide +kernel
theorem dX9_mayPush_63 : decode cX9_mayPush 63 = .ok (.iload 5, 2) := by decide +kernel
theorem dX9_mayPush_65 : decode cX9_mayPush 65 = .ok (.iconst 0, 1) := by decide +kernel
theorem dX9_mayPush_66 : decode cX9_mayPush 66 = .ok (.invokevirtual 45, 3) := by decide +kernel
theorem dX9_mayPush_69 : decode cX9_mayPush 69 = .ok (.aload_n 0, 1) := by decide +kernel
theorem dX9_mayPush_70 : decode cX9_mayPush 70 = .ok (.iload 5, 2) := by decide +kernel
theorem dX9_mayPush_72 : decode cX9_mayPush 72 = .ok (.iconst 1, 1) := by decide +kernel
theorem dX9_mayPush_73 : decode cX9_mayPush 73 = .ok (.invokevirtual 45, 3) := by decide +kernel
theorem dX9_mayPush_76 : decode cX9_mayPush 76 = .ok (.aload_n 0, 1) := by decide +kernel
theorem dX9_mayPush_77 : decode cX9_mayPush 77 = .ok (.iload 5, 2) := by decide +kernel
theorem dX9_mayPush_79 : decode cX9_mayPush 79 = .ok (.iconst 2, 1) := by decide +kernel
theorem dX9_mayPush_80 : decode cX9_mayPush 80 = .ok (.invokevirtual 45, 3) := by decide +kernel
theorem dX9_mayPush_83 : decode cX9_mayPush 83 = .ok (.invokevirtual 83, 3) := by decide +kernel
theorem dX9_mayPush_86 : decode cX9_mayPush 86 = .ok (.iinc 5 1, 3) := by decide +kernel
theorem dX9_mayPush_89 : decode cX9_mayPush 89 = .ok (.goto (-39), 3) := by decide +kernel
theorem dX9_mayPush_92 : decode cX9_mayPush 92 = .ok (.iconst 0, 1) := by decide +kernel
theorem dX9_mayPush_93 : decode cX9_mayPush 93 = .ok (.istore 5, 2) := by decide +kernel
theorem dX9_mayPush_95 : decode cX9_mayPush 95 = .ok (.iload 5, 2) := by decide +kernel
theorem dX9_mayPush_97 : decode cX9_mayPush 97 = .ok (.iload_n 1, 1) := by decide +kernel
theorem dX9_mayPush_98 : decode cX9_mayPush 98 = .ok (.if_icmp .ge 34, 3) := by decide +kernel
theorem dX9_mayPush_101 : decode cX9_mayPush 101 = .ok (.aload_n 0, 1) := by decide +kernel
theorem dX9_mayPush_102 : decode cX9_mayPush 102 = .ok (.aload_n 0, 1) := by decide +kernel
theorem dX9_mayPush_103 : decode cX9_mayPush 103 = .ok (.iload 5, 2) := by decide +kernel
theorem dX9_mayPush_105 : decode cX9_mayPush 105 = .ok (.iconst 0, 1) := by decide +kernel
theorem dX9_mayPush_106 : decode cX9_mayPush 106 = .ok (.invokevirtual 45, 3) := by decide +kernel
theorem dX9_mayPush_109 : decode cX9_mayPush 109 = .ok (.aload_n 0, 1) := by decide +kernel
theorem dX9_mayPush_110 : decode cX9_mayPush 110 = .ok (.iload 5, 2) := by decide +kernel
end
section
theorem dX9_mayPush_112 : decode cX9_mayPush 112 = .ok (.iconst 1, 1) := by decide +kernel
theorem dX9_mayPush_113 : decode cX9_mayPush 113 = .ok (.invokevirtual 45, 3) := by decide +kernel
theorem dX9_mayPush_116 : decode cX9_mayPush 116 = .ok (.aload_n 0, 1) := by decide +kernel
theorem dX9_mayPush_117 : decode cX9_mayPush 117 = .ok (.iload 5, 2) := by decide +kernel
theorem dX9_mayPush_119 : decode cX9_mayPush 119 = .ok (.iconst 2, 1) := by decide +kernel
theorem dX9_mayPush_120 : decode cX9_mayPush 120 = .ok (.invokevirtual 45, 3) := by decide +kernel
theorem dX9_mayPush_123 : decode cX9_mayPush 123 = .ok (.invokevirtual 83, 3) := by decide +kernel
theorem dX9_mayPush_126 : decode cX9_mayPush 126 = .ok (.iinc 5 1, 3) := by decide +kernel
theorem dX9_mayPush_129 : decode cX9_mayPush 129 = .ok (.goto (-34), 3) := by decide +kernel
theorem dX9_mayPush_132 : decode cX9_mayPush 132 = .ok (.aload_n 0, 1) := by decide +kernel
theorem dX9_mayPush_133 : decode cX9_mayPush 133 = .ok (.iload_n 3, 1) := by decide +kernel
theorem dX9_mayPush_134 : decode cX9_mayPush 134 = .ok (.iload_n 2, 1) := by decide +kernel
theorem dX9_mayPush_135 : decode cX9_mayPush 135 = .ok (.iload 4, 2) := by decide +kernel
theorem dX9_mayPush_137 : decode cX9_mayPush 137 = .ok (.invokevirtual 83, 3) := by decide +kernel
theorem dX9_mayPush_140 : decode cX9_mayPush 140 = .ok (.aload_n 0, 1) := by decide +kernel
theorem dX9_mayPush_141 : decode cX9_mayPush 141 = .ok (.iload_n 3, 1) := by decide +kernel
theorem dX9_mayPush_142 : decode cX9_mayPush 142 = .ok (.invokevirtual 87, 3) := by decide +kernel
theorem dX9_mayPush_145 : decode cX9_mayPush 145 = .ok (.ifCond .ne 7, 3) := by decide +kernel
theorem dX9_mayPush_148 : decode cX9_mayPush 148 = .ok (.iconst 1, 1) := by decide +kernel
theorem dX9_mayPush_149 : decode cX9_mayPush 149 = .ok (.goto 4, 3) := by decide +kernel
theorem dX9_mayPush_152 : decode cX9_mayPush 152 = .ok (.iconst 0, 1) := by decide +kernel
theorem dX9_mayPush_153 : decode cX9_mayPush 153 = .ok (.ireturn, 1) := by decide +kernel
theorem dX9_treats_0 : decode cX9_treats 0 = .ok (.aload_n 0, 1) := by decide +kernel
theorem dX9_treats_1 : decode cX9_treats 1 = .ok (.iload_n 1, 1) := by decide +kernel
theorem dX9_treats_2 : decode cX9_treats 2 = .ok (.iconst 0, 1) := by decide +kernel
theorem dX9_treats_3 : decode cX9_treats 3 = .ok (.invokevirtual 45, 3) := by decide +kernel
theorem dX9_treats_6 : decode cX9_treats 6 = .ok (.istore_n 3, 1) := by decide +kernel
theorem dX9_treats_7 : decode cX9_treats 7 = .ok (.aload_n 0, 1) := by decide +kernel
theorem dX9_treats_8 : decode cX9_treats 8 = .ok (.iload_n 1, 1) := by decide +kernel
theorem dX9_treats_9 : decode cX9_treats 9 = .ok (.iconst 3, 1) := by decide +kernel
theorem dX9_treats_10 : decode cX9_treats 10 = .ok (.invokevirtual 45, 3) := by decide +kernel
theorem dX9_treats_13 : decode cX9_treats 13 = .ok (.iconst 1, 1) := by decide +kernel
theorem dX9_treats_14 : decode cX9_treats 14 = .ok (.if_icmp .ne 7, 3) := by decide +kernel
theorem dX9_treats_17 : decode cX9_treats 17 = .ok (.iconst 1, 1) := by decide +kernel
theorem dX9_treats_18 : decode cX9_treats 18 = .ok (.goto 4, 3) := by decide +kernel
theorem dX9_treats_21 : decode cX9_treats 21 = .ok (.iconst 0, 1) := by decide +kernel
theorem dX9_treats_22 : decode cX9_treats 22 = .ok (.istore 4, 2) := by decide +kernel
theorem dX9_treats_24 : decode cX9_treats 24 = .ok (.aload_n 0, 1) := by decide +kernel
theorem dX9_treats_25 : decode cX9_treats 25 = .ok (.iload_n 3, 1) := by decide +kernel
theorem dX9_treats_26 : decode cX9_treats 26 = .ok (.invokevirtual 59, 3) := by decide +kernel
theorem dX9_treats_29 : decode cX9_treats 29 = .ok (.iconst 2, 1) := by decide +kernel
theorem dX9_treats_30 : decode cX9_treats 30 = .ok (.if_icmp .eq 29, 3) := by decide +kernel
theorem dX9_treats_33 : decode cX9_treats 33 = .ok (.iload 4, 2) := by decide +kernel
theorem dX9_treats_35 : decode cX9_treats 35 = .ok (.ifCond .eq 15, 3) := by decide +kernel
theorem dX9_treats_38 : decode cX9_treats 38 = .ok (.aload_n 0, 1) := by decide +kernel
theorem dX9_treats_39 : decode cX9_treats 39 = .ok (.iload_n 1, 1) := by decide +kernel
theorem dX9_treats_40 : decode cX9_treats 40 = .ok (.invokevirtual 70, 3) := by decide +kernel
theorem dX9_treats_43 : decode cX9_treats 43 = .ok (.iload_n 2, 1) := by decide +kernel
theorem dX9_treats_44 : decode cX9_treats 44 = .ok (.if_icmp .gt 17, 3) := by decide +kernel
theorem dX9_treats_47 : decode cX9_treats 47 = .ok (.goto 12, 3) := by decide +kernel
theorem dX9_treats_50 : decode cX9_treats 50 = .ok (.aload_n 0, 1) := by decide +kernel
theorem dX9_treats_51 : decode cX9_treats 51 = .ok (.iload_n 1, 1) := by decide +kernel
theorem dX9_treats_52 : decode cX9_treats 52 = .ok (.iload_n 2, 1) := by decide +kernel
theorem dX9_treats_53 : decode cX9_treats 53 = .ok (.invokevirtual 117, 3) := by decide +kernel
theorem dX9_treats_56 : decode cX9_treats 56 = .ok (.ifCond .ne 5, 3) := by decide +kernel
theorem dX9_treats_59 : decode cX9_treats 59 = .ok (.iconst (-1), 1) := by decide +kernel
theorem dX9_treats_60 : decode cX9_treats 60 = .ok (.ireturn, 1) := by decide +kernel
theorem dX9_treats_61 : decode cX9_treats 61 = .ok (.iload 4, 2) := by decide +kernel
theorem dX9_treats_63 : decode cX9_treats 63 = .ok (.ifCond .eq 24, 3) := by decide +kernel
theorem dX9_treats_66 : decode cX9_treats 66 = .ok (.aload_n 0, 1) := by decide +kernel
theorem dX9_treats_67 : decode cX9_treats 67 = .ok (.getfield 7, 3) := by decide +kernel
theorem dX9_treats_70 : decode cX9_treats 70 = .ok (.sipush 230, 3) := by decide +kernel
theorem dX9_treats_73 : decode cX9_treats 73 = .ok (.iconst 4, 1) := by decide +kernel
theorem dX9_treats_74 : decode cX9_treats 74 = .ok (.iload_n 1, 1) := by decide +kernel
theorem dX9_treats_75 : decode cX9_treats 75 = .ok (.imul, 1) := by decide +kernel
theorem dX9_treats_76 : decode cX9_treats 76 = .ok (.iadd, 1) := by decide +kernel
theorem dX9_treats_77 : decode cX9_treats 77 = .ok (.iconst 2, 1) := by decide +kernel
theorem dX9_treats_78 : decode cX9_treats 78 = .ok (.iadd, 1) := by decide +kernel
theorem dX9_treats_79 : decode cX9_treats 79 = .ok (.aload_n 0, 1) := by decide +kernel
theorem dX9_treats_80 : decode cX9_treats 80 = .ok (.iload_n 1, 1) := by decide +kernel
theorem dX9_treats_81 : decode cX9_treats 81 = .ok (.invokevirtual 70, 3) := by decide +kernel
theorem dX9_treats_84 : decode cX9_treats 84 = .ok (.iload_n 2, 1) := by decide +kernel
theorem dX9_treats_85 : decode cX9_treats 85 = .ok (.isub, 1) := by decide +kernel
theorem dX9_treats_86 : decode cX9_treats 86 = .ok (.iastore, 1) := by decide +kernel
theorem dX9_treats_87 : decode cX9_treats 87 = .ok (.aload_n 0, 1) := by decide +kernel
theorem dX9_treats_88 : decode cX9_treats 88 = .ok (.getfield 7, 3) := by decide +kernel
theorem dX9_treats_91 : decode cX9_treats 91 = .ok (.sipush 230, 3) := by decide +kernel
theorem dX9_treats_94 : decode cX9_treats 94 = .ok (.iconst 4, 1) := by decide +kernel
theorem dX9_treats_95 : decode cX9_treats 95 = .ok (.iload_n 1, 1) := by decide +kernel
theorem dX9_treats_96 : decode cX9_treats 96 = .ok (.imul, 1) := by decide +kernel
theorem dX9_treats_97 : decode cX9_treats 97 = .ok (.iadd, 1) := by decide +kernel
theorem dX9_treats_98 : decode cX9_treats 98 = .ok (.iconst 1, 1) := by decide +kernel
theorem dX9_treats_99 : decode cX9_treats 99 = .ok (.iadd, 1) := by decide +kernel
theorem dX9_treats_100 : decode cX9_treats 100 = .ok (.iload_n 2, 1) := by decide +kernel
theorem dX9_treats_101 : decode cX9_treats 101 = .ok (.iastore, 1) := by decide +kernel
theorem dX9_treats_102 : decode cX9_treats 102 = .ok (.aload_n 0, 1) := by decide +kernel
theorem dX9_treats_103 : decode cX9_treats 103 = .ok (.iload_n 1, 1) := by decide +kernel
theorem dX9_treats_104 : decode cX9_treats 104 = .ok (.invokevirtual 70, 3) := by decide +kernel
theorem dX9_treats_107 : decode cX9_treats 107 = .ok (.ireturn, 1) := by decide +kernel
theorem dX9_runOver_0 : decode cX9_runOver 0 = .ok (.aload_n 0, 1) := by decide +kernel
theorem dX9_runOver_1 : decode cX9_runOver 1 = .ok (.iload_n 1, 1) := by decide +kernel
theorem dX9_runOver_2 : decode cX9_runOver 2 = .ok (.invokevirtual 100, 3) := by decide +kernel
theorem dX9_runOver_5 : decode cX9_runOver 5 = .ok (.ifCond .eq 13, 3) := by decide +kernel
theorem dX9_runOver_8 : decode cX9_runOver 8 = .ok (.iload_n 2, 1) := by decide +kernel
theorem dX9_runOver_9 : decode cX9_runOver 9 = .ok (.iconst 1, 1) := by decide +kernel
theorem dX9_runOver_10 : decode cX9_runOver 10 = .ok (.bipush 120, 2) := by decide +kernel
theorem dX9_runOver_12 : decode cX9_runOver 12 = .ok (.invokestatic 41, 3) := by decide +kernel
theorem dX9_runOver_15 : decode cX9_runOver 15 = .ok (.ifCond .ne 5, 3) := by decide +kernel
theorem dX9_runOver_18 : decode cX9_runOver 18 = .ok (.iconst (-1), 1) := by decide +kernel
theorem dX9_runOver_19 : decode cX9_runOver 19 = .ok (.ireturn, 1) := by decide +kernel
theorem dX9_runOver_20 : decode cX9_runOver 20 = .ok (.aload_n 0, 1) := by decide +kernel
theorem dX9_runOver_21 : decode cX9_runOver 21 = .ok (.aload_n 0, 1) := by decide +kernel
theorem dX9_runOver_22 : decode cX9_runOver 22 = .ok (.iload_n 1, 1) := by decide +kernel
theorem dX9_runOver_23 : decode cX9_runOver 23 = .ok (.iconst 0, 1) := by decide +kernel
theorem dX9_runOver_24 : decode cX9_runOver 24 = .ok (.invokevirtual 45, 3) := by decide +kernel
theorem dX9_runOver_27 : decode cX9_runOver 27 = .ok (.invokevirtual 59, 3) := by decide +kernel
theorem dX9_runOver_30 : decode cX9_runOver 30 = .ok (.iconst 1, 1) := by decide +kernel
theorem dX9_runOver_31 : decode cX9_runOver 31 = .ok (.if_icmp .eq 6, 3) := by decide +kernel
theorem dX9_runOver_34 : decode cX9_runOver 34 = .ok (.bipush (-2), 2) := by decide +kernel
theorem dX9_runOver_36 : decode cX9_runOver 36 = .ok (.ireturn, 1) := by decide +kernel
theorem dX9_runOver_37 : decode cX9_runOver 37 = .ok (.aload_n 0, 1) := by decide +kernel
theorem dX9_runOver_38 : decode cX9_runOver 38 = .ok (.iload_n 1, 1) := by decide +kernel
theorem dX9_runOver_39 : decode cX9_runOver 39 = .ok (.invokevirtual 70, 3) := by decide +kernel
theorem dX9_runOver_42 : decode cX9_runOver 42 = .ok (.iload_n 2, 1) := by decide +kernel
theorem dX9_runOver_43 : decode cX9_runOver 43 = .ok (.iadd, 1) := by decide +kernel
theorem dX9_runOver_44 : decode cX9_runOver 44 = .ok (.sipush 10080, 3) := by decide +kernel
theorem dX9_runOver_47 : decode cX9_runOver 47 = .ok (.if_icmp .le 6, 3) := by decide +kernel
theorem dX9_runOver_50 : decode cX9_runOver 50 = .ok (.bipush (-4), 2) := by decide +kernel
theorem dX9_runOver_52 : decode cX9_runOver 52 = .ok (.ireturn, 1) := by decide +kernel
theorem dX9_runOver_53 : decode cX9_runOver 53 = .ok (.aload_n 0, 1) := by decide +kernel
theorem dX9_runOver_54 : decode cX9_runOver 54 = .ok (.invokevirtual 49, 3) := by decide +kernel
theorem dX9_runOver_57 : decode cX9_runOver 57 = .ok (.aload_n 0, 1) := by decide +kernel
theorem dX9_runOver_58 : decode cX9_runOver 58 = .ok (.getfield 7, 3) := by decide +kernel
theorem dX9_runOver_61 : decode cX9_runOver 61 = .ok (.sipush 230, 3) := by decide +kernel
theorem dX9_runOver_64 : decode cX9_runOver 64 = .ok (.iconst 4, 1) := by decide +kernel
theorem dX9_runOver_65 : decode cX9_runOver 65 = .ok (.iload_n 1, 1) := by decide +kernel
theorem dX9_runOver_66 : decode cX9_runOver 66 = .ok (.imul, 1) := by decide +kernel
theorem dX9_runOver_67 : decode cX9_runOver 67 = .ok (.iadd, 1) := by decide +kernel
theorem dX9_runOver_68 : decode cX9_runOver 68 = .ok (.iconst 2, 1) := by decide +kernel
theorem dX9_runOver_69 : decode cX9_runOver 69 = .ok (.iadd, 1) := by decide +kernel
theorem dX9_runOver_70 : decode cX9_runOver 70 = .ok (.dup2, 1) := by decide +kernel
theorem dX9_runOver_71 : decode cX9_runOver 71 = .ok (.iaload, 1) := by decide +kernel
theorem dX9_runOver_72 : decode cX9_runOver 72 = .ok (.iload_n 2, 1) := by decide +kernel
theorem dX9_runOver_73 : decode cX9_runOver 73 = .ok (.iadd, 1) := by decide +kernel
theorem dX9_runOver_74 : decode cX9_runOver 74 = .ok (.iastore, 1) := by decide +kernel
theorem dX9_runOver_75 : decode cX9_runOver 75 = .ok (.aload_n 0, 1) := by decide +kernel
theorem dX9_runOver_76 : decode cX9_runOver 76 = .ok (.iload_n 1, 1) := by decide +kernel
theorem dX9_runOver_77 : decode cX9_runOver 77 = .ok (.invokevirtual 70, 3) := by decide +kernel
theorem dX9_runOver_80 : decode cX9_runOver 80 = .ok (.istore_n 3, 1) := by decide +kernel
theorem dX9_runOver_81 : decode cX9_runOver 81 = .ok (.iconst 0, 1) := by decide +kernel
theorem dX9_runOver_82 : decode cX9_runOver 82 = .ok (.istore 4, 2) := by decide +kernel
theorem dX9_runOver_84 : decode cX9_runOver 84 = .ok (.iload_n 1, 1) := by decide +kernel
theorem dX9_runOver_85 : decode cX9_runOver 85 = .ok (.iconst 1, 1) := by decide +kernel
theorem dX9_runOver_86 : decode cX9_runOver 86 = .ok (.iadd, 1) := by decide +kernel
theorem dX9_runOver_87 : decode cX9_runOver 87 = .ok (.istore 5, 2) := by decide +kernel
theorem dX9_runOver_89 : decode cX9_runOver 89 = .ok (.iload 5, 2) := by decide +kernel
theorem dX9_runOver_91 : decode cX9_runOver 91 = .ok (.aload_n 0, 1) := by decide +kernel
theorem dX9_runOver_92 : decode cX9_runOver 92 = .ok (.getfield 7, 3) := by decide +kernel
theorem dX9_runOver_95 : decode cX9_runOver 95 = .ok (.iconst 3, 1) := by decide +kernel
theorem dX9_runOver_96 : decode cX9_runOver 96 = .ok (.iaload, 1) := by decide +kernel
theorem dX9_runOver_97 : decode cX9_runOver 97 = .ok (.if_icmp .ge 90, 3) := by decide +kernel
theorem dX9_runOver_100 : decode cX9_runOver 100 = .ok (.aload_n 0, 1) := by decide +kernel
theorem dX9_runOver_101 : decode cX9_runOver 101 = .ok (.iload 5, 2) := by decide +kernel
theorem dX9_runOver_103 : decode cX9_runOver 103 = .ok (.iconst 1, 1) := by decide +kernel
theorem dX9_runOver_104 : decode cX9_runOver 104 = .ok (.invokevirtual 45, 3) := by decide +kernel
theorem dX9_runOver_107 : decode cX9_runOver 107 = .ok (.iload_n 3, 1) := by decide +kernel
theorem dX9_runOver_108 : decode cX9_runOver 108 = .ok (.if_icmp .ge 79, 3) := by decide +kernel
theorem dX9_runOver_111 : decode cX9_runOver 111 = .ok (.aload_n 0, 1) := by decide +kernel
theorem dX9_runOver_112 : decode cX9_runOver 112 = .ok (.iload 5, 2) := by decide +kernel
theorem dX9_runOver_114 : decode cX9_runOver 114 = .ok (.iconst 0, 1) := by decide +kernel
theorem dX9_runOver_115 : decode cX9_runOver 115 = .ok (.invokevirtual 45, 3) := by decide +kernel
theorem dX9_runOver_118 : decode cX9_runOver 118 = .ok (.istore 6, 2) := by decide +kernel
theorem dX9_runOver_120 : decode cX9_runOver 120 = .ok (.aload_n 0, 1) := by decide +kernel
theorem dX9_runOver_121 : decode cX9_runOver 121 = .ok (.iload 5, 2) := by decide +kernel
theorem dX9_runOver_123 : decode cX9_runOver 123 = .ok (.iload_n 3, 1) := by decide +kernel
theorem dX9_runOver_124 : decode cX9_runOver 124 = .ok (.invokevirtual 120, 3) := by decide +kernel
theorem dX9_runOver_127 : decode cX9_runOver 127 = .ok (.istore 7, 2) := by decide +kernel
theorem dX9_runOver_129 : decode cX9_runOver 129 = .ok (.iload 7, 2) := by decide +kernel
theorem dX9_runOver_131 : decode cX9_runOver 131 = .ok (.ifCond .ge 47, 3) := by decide +kernel
theorem dX9_runOver_134 : decode cX9_runOver 134 = .ok (.aload_n 0, 1) := by decide +kernel
theorem dX9_runOver_135 : decode cX9_runOver 135 = .ok (.getfield 7, 3) := by decide +kernel
theorem dX9_runOver_138 : decode cX9_runOver 138 = .ok (.bipush 10, 2) := by decide +kernel
theorem dX9_runOver_140 : decode cX9_runOver 140 = .ok (.iconst 4, 1) := by decide +kernel
theorem dX9_runOver_141 : decode cX9_runOver 141 = .ok (.iload 6, 2) := by decide +kernel
theorem dX9_runOver_143 : decode cX9_runOver 143 = .ok (.imul, 1) := by decide +kernel
theorem dX9_runOver_144 : decode cX9_runOver 144 = .ok (.iadd, 1) := by decide +kernel
theorem dX9_runOver_145 : decode cX9_runOver 145 = .ok (.iconst 3, 1) := by decide +kernel
theorem dX9_runOver_146 : decode cX9_runOver 146 = .ok (.iadd, 1) := by decide +kernel
theorem dX9_runOver_147 : decode cX9_runOver 147 = .ok (.dup2, 1) := by decide +kernel
theorem dX9_runOver_148 : decode cX9_runOver 148 = .ok (.iaload, 1) := by decide +kernel
theorem dX9_runOver_149 : decode cX9_runOver 149 = .ok (.aload_n 0, 1) := by decide +kernel
theorem dX9_runOver_150 : decode cX9_runOver 150 = .ok (.iload 6, 2) := by decide +kernel
theorem dX9_runOver_152 : decode cX9_runOver 152 = .ok (.invokevirtual 59, 3) := by decide +kernel
theorem dX9_runOver_155 : decode cX9_runOver 155 = .ok (.iconst 3, 1) := by decide +kernel
theorem dX9_runOver_156 : decode cX9_runOver 156 = .ok (.if_icmp .ne 7, 3) := by decide +kernel
theorem dX9_runOver_159 : decode cX9_runOver 159 = .ok (.iconst 1, 1) := by decide +kernel
theorem dX9_runOver_160 : decode cX9_runOver 160 = .ok (.goto 4, 3) := by decide +kernel
theorem dX9_runOver_163 : decode cX9_runOver 163 = .ok (.iconst 0, 1) := by decide +kernel
theorem dX9_runOver_164 : decode cX9_runOver 164 = .ok (.iadd, 1) := by decide +kernel
theorem dX9_runOver_165 : decode cX9_runOver 165 = .ok (.iastore, 1) := by decide +kernel
theorem dX9_runOver_166 : decode cX9_runOver 166 = .ok (.aload_n 0, 1) := by decide +kernel
theorem dX9_runOver_167 : decode cX9_runOver 167 = .ok (.iload 5, 2) := by decide +kernel
theorem dX9_runOver_169 : decode cX9_runOver 169 = .ok (.invokevirtual 103, 3) := by decide +kernel
theorem dX9_runOver_172 : decode cX9_runOver 172 = .ok (.iinc 4 1, 3) := by decide +kernel
theorem dX9_runOver_175 : decode cX9_runOver 175 = .ok (.goto 9, 3) := by decide +kernel
theorem dX9_runOver_178 : decode cX9_runOver 178 = .ok (.iload 7, 2) := by decide +kernel
theorem dX9_runOver_180 : decode cX9_runOver 180 = .ok (.istore_n 3, 1) := by decide +kernel
theorem dX9_runOver_181 : decode cX9_runOver 181 = .ok (.iinc 5 1, 3) := by decide +kernel
theorem dX9_runOver_184 : decode cX9_runOver 184 = .ok (.goto (-95), 3) := by decide +kernel
theorem dX9_runOver_187 : decode cX9_runOver 187 = .ok (.iload 4, 2) := by decide +kernel
theorem dX9_runOver_189 : decode cX9_runOver 189 = .ok (.ireturn, 1) := by decide +kernel
theorem dX9_makeGood_0 : decode cX9_makeGood 0 = .ok (.aload_n 0, 1) := by decide +kernel
theorem dX9_makeGood_1 : decode cX9_makeGood 1 = .ok (.iload_n 1, 1) := by decide +kernel
theorem dX9_makeGood_2 : decode cX9_makeGood 2 = .ok (.invokevirtual 52, 3) := by decide +kernel
theorem dX9_makeGood_5 : decode cX9_makeGood 5 = .ok (.ifCond .eq 14, 3) := by decide +kernel
theorem dX9_makeGood_8 : decode cX9_makeGood 8 = .ok (.iload_n 2, 1) := by decide +kernel
theorem dX9_makeGood_9 : decode cX9_makeGood 9 = .ok (.iconst 0, 1) := by decide +kernel
theorem dX9_makeGood_10 : decode cX9_makeGood 10 = .ok (.sipush 10079, 3) := by decide +kernel
theorem dX9_makeGood_13 : decode cX9_makeGood 13 = .ok (.invokestatic 41, 3) := by decide +kernel
theorem dX9_makeGood_16 : decode cX9_makeGood 16 = .ok (.ifCond .ne 5, 3) := by decide +kernel
theorem dX9_makeGood_19 : decode cX9_makeGood 19 = .ok (.iconst (-1), 1) := by decide +kernel
theorem dX9_makeGood_20 : decode cX9_makeGood 20 = .ok (.ireturn, 1) := by decide +kernel
theorem dX9_makeGood_21 : decode cX9_makeGood 21 = .ok (.aload_n 0, 1) := by decide +kernel
theorem dX9_makeGood_22 : decode cX9_makeGood 22 = .ok (.getfield 7, 3) := by decide +kernel
theorem dX9_makeGood_25 : decode cX9_makeGood 25 = .ok (.bipush 10, 2) := by decide +kernel
theorem dX9_makeGood_27 : decode cX9_makeGood 27 = .ok (.iconst 4, 1) := by decide +kernel
theorem dX9_makeGood_28 : decode cX9_makeGood 28 = .ok (.iload_n 1, 1) := by decide +kernel
theorem dX9_makeGood_29 : decode cX9_makeGood 29 = .ok (.imul, 1) := by decide +kernel
theorem dX9_makeGood_30 : decode cX9_makeGood 30 = .ok (.iadd, 1) := by decide +kernel
theorem dX9_makeGood_31 : decode cX9_makeGood 31 = .ok (.iconst 3, 1) := by decide +kernel
theorem dX9_makeGood_32 : decode cX9_makeGood 32 = .ok (.iadd, 1) := by decide +kernel
theorem dX9_makeGood_33 : decode cX9_makeGood 33 = .ok (.iaload, 1) := by decide +kernel
theorem dX9_makeGood_34 : decode cX9_makeGood 34 = .ok (.ifCond .ne 6, 3) := by decide +kernel
theorem dX9_makeGood_37 : decode cX9_makeGood 37 = .ok (.bipush (-2), 2) := by decide +kernel
theorem dX9_makeGood_39 : decode cX9_makeGood 39 = .ok (.ireturn, 1) := by decide +kernel
theorem dX9_makeGood_40 : decode cX9_makeGood 40 = .ok (.aload_n 0, 1) := by decide +kernel
theorem dX9_makeGood_41 : decode cX9_makeGood 41 = .ok (.iload_n 1, 1) := by decide +kernel
theorem dX9_makeGood_42 : decode cX9_makeGood 42 = .ok (.iload_n 2, 1) := by decide +kernel
theorem dX9_makeGood_43 : decode cX9_makeGood 43 = .ok (.invokevirtual 107, 3) := by decide +kernel
theorem dX9_makeGood_46 : decode cX9_makeGood 46 = .ok (.istore_n 3, 1) := by decide +kernel
theorem dX9_makeGood_47 : decode cX9_makeGood 47 = .ok (.iload_n 3, 1) := by decide +kernel
theorem dX9_makeGood_48 : decode cX9_makeGood 48 = .ok (.ifCond .ge 6, 3) := by decide +kernel
theorem dX9_makeGood_51 : decode cX9_makeGood 51 = .ok (.bipush (-9), 2) := by decide +kernel
theorem dX9_makeGood_53 : decode cX9_makeGood 53 = .ok (.ireturn, 1) := by decide +kernel
theorem dX9_makeGood_54 : decode cX9_makeGood 54 = .ok (.aload_n 0, 1) := by decide +kernel
theorem dX9_makeGood_55 : decode cX9_makeGood 55 = .ok (.invokevirtual 49, 3) := by decide +kernel
theorem dX9_makeGood_58 : decode cX9_makeGood 58 = .ok (.aload_n 0, 1) := by decide +kernel
theorem dX9_makeGood_59 : decode cX9_makeGood 59 = .ok (.iload_n 1, 1) := by decide +kernel
theorem dX9_makeGood_60 : decode cX9_makeGood 60 = .ok (.iload_n 3, 1) := by decide +kernel
theorem dX9_makeGood_61 : decode cX9_makeGood 61 = .ok (.aload_n 0, 1) := by decide +kernel
theorem dX9_makeGood_62 : decode cX9_makeGood 62 = .ok (.iload_n 1, 1) := by decide +kernel
theorem dX9_makeGood_63 : decode cX9_makeGood 63 = .ok (.invokevirtual 73, 3) := by decide +kernel
theorem dX9_makeGood_66 : decode cX9_makeGood 66 = .ok (.iconst 0, 1) := by decide +kernel
theorem dX9_makeGood_67 : decode cX9_makeGood 67 = .ok (.invokevirtual 96, 3) := by decide +kernel
theorem dX9_makeGood_70 : decode cX9_makeGood 70 = .ok (.istore 4, 2) := by decide +kernel
theorem dX9_makeGood_72 : decode cX9_makeGood 72 = .ok (.aload_n 0, 1) := by decide +kernel
theorem dX9_makeGood_73 : decode cX9_makeGood 73 = .ok (.getfield 7, 3) := by decide +kernel
theorem dX9_makeGood_76 : decode cX9_makeGood 76 = .ok (.bipush 10, 2) := by decide +kernel
theorem dX9_makeGood_78 : decode cX9_makeGood 78 = .ok (.iconst 4, 1) := by decide +kernel
theorem dX9_makeGood_79 : decode cX9_makeGood 79 = .ok (.iload_n 1, 1) := by decide +kernel
theorem dX9_makeGood_80 : decode cX9_makeGood 80 = .ok (.imul, 1) := by decide +kernel
theorem dX9_makeGood_81 : decode cX9_makeGood 81 = .ok (.iadd, 1) := by decide +kernel
theorem dX9_makeGood_82 : decode cX9_makeGood 82 = .ok (.iconst 3, 1) := by decide +kernel
theorem dX9_makeGood_83 : decode cX9_makeGood 83 = .ok (.iadd, 1) := by decide +kernel
theorem dX9_makeGood_84 : decode cX9_makeGood 84 = .ok (.dup2, 1) := by decide +kernel
theorem dX9_makeGood_85 : decode cX9_makeGood 85 = .ok (.iaload, 1) := by decide +kernel
theorem dX9_makeGood_86 : decode cX9_makeGood 86 = .ok (.iconst 1, 1) := by decide +kernel
theorem dX9_makeGood_87 : decode cX9_makeGood 87 = .ok (.isub, 1) := by decide +kernel
theorem dX9_makeGood_88 : decode cX9_makeGood 88 = .ok (.iastore, 1) := by decide +kernel
theorem dX9_makeGood_89 : decode cX9_makeGood 89 = .ok (.iload_n 3, 1) := by decide +kernel
theorem dX9_makeGood_90 : decode cX9_makeGood 90 = .ok (.ireturn, 1) := by decide +kernel
theorem dX9_items_0 : decode cX9_items 0 = .ok (.aload_n 0, 1) := by decide +kernel
theorem dX9_items_1 : decode cX9_items 1 = .ok (.getfield 7, 3) := by decide +kernel
theorem dX9_items_4 : decode cX9_items 4 = .ok (.iconst 3, 1) := by decide +kernel
theorem dX9_items_5 : decode cX9_items 5 = .ok (.iaload, 1) := by decide +kernel
theorem dX9_items_6 : decode cX9_items 6 = .ok (.ireturn, 1) := by decide +kernel
theorem dX9_told_0 : decode cX9_told 0 = .ok (.iload_n 2, 1) := by decide +kernel
theorem dX9_told_1 : decode cX9_told 1 = .ok (.iconst 4, 1) := by decide +kernel
theorem dX9_told_2 : decode cX9_told 2 = .ok (.if_icmp .ge 10, 3) := by decide +kernel
theorem dX9_told_5 : decode cX9_told 5 = .ok (.aload_n 0, 1) := by decide +kernel
theorem dX9_told_6 : decode cX9_told 6 = .ok (.iload_n 1, 1) := by decide +kernel
theorem dX9_told_7 : decode cX9_told 7 = .ok (.iload_n 2, 1) := by decide +kernel
theorem dX9_told_8 : decode cX9_told 8 = .ok (.invokevirtual 45, 3) := by decide +kernel
theorem dX9_told_11 : decode cX9_told 11 = .ok (.ireturn, 1) := by decide +kernel
theorem dX9_told_12 : decode cX9_told 12 = .ok (.aload_n 0, 1) := by decide +kernel
theorem dX9_told_13 : decode cX9_told 13 = .ok (.invokevirtual 80, 3) := by decide +kernel
theorem dX9_told_16 : decode cX9_told 16 = .ok (.aload_n 0, 1) := by decide +kernel
theorem dX9_told_17 : decode cX9_told 17 = .ok (.invokevirtual 67, 3) := by decide +kernel
theorem dX9_told_20 : decode cX9_told 20 = .ok (.aload_n 0, 1) := by decide +kernel
theorem dX9_told_21 : decode cX9_told 21 = .ok (.getfield 25, 3) := by decide +kernel
theorem dX9_told_24 : decode cX9_told 24 = .ok (.iload_n 1, 1) := by decide +kernel
theorem dX9_told_25 : decode cX9_told 25 = .ok (.iaload, 1) := by decide +kernel
theorem dX9_told_26 : decode cX9_told 26 = .ok (.ireturn, 1) := by decide +kernel
theorem dX9_item_0 : decode cX9_item 0 = .ok (.aload_n 0, 1) := by decide +kernel
theorem dX9_item_1 : decode cX9_item 1 = .ok (.iload_n 1, 1) := by decide +kernel
theorem dX9_item_2 : decode cX9_item 2 = .ok (.invokevirtual 100, 3) := by decide +kernel
theorem dX9_item_5 : decode cX9_item 5 = .ok (.ifCond .eq 21, 3) := by decide +kernel
theorem dX9_item_8 : decode cX9_item 8 = .ok (.iload_n 2, 1) := by decide +kernel
theorem dX9_item_9 : decode cX9_item 9 = .ok (.iconst 0, 1) := by decide +kernel
theorem dX9_item_10 : decode cX9_item 10 = .ok (.iconst 4, 1) := by decide +kernel
theorem dX9_item_11 : decode cX9_item 11 = .ok (.invokestatic 41, 3) := by decide +kernel
theorem dX9_item_14 : decode cX9_item 14 = .ok (.ifCond .eq 12, 3) := by decide +kernel
theorem dX9_item_17 : decode cX9_item 17 = .ok (.aload_n 0, 1) := by decide +kernel
theorem dX9_item_18 : decode cX9_item 18 = .ok (.iload_n 1, 1) := by decide +kernel
theorem dX9_item_19 : decode cX9_item 19 = .ok (.iload_n 2, 1) := by decide +kernel
theorem dX9_item_20 : decode cX9_item 20 = .ok (.invokevirtual 123, 3) := by decide +kernel
theorem dX9_item_23 : decode cX9_item 23 = .ok (.goto 4, 3) := by decide +kernel
theorem dX9_item_26 : decode cX9_item 26 = .ok (.iconst (-1), 1) := by decide +kernel
theorem dX9_item_27 : decode cX9_item 27 = .ok (.ireturn, 1) := by decide +kernel
theorem dX9_itemAt_0 : decode cX9_itemAt 0 = .ok (.iconst 0, 1) := by decide +kernel
theorem dX9_itemAt_1 : decode cX9_itemAt 1 = .ok (.istore_n 2, 1) := by decide +kernel
theorem dX9_itemAt_2 : decode cX9_itemAt 2 = .ok (.iload_n 2, 1) := by decide +kernel
theorem dX9_itemAt_3 : decode cX9_itemAt 3 = .ok (.aload_n 0, 1) := by decide +kernel
theorem dX9_itemAt_4 : decode cX9_itemAt 4 = .ok (.getfield 7, 3) := by decide +kernel
theorem dX9_itemAt_7 : decode cX9_itemAt 7 = .ok (.iconst 3, 1) := by decide +kernel
theorem dX9_itemAt_8 : decode cX9_itemAt 8 = .ok (.iaload, 1) := by decide +kernel
theorem dX9_itemAt_9 : decode cX9_itemAt 9 = .ok (.if_icmp .ge 31, 3) := by decide +kernel
theorem dX9_itemAt_12 : decode cX9_itemAt 12 = .ok (.iload_n 1, 1) := by decide +kernel
theorem dX9_itemAt_13 : decode cX9_itemAt 13 = .ok (.aload_n 0, 1) := by decide +kernel
theorem dX9_itemAt_14 : decode cX9_itemAt 14 = .ok (.iload_n 2, 1) := by decide +kernel
theorem dX9_itemAt_15 : decode cX9_itemAt 15 = .ok (.iconst 1, 1) := by decide +kernel
theorem dX9_itemAt_16 : decode cX9_itemAt 16 = .ok (.invokevirtual 45, 3) := by decide +kernel
theorem dX9_itemAt_19 : decode cX9_itemAt 19 = .ok (.aload_n 0, 1) := by decide +kernel
theorem dX9_itemAt_20 : decode cX9_itemAt 20 = .ok (.iload_n 2, 1) := by decide +kernel
theorem dX9_itemAt_21 : decode cX9_itemAt 21 = .ok (.invokevirtual 70, 3) := by decide +kernel
theorem dX9_itemAt_24 : decode cX9_itemAt 24 = .ok (.iconst 1, 1) := by decide +kernel
theorem dX9_itemAt_25 : decode cX9_itemAt 25 = .ok (.isub, 1) := by decide +kernel
theorem dX9_itemAt_26 : decode cX9_itemAt 26 = .ok (.invokestatic 41, 3) := by decide +kernel
theorem dX9_itemAt_29 : decode cX9_itemAt 29 = .ok (.ifCond .eq 5, 3) := by decide +kernel
theorem dX9_itemAt_32 : decode cX9_itemAt 32 = .ok (.iload_n 2, 1) := by decide +kernel
theorem dX9_itemAt_33 : decode cX9_itemAt 33 = .ok (.ireturn, 1) := by decide +kernel
theorem dX9_itemAt_34 : decode cX9_itemAt 34 = .ok (.iinc 2 1, 3) := by decide +kernel
theorem dX9_itemAt_37 : decode cX9_itemAt 37 = .ok (.goto (-35), 3) := by decide +kernel
theorem dX9_itemAt_40 : decode cX9_itemAt 40 = .ok (.bipush (-9), 2) := by decide +kernel
theorem dX9_itemAt_42 : decode cX9_itemAt 42 = .ok (.ireturn, 1) := by decide +kernel
theorem dX9_onAir_0 : decode cX9_onAir 0 = .ok (.iload_n 1, 1) := by decide +kernel
theorem dX9_onAir_1 : decode cX9_onAir 1 = .ok (.iconst 0, 1) := by decide +kernel
theorem dX9_onAir_2 : decode cX9_onAir 2 = .ok (.sipush 10079, 3) := by decide +kernel
theorem dX9_onAir_5 : decode cX9_onAir 5 = .ok (.invokestatic 41, 3) := by decide +kernel
theorem dX9_onAir_8 : decode cX9_onAir 8 = .ok (.ifCond .eq 11, 3) := by decide +kernel
theorem dX9_onAir_11 : decode cX9_onAir 11 = .ok (.aload_n 0, 1) := by decide +kernel
theorem dX9_onAir_12 : decode cX9_onAir 12 = .ok (.iload_n 1, 1) := by decide +kernel
theorem dX9_onAir_13 : decode cX9_onAir 13 = .ok (.invokevirtual 126, 3) := by decide +kernel
theorem dX9_onAir_16 : decode cX9_onAir 16 = .ok (.goto 4, 3) := by decide +kernel
theorem dX9_onAir_19 : decode cX9_onAir 19 = .ok (.iconst (-1), 1) := by decide +kernel
theorem dX9_onAir_20 : decode cX9_onAir 20 = .ok (.ireturn, 1) := by decide +kernel
theorem dX9_leftOf_0 : decode cX9_leftOf 0 = .ok (.aload_n 0, 1) := by decide +kernel
theorem dX9_leftOf_1 : decode cX9_leftOf 1 = .ok (.invokevirtual 80, 3) := by decide +kernel
theorem dX9_leftOf_4 : decode cX9_leftOf 4 = .ok (.aload_n 0, 1) := by decide +kernel
theorem dX9_leftOf_5 : decode cX9_leftOf 5 = .ok (.invokevirtual 67, 3) := by decide +kernel
theorem dX9_leftOf_8 : decode cX9_leftOf 8 = .ok (.aload_n 0, 1) := by decide +kernel
theorem dX9_leftOf_9 : decode cX9_leftOf 9 = .ok (.getfield 28, 3) := by decide +kernel
theorem dX9_leftOf_12 : decode cX9_leftOf 12 = .ok (.iload_n 1, 1) := by decide +kernel
theorem dX9_leftOf_13 : decode cX9_leftOf 13 = .ok (.iaload, 1) := by decide +kernel
theorem dX9_leftOf_14 : decode cX9_leftOf 14 = .ok (.ireturn, 1) := by decide +kernel
theorem dX9_left_0 : decode cX9_left 0 = .ok (.iload_n 1, 1) := by decide +kernel
theorem dX9_left_1 : decode cX9_left 1 = .ok (.iconst 0, 1) := by decide +kernel
theorem dX9_left_2 : decode cX9_left 2 = .ok (.aload_n 0, 1) := by decide +kernel
theorem dX9_left_3 : decode cX9_left 3 = .ok (.getfield 7, 3) := by decide +kernel
theorem dX9_left_6 : decode cX9_left 6 = .ok (.iconst 2, 1) := by decide +kernel
theorem dX9_left_7 : decode cX9_left 7 = .ok (.iaload, 1) := by decide +kernel
theorem dX9_left_8 : decode cX9_left 8 = .ok (.iconst 1, 1) := by decide +kernel
theorem dX9_left_9 : decode cX9_left 9 = .ok (.isub, 1) := by decide +kernel
theorem dX9_left_10 : decode cX9_left 10 = .ok (.invokestatic 41, 3) := by decide +kernel
theorem dX9_left_13 : decode cX9_left 13 = .ok (.ifCond .eq 11, 3) := by decide +kernel
theorem dX9_left_16 : decode cX9_left 16 = .ok (.aload_n 0, 1) := by decide +kernel
theorem dX9_left_17 : decode cX9_left 17 = .ok (.iload_n 1, 1) := by decide +kernel
theorem dX9_left_18 : decode cX9_left 18 = .ok (.invokevirtual 129, 3) := by decide +kernel
theorem dX9_left_21 : decode cX9_left 21 = .ok (.goto 4, 3) := by decide +kernel
theorem dX9_left_24 : decode cX9_left 24 = .ok (.iconst (-1), 1) := by decide +kernel
theorem dX9_left_25 : decode cX9_left 25 = .ok (.ireturn, 1) := by decide +kernel
theorem dX9_mayPlace_0 : decode cX9_mayPlace 0 = .ok (.aload_n 0, 1) := by decide +kernel
theorem dX9_mayPlace_1 : decode cX9_mayPlace 1 = .ok (.iload_n 1, 1) := by decide +kernel
theorem dX9_mayPlace_2 : decode cX9_mayPlace 2 = .ok (.invokevirtual 52, 3) := by decide +kernel
theorem dX9_mayPlace_5 : decode cX9_mayPlace 5 = .ok (.ifCond .eq 23, 3) := by decide +kernel
theorem dX9_mayPlace_8 : decode cX9_mayPlace 8 = .ok (.iload_n 2, 1) := by decide +kernel
theorem dX9_mayPlace_9 : decode cX9_mayPlace 9 = .ok (.iconst 0, 1) := by decide +kernel
theorem dX9_mayPlace_10 : decode cX9_mayPlace 10 = .ok (.sipush 10079, 3) := by decide +kernel
theorem dX9_mayPlace_13 : decode cX9_mayPlace 13 = .ok (.invokestatic 41, 3) := by decide +kernel
theorem dX9_mayPlace_16 : decode cX9_mayPlace 16 = .ok (.ifCond .eq 12, 3) := by decide +kernel
theorem dX9_mayPlace_19 : decode cX9_mayPlace 19 = .ok (.aload_n 0, 1) := by decide +kernel
theorem dX9_mayPlace_20 : decode cX9_mayPlace 20 = .ok (.iload_n 1, 1) := by decide +kernel
theorem dX9_mayPlace_21 : decode cX9_mayPlace 21 = .ok (.iload_n 2, 1) := by decide +kernel
theorem dX9_mayPlace_22 : decode cX9_mayPlace 22 = .ok (.invokevirtual 93, 3) := by decide +kernel
theorem dX9_mayPlace_25 : decode cX9_mayPlace 25 = .ok (.goto 4, 3) := by decide +kernel
theorem dX9_mayPlace_28 : decode cX9_mayPlace 28 = .ok (.iconst (-1), 1) := by decide +kernel
theorem dX9_mayPlace_29 : decode cX9_mayPlace 29 = .ok (.ireturn, 1) := by decide +kernel
theorem dX9_owed_0 : decode cX9_owed 0 = .ok (.aload_n 0, 1) := by decide +kernel
theorem dX9_owed_1 : decode cX9_owed 1 = .ok (.iload_n 1, 1) := by decide +kernel
theorem dX9_owed_2 : decode cX9_owed 2 = .ok (.invokevirtual 52, 3) := by decide +kernel
theorem dX9_owed_5 : decode cX9_owed 5 = .ok (.ifCond .eq 19, 3) := by decide +kernel
theorem dX9_owed_8 : decode cX9_owed 8 = .ok (.aload_n 0, 1) := by decide +kernel
theorem dX9_owed_9 : decode cX9_owed 9 = .ok (.getfield 7, 3) := by decide +kernel
theorem dX9_owed_12 : decode cX9_owed 12 = .ok (.bipush 10, 2) := by decide +kernel
theorem dX9_owed_14 : decode cX9_owed 14 = .ok (.iconst 4, 1) := by decide +kernel
theorem dX9_owed_15 : decode cX9_owed 15 = .ok (.iload_n 1, 1) := by decide +kernel
theorem dX9_owed_16 : decode cX9_owed 16 = .ok (.imul, 1) := by decide +kernel
theorem dX9_owed_17 : decode cX9_owed 17 = .ok (.iadd, 1) := by decide +kernel
theorem dX9_owed_18 : decode cX9_owed 18 = .ok (.iconst 3, 1) := by decide +kernel
theorem dX9_owed_19 : decode cX9_owed 19 = .ok (.iadd, 1) := by decide +kernel
theorem dX9_owed_20 : decode cX9_owed 20 = .ok (.iaload, 1) := by decide +kernel
theorem dX9_owed_21 : decode cX9_owed 21 = .ok (.goto 4, 3) := by decide +kernel
theorem dX9_owed_24 : decode cX9_owed 24 = .ok (.iconst (-1), 1) := by decide +kernel
theorem dX9_owed_25 : decode cX9_owed 25 = .ok (.ireturn, 1) := by decide +kernel
theorem dX9_isSpan_0 : decode cX9_isSpan 0 = .ok (.iload_n 0, 1) := by decide +kernel
theorem dX9_isSpan_1 : decode cX9_isSpan 1 = .ok (.iconst 0, 1) := by decide +kernel
theorem dX9_isSpan_2 : decode cX9_isSpan 2 = .ok (.sipush 10079, 3) := by decide +kernel
theorem dX9_isSpan_5 : decode cX9_isSpan 5 = .ok (.invokestatic 41, 3) := by decide +kernel
theorem dX9_isSpan_8 : decode cX9_isSpan 8 = .ok (.ifCond .eq 20, 3) := by decide +kernel
theorem dX9_isSpan_11 : decode cX9_isSpan 11 = .ok (.iload_n 1, 1) := by decide +kernel
theorem dX9_isSpan_12 : decode cX9_isSpan 12 = .ok (.iload_n 0, 1) := by decide +kernel
theorem dX9_isSpan_13 : decode cX9_isSpan 13 = .ok (.iconst 1, 1) := by decide +kernel
theorem dX9_isSpan_14 : decode cX9_isSpan 14 = .ok (.iadd, 1) := by decide +kernel
theorem dX9_isSpan_15 : decode cX9_isSpan 15 = .ok (.sipush 10080, 3) := by decide +kernel
theorem dX9_isSpan_18 : decode cX9_isSpan 18 = .ok (.invokestatic 41, 3) := by decide +kernel
theorem dX9_isSpan_21 : decode cX9_isSpan 21 = .ok (.ifCond .eq 7, 3) := by decide +kernel
theorem dX9_isSpan_24 : decode cX9_isSpan 24 = .ok (.iconst 1, 1) := by decide +kernel
theorem dX9_isSpan_25 : decode cX9_isSpan 25 = .ok (.goto 4, 3) := by decide +kernel
theorem dX9_isSpan_28 : decode cX9_isSpan 28 = .ok (.iconst 0, 1) := by decide +kernel
theorem dX9_isSpan_29 : decode cX9_isSpan 29 = .ok (.ireturn, 1) := by decide +kernel
theorem dX9_minutes_0 : decode cX9_minutes 0 = .ok (.iload_n 1, 1) := by decide +kernel
theorem dX9_minutes_1 : decode cX9_minutes 1 = .ok (.iconst 0, 1) := by decide +kernel
theorem dX9_minutes_2 : decode cX9_minutes 2 = .ok (.iconst 4, 1) := by decide +kernel
theorem dX9_minutes_3 : decode cX9_minutes 3 = .ok (.invokestatic 41, 3) := by decide +kernel
theorem dX9_minutes_6 : decode cX9_minutes 6 = .ok (.ifCond .eq 11, 3) := by decide +kernel
theorem dX9_minutes_9 : decode cX9_minutes 9 = .ok (.iload_n 2, 1) := by decide +kernel
theorem dX9_minutes_10 : decode cX9_minutes 10 = .ok (.iload_n 3, 1) := by decide +kernel
theorem dX9_minutes_11 : decode cX9_minutes 11 = .ok (.invokestatic 132, 3) := by decide +kernel
theorem dX9_minutes_14 : decode cX9_minutes 14 = .ok (.ifCond .ne 5, 3) := by decide +kernel
theorem dX9_minutes_17 : decode cX9_minutes 17 = .ok (.iconst (-1), 1) := by decide +kernel
theorem dX9_minutes_18 : decode cX9_minutes 18 = .ok (.ireturn, 1) := by decide +kernel
theorem dX9_minutes_19 : decode cX9_minutes 19 = .ok (.iload_n 1, 1) := by decide +kernel
theorem dX9_minutes_20 : decode cX9_minutes 20 = .ok (.iconst 4, 1) := by decide +kernel
theorem dX9_minutes_21 : decode cX9_minutes 21 = .ok (.if_icmp .ne 9, 3) := by decide +kernel
theorem dX9_minutes_24 : decode cX9_minutes 24 = .ok (.iload_n 3, 1) := by decide +kernel
theorem dX9_minutes_25 : decode cX9_minutes 25 = .ok (.iload_n 2, 1) := by decide +kernel
theorem dX9_minutes_26 : decode cX9_minutes 26 = .ok (.isub, 1) := by decide +kernel
theorem dX9_minutes_27 : decode cX9_minutes 27 = .ok (.goto 4, 3) := by decide +kernel
theorem dX9_minutes_30 : decode cX9_minutes 30 = .ok (.iconst 0, 1) := by decide +kernel
theorem dX9_minutes_31 : decode cX9_minutes 31 = .ok (.istore 4, 2) := by decide +kernel
theorem dX9_minutes_33 : decode cX9_minutes 33 = .ok (.iconst 0, 1) := by decide +kernel
theorem dX9_minutes_34 : decode cX9_minutes 34 = .ok (.istore 5, 2) := by decide +kernel
theorem dX9_minutes_36 : decode cX9_minutes 36 = .ok (.iload 5, 2) := by decide +kernel
theorem dX9_minutes_38 : decode cX9_minutes 38 = .ok (.aload_n 0, 1) := by decide +kernel
theorem dX9_minutes_39 : decode cX9_minutes 39 = .ok (.getfield 7, 3) := by decide +kernel
theorem dX9_minutes_42 : decode cX9_minutes 42 = .ok (.iconst 3, 1) := by decide +kernel
theorem dX9_minutes_43 : decode cX9_minutes 43 = .ok (.iaload, 1) := by decide +kernel
theorem dX9_minutes_44 : decode cX9_minutes 44 = .ok (.if_icmp .ge 110, 3) := by decide +kernel
theorem dX9_minutes_47 : decode cX9_minutes 47 = .ok (.aload_n 0, 1) := by decide +kernel
theorem dX9_minutes_48 : decode cX9_minutes 48 = .ok (.iload 5, 2) := by decide +kernel
theorem dX9_minutes_50 : decode cX9_minutes 50 = .ok (.iconst 1, 1) := by decide +kernel
theorem dX9_minutes_51 : decode cX9_minutes 51 = .ok (.invokevirtual 45, 3) := by decide +kernel
theorem dX9_minutes_54 : decode cX9_minutes 54 = .ok (.iload_n 2, 1) := by decide +kernel
theorem dX9_minutes_55 : decode cX9_minutes 55 = .ok (.if_icmp .le 13, 3) := by decide +kernel
theorem dX9_minutes_58 : decode cX9_minutes 58 = .ok (.aload_n 0, 1) := by decide +kernel
theorem dX9_minutes_59 : decode cX9_minutes 59 = .ok (.iload 5, 2) := by decide +kernel
theorem dX9_minutes_61 : decode cX9_minutes 61 = .ok (.iconst 1, 1) := by decide +kernel
theorem dX9_minutes_62 : decode cX9_minutes 62 = .ok (.invokevirtual 45, 3) := by decide +kernel
theorem dX9_minutes_65 : decode cX9_minutes 65 = .ok (.goto 4, 3) := by decide +kernel
theorem dX9_minutes_68 : decode cX9_minutes 68 = .ok (.iload_n 2, 1) := by decide +kernel
theorem dX9_minutes_69 : decode cX9_minutes 69 = .ok (.istore 6, 2) := by decide +kernel
theorem dX9_minutes_71 : decode cX9_minutes 71 = .ok (.aload_n 0, 1) := by decide +kernel
theorem dX9_minutes_72 : decode cX9_minutes 72 = .ok (.iload 5, 2) := by decide +kernel
theorem dX9_minutes_74 : decode cX9_minutes 74 = .ok (.invokevirtual 70, 3) := by decide +kernel
theorem dX9_minutes_77 : decode cX9_minutes 77 = .ok (.iload_n 3, 1) := by decide +kernel
theorem dX9_minutes_78 : decode cX9_minutes 78 = .ok (.if_icmp .ge 12, 3) := by decide +kernel
theorem dX9_minutes_81 : decode cX9_minutes 81 = .ok (.aload_n 0, 1) := by decide +kernel
theorem dX9_minutes_82 : decode cX9_minutes 82 = .ok (.iload 5, 2) := by decide +kernel
theorem dX9_minutes_84 : decode cX9_minutes 84 = .ok (.invokevirtual 70, 3) := by decide +kernel
theorem dX9_minutes_87 : decode cX9_minutes 87 = .ok (.goto 4, 3) := by decide +kernel
theorem dX9_minutes_90 : decode cX9_minutes 90 = .ok (.iload_n 3, 1) := by decide +kernel
theorem dX9_minutes_91 : decode cX9_minutes 91 = .ok (.istore 7, 2) := by decide +kernel
theorem dX9_minutes_93 : decode cX9_minutes 93 = .ok (.iload 7, 2) := by decide +kernel
theorem dX9_minutes_95 : decode cX9_minutes 95 = .ok (.iload 6, 2) := by decide +kernel
theorem dX9_minutes_97 : decode cX9_minutes 97 = .ok (.if_icmp .le 11, 3) := by decide +kernel
theorem dX9_minutes_100 : decode cX9_minutes 100 = .ok (.iload 7, 2) := by decide +kernel
theorem dX9_minutes_102 : decode cX9_minutes 102 = .ok (.iload 6, 2) := by decide +kernel
theorem dX9_minutes_104 : decode cX9_minutes 104 = .ok (.isub, 1) := by decide +kernel
theorem dX9_minutes_105 : decode cX9_minutes 105 = .ok (.goto 4, 3) := by decide +kernel
theorem dX9_minutes_108 : decode cX9_minutes 108 = .ok (.iconst 0, 1) := by decide +kernel
theorem dX9_minutes_109 : decode cX9_minutes 109 = .ok (.istore 8, 2) := by decide +kernel
theorem dX9_minutes_111 : decode cX9_minutes 111 = .ok (.iload 4, 2) := by decide +kernel
theorem dX9_minutes_113 : decode cX9_minutes 113 = .ok (.iload_n 1, 1) := by decide +kernel
theorem dX9_minutes_114 : decode cX9_minutes 114 = .ok (.iconst 4, 1) := by decide +kernel
theorem dX9_minutes_115 : decode cX9_minutes 115 = .ok (.if_icmp .ne 9, 3) := by decide +kernel
theorem dX9_minutes_118 : decode cX9_minutes 118 = .ok (.iload 8, 2) := by decide +kernel
theorem dX9_minutes_120 : decode cX9_minutes 120 = .ok (.ineg, 1) := by decide +kernel
theorem dX9_minutes_121 : decode cX9_minutes 121 = .ok (.goto 24, 3) := by decide +kernel
theorem dX9_minutes_124 : decode cX9_minutes 124 = .ok (.aload_n 0, 1) := by decide +kernel
theorem dX9_minutes_125 : decode cX9_minutes 125 = .ok (.aload_n 0, 1) := by decide +kernel
theorem dX9_minutes_126 : decode cX9_minutes 126 = .ok (.iload 5, 2) := by decide +kernel
theorem dX9_minutes_128 : decode cX9_minutes 128 = .ok (.iconst 0, 1) := by decide +kernel
theorem dX9_minutes_129 : decode cX9_minutes 129 = .ok (.invokevirtual 45, 3) := by decide +kernel
theorem dX9_minutes_132 : decode cX9_minutes 132 = .ok (.invokevirtual 59, 3) := by decide +kernel
theorem dX9_minutes_135 : decode cX9_minutes 135 = .ok (.iload_n 1, 1) := by decide +kernel
theorem dX9_minutes_136 : decode cX9_minutes 136 = .ok (.if_icmp .ne 8, 3) := by decide +kernel
theorem dX9_minutes_139 : decode cX9_minutes 139 = .ok (.iload 8, 2) := by decide +kernel
theorem dX9_minutes_141 : decode cX9_minutes 141 = .ok (.goto 4, 3) := by decide +kernel
theorem dX9_minutes_144 : decode cX9_minutes 144 = .ok (.iconst 0, 1) := by decide +kernel
theorem dX9_minutes_145 : decode cX9_minutes 145 = .ok (.iadd, 1) := by decide +kernel
theorem dX9_minutes_146 : decode cX9_minutes 146 = .ok (.istore 4, 2) := by decide +kernel
theorem dX9_minutes_148 : decode cX9_minutes 148 = .ok (.iinc 5 1, 3) := by decide +kernel
theorem dX9_minutes_151 : decode cX9_minutes 151 = .ok (.goto (-115), 3) := by decide +kernel
theorem dX9_minutes_154 : decode cX9_minutes 154 = .ok (.iload 4, 2) := by decide +kernel
theorem dX9_minutes_156 : decode cX9_minutes 156 = .ok (.ireturn, 1) := by decide +kernel
theorem dX9_silence_0 : decode cX9_silence 0 = .ok (.iload_n 1, 1) := by decide +kernel
theorem dX9_silence_1 : decode cX9_silence 1 = .ok (.iload_n 2, 1) := by decide +kernel
theorem dX9_silence_2 : decode cX9_silence 2 = .ok (.invokestatic 132, 3) := by decide +kernel
theorem dX9_silence_5 : decode cX9_silence 5 = .ok (.ifCond .ne 5, 3) := by decide +kernel
theorem dX9_silence_8 : decode cX9_silence 8 = .ok (.iconst (-1), 1) := by decide +kernel
theorem dX9_silence_9 : decode cX9_silence 9 = .ok (.ireturn, 1) := by decide +kernel
theorem dX9_silence_10 : decode cX9_silence 10 = .ok (.iconst 0, 1) := by decide +kernel
theorem dX9_silence_11 : decode cX9_silence 11 = .ok (.istore_n 3, 1) := by decide +kernel
theorem dX9_silence_12 : decode cX9_silence 12 = .ok (.iload_n 1, 1) := by decide +kernel
theorem dX9_silence_13 : decode cX9_silence 13 = .ok (.istore 4, 2) := by decide +kernel
theorem dX9_silence_15 : decode cX9_silence 15 = .ok (.iload_n 1, 1) := by decide +kernel
theorem dX9_silence_16 : decode cX9_silence 16 = .ok (.istore 5, 2) := by decide +kernel
theorem dX9_silence_18 : decode cX9_silence 18 = .ok (.iconst 0, 1) := by decide +kernel
theorem dX9_silence_19 : decode cX9_silence 19 = .ok (.istore 6, 2) := by decide +kernel
theorem dX9_silence_21 : decode cX9_silence 21 = .ok (.iload 6, 2) := by decide +kernel
theorem dX9_silence_23 : decode cX9_silence 23 = .ok (.aload_n 0, 1) := by decide +kernel
theorem dX9_silence_24 : decode cX9_silence 24 = .ok (.getfield 7, 3) := by decide +kernel
theorem dX9_silence_27 : decode cX9_silence 27 = .ok (.iconst 3, 1) := by decide +kernel
theorem dX9_silence_28 : decode cX9_silence 28 = .ok (.iaload, 1) := by decide +kernel
theorem dX9_silence_29 : decode cX9_silence 29 = .ok (.if_icmp .gt 98, 3) := by decide +kernel
theorem dX9_silence_32 : decode cX9_silence 32 = .ok (.iload 6, 2) := by decide +kernel
theorem dX9_silence_34 : decode cX9_silence 34 = .ok (.aload_n 0, 1) := by decide +kernel
theorem dX9_silence_35 : decode cX9_silence 35 = .ok (.getfield 7, 3) := by decide +kernel
theorem dX9_silence_38 : decode cX9_silence 38 = .ok (.iconst 3, 1) := by decide +kernel
theorem dX9_silence_39 : decode cX9_silence 39 = .ok (.iaload, 1) := by decide +kernel
theorem dX9_silence_40 : decode cX9_silence 40 = .ok (.if_icmp .ge 24, 3) := by decide +kernel
theorem dX9_silence_43 : decode cX9_silence 43 = .ok (.aload_n 0, 1) := by decide +kernel
theorem dX9_silence_44 : decode cX9_silence 44 = .ok (.iload 6, 2) := by decide +kernel
theorem dX9_silence_46 : decode cX9_silence 46 = .ok (.iconst 1, 1) := by decide +kernel
theorem dX9_silence_47 : decode cX9_silence 47 = .ok (.invokevirtual 45, 3) := by decide +kernel
theorem dX9_silence_50 : decode cX9_silence 50 = .ok (.iload_n 2, 1) := by decide +kernel
theorem dX9_silence_51 : decode cX9_silence 51 = .ok (.if_icmp .ge 13, 3) := by decide +kernel
theorem dX9_silence_54 : decode cX9_silence 54 = .ok (.aload_n 0, 1) := by decide +kernel
theorem dX9_silence_55 : decode cX9_silence 55 = .ok (.iload 6, 2) := by decide +kernel
theorem dX9_silence_57 : decode cX9_silence 57 = .ok (.iconst 1, 1) := by decide +kernel
theorem dX9_silence_58 : decode cX9_silence 58 = .ok (.invokevirtual 45, 3) := by decide +kernel
theorem dX9_silence_61 : decode cX9_silence 61 = .ok (.goto 4, 3) := by decide +kernel
theorem dX9_silence_64 : decode cX9_silence 64 = .ok (.iload_n 2, 1) := by decide +kernel
theorem dX9_silence_65 : decode cX9_silence 65 = .ok (.istore 7, 2) := by decide +kernel
theorem dX9_silence_67 : decode cX9_silence 67 = .ok (.iload 7, 2) := by decide +kernel
theorem dX9_silence_69 : decode cX9_silence 69 = .ok (.iload 5, 2) := by decide +kernel
theorem dX9_silence_71 : decode cX9_silence 71 = .ok (.isub, 1) := by decide +kernel
theorem dX9_silence_72 : decode cX9_silence 72 = .ok (.iload_n 3, 1) := by decide +kernel
theorem dX9_silence_73 : decode cX9_silence 73 = .ok (.if_icmp .le 13, 3) := by decide +kernel
theorem dX9_silence_76 : decode cX9_silence 76 = .ok (.iload 7, 2) := by decide +kernel
theorem dX9_silence_78 : decode cX9_silence 78 = .ok (.iload 5, 2) := by decide +kernel
theorem dX9_silence_80 : decode cX9_silence 80 = .ok (.isub, 1) := by decide +kernel
theorem dX9_silence_81 : decode cX9_silence 81 = .ok (.istore_n 3, 1) := by decide +kernel
theorem dX9_silence_82 : decode cX9_silence 82 = .ok (.iload 5, 2) := by decide +kernel
theorem dX9_silence_84 : decode cX9_silence 84 = .ok (.istore 4, 2) := by decide +kernel
theorem dX9_silence_86 : decode cX9_silence 86 = .ok (.iload 6, 2) := by decide +kernel
theorem dX9_silence_88 : decode cX9_silence 88 = .ok (.aload_n 0, 1) := by decide +kernel
theorem dX9_silence_89 : decode cX9_silence 89 = .ok (.getfield 7, 3) := by decide +kernel
theorem dX9_silence_92 : decode cX9_silence 92 = .ok (.iconst 3, 1) := by decide +kernel
theorem dX9_silence_93 : decode cX9_silence 93 = .ok (.iaload, 1) := by decide +kernel
theorem dX9_silence_94 : decode cX9_silence 94 = .ok (.if_icmp .ge 23, 3) := by decide +kernel
theorem dX9_silence_97 : decode cX9_silence 97 = .ok (.aload_n 0, 1) := by decide +kernel
theorem dX9_silence_98 : decode cX9_silence 98 = .ok (.iload 6, 2) := by decide +kernel
theorem dX9_silence_100 : decode cX9_silence 100 = .ok (.invokevirtual 70, 3) := by decide +kernel
theorem dX9_silence_103 : decode cX9_silence 103 = .ok (.iload 5, 2) := by decide +kernel
theorem dX9_silence_105 : decode cX9_silence 105 = .ok (.if_icmp .le 12, 3) := by decide +kernel
theorem dX9_silence_108 : decode cX9_silence 108 = .ok (.aload_n 0, 1) := by decide +kernel
theorem dX9_silence_109 : decode cX9_silence 109 = .ok (.iload 6, 2) := by decide +kernel
theorem dX9_silence_111 : decode cX9_silence 111 = .ok (.invokevirtual 70, 3) := by decide +kernel
theorem dX9_silence_114 : decode cX9_silence 114 = .ok (.goto 5, 3) := by decide +kernel
theorem dX9_silence_117 : decode cX9_silence 117 = .ok (.iload 5, 2) := by decide +kernel
theorem dX9_silence_119 : decode cX9_silence 119 = .ok (.istore 5, 2) := by decide +kernel
theorem dX9_silence_121 : decode cX9_silence 121 = .ok (.iinc 6 1, 3) := by decide +kernel
theorem dX9_silence_124 : decode cX9_silence 124 = .ok (.goto (-103), 3) := by decide +kernel
theorem dX9_silence_127 : decode cX9_silence 127 = .ok (.iload_n 3, 1) := by decide +kernel
theorem dX9_silence_128 : decode cX9_silence 128 = .ok (.ifCond .le 14, 3) := by decide +kernel
theorem dX9_silence_131 : decode cX9_silence 131 = .ok (.sipush 10081, 3) := by decide +kernel
theorem dX9_silence_134 : decode cX9_silence 134 = .ok (.iload_n 3, 1) := by decide +kernel
theorem dX9_silence_135 : decode cX9_silence 135 = .ok (.imul, 1) := by decide +kernel
theorem dX9_silence_136 : decode cX9_silence 136 = .ok (.iload 4, 2) := by decide +kernel
theorem dX9_silence_138 : decode cX9_silence 138 = .ok (.iadd, 1) := by decide +kernel
theorem dX9_silence_139 : decode cX9_silence 139 = .ok (.goto 5, 3) := by decide +kernel
theorem dX9_silence_142 : decode cX9_silence 142 = .ok (.bipush (-9), 2) := by decide +kernel
theorem dX9_silence_144 : decode cX9_silence 144 = .ok (.ireturn, 1) := by decide +kernel
theorem dX9_airTime_0 : decode cX9_airTime 0 = .ok (.iconst 0, 1) := by decide +kernel
theorem dX9_airTime_1 : decode cX9_airTime 1 = .ok (.istore_n 2, 1) := by decide +kernel
theorem dX9_airTime_2 : decode cX9_airTime 2 = .ok (.iconst 0, 1) := by decide +kernel
theorem dX9_airTime_3 : decode cX9_airTime 3 = .ok (.istore_n 3, 1) := by decide +kernel
theorem dX9_airTime_4 : decode cX9_airTime 4 = .ok (.iload_n 3, 1) := by decide +kernel
theorem dX9_airTime_5 : decode cX9_airTime 5 = .ok (.aload_n 0, 1) := by decide +kernel
theorem dX9_airTime_6 : decode cX9_airTime 6 = .ok (.getfield 7, 3) := by decide +kernel
theorem dX9_airTime_9 : decode cX9_airTime 9 = .ok (.iconst 3, 1) := by decide +kernel
theorem dX9_airTime_10 : decode cX9_airTime 10 = .ok (.iaload, 1) := by decide +kernel
theorem dX9_airTime_11 : decode cX9_airTime 11 = .ok (.if_icmp .ge 32, 3) := by decide +kernel
theorem dX9_airTime_14 : decode cX9_airTime 14 = .ok (.iload_n 2, 1) := by decide +kernel
theorem dX9_airTime_15 : decode cX9_airTime 15 = .ok (.aload_n 0, 1) := by decide +kernel
theorem dX9_airTime_16 : decode cX9_airTime 16 = .ok (.iload_n 3, 1) := by decide +kernel
theorem dX9_airTime_17 : decode cX9_airTime 17 = .ok (.iconst 0, 1) := by decide +kernel
theorem dX9_airTime_18 : decode cX9_airTime 18 = .ok (.invokevirtual 45, 3) := by decide +kernel
theorem dX9_airTime_21 : decode cX9_airTime 21 = .ok (.iload_n 1, 1) := by decide +kernel
theorem dX9_airTime_22 : decode cX9_airTime 22 = .ok (.if_icmp .ne 12, 3) := by decide +kernel
theorem dX9_airTime_25 : decode cX9_airTime 25 = .ok (.aload_n 0, 1) := by decide +kernel
theorem dX9_airTime_26 : decode cX9_airTime 26 = .ok (.iload_n 3, 1) := by decide +kernel
theorem dX9_airTime_27 : decode cX9_airTime 27 = .ok (.iconst 2, 1) := by decide +kernel
theorem dX9_airTime_28 : decode cX9_airTime 28 = .ok (.invokevirtual 45, 3) := by decide +kernel
theorem dX9_airTime_31 : decode cX9_airTime 31 = .ok (.goto 4, 3) := by decide +kernel
theorem dX9_airTime_34 : decode cX9_airTime 34 = .ok (.iconst 0, 1) := by decide +kernel
theorem dX9_airTime_35 : decode cX9_airTime 35 = .ok (.iadd, 1) := by decide +kernel
theorem dX9_airTime_36 : decode cX9_airTime 36 = .ok (.istore_n 2, 1) := by decide +kernel
theorem dX9_airTime_37 : decode cX9_airTime 37 = .ok (.iinc 3 1, 3) := by decide +kernel
theorem dX9_airTime_40 : decode cX9_airTime 40 = .ok (.goto (-36), 3) := by decide +kernel
theorem dX9_airTime_43 : decode cX9_airTime 43 = .ok (.iload_n 2, 1) := by decide +kernel
theorem dX9_airTime_44 : decode cX9_airTime 44 = .ok (.ireturn, 1) := by decide +kernel
theorem dX9_ranked_0 : decode cX9_ranked 0 = .ok (.iload_n 1, 1) := by decide +kernel
theorem dX9_ranked_1 : decode cX9_ranked 1 = .ok (.iconst 0, 1) := by decide +kernel
theorem dX9_ranked_2 : decode cX9_ranked 2 = .ok (.aload_n 0, 1) := by decide +kernel
theorem dX9_ranked_3 : decode cX9_ranked 3 = .ok (.getfield 7, 3) := by decide +kernel
theorem dX9_ranked_6 : decode cX9_ranked 6 = .ok (.iconst 0, 1) := by decide +kernel
theorem dX9_ranked_7 : decode cX9_ranked 7 = .ok (.iaload, 1) := by decide +kernel
theorem dX9_ranked_8 : decode cX9_ranked 8 = .ok (.iconst 1, 1) := by decide +kernel
theorem dX9_ranked_9 : decode cX9_ranked 9 = .ok (.isub, 1) := by decide +kernel
theorem dX9_ranked_10 : decode cX9_ranked 10 = .ok (.invokestatic 41, 3) := by decide +kernel
theorem dX9_ranked_13 : decode cX9_ranked 13 = .ok (.ifCond .ne 5, 3) := by decide +kernel
theorem dX9_ranked_16 : decode cX9_ranked 16 = .ok (.iconst (-1), 1) := by decide +kernel
theorem dX9_ranked_17 : decode cX9_ranked 17 = .ok (.ireturn, 1) := by decide +kernel
theorem dX9_ranked_18 : decode cX9_ranked 18 = .ok (.iconst 0, 1) := by decide +kernel
theorem dX9_ranked_19 : decode cX9_ranked 19 = .ok (.istore_n 2, 1) := by decide +kernel
theorem dX9_ranked_20 : decode cX9_ranked 20 = .ok (.iload_n 2, 1) := by decide +kernel
theorem dX9_ranked_21 : decode cX9_ranked 21 = .ok (.aload_n 0, 1) := by decide +kernel
theorem dX9_ranked_22 : decode cX9_ranked 22 = .ok (.getfield 7, 3) := by decide +kernel
theorem dX9_ranked_25 : decode cX9_ranked 25 = .ok (.iconst 0, 1) := by decide +kernel
theorem dX9_ranked_26 : decode cX9_ranked 26 = .ok (.iaload, 1) := by decide +kernel
theorem dX9_ranked_27 : decode cX9_ranked 27 = .ok (.if_icmp .ge 76, 3) := by decide +kernel
theorem dX9_ranked_30 : decode cX9_ranked 30 = .ok (.iconst 0, 1) := by decide +kernel
theorem dX9_ranked_31 : decode cX9_ranked 31 = .ok (.istore_n 3, 1) := by decide +kernel
theorem dX9_ranked_32 : decode cX9_ranked 32 = .ok (.iconst 0, 1) := by decide +kernel
theorem dX9_ranked_33 : decode cX9_ranked 33 = .ok (.istore 4, 2) := by decide +kernel
theorem dX9_ranked_35 : decode cX9_ranked 35 = .ok (.iload 4, 2) := by decide +kernel
theorem dX9_ranked_37 : decode cX9_ranked 37 = .ok (.aload_n 0, 1) := by decide +kernel
theorem dX9_ranked_38 : decode cX9_ranked 38 = .ok (.getfield 7, 3) := by decide +kernel
theorem dX9_ranked_41 : decode cX9_ranked 41 = .ok (.iconst 0, 1) := by decide +kernel
theorem dX9_ranked_42 : decode cX9_ranked 42 = .ok (.iaload, 1) := by decide +kernel
theorem dX9_ranked_43 : decode cX9_ranked 43 = .ok (.if_icmp .ge 47, 3) := by decide +kernel
theorem dX9_ranked_46 : decode cX9_ranked 46 = .ok (.aload_n 0, 1) := by decide +kernel
theorem dX9_ranked_47 : decode cX9_ranked 47 = .ok (.iload 4, 2) := by decide +kernel
theorem dX9_ranked_49 : decode cX9_ranked 49 = .ok (.invokevirtual 135, 3) := by decide +kernel
theorem dX9_ranked_52 : decode cX9_ranked 52 = .ok (.aload_n 0, 1) := by decide +kernel
theorem dX9_ranked_53 : decode cX9_ranked 53 = .ok (.iload_n 2, 1) := by decide +kernel
theorem dX9_ranked_54 : decode cX9_ranked 54 = .ok (.invokevirtual 135, 3) := by decide +kernel
theorem dX9_ranked_57 : decode cX9_ranked 57 = .ok (.isub, 1) := by decide +kernel
theorem dX9_ranked_58 : decode cX9_ranked 58 = .ok (.istore 5, 2) := by decide +kernel
theorem dX9_ranked_60 : decode cX9_ranked 60 = .ok (.iload_n 3, 1) := by decide +kernel
theorem dX9_ranked_61 : decode cX9_ranked 61 = .ok (.iload 5, 2) := by decide +kernel
theorem dX9_ranked_63 : decode cX9_ranked 63 = .ok (.ifCond .gt 14, 3) := by decide +kernel
theorem dX9_ranked_66 : decode cX9_ranked 66 = .ok (.iload 5, 2) := by decide +kernel
theorem dX9_ranked_68 : decode cX9_ranked 68 = .ok (.ifCond .ne 13, 3) := by decide +kernel
theorem dX9_ranked_71 : decode cX9_ranked 71 = .ok (.iload 4, 2) := by decide +kernel
theorem dX9_ranked_73 : decode cX9_ranked 73 = .ok (.iload_n 2, 1) := by decide +kernel
theorem dX9_ranked_74 : decode cX9_ranked 74 = .ok (.if_icmp .ge 7, 3) := by decide +kernel
theorem dX9_ranked_77 : decode cX9_ranked 77 = .ok (.iconst 1, 1) := by decide +kernel
theorem dX9_ranked_78 : decode cX9_ranked 78 = .ok (.goto 4, 3) := by decide +kernel
theorem dX9_ranked_81 : decode cX9_ranked 81 = .ok (.iconst 0, 1) := by decide +kernel
theorem dX9_ranked_82 : decode cX9_ranked 82 = .ok (.iadd, 1) := by decide +kernel
theorem dX9_ranked_83 : decode cX9_ranked 83 = .ok (.istore_n 3, 1) := by decide +kernel
theorem dX9_ranked_84 : decode cX9_ranked 84 = .ok (.iinc 4 1, 3) := by decide +kernel
theorem dX9_ranked_87 : decode cX9_ranked 87 = .ok (.goto (-52), 3) := by decide +kernel
theorem dX9_ranked_90 : decode cX9_ranked 90 = .ok (.iload_n 3, 1) := by decide +kernel
theorem dX9_ranked_91 : decode cX9_ranked 91 = .ok (.iload_n 1, 1) := by decide +kernel
theorem dX9_ranked_92 : decode cX9_ranked 92 = .ok (.if_icmp .ne 5, 3) := by decide +kernel
theorem dX9_ranked_95 : decode cX9_ranked 95 = .ok (.iload_n 2, 1) := by decide +kernel
theorem dX9_ranked_96 : decode cX9_ranked 96 = .ok (.ireturn, 1) := by decide +kernel
theorem dX9_ranked_97 : decode cX9_ranked 97 = .ok (.iinc 2 1, 3) := by decide +kernel
theorem dX9_ranked_100 : decode cX9_ranked 100 = .ok (.goto (-80), 3) := by decide +kernel
theorem dX9_ranked_103 : decode cX9_ranked 103 = .ok (.bipush (-9), 2) := by decide +kernel
theorem dX9_ranked_105 : decode cX9_ranked 105 = .ok (.ireturn, 1) := by decide +kernel
theorem dX9_broken_0 : decode cX9_broken 0 = .ok (.iconst 0, 1) := by decide +kernel
theorem dX9_broken_1 : decode cX9_broken 1 = .ok (.istore_n 1, 1) := by decide +kernel
theorem dX9_broken_2 : decode cX9_broken 2 = .ok (.iconst 0, 1) := by decide +kernel
theorem dX9_broken_3 : decode cX9_broken 3 = .ok (.istore_n 2, 1) := by decide +kernel
theorem dX9_broken_4 : decode cX9_broken 4 = .ok (.iload_n 2, 1) := by decide +kernel
theorem dX9_broken_5 : decode cX9_broken 5 = .ok (.aload_n 0, 1) := by decide +kernel
theorem dX9_broken_6 : decode cX9_broken 6 = .ok (.getfield 7, 3) := by decide +kernel
theorem dX9_broken_9 : decode cX9_broken 9 = .ok (.iconst 3, 1) := by decide +kernel
theorem dX9_broken_10 : decode cX9_broken 10 = .ok (.iaload, 1) := by decide +kernel
theorem dX9_broken_11 : decode cX9_broken 11 = .ok (.if_icmp .ge 41, 3) := by decide +kernel
theorem dX9_broken_14 : decode cX9_broken 14 = .ok (.iload_n 1, 1) := by decide +kernel
theorem dX9_broken_15 : decode cX9_broken 15 = .ok (.aload_n 0, 1) := by decide +kernel
theorem dX9_broken_16 : decode cX9_broken 16 = .ok (.aload_n 0, 1) := by decide +kernel
theorem dX9_broken_17 : decode cX9_broken 17 = .ok (.iload_n 2, 1) := by decide +kernel
theorem dX9_broken_18 : decode cX9_broken 18 = .ok (.iconst 0, 1) := by decide +kernel
theorem dX9_broken_19 : decode cX9_broken 19 = .ok (.invokevirtual 45, 3) := by decide +kernel
theorem dX9_broken_22 : decode cX9_broken 22 = .ok (.aload_n 0, 1) := by decide +kernel
theorem dX9_broken_23 : decode cX9_broken 23 = .ok (.iload_n 2, 1) := by decide +kernel
theorem dX9_broken_24 : decode cX9_broken 24 = .ok (.iconst 1, 1) := by decide +kernel
theorem dX9_broken_25 : decode cX9_broken 25 = .ok (.invokevirtual 45, 3) := by decide +kernel
theorem dX9_broken_28 : decode cX9_broken 28 = .ok (.aload_n 0, 1) := by decide +kernel
theorem dX9_broken_29 : decode cX9_broken 29 = .ok (.iload_n 2, 1) := by decide +kernel
theorem dX9_broken_30 : decode cX9_broken 30 = .ok (.invokevirtual 70, 3) := by decide +kernel
theorem dX9_broken_33 : decode cX9_broken 33 = .ok (.invokevirtual 90, 3) := by decide +kernel
theorem dX9_broken_36 : decode cX9_broken 36 = .ok (.ifCond .eq 7, 3) := by decide +kernel
theorem dX9_broken_39 : decode cX9_broken 39 = .ok (.iconst 1, 1) := by decide +kernel
theorem dX9_broken_40 : decode cX9_broken 40 = .ok (.goto 4, 3) := by decide +kernel
theorem dX9_broken_43 : decode cX9_broken 43 = .ok (.iconst 0, 1) := by decide +kernel
theorem dX9_broken_44 : decode cX9_broken 44 = .ok (.iadd, 1) := by decide +kernel
theorem dX9_broken_45 : decode cX9_broken 45 = .ok (.istore_n 1, 1) := by decide +kernel
theorem dX9_broken_46 : decode cX9_broken 46 = .ok (.iinc 2 1, 3) := by decide +kernel
theorem dX9_broken_49 : decode cX9_broken 49 = .ok (.goto (-45), 3) := by decide +kernel
theorem dX9_broken_52 : decode cX9_broken 52 = .ok (.iload_n 1, 1) := by decide +kernel
theorem dX9_broken_53 : decode cX9_broken 53 = .ok (.ireturn, 1) := by decide +kernel
theorem dX9_signs_0 : decode cX9_signs 0 = .ok (.aload_n 0, 1) := by decide +kernel
theorem dX9_signs_1 : decode cX9_signs 1 = .ok (.getfield 34, 3) := by decide +kernel
theorem dX9_signs_4 : decode cX9_signs 4 = .ok (.aload_n 0, 1) := by decide +kernel
theorem dX9_signs_5 : decode cX9_signs 5 = .ok (.getfield 138, 3) := by decide +kernel
theorem dX9_signs_8 : decode cX9_signs 8 = .ok (.iload_n 1, 1) := by decide +kernel
theorem dX9_signs_9 : decode cX9_signs 9 = .ok (.iastore, 1) := by decide +kernel
theorem dX9_signs_10 : decode cX9_signs 10 = .ok (.aload_n 0, 1) := by decide +kernel
theorem dX9_signs_11 : decode cX9_signs 11 = .ok (.dup, 1) := by decide +kernel
theorem dX9_signs_12 : decode cX9_signs 12 = .ok (.getfield 138, 3) := by decide +kernel
theorem dX9_signs_15 : decode cX9_signs 15 = .ok (.iconst 1, 1) := by decide +kernel
theorem dX9_signs_16 : decode cX9_signs 16 = .ok (.iadd, 1) := by decide +kernel
theorem dX9_signs_17 : decode cX9_signs 17 = .ok (.putfield 138, 3) := by decide +kernel
theorem dX9_signs_20 : decode cX9_signs 20 = .ok (.return_, 1) := by decide +kernel
theorem dX9_number_0 : decode cX9_number 0 = .ok (.iload_n 1, 1) := by decide +kernel
theorem dX9_number_1 : decode cX9_number 1 = .ok (.sipush 10000, 3) := by decide +kernel
theorem dX9_number_4 : decode cX9_number 4 = .ok (.if_icmp .lt 15, 3) := by decide +kernel
theorem dX9_number_7 : decode cX9_number 7 = .ok (.aload_n 0, 1) := by decide +kernel
theorem dX9_number_8 : decode cX9_number 8 = .ok (.bipush 48, 2) := by decide +kernel
theorem dX9_number_10 : decode cX9_number 10 = .ok (.iload_n 1, 1) := by decide +kernel
theorem dX9_number_11 : decode cX9_number 11 = .ok (.sipush 10000, 3) := by decide +kernel
theorem dX9_number_14 : decode cX9_number 14 = .ok (.idiv, 1) := by decide +kernel
theorem dX9_number_15 : decode cX9_number 15 = .ok (.iadd, 1) := by decide +kernel
theorem dX9_number_16 : decode cX9_number 16 = .ok (.invokevirtual 141, 3) := by decide +kernel
theorem dX9_number_19 : decode cX9_number 19 = .ok (.iload_n 1, 1) := by decide +kernel
theorem dX9_number_20 : decode cX9_number 20 = .ok (.sipush 1000, 3) := by decide +kernel
theorem dX9_number_23 : decode cX9_number 23 = .ok (.if_icmp .lt 18, 3) := by decide +kernel
theorem dX9_number_26 : decode cX9_number 26 = .ok (.aload_n 0, 1) := by decide +kernel
theorem dX9_number_27 : decode cX9_number 27 = .ok (.bipush 48, 2) := by decide +kernel
theorem dX9_number_29 : decode cX9_number 29 = .ok (.iload_n 1, 1) := by decide +kernel
theorem dX9_number_30 : decode cX9_number 30 = .ok (.sipush 1000, 3) := by decide +kernel
theorem dX9_number_33 : decode cX9_number 33 = .ok (.idiv, 1) := by decide +kernel
theorem dX9_number_34 : decode cX9_number 34 = .ok (.bipush 10, 2) := by decide +kernel
theorem dX9_number_36 : decode cX9_number 36 = .ok (.irem, 1) := by decide +kernel
theorem dX9_number_37 : decode cX9_number 37 = .ok (.iadd, 1) := by decide +kernel
theorem dX9_number_38 : decode cX9_number 38 = .ok (.invokevirtual 141, 3) := by decide +kernel
theorem dX9_number_41 : decode cX9_number 41 = .ok (.iload_n 1, 1) := by decide +kernel
theorem dX9_number_42 : decode cX9_number 42 = .ok (.bipush 100, 2) := by decide +kernel
theorem dX9_number_44 : decode cX9_number 44 = .ok (.if_icmp .lt 17, 3) := by decide +kernel
theorem dX9_number_47 : decode cX9_number 47 = .ok (.aload_n 0, 1) := by decide +kernel
theorem dX9_number_48 : decode cX9_number 48 = .ok (.bipush 48, 2) := by decide +kernel
theorem dX9_number_50 : decode cX9_number 50 = .ok (.iload_n 1, 1) := by decide +kernel
theorem dX9_number_51 : decode cX9_number 51 = .ok (.bipush 100, 2) := by decide +kernel
theorem dX9_number_53 : decode cX9_number 53 = .ok (.idiv, 1) := by decide +kernel
theorem dX9_number_54 : decode cX9_number 54 = .ok (.bipush 10, 2) := by decide +kernel
theorem dX9_number_56 : decode cX9_number 56 = .ok (.irem, 1) := by decide +kernel
theorem dX9_number_57 : decode cX9_number 57 = .ok (.iadd, 1) := by decide +kernel
theorem dX9_number_58 : decode cX9_number 58 = .ok (.invokevirtual 141, 3) := by decide +kernel
theorem dX9_number_61 : decode cX9_number 61 = .ok (.iload_n 1, 1) := by decide +kernel
theorem dX9_number_62 : decode cX9_number 62 = .ok (.bipush 10, 2) := by decide +kernel
theorem dX9_number_64 : decode cX9_number 64 = .ok (.if_icmp .lt 17, 3) := by decide +kernel
theorem dX9_number_67 : decode cX9_number 67 = .ok (.aload_n 0, 1) := by decide +kernel
theorem dX9_number_68 : decode cX9_number 68 = .ok (.bipush 48, 2) := by decide +kernel
theorem dX9_number_70 : decode cX9_number 70 = .ok (.iload_n 1, 1) := by decide +kernel
theorem dX9_number_71 : decode cX9_number 71 = .ok (.bipush 10, 2) := by decide +kernel
theorem dX9_number_73 : decode cX9_number 73 = .ok (.idiv, 1) := by decide +kernel
theorem dX9_number_74 : decode cX9_number 74 = .ok (.bipush 10, 2) := by decide +kernel
theorem dX9_number_76 : decode cX9_number 76 = .ok (.irem, 1) := by decide +kernel
theorem dX9_number_77 : decode cX9_number 77 = .ok (.iadd, 1) := by decide +kernel
theorem dX9_number_78 : decode cX9_number 78 = .ok (.invokevirtual 141, 3) := by decide +kernel
theorem dX9_number_81 : decode cX9_number 81 = .ok (.aload_n 0, 1) := by decide +kernel
theorem dX9_number_82 : decode cX9_number 82 = .ok (.bipush 48, 2) := by decide +kernel
theorem dX9_number_84 : decode cX9_number 84 = .ok (.iload_n 1, 1) := by decide +kernel
theorem dX9_number_85 : decode cX9_number 85 = .ok (.bipush 10, 2) := by decide +kernel
theorem dX9_number_87 : decode cX9_number 87 = .ok (.irem, 1) := by decide +kernel
theorem dX9_number_88 : decode cX9_number 88 = .ok (.iadd, 1) := by decide +kernel
theorem dX9_number_89 : decode cX9_number 89 = .ok (.invokevirtual 141, 3) := by decide +kernel
theorem dX9_number_92 : decode cX9_number 92 = .ok (.return_, 1) := by decide +kernel
theorem dX9_two_0 : decode cX9_two 0 = .ok (.aload_n 0, 1) := by decide +kernel
theorem dX9_two_1 : decode cX9_two 1 = .ok (.bipush 48, 2) := by decide +kernel
theorem dX9_two_3 : decode cX9_two 3 = .ok (.iload_n 1, 1) := by decide +kernel
theorem dX9_two_4 : decode cX9_two 4 = .ok (.bipush 10, 2) := by decide +kernel
theorem dX9_two_6 : decode cX9_two 6 = .ok (.idiv, 1) := by decide +kernel
theorem dX9_two_7 : decode cX9_two 7 = .ok (.iadd, 1) := by decide +kernel
theorem dX9_two_8 : decode cX9_two 8 = .ok (.invokevirtual 141, 3) := by decide +kernel
theorem dX9_two_11 : decode cX9_two 11 = .ok (.aload_n 0, 1) := by decide +kernel
theorem dX9_two_12 : decode cX9_two 12 = .ok (.bipush 48, 2) := by decide +kernel
theorem dX9_two_14 : decode cX9_two 14 = .ok (.iload_n 1, 1) := by decide +kernel
theorem dX9_two_15 : decode cX9_two 15 = .ok (.bipush 10, 2) := by decide +kernel
theorem dX9_two_17 : decode cX9_two 17 = .ok (.irem, 1) := by decide +kernel
theorem dX9_two_18 : decode cX9_two 18 = .ok (.iadd, 1) := by decide +kernel
theorem dX9_two_19 : decode cX9_two 19 = .ok (.invokevirtual 141, 3) := by decide +kernel
theorem dX9_two_22 : decode cX9_two 22 = .ok (.return_, 1) := by decide +kernel
theorem dX9_line_0 : decode cX9_line 0 = .ok (.aload_n 0, 1) := by decide +kernel
theorem dX9_line_1 : decode cX9_line 1 = .ok (.iload_n 1, 1) := by decide +kernel
theorem dX9_line_2 : decode cX9_line 2 = .ok (.invokevirtual 100, 3) := by decide +kernel
theorem dX9_line_5 : decode cX9_line 5 = .ok (.ifCond .eq 7, 3) := by decide +kernel
theorem dX9_line_8 : decode cX9_line 8 = .ok (.iload_n 2, 1) := by decide +kernel
theorem dX9_line_9 : decode cX9_line 9 = .ok (.ifCond .ge 5, 3) := by decide +kernel
theorem dX9_line_12 : decode cX9_line 12 = .ok (.iconst (-1), 1) := by decide +kernel
theorem dX9_line_13 : decode cX9_line 13 = .ok (.ireturn, 1) := by decide +kernel
theorem dX9_line_14 : decode cX9_line 14 = .ok (.aload_n 0, 1) := by decide +kernel
theorem dX9_line_15 : decode cX9_line 15 = .ok (.iload_n 1, 1) := by decide +kernel
theorem dX9_line_16 : decode cX9_line 16 = .ok (.iconst 1, 1) := by decide +kernel
theorem dX9_line_17 : decode cX9_line 17 = .ok (.invokevirtual 45, 3) := by decide +kernel
theorem dX9_line_20 : decode cX9_line 20 = .ok (.istore_n 3, 1) := by decide +kernel
theorem dX9_line_21 : decode cX9_line 21 = .ok (.aload_n 0, 1) := by decide +kernel
theorem dX9_line_22 : decode cX9_line 22 = .ok (.iconst 0, 1) := by decide +kernel
theorem dX9_line_23 : decode cX9_line 23 = .ok (.putfield 138, 3) := by decide +kernel
theorem dX9_line_26 : decode cX9_line 26 = .ok (.aload_n 0, 1) := by decide +kernel
theorem dX9_line_27 : decode cX9_line 27 = .ok (.bipush 48, 2) := by decide +kernel
theorem dX9_line_29 : decode cX9_line 29 = .ok (.iload_n 3, 1) := by decide +kernel
theorem dX9_line_30 : decode cX9_line 30 = .ok (.sipush 1440, 3) := by decide +kernel
theorem dX9_line_33 : decode cX9_line 33 = .ok (.idiv, 1) := by decide +kernel
theorem dX9_line_34 : decode cX9_line 34 = .ok (.iadd, 1) := by decide +kernel
theorem dX9_line_35 : decode cX9_line 35 = .ok (.invokevirtual 141, 3) := by decide +kernel
theorem dX9_line_38 : decode cX9_line 38 = .ok (.aload_n 0, 1) := by decide +kernel
theorem dX9_line_39 : decode cX9_line 39 = .ok (.bipush 32, 2) := by decide +kernel
theorem dX9_line_41 : decode cX9_line 41 = .ok (.invokevirtual 141, 3) := by decide +kernel
theorem dX9_line_44 : decode cX9_line 44 = .ok (.aload_n 0, 1) := by decide +kernel
theorem dX9_line_45 : decode cX9_line 45 = .ok (.iload_n 3, 1) := by decide +kernel
theorem dX9_line_46 : decode cX9_line 46 = .ok (.sipush 1440, 3) := by decide +kernel
theorem dX9_line_49 : decode cX9_line 49 = .ok (.irem, 1) := by decide +kernel
theorem dX9_line_50 : decode cX9_line 50 = .ok (.bipush 60, 2) := by decide +kernel
theorem dX9_line_52 : decode cX9_line 52 = .ok (.idiv, 1) := by decide +kernel
theorem dX9_line_53 : decode cX9_line 53 = .ok (.invokevirtual 143, 3) := by decide +kernel
theorem dX9_line_56 : decode cX9_line 56 = .ok (.aload_n 0, 1) := by decide +kernel
theorem dX9_line_57 : decode cX9_line 57 = .ok (.bipush 58, 2) := by decide +kernel
theorem dX9_line_59 : decode cX9_line 59 = .ok (.invokevirtual 141, 3) := by decide +kernel
theorem dX9_line_62 : decode cX9_line 62 = .ok (.aload_n 0, 1) := by decide +kernel
theorem dX9_line_63 : decode cX9_line 63 = .ok (.iload_n 3, 1) := by decide +kernel
theorem dX9_line_64 : decode cX9_line 64 = .ok (.bipush 60, 2) := by decide +kernel
theorem dX9_line_66 : decode cX9_line 66 = .ok (.irem, 1) := by decide +kernel
theorem dX9_line_67 : decode cX9_line 67 = .ok (.invokevirtual 143, 3) := by decide +kernel
theorem dX9_line_70 : decode cX9_line 70 = .ok (.aload_n 0, 1) := by decide +kernel
theorem dX9_line_71 : decode cX9_line 71 = .ok (.bipush 32, 2) := by decide +kernel
theorem dX9_line_73 : decode cX9_line 73 = .ok (.invokevirtual 141, 3) := by decide +kernel
theorem dX9_line_76 : decode cX9_line 76 = .ok (.aload_n 0, 1) := by decide +kernel
theorem dX9_line_77 : decode cX9_line 77 = .ok (.bipush 43, 2) := by decide +kernel
theorem dX9_line_79 : decode cX9_line 79 = .ok (.invokevirtual 141, 3) := by decide +kernel
theorem dX9_line_82 : decode cX9_line 82 = .ok (.aload_n 0, 1) := by decide +kernel
theorem dX9_line_83 : decode cX9_line 83 = .ok (.aload_n 0, 1) := by decide +kernel
theorem dX9_line_84 : decode cX9_line 84 = .ok (.iload_n 1, 1) := by decide +kernel
theorem dX9_line_85 : decode cX9_line 85 = .ok (.iconst 2, 1) := by decide +kernel
theorem dX9_line_86 : decode cX9_line 86 = .ok (.invokevirtual 45, 3) := by decide +kernel
theorem dX9_line_89 : decode cX9_line 89 = .ok (.invokevirtual 146, 3) := by decide +kernel
theorem dX9_line_92 : decode cX9_line 92 = .ok (.aload_n 0, 1) := by decide +kernel
theorem dX9_line_93 : decode cX9_line 93 = .ok (.bipush 32, 2) := by decide +kernel
theorem dX9_line_95 : decode cX9_line 95 = .ok (.invokevirtual 141, 3) := by decide +kernel
theorem dX9_line_98 : decode cX9_line 98 = .ok (.aload_n 0, 1) := by decide +kernel
theorem dX9_line_99 : decode cX9_line 99 = .ok (.bipush 80, 2) := by decide +kernel
theorem dX9_line_101 : decode cX9_line 101 = .ok (.invokevirtual 141, 3) := by decide +kernel
theorem dX9_line_104 : decode cX9_line 104 = .ok (.aload_n 0, 1) := by decide +kernel
theorem dX9_line_105 : decode cX9_line 105 = .ok (.aload_n 0, 1) := by decide +kernel
theorem dX9_line_106 : decode cX9_line 106 = .ok (.iload_n 1, 1) := by decide +kernel
theorem dX9_line_107 : decode cX9_line 107 = .ok (.iconst 0, 1) := by decide +kernel
theorem dX9_line_108 : decode cX9_line 108 = .ok (.invokevirtual 45, 3) := by decide +kernel
theorem dX9_line_111 : decode cX9_line 111 = .ok (.invokevirtual 146, 3) := by decide +kernel
theorem dX9_line_114 : decode cX9_line 114 = .ok (.aload_n 0, 1) := by decide +kernel
theorem dX9_line_115 : decode cX9_line 115 = .ok (.iload_n 1, 1) := by decide +kernel
theorem dX9_line_116 : decode cX9_line 116 = .ok (.iconst 3, 1) := by decide +kernel
theorem dX9_line_117 : decode cX9_line 117 = .ok (.invokevirtual 45, 3) := by decide +kernel
theorem dX9_line_120 : decode cX9_line 120 = .ok (.iconst 1, 1) := by decide +kernel
theorem dX9_line_121 : decode cX9_line 121 = .ok (.if_icmp .ne 9, 3) := by decide +kernel
theorem dX9_line_124 : decode cX9_line 124 = .ok (.aload_n 0, 1) := by decide +kernel
theorem dX9_line_125 : decode cX9_line 125 = .ok (.bipush 33, 2) := by decide +kernel
theorem dX9_line_127 : decode cX9_line 127 = .ok (.invokevirtual 141, 3) := by decide +kernel
theorem dX9_line_130 : decode cX9_line 130 = .ok (.iload_n 2, 1) := by decide +kernel
theorem dX9_line_131 : decode cX9_line 131 = .ok (.aload_n 0, 1) := by decide +kernel
theorem dX9_line_132 : decode cX9_line 132 = .ok (.getfield 138, 3) := by decide +kernel
theorem dX9_line_135 : decode cX9_line 135 = .ok (.if_icmp .ge 12, 3) := by decide +kernel
theorem dX9_line_138 : decode cX9_line 138 = .ok (.aload_n 0, 1) := by decide +kernel
theorem dX9_line_139 : decode cX9_line 139 = .ok (.getfield 34, 3) := by decide +kernel
theorem dX9_line_142 : decode cX9_line 142 = .ok (.iload_n 2, 1) := by decide +kernel
theorem dX9_line_143 : decode cX9_line 143 = .ok (.iaload, 1) := by decide +kernel
theorem dX9_line_144 : decode cX9_line 144 = .ok (.goto 5, 3) := by decide +kernel
theorem dX9_line_147 : decode cX9_line 147 = .ok (.bipush (-9), 2) := by decide +kernel
theorem dX9_line_149 : decode cX9_line 149 = .ok (.ireturn, 1) := by decide +kernel
theorem dX9_undo_0 : decode cX9_undo 0 = .ok (.aload_n 0, 1) := by decide +kernel
theorem dX9_undo_1 : decode cX9_undo 1 = .ok (.getfield 37, 3) := by decide +kernel
theorem dX9_undo_4 : decode cX9_undo 4 = .ok (.ifCond .ne 6, 3) := by decide +kernel
theorem dX9_undo_7 : decode cX9_undo 7 = .ok (.bipush (-9), 2) := by decide +kernel
theorem dX9_undo_9 : decode cX9_undo 9 = .ok (.ireturn, 1) := by decide +kernel
theorem dX9_undo_10 : decode cX9_undo 10 = .ok (.aload_n 0, 1) := by decide +kernel
theorem dX9_undo_11 : decode cX9_undo 11 = .ok (.dup, 1) := by decide +kernel
theorem dX9_undo_12 : decode cX9_undo 12 = .ok (.getfield 37, 3) := by decide +kernel
theorem dX9_undo_15 : decode cX9_undo 15 = .ok (.iconst 1, 1) := by decide +kernel
theorem dX9_undo_16 : decode cX9_undo 16 = .ok (.isub, 1) := by decide +kernel
theorem dX9_undo_17 : decode cX9_undo 17 = .ok (.putfield 37, 3) := by decide +kernel
theorem dX9_undo_20 : decode cX9_undo 20 = .ok (.iconst 0, 1) := by decide +kernel
theorem dX9_undo_21 : decode cX9_undo 21 = .ok (.istore_n 1, 1) := by decide +kernel
theorem dX9_undo_22 : decode cX9_undo 22 = .ok (.iload_n 1, 1) := by decide +kernel
theorem dX9_undo_23 : decode cX9_undo 23 = .ok (.sipush 480, 3) := by decide +kernel
theorem dX9_undo_26 : decode cX9_undo 26 = .ok (.if_icmp .ge 30, 3) := by decide +kernel
theorem dX9_undo_29 : decode cX9_undo 29 = .ok (.aload_n 0, 1) := by decide +kernel
theorem dX9_undo_30 : decode cX9_undo 30 = .ok (.getfield 7, 3) := by decide +kernel
theorem dX9_undo_33 : decode cX9_undo 33 = .ok (.iload_n 1, 1) := by decide +kernel
theorem dX9_undo_34 : decode cX9_undo 34 = .ok (.aload_n 0, 1) := by decide +kernel
theorem dX9_undo_35 : decode cX9_undo 35 = .ok (.getfield 13, 3) := by decide +kernel
theorem dX9_undo_38 : decode cX9_undo 38 = .ok (.sipush 480, 3) := by decide +kernel
theorem dX9_undo_41 : decode cX9_undo 41 = .ok (.aload_n 0, 1) := by decide +kernel
theorem dX9_undo_42 : decode cX9_undo 42 = .ok (.getfield 37, 3) := by decide +kernel
theorem dX9_undo_45 : decode cX9_undo 45 = .ok (.imul, 1) := by decide +kernel
theorem dX9_undo_46 : decode cX9_undo 46 = .ok (.iload_n 1, 1) := by decide +kernel
theorem dX9_undo_47 : decode cX9_undo 47 = .ok (.iadd, 1) := by decide +kernel
theorem dX9_undo_48 : decode cX9_undo 48 = .ok (.iaload, 1) := by decide +kernel
theorem dX9_undo_49 : decode cX9_undo 49 = .ok (.iastore, 1) := by decide +kernel
theorem dX9_undo_50 : decode cX9_undo 50 = .ok (.iinc 1 1, 3) := by decide +kernel
theorem dX9_undo_53 : decode cX9_undo 53 = .ok (.goto (-31), 3) := by decide +kernel
theorem dX9_undo_56 : decode cX9_undo 56 = .ok (.aload_n 0, 1) := by decide +kernel
theorem dX9_undo_57 : decode cX9_undo 57 = .ok (.getfield 37, 3) := by decide +kernel
theorem dX9_undo_60 : decode cX9_undo 60 = .ok (.ireturn, 1) := by decide +kernel
theorem dX9_fingerprint_0 : decode cX9_fingerprint 0 = .ok (.ldc2_w 149, 3) := by decide +kernel
theorem dX9_fingerprint_3 : decode cX9_fingerprint 3 = .ok (.ldc2_w 149, 3) := by decide +kernel
theorem dX9_fingerprint_6 : decode cX9_fingerprint 6 = .ok (.ldc2_w 151, 3) := by decide +kernel
theorem dX9_fingerprint_9 : decode cX9_fingerprint 9 = .ok (.aload_n 0, 1) := by decide +kernel
theorem dX9_fingerprint_10 : decode cX9_fingerprint 10 = .ok (.getfield 7, 3) := by decide +kernel
theorem dX9_fingerprint_13 : decode cX9_fingerprint 13 = .ok (.iconst 0, 1) := by decide +kernel
theorem dX9_fingerprint_14 : decode cX9_fingerprint 14 = .ok (.iaload, 1) := by decide +kernel
theorem dX9_fingerprint_15 : decode cX9_fingerprint 15 = .ok (.i2l, 1) := by decide +kernel
theorem dX9_fingerprint_16 : decode cX9_fingerprint 16 = .ok (.ladd, 1) := by decide +kernel
theorem dX9_fingerprint_17 : decode cX9_fingerprint 17 = .ok (.lmul, 1) := by decide +kernel
theorem dX9_fingerprint_18 : decode cX9_fingerprint 18 = .ok (.aload_n 0, 1) := by decide +kernel
theorem dX9_fingerprint_19 : decode cX9_fingerprint 19 = .ok (.getfield 7, 3) := by decide +kernel
theorem dX9_fingerprint_22 : decode cX9_fingerprint 22 = .ok (.iconst 2, 1) := by decide +kernel
theorem dX9_fingerprint_23 : decode cX9_fingerprint 23 = .ok (.iaload, 1) := by decide +kernel
theorem dX9_fingerprint_24 : decode cX9_fingerprint 24 = .ok (.i2l, 1) := by decide +kernel
theorem dX9_fingerprint_25 : decode cX9_fingerprint 25 = .ok (.ladd, 1) := by decide +kernel
theorem dX9_fingerprint_26 : decode cX9_fingerprint 26 = .ok (.lmul, 1) := by decide +kernel
theorem dX9_fingerprint_27 : decode cX9_fingerprint 27 = .ok (.aload_n 0, 1) := by decide +kernel
theorem dX9_fingerprint_28 : decode cX9_fingerprint 28 = .ok (.getfield 7, 3) := by decide +kernel
theorem dX9_fingerprint_31 : decode cX9_fingerprint 31 = .ok (.iconst 1, 1) := by decide +kernel
theorem dX9_fingerprint_32 : decode cX9_fingerprint 32 = .ok (.iaload, 1) := by decide +kernel
theorem dX9_fingerprint_33 : decode cX9_fingerprint 33 = .ok (.i2l, 1) := by decide +kernel
theorem dX9_fingerprint_34 : decode cX9_fingerprint 34 = .ok (.ladd, 1) := by decide +kernel
theorem dX9_fingerprint_35 : decode cX9_fingerprint 35 = .ok (.lstore_n 1, 1) := by decide +kernel
theorem dX9_fingerprint_36 : decode cX9_fingerprint 36 = .ok (.ldc2_w 149, 3) := by decide +kernel
theorem dX9_fingerprint_39 : decode cX9_fingerprint 39 = .ok (.lload_n 1, 1) := by decide +kernel
theorem dX9_fingerprint_40 : decode cX9_fingerprint 40 = .ok (.lmul, 1) := by decide +kernel
theorem dX9_fingerprint_41 : decode cX9_fingerprint 41 = .ok (.aload_n 0, 1) := by decide +kernel
theorem dX9_fingerprint_42 : decode cX9_fingerprint 42 = .ok (.getfield 7, 3) := by decide +kernel
theorem dX9_fingerprint_45 : decode cX9_fingerprint 45 = .ok (.iconst 3, 1) := by decide +kernel
theorem dX9_fingerprint_46 : decode cX9_fingerprint 46 = .ok (.iaload, 1) := by decide +kernel
theorem dX9_fingerprint_47 : decode cX9_fingerprint 47 = .ok (.i2l, 1) := by decide +kernel
theorem dX9_fingerprint_48 : decode cX9_fingerprint 48 = .ok (.ladd, 1) := by decide +kernel
theorem dX9_fingerprint_49 : decode cX9_fingerprint 49 = .ok (.lstore_n 1, 1) := by decide +kernel
theorem dX9_fingerprint_50 : decode cX9_fingerprint 50 = .ok (.aload_n 0, 1) := by decide +kernel
theorem dX9_fingerprint_51 : decode cX9_fingerprint 51 = .ok (.invokevirtual 80, 3) := by decide +kernel
theorem dX9_fingerprint_54 : decode cX9_fingerprint 54 = .ok (.aload_n 0, 1) := by decide +kernel
theorem dX9_fingerprint_55 : decode cX9_fingerprint 55 = .ok (.invokevirtual 67, 3) := by decide +kernel
theorem dX9_fingerprint_58 : decode cX9_fingerprint 58 = .ok (.iconst 0, 1) := by decide +kernel
theorem dX9_fingerprint_59 : decode cX9_fingerprint 59 = .ok (.istore_n 3, 1) := by decide +kernel
theorem dX9_fingerprint_60 : decode cX9_fingerprint 60 = .ok (.iload_n 3, 1) := by decide +kernel
theorem dX9_fingerprint_61 : decode cX9_fingerprint 61 = .ok (.aload_n 0, 1) := by decide +kernel
theorem dX9_fingerprint_62 : decode cX9_fingerprint 62 = .ok (.getfield 7, 3) := by decide +kernel
theorem dX9_fingerprint_65 : decode cX9_fingerprint 65 = .ok (.iconst 3, 1) := by decide +kernel
theorem dX9_fingerprint_66 : decode cX9_fingerprint 66 = .ok (.iaload, 1) := by decide +kernel
theorem dX9_fingerprint_67 : decode cX9_fingerprint 67 = .ok (.if_icmp .ge 53, 3) := by decide +kernel
theorem dX9_fingerprint_70 : decode cX9_fingerprint 70 = .ok (.iconst 0, 1) := by decide +kernel
theorem dX9_fingerprint_71 : decode cX9_fingerprint 71 = .ok (.istore 4, 2) := by decide +kernel
theorem dX9_fingerprint_73 : decode cX9_fingerprint 73 = .ok (.iload 4, 2) := by decide +kernel
theorem dX9_fingerprint_75 : decode cX9_fingerprint 75 = .ok (.iconst 4, 1) := by decide +kernel
theorem dX9_fingerprint_76 : decode cX9_fingerprint 76 = .ok (.if_icmp .ge 24, 3) := by decide +kernel
theorem dX9_fingerprint_79 : decode cX9_fingerprint 79 = .ok (.ldc2_w 149, 3) := by decide +kernel
theorem dX9_fingerprint_82 : decode cX9_fingerprint 82 = .ok (.lload_n 1, 1) := by decide +kernel
theorem dX9_fingerprint_83 : decode cX9_fingerprint 83 = .ok (.lmul, 1) := by decide +kernel
theorem dX9_fingerprint_84 : decode cX9_fingerprint 84 = .ok (.aload_n 0, 1) := by decide +kernel
theorem dX9_fingerprint_85 : decode cX9_fingerprint 85 = .ok (.iload_n 3, 1) := by decide +kernel
theorem dX9_fingerprint_86 : decode cX9_fingerprint 86 = .ok (.iload 4, 2) := by decide +kernel
theorem dX9_fingerprint_88 : decode cX9_fingerprint 88 = .ok (.invokevirtual 45, 3) := by decide +kernel
theorem dX9_fingerprint_91 : decode cX9_fingerprint 91 = .ok (.i2l, 1) := by decide +kernel
theorem dX9_fingerprint_92 : decode cX9_fingerprint 92 = .ok (.ladd, 1) := by decide +kernel
theorem dX9_fingerprint_93 : decode cX9_fingerprint 93 = .ok (.lstore_n 1, 1) := by decide +kernel
theorem dX9_fingerprint_94 : decode cX9_fingerprint 94 = .ok (.iinc 4 1, 3) := by decide +kernel
theorem dX9_fingerprint_97 : decode cX9_fingerprint 97 = .ok (.goto (-24), 3) := by decide +kernel
theorem dX9_fingerprint_100 : decode cX9_fingerprint 100 = .ok (.ldc2_w 149, 3) := by decide +kernel
theorem dX9_fingerprint_103 : decode cX9_fingerprint 103 = .ok (.lload_n 1, 1) := by decide +kernel
theorem dX9_fingerprint_104 : decode cX9_fingerprint 104 = .ok (.lmul, 1) := by decide +kernel
theorem dX9_fingerprint_105 : decode cX9_fingerprint 105 = .ok (.aload_n 0, 1) := by decide +kernel
theorem dX9_fingerprint_106 : decode cX9_fingerprint 106 = .ok (.getfield 25, 3) := by decide +kernel
theorem dX9_fingerprint_109 : decode cX9_fingerprint 109 = .ok (.iload_n 3, 1) := by decide +kernel
theorem dX9_fingerprint_110 : decode cX9_fingerprint 110 = .ok (.iaload, 1) := by decide +kernel
theorem dX9_fingerprint_111 : decode cX9_fingerprint 111 = .ok (.i2l, 1) := by decide +kernel
theorem dX9_fingerprint_112 : decode cX9_fingerprint 112 = .ok (.ladd, 1) := by decide +kernel
theorem dX9_fingerprint_113 : decode cX9_fingerprint 113 = .ok (.lstore_n 1, 1) := by decide +kernel
theorem dX9_fingerprint_114 : decode cX9_fingerprint 114 = .ok (.iinc 3 1, 3) := by decide +kernel
theorem dX9_fingerprint_117 : decode cX9_fingerprint 117 = .ok (.goto (-57), 3) := by decide +kernel
theorem dX9_fingerprint_120 : decode cX9_fingerprint 120 = .ok (.iconst 0, 1) := by decide +kernel
theorem dX9_fingerprint_121 : decode cX9_fingerprint 121 = .ok (.istore_n 3, 1) := by decide +kernel
theorem dX9_fingerprint_122 : decode cX9_fingerprint 122 = .ok (.iload_n 3, 1) := by decide +kernel
theorem dX9_fingerprint_123 : decode cX9_fingerprint 123 = .ok (.aload_n 0, 1) := by decide +kernel
theorem dX9_fingerprint_124 : decode cX9_fingerprint 124 = .ok (.getfield 7, 3) := by decide +kernel
theorem dX9_fingerprint_127 : decode cX9_fingerprint 127 = .ok (.iconst 0, 1) := by decide +kernel
theorem dX9_fingerprint_128 : decode cX9_fingerprint 128 = .ok (.iaload, 1) := by decide +kernel
theorem dX9_fingerprint_129 : decode cX9_fingerprint 129 = .ok (.if_icmp .ge 30, 3) := by decide +kernel
theorem dX9_fingerprint_132 : decode cX9_fingerprint 132 = .ok (.ldc2_w 149, 3) := by decide +kernel
theorem dX9_fingerprint_135 : decode cX9_fingerprint 135 = .ok (.lload_n 1, 1) := by decide +kernel
theorem dX9_fingerprint_136 : decode cX9_fingerprint 136 = .ok (.lmul, 1) := by decide +kernel
theorem dX9_fingerprint_137 : decode cX9_fingerprint 137 = .ok (.aload_n 0, 1) := by decide +kernel
theorem dX9_fingerprint_138 : decode cX9_fingerprint 138 = .ok (.getfield 7, 3) := by decide +kernel
theorem dX9_fingerprint_141 : decode cX9_fingerprint 141 = .ok (.bipush 10, 2) := by decide +kernel
theorem dX9_fingerprint_143 : decode cX9_fingerprint 143 = .ok (.iconst 4, 1) := by decide +kernel
theorem dX9_fingerprint_144 : decode cX9_fingerprint 144 = .ok (.iload_n 3, 1) := by decide +kernel
theorem dX9_fingerprint_145 : decode cX9_fingerprint 145 = .ok (.imul, 1) := by decide +kernel
theorem dX9_fingerprint_146 : decode cX9_fingerprint 146 = .ok (.iadd, 1) := by decide +kernel
theorem dX9_fingerprint_147 : decode cX9_fingerprint 147 = .ok (.iconst 3, 1) := by decide +kernel
theorem dX9_fingerprint_148 : decode cX9_fingerprint 148 = .ok (.iadd, 1) := by decide +kernel
theorem dX9_fingerprint_149 : decode cX9_fingerprint 149 = .ok (.iaload, 1) := by decide +kernel
theorem dX9_fingerprint_150 : decode cX9_fingerprint 150 = .ok (.i2l, 1) := by decide +kernel
theorem dX9_fingerprint_151 : decode cX9_fingerprint 151 = .ok (.ladd, 1) := by decide +kernel
theorem dX9_fingerprint_152 : decode cX9_fingerprint 152 = .ok (.lstore_n 1, 1) := by decide +kernel
theorem dX9_fingerprint_153 : decode cX9_fingerprint 153 = .ok (.iinc 3 1, 3) := by decide +kernel
theorem dX9_fingerprint_156 : decode cX9_fingerprint 156 = .ok (.goto (-34), 3) := by decide +kernel
theorem dX9_fingerprint_159 : decode cX9_fingerprint 159 = .ok (.iconst 0, 1) := by decide +kernel
theorem dX9_fingerprint_160 : decode cX9_fingerprint 160 = .ok (.istore_n 3, 1) := by decide +kernel
theorem dX9_fingerprint_161 : decode cX9_fingerprint 161 = .ok (.iload_n 3, 1) := by decide +kernel
theorem dX9_fingerprint_162 : decode cX9_fingerprint 162 = .ok (.aload_n 0, 1) := by decide +kernel
theorem dX9_fingerprint_163 : decode cX9_fingerprint 163 = .ok (.getfield 7, 3) := by decide +kernel
theorem dX9_fingerprint_166 : decode cX9_fingerprint 166 = .ok (.iconst 2, 1) := by decide +kernel
theorem dX9_fingerprint_167 : decode cX9_fingerprint 167 = .ok (.iaload, 1) := by decide +kernel
theorem dX9_fingerprint_168 : decode cX9_fingerprint 168 = .ok (.if_icmp .ge 23, 3) := by decide +kernel
theorem dX9_fingerprint_171 : decode cX9_fingerprint 171 = .ok (.ldc2_w 149, 3) := by decide +kernel
theorem dX9_fingerprint_174 : decode cX9_fingerprint 174 = .ok (.lload_n 1, 1) := by decide +kernel
theorem dX9_fingerprint_175 : decode cX9_fingerprint 175 = .ok (.lmul, 1) := by decide +kernel
theorem dX9_fingerprint_176 : decode cX9_fingerprint 176 = .ok (.aload_n 0, 1) := by decide +kernel
theorem dX9_fingerprint_177 : decode cX9_fingerprint 177 = .ok (.getfield 28, 3) := by decide +kernel
theorem dX9_fingerprint_180 : decode cX9_fingerprint 180 = .ok (.iload_n 3, 1) := by decide +kernel
theorem dX9_fingerprint_181 : decode cX9_fingerprint 181 = .ok (.iaload, 1) := by decide +kernel
theorem dX9_fingerprint_182 : decode cX9_fingerprint 182 = .ok (.i2l, 1) := by decide +kernel
theorem dX9_fingerprint_183 : decode cX9_fingerprint 183 = .ok (.ladd, 1) := by decide +kernel
theorem dX9_fingerprint_184 : decode cX9_fingerprint 184 = .ok (.lstore_n 1, 1) := by decide +kernel
theorem dX9_fingerprint_185 : decode cX9_fingerprint 185 = .ok (.iinc 3 1, 3) := by decide +kernel
theorem dX9_fingerprint_188 : decode cX9_fingerprint 188 = .ok (.goto (-27), 3) := by decide +kernel
theorem dX9_fingerprint_191 : decode cX9_fingerprint 191 = .ok (.lload_n 1, 1) := by decide +kernel
theorem dX9_fingerprint_192 : decode cX9_fingerprint 192 = .ok (.lreturn, 1) := by decide +kernel
theorem dL_law_0 : decode code 0 = .ok (.new 7, 3) := by decide +kernel
theorem dL_law_3 : decode code 3 = .ok (.dup, 1) := by decide +kernel
theorem dL_law_4 : decode code 4 = .ok (.invokespecial 9, 3) := by decide +kernel
theorem dL_law_7 : decode code 7 = .ok (.astore_n 1, 1) := by decide +kernel
theorem dL_law_8 : decode code 8 = .ok (.new 10, 3) := by decide +kernel
theorem dL_law_11 : decode code 11 = .ok (.dup, 1) := by decide +kernel
theorem dL_law_12 : decode code 12 = .ok (.invokespecial 12, 3) := by decide +kernel
theorem dL_law_15 : decode code 15 = .ok (.astore_n 2, 1) := by decide +kernel
theorem dL_law_16 : decode code 16 = .ok (.iconst 0, 1) := by decide +kernel
theorem dL_law_17 : decode code 17 = .ok (.istore_n 3, 1) := by decide +kernel
theorem dL_law_18 : decode code 18 = .ok (.iload_n 3, 1) := by decide +kernel
theorem dL_law_19 : decode code 19 = .ok (.aload_n 0, 1) := by decide +kernel
theorem dL_law_20 : decode code 20 = .ok (.arraylength, 1) := by decide +kernel
theorem dL_law_21 : decode code 21 = .ok (.iconst 5, 1) := by decide +kernel
theorem dL_law_22 : decode code 22 = .ok (.isub, 1) := by decide +kernel
theorem dL_law_23 : decode code 23 = .ok (.if_icmp .gt 792, 3) := by decide +kernel
theorem dL_law_26 : decode code 26 = .ok (.aload_n 0, 1) := by decide +kernel
theorem dL_law_27 : decode code 27 = .ok (.iload_n 3, 1) := by decide +kernel
theorem dL_law_28 : decode code 28 = .ok (.iaload, 1) := by decide +kernel
theorem dL_law_29 : decode code 29 = .ok (.bipush 31, 2) := by decide +kernel
theorem dL_law_31 : decode code 31 = .ok (.iand, 1) := by decide +kernel
theorem dL_law_32 : decode code 32 = .ok (.tableswitch 777 0 21 #[104, 147, 200, 243, 302, 325, 358, 391, 424, 457, 470, 503, 526, 549, 582, 605, 648, 681, 704, 717, 750, 763], 104) := by decide +kernel
theorem dL_law_136 : decode code 136 = .ok (.aload_n 1, 1) := by decide +kernel
theorem dL_law_137 : decode code 137 = .ok (.aload_n 0, 1) := by decide +kernel
theorem dL_law_138 : decode code 138 = .ok (.iload_n 3, 1) := by decide +kernel
theorem dL_law_139 : decode code 139 = .ok (.iconst 1, 1) := by decide +kernel
theorem dL_law_140 : decode code 140 = .ok (.iadd, 1) := by decide +kernel
theorem dL_law_141 : decode code 141 = .ok (.iaload, 1) := by decide +kernel
theorem dL_law_142 : decode code 142 = .ok (.aload_n 0, 1) := by decide +kernel
theorem dL_law_143 : decode code 143 = .ok (.iload_n 3, 1) := by decide +kernel
theorem dL_law_144 : decode code 144 = .ok (.iconst 2, 1) := by decide +kernel
theorem dL_law_145 : decode code 145 = .ok (.iadd, 1) := by decide +kernel
theorem dL_law_146 : decode code 146 = .ok (.iaload, 1) := by decide +kernel
theorem dL_law_147 : decode code 147 = .ok (.aload_n 0, 1) := by decide +kernel
theorem dL_law_148 : decode code 148 = .ok (.iload_n 3, 1) := by decide +kernel
theorem dL_law_149 : decode code 149 = .ok (.iconst 3, 1) := by decide +kernel
theorem dL_law_150 : decode code 150 = .ok (.iadd, 1) := by decide +kernel
theorem dL_law_151 : decode code 151 = .ok (.iaload, 1) := by decide +kernel
theorem dL_law_152 : decode code 152 = .ok (.invokevirtual 13, 3) := by decide +kernel
theorem dL_law_155 : decode code 155 = .ok (.aload_n 2, 1) := by decide +kernel
theorem dL_law_156 : decode code 156 = .ok (.aload_n 0, 1) := by decide +kernel
theorem dL_law_157 : decode code 157 = .ok (.iload_n 3, 1) := by decide +kernel
theorem dL_law_158 : decode code 158 = .ok (.iconst 1, 1) := by decide +kernel
theorem dL_law_159 : decode code 159 = .ok (.iadd, 1) := by decide +kernel
theorem dL_law_160 : decode code 160 = .ok (.iaload, 1) := by decide +kernel
theorem dL_law_161 : decode code 161 = .ok (.aload_n 0, 1) := by decide +kernel
theorem dL_law_162 : decode code 162 = .ok (.iload_n 3, 1) := by decide +kernel
theorem dL_law_163 : decode code 163 = .ok (.iconst 2, 1) := by decide +kernel
theorem dL_law_164 : decode code 164 = .ok (.iadd, 1) := by decide +kernel
theorem dL_law_165 : decode code 165 = .ok (.iaload, 1) := by decide +kernel
theorem dL_law_166 : decode code 166 = .ok (.aload_n 0, 1) := by decide +kernel
theorem dL_law_167 : decode code 167 = .ok (.iload_n 3, 1) := by decide +kernel
theorem dL_law_168 : decode code 168 = .ok (.iconst 3, 1) := by decide +kernel
theorem dL_law_169 : decode code 169 = .ok (.iadd, 1) := by decide +kernel
theorem dL_law_170 : decode code 170 = .ok (.iaload, 1) := by decide +kernel
theorem dL_law_171 : decode code 171 = .ok (.invokevirtual 17, 3) := by decide +kernel
theorem dL_law_174 : decode code 174 = .ok (.if_icmp .eq 635, 3) := by decide +kernel
theorem dL_law_177 : decode code 177 = .ok (.iconst 0, 1) := by decide +kernel
theorem dL_law_178 : decode code 178 = .ok (.ireturn, 1) := by decide +kernel
theorem dL_law_179 : decode code 179 = .ok (.aload_n 1, 1) := by decide +kernel
theorem dL_law_180 : decode code 180 = .ok (.aload_n 0, 1) := by decide +kernel
theorem dL_law_181 : decode code 181 = .ok (.iload_n 3, 1) := by decide +kernel
theorem dL_law_182 : decode code 182 = .ok (.iconst 1, 1) := by decide +kernel
theorem dL_law_183 : decode code 183 = .ok (.iadd, 1) := by decide +kernel
theorem dL_law_184 : decode code 184 = .ok (.iaload, 1) := by decide +kernel
theorem dL_law_185 : decode code 185 = .ok (.aload_n 0, 1) := by decide +kernel
theorem dL_law_186 : decode code 186 = .ok (.iload_n 3, 1) := by decide +kernel
theorem dL_law_187 : decode code 187 = .ok (.iconst 2, 1) := by decide +kernel
theorem dL_law_188 : decode code 188 = .ok (.iadd, 1) := by decide +kernel
theorem dL_law_189 : decode code 189 = .ok (.iaload, 1) := by decide +kernel
theorem dL_law_190 : decode code 190 = .ok (.aload_n 0, 1) := by decide +kernel
theorem dL_law_191 : decode code 191 = .ok (.iload_n 3, 1) := by decide +kernel
theorem dL_law_192 : decode code 192 = .ok (.iconst 3, 1) := by decide +kernel
theorem dL_law_193 : decode code 193 = .ok (.iadd, 1) := by decide +kernel
theorem dL_law_194 : decode code 194 = .ok (.iaload, 1) := by decide +kernel
theorem dL_law_195 : decode code 195 = .ok (.aload_n 0, 1) := by decide +kernel
theorem dL_law_196 : decode code 196 = .ok (.iload_n 3, 1) := by decide +kernel
theorem dL_law_197 : decode code 197 = .ok (.iconst 4, 1) := by decide +kernel
theorem dL_law_198 : decode code 198 = .ok (.iadd, 1) := by decide +kernel
theorem dL_law_199 : decode code 199 = .ok (.iaload, 1) := by decide +kernel
theorem dL_law_200 : decode code 200 = .ok (.invokevirtual 18, 3) := by decide +kernel
theorem dL_law_203 : decode code 203 = .ok (.aload_n 2, 1) := by decide +kernel
theorem dL_law_204 : decode code 204 = .ok (.aload_n 0, 1) := by decide +kernel
theorem dL_law_205 : decode code 205 = .ok (.iload_n 3, 1) := by decide +kernel
theorem dL_law_206 : decode code 206 = .ok (.iconst 1, 1) := by decide +kernel
theorem dL_law_207 : decode code 207 = .ok (.iadd, 1) := by decide +kernel
theorem dL_law_208 : decode code 208 = .ok (.iaload, 1) := by decide +kernel
theorem dL_law_209 : decode code 209 = .ok (.aload_n 0, 1) := by decide +kernel
theorem dL_law_210 : decode code 210 = .ok (.iload_n 3, 1) := by decide +kernel
theorem dL_law_211 : decode code 211 = .ok (.iconst 2, 1) := by decide +kernel
theorem dL_law_212 : decode code 212 = .ok (.iadd, 1) := by decide +kernel
theorem dL_law_213 : decode code 213 = .ok (.iaload, 1) := by decide +kernel
theorem dL_law_214 : decode code 214 = .ok (.aload_n 0, 1) := by decide +kernel
theorem dL_law_215 : decode code 215 = .ok (.iload_n 3, 1) := by decide +kernel
theorem dL_law_216 : decode code 216 = .ok (.iconst 3, 1) := by decide +kernel
theorem dL_law_217 : decode code 217 = .ok (.iadd, 1) := by decide +kernel
theorem dL_law_218 : decode code 218 = .ok (.iaload, 1) := by decide +kernel
theorem dL_law_219 : decode code 219 = .ok (.aload_n 0, 1) := by decide +kernel
theorem dL_law_220 : decode code 220 = .ok (.iload_n 3, 1) := by decide +kernel
theorem dL_law_221 : decode code 221 = .ok (.iconst 4, 1) := by decide +kernel
theorem dL_law_222 : decode code 222 = .ok (.iadd, 1) := by decide +kernel
theorem dL_law_223 : decode code 223 = .ok (.iaload, 1) := by decide +kernel
theorem dL_law_224 : decode code 224 = .ok (.invokevirtual 22, 3) := by decide +kernel
theorem dL_law_227 : decode code 227 = .ok (.if_icmp .eq 582, 3) := by decide +kernel
theorem dL_law_230 : decode code 230 = .ok (.iconst 0, 1) := by decide +kernel
theorem dL_law_231 : decode code 231 = .ok (.ireturn, 1) := by decide +kernel
theorem dL_law_232 : decode code 232 = .ok (.aload_n 1, 1) := by decide +kernel
theorem dL_law_233 : decode code 233 = .ok (.aload_n 0, 1) := by decide +kernel
theorem dL_law_234 : decode code 234 = .ok (.iload_n 3, 1) := by decide +kernel
theorem dL_law_235 : decode code 235 = .ok (.iconst 1, 1) := by decide +kernel
theorem dL_law_236 : decode code 236 = .ok (.iadd, 1) := by decide +kernel
theorem dL_law_237 : decode code 237 = .ok (.iaload, 1) := by decide +kernel
theorem dL_law_238 : decode code 238 = .ok (.aload_n 0, 1) := by decide +kernel
theorem dL_law_239 : decode code 239 = .ok (.iload_n 3, 1) := by decide +kernel
theorem dL_law_240 : decode code 240 = .ok (.iconst 2, 1) := by decide +kernel
theorem dL_law_241 : decode code 241 = .ok (.iadd, 1) := by decide +kernel
theorem dL_law_242 : decode code 242 = .ok (.iaload, 1) := by decide +kernel
theorem dL_law_243 : decode code 243 = .ok (.aload_n 0, 1) := by decide +kernel
theorem dL_law_244 : decode code 244 = .ok (.iload_n 3, 1) := by decide +kernel
theorem dL_law_245 : decode code 245 = .ok (.iconst 3, 1) := by decide +kernel
theorem dL_law_246 : decode code 246 = .ok (.iadd, 1) := by decide +kernel
theorem dL_law_247 : decode code 247 = .ok (.iaload, 1) := by decide +kernel
theorem dL_law_248 : decode code 248 = .ok (.invokevirtual 23, 3) := by decide +kernel
theorem dL_law_251 : decode code 251 = .ok (.aload_n 2, 1) := by decide +kernel
theorem dL_law_252 : decode code 252 = .ok (.aload_n 0, 1) := by decide +kernel
theorem dL_law_253 : decode code 253 = .ok (.iload_n 3, 1) := by decide +kernel
theorem dL_law_254 : decode code 254 = .ok (.iconst 1, 1) := by decide +kernel
theorem dL_law_255 : decode code 255 = .ok (.iadd, 1) := by decide +kernel
theorem dL_law_256 : decode code 256 = .ok (.iaload, 1) := by decide +kernel
theorem dL_law_257 : decode code 257 = .ok (.aload_n 0, 1) := by decide +kernel
theorem dL_law_258 : decode code 258 = .ok (.iload_n 3, 1) := by decide +kernel
theorem dL_law_259 : decode code 259 = .ok (.iconst 2, 1) := by decide +kernel
theorem dL_law_260 : decode code 260 = .ok (.iadd, 1) := by decide +kernel
theorem dL_law_261 : decode code 261 = .ok (.iaload, 1) := by decide +kernel
theorem dL_law_262 : decode code 262 = .ok (.aload_n 0, 1) := by decide +kernel
theorem dL_law_263 : decode code 263 = .ok (.iload_n 3, 1) := by decide +kernel
theorem dL_law_264 : decode code 264 = .ok (.iconst 3, 1) := by decide +kernel
theorem dL_law_265 : decode code 265 = .ok (.iadd, 1) := by decide +kernel
theorem dL_law_266 : decode code 266 = .ok (.iaload, 1) := by decide +kernel
theorem dL_law_267 : decode code 267 = .ok (.invokevirtual 26, 3) := by decide +kernel
theorem dL_law_270 : decode code 270 = .ok (.if_icmp .eq 539, 3) := by decide +kernel
theorem dL_law_273 : decode code 273 = .ok (.iconst 0, 1) := by decide +kernel
theorem dL_law_274 : decode code 274 = .ok (.ireturn, 1) := by decide +kernel
theorem dL_law_275 : decode code 275 = .ok (.aload_n 1, 1) := by decide +kernel
theorem dL_law_276 : decode code 276 = .ok (.aload_n 0, 1) := by decide +kernel
theorem dL_law_277 : decode code 277 = .ok (.iload_n 3, 1) := by decide +kernel
theorem dL_law_278 : decode code 278 = .ok (.iconst 1, 1) := by decide +kernel
theorem dL_law_279 : decode code 279 = .ok (.iadd, 1) := by decide +kernel
theorem dL_law_280 : decode code 280 = .ok (.iaload, 1) := by decide +kernel
theorem dL_law_281 : decode code 281 = .ok (.aload_n 0, 1) := by decide +kernel
theorem dL_law_282 : decode code 282 = .ok (.iload_n 3, 1) := by decide +kernel
theorem dL_law_283 : decode code 283 = .ok (.iconst 2, 1) := by decide +kernel
theorem dL_law_284 : decode code 284 = .ok (.iadd, 1) := by decide +kernel
theorem dL_law_285 : decode code 285 = .ok (.iaload, 1) := by decide +kernel
theorem dL_law_286 : decode code 286 = .ok (.aload_n 0, 1) := by decide +kernel
theorem dL_law_287 : decode code 287 = .ok (.iload_n 3, 1) := by decide +kernel
theorem dL_law_288 : decode code 288 = .ok (.iconst 3, 1) := by decide +kernel
theorem dL_law_289 : decode code 289 = .ok (.iadd, 1) := by decide +kernel
theorem dL_law_290 : decode code 290 = .ok (.iaload, 1) := by decide +kernel
theorem dL_law_291 : decode code 291 = .ok (.ifCond .eq 7, 3) := by decide +kernel
theorem dL_law_294 : decode code 294 = .ok (.iconst 1, 1) := by decide +kernel
theorem dL_law_295 : decode code 295 = .ok (.goto 4, 3) := by decide +kernel
theorem dL_law_298 : decode code 298 = .ok (.iconst 0, 1) := by decide +kernel
theorem dL_law_299 : decode code 299 = .ok (.invokevirtual 27, 3) := by decide +kernel
theorem dL_law_302 : decode code 302 = .ok (.aload_n 2, 1) := by decide +kernel
theorem dL_law_303 : decode code 303 = .ok (.aload_n 0, 1) := by decide +kernel
theorem dL_law_304 : decode code 304 = .ok (.iload_n 3, 1) := by decide +kernel
theorem dL_law_305 : decode code 305 = .ok (.iconst 1, 1) := by decide +kernel
theorem dL_law_306 : decode code 306 = .ok (.iadd, 1) := by decide +kernel
theorem dL_law_307 : decode code 307 = .ok (.iaload, 1) := by decide +kernel
theorem dL_law_308 : decode code 308 = .ok (.aload_n 0, 1) := by decide +kernel
theorem dL_law_309 : decode code 309 = .ok (.iload_n 3, 1) := by decide +kernel
theorem dL_law_310 : decode code 310 = .ok (.iconst 2, 1) := by decide +kernel
theorem dL_law_311 : decode code 311 = .ok (.iadd, 1) := by decide +kernel
theorem dL_law_312 : decode code 312 = .ok (.iaload, 1) := by decide +kernel
theorem dL_law_313 : decode code 313 = .ok (.aload_n 0, 1) := by decide +kernel
theorem dL_law_314 : decode code 314 = .ok (.iload_n 3, 1) := by decide +kernel
theorem dL_law_315 : decode code 315 = .ok (.iconst 3, 1) := by decide +kernel
theorem dL_law_316 : decode code 316 = .ok (.iadd, 1) := by decide +kernel
theorem dL_law_317 : decode code 317 = .ok (.iaload, 1) := by decide +kernel
theorem dL_law_318 : decode code 318 = .ok (.ifCond .eq 7, 3) := by decide +kernel
theorem dL_law_321 : decode code 321 = .ok (.iconst 1, 1) := by decide +kernel
theorem dL_law_322 : decode code 322 = .ok (.goto 4, 3) := by decide +kernel
theorem dL_law_325 : decode code 325 = .ok (.iconst 0, 1) := by decide +kernel
theorem dL_law_326 : decode code 326 = .ok (.invokevirtual 31, 3) := by decide +kernel
theorem dL_law_329 : decode code 329 = .ok (.if_icmp .eq 480, 3) := by decide +kernel
theorem dL_law_332 : decode code 332 = .ok (.iconst 0, 1) := by decide +kernel
theorem dL_law_333 : decode code 333 = .ok (.ireturn, 1) := by decide +kernel
theorem dL_law_334 : decode code 334 = .ok (.aload_n 1, 1) := by decide +kernel
theorem dL_law_335 : decode code 335 = .ok (.aload_n 0, 1) := by decide +kernel
theorem dL_law_336 : decode code 336 = .ok (.iload_n 3, 1) := by decide +kernel
theorem dL_law_337 : decode code 337 = .ok (.iconst 1, 1) := by decide +kernel
theorem dL_law_338 : decode code 338 = .ok (.iadd, 1) := by decide +kernel
theorem dL_law_339 : decode code 339 = .ok (.iaload, 1) := by decide +kernel
theorem dL_law_340 : decode code 340 = .ok (.invokevirtual 32, 3) := by decide +kernel
theorem dL_law_343 : decode code 343 = .ok (.aload_n 2, 1) := by decide +kernel
theorem dL_law_344 : decode code 344 = .ok (.aload_n 0, 1) := by decide +kernel
theorem dL_law_345 : decode code 345 = .ok (.iload_n 3, 1) := by decide +kernel
theorem dL_law_346 : decode code 346 = .ok (.iconst 1, 1) := by decide +kernel
theorem dL_law_347 : decode code 347 = .ok (.iadd, 1) := by decide +kernel
theorem dL_law_348 : decode code 348 = .ok (.iaload, 1) := by decide +kernel
theorem dL_law_349 : decode code 349 = .ok (.invokevirtual 36, 3) := by decide +kernel
theorem dL_law_352 : decode code 352 = .ok (.if_icmp .eq 457, 3) := by decide +kernel
theorem dL_law_355 : decode code 355 = .ok (.iconst 0, 1) := by decide +kernel
theorem dL_law_356 : decode code 356 = .ok (.ireturn, 1) := by decide +kernel
theorem dL_law_357 : decode code 357 = .ok (.aload_n 1, 1) := by decide +kernel
theorem dL_law_358 : decode code 358 = .ok (.aload_n 0, 1) := by decide +kernel
theorem dL_law_359 : decode code 359 = .ok (.iload_n 3, 1) := by decide +kernel
theorem dL_law_360 : decode code 360 = .ok (.iconst 1, 1) := by decide +kernel
theorem dL_law_361 : decode code 361 = .ok (.iadd, 1) := by decide +kernel
theorem dL_law_362 : decode code 362 = .ok (.iaload, 1) := by decide +kernel
theorem dL_law_363 : decode code 363 = .ok (.aload_n 0, 1) := by decide +kernel
theorem dL_law_364 : decode code 364 = .ok (.iload_n 3, 1) := by decide +kernel
theorem dL_law_365 : decode code 365 = .ok (.iconst 2, 1) := by decide +kernel
theorem dL_law_366 : decode code 366 = .ok (.iadd, 1) := by decide +kernel
theorem dL_law_367 : decode code 367 = .ok (.iaload, 1) := by decide +kernel
theorem dL_law_368 : decode code 368 = .ok (.invokevirtual 37, 3) := by decide +kernel
theorem dL_law_371 : decode code 371 = .ok (.aload_n 2, 1) := by decide +kernel
theorem dL_law_372 : decode code 372 = .ok (.aload_n 0, 1) := by decide +kernel
theorem dL_law_373 : decode code 373 = .ok (.iload_n 3, 1) := by decide +kernel
theorem dL_law_374 : decode code 374 = .ok (.iconst 1, 1) := by decide +kernel
theorem dL_law_375 : decode code 375 = .ok (.iadd, 1) := by decide +kernel
theorem dL_law_376 : decode code 376 = .ok (.iaload, 1) := by decide +kernel
theorem dL_law_377 : decode code 377 = .ok (.aload_n 0, 1) := by decide +kernel
theorem dL_law_378 : decode code 378 = .ok (.iload_n 3, 1) := by decide +kernel
theorem dL_law_379 : decode code 379 = .ok (.iconst 2, 1) := by decide +kernel
theorem dL_law_380 : decode code 380 = .ok (.iadd, 1) := by decide +kernel
theorem dL_law_381 : decode code 381 = .ok (.iaload, 1) := by decide +kernel
theorem dL_law_382 : decode code 382 = .ok (.invokevirtual 41, 3) := by decide +kernel
theorem dL_law_385 : decode code 385 = .ok (.if_icmp .eq 424, 3) := by decide +kernel
theorem dL_law_388 : decode code 388 = .ok (.iconst 0, 1) := by decide +kernel
theorem dL_law_389 : decode code 389 = .ok (.ireturn, 1) := by decide +kernel
theorem dL_law_390 : decode code 390 = .ok (.aload_n 1, 1) := by decide +kernel
theorem dL_law_391 : decode code 391 = .ok (.aload_n 0, 1) := by decide +kernel
theorem dL_law_392 : decode code 392 = .ok (.iload_n 3, 1) := by decide +kernel
theorem dL_law_393 : decode code 393 = .ok (.iconst 1, 1) := by decide +kernel
theorem dL_law_394 : decode code 394 = .ok (.iadd, 1) := by decide +kernel
theorem dL_law_395 : decode code 395 = .ok (.iaload, 1) := by decide +kernel
theorem dL_law_396 : decode code 396 = .ok (.aload_n 0, 1) := by decide +kernel
theorem dL_law_397 : decode code 397 = .ok (.iload_n 3, 1) := by decide +kernel
theorem dL_law_398 : decode code 398 = .ok (.iconst 2, 1) := by decide +kernel
theorem dL_law_399 : decode code 399 = .ok (.iadd, 1) := by decide +kernel
theorem dL_law_400 : decode code 400 = .ok (.iaload, 1) := by decide +kernel
theorem dL_law_401 : decode code 401 = .ok (.invokevirtual 42, 3) := by decide +kernel
theorem dL_law_404 : decode code 404 = .ok (.aload_n 2, 1) := by decide +kernel
theorem dL_law_405 : decode code 405 = .ok (.aload_n 0, 1) := by decide +kernel
theorem dL_law_406 : decode code 406 = .ok (.iload_n 3, 1) := by decide +kernel
theorem dL_law_407 : decode code 407 = .ok (.iconst 1, 1) := by decide +kernel
theorem dL_law_408 : decode code 408 = .ok (.iadd, 1) := by decide +kernel
theorem dL_law_409 : decode code 409 = .ok (.iaload, 1) := by decide +kernel
theorem dL_law_410 : decode code 410 = .ok (.aload_n 0, 1) := by decide +kernel
theorem dL_law_411 : decode code 411 = .ok (.iload_n 3, 1) := by decide +kernel
theorem dL_law_412 : decode code 412 = .ok (.iconst 2, 1) := by decide +kernel
theorem dL_law_413 : decode code 413 = .ok (.iadd, 1) := by decide +kernel
theorem dL_law_414 : decode code 414 = .ok (.iaload, 1) := by decide +kernel
theorem dL_law_415 : decode code 415 = .ok (.invokevirtual 45, 3) := by decide +kernel
theorem dL_law_418 : decode code 418 = .ok (.if_icmp .eq 391, 3) := by decide +kernel
theorem dL_law_421 : decode code 421 = .ok (.iconst 0, 1) := by decide +kernel
theorem dL_law_422 : decode code 422 = .ok (.ireturn, 1) := by decide +kernel
theorem dL_law_423 : decode code 423 = .ok (.aload_n 1, 1) := by decide +kernel
theorem dL_law_424 : decode code 424 = .ok (.aload_n 0, 1) := by decide +kernel
theorem dL_law_425 : decode code 425 = .ok (.iload_n 3, 1) := by decide +kernel
theorem dL_law_426 : decode code 426 = .ok (.iconst 1, 1) := by decide +kernel
theorem dL_law_427 : decode code 427 = .ok (.iadd, 1) := by decide +kernel
theorem dL_law_428 : decode code 428 = .ok (.iaload, 1) := by decide +kernel
theorem dL_law_429 : decode code 429 = .ok (.aload_n 0, 1) := by decide +kernel
theorem dL_law_430 : decode code 430 = .ok (.iload_n 3, 1) := by decide +kernel
theorem dL_law_431 : decode code 431 = .ok (.iconst 2, 1) := by decide +kernel
theorem dL_law_432 : decode code 432 = .ok (.iadd, 1) := by decide +kernel
theorem dL_law_433 : decode code 433 = .ok (.iaload, 1) := by decide +kernel
theorem dL_law_434 : decode code 434 = .ok (.invokevirtual 46, 3) := by decide +kernel
theorem dL_law_437 : decode code 437 = .ok (.aload_n 2, 1) := by decide +kernel
theorem dL_law_438 : decode code 438 = .ok (.aload_n 0, 1) := by decide +kernel
theorem dL_law_439 : decode code 439 = .ok (.iload_n 3, 1) := by decide +kernel
theorem dL_law_440 : decode code 440 = .ok (.iconst 1, 1) := by decide +kernel
theorem dL_law_441 : decode code 441 = .ok (.iadd, 1) := by decide +kernel
theorem dL_law_442 : decode code 442 = .ok (.iaload, 1) := by decide +kernel
theorem dL_law_443 : decode code 443 = .ok (.aload_n 0, 1) := by decide +kernel
theorem dL_law_444 : decode code 444 = .ok (.iload_n 3, 1) := by decide +kernel
theorem dL_law_445 : decode code 445 = .ok (.iconst 2, 1) := by decide +kernel
theorem dL_law_446 : decode code 446 = .ok (.iadd, 1) := by decide +kernel
theorem dL_law_447 : decode code 447 = .ok (.iaload, 1) := by decide +kernel
theorem dL_law_448 : decode code 448 = .ok (.invokevirtual 49, 3) := by decide +kernel
theorem dL_law_451 : decode code 451 = .ok (.if_icmp .eq 358, 3) := by decide +kernel
theorem dL_law_454 : decode code 454 = .ok (.iconst 0, 1) := by decide +kernel
theorem dL_law_455 : decode code 455 = .ok (.ireturn, 1) := by decide +kernel
theorem dL_law_456 : decode code 456 = .ok (.aload_n 1, 1) := by decide +kernel
theorem dL_law_457 : decode code 457 = .ok (.aload_n 0, 1) := by decide +kernel
theorem dL_law_458 : decode code 458 = .ok (.iload_n 3, 1) := by decide +kernel
theorem dL_law_459 : decode code 459 = .ok (.iconst 1, 1) := by decide +kernel
theorem dL_law_460 : decode code 460 = .ok (.iadd, 1) := by decide +kernel
theorem dL_law_461 : decode code 461 = .ok (.iaload, 1) := by decide +kernel
theorem dL_law_462 : decode code 462 = .ok (.aload_n 0, 1) := by decide +kernel
theorem dL_law_463 : decode code 463 = .ok (.iload_n 3, 1) := by decide +kernel
theorem dL_law_464 : decode code 464 = .ok (.iconst 2, 1) := by decide +kernel
theorem dL_law_465 : decode code 465 = .ok (.iadd, 1) := by decide +kernel
theorem dL_law_466 : decode code 466 = .ok (.iaload, 1) := by decide +kernel
theorem dL_law_467 : decode code 467 = .ok (.invokevirtual 50, 3) := by decide +kernel
theorem dL_law_470 : decode code 470 = .ok (.aload_n 2, 1) := by decide +kernel
theorem dL_law_471 : decode code 471 = .ok (.aload_n 0, 1) := by decide +kernel
theorem dL_law_472 : decode code 472 = .ok (.iload_n 3, 1) := by decide +kernel
theorem dL_law_473 : decode code 473 = .ok (.iconst 1, 1) := by decide +kernel
theorem dL_law_474 : decode code 474 = .ok (.iadd, 1) := by decide +kernel
theorem dL_law_475 : decode code 475 = .ok (.iaload, 1) := by decide +kernel
theorem dL_law_476 : decode code 476 = .ok (.aload_n 0, 1) := by decide +kernel
theorem dL_law_477 : decode code 477 = .ok (.iload_n 3, 1) := by decide +kernel
theorem dL_law_478 : decode code 478 = .ok (.iconst 2, 1) := by decide +kernel
theorem dL_law_479 : decode code 479 = .ok (.iadd, 1) := by decide +kernel
theorem dL_law_480 : decode code 480 = .ok (.iaload, 1) := by decide +kernel
theorem dL_law_481 : decode code 481 = .ok (.invokevirtual 53, 3) := by decide +kernel
theorem dL_law_484 : decode code 484 = .ok (.if_icmp .eq 325, 3) := by decide +kernel
theorem dL_law_487 : decode code 487 = .ok (.iconst 0, 1) := by decide +kernel
theorem dL_law_488 : decode code 488 = .ok (.ireturn, 1) := by decide +kernel
theorem dL_law_489 : decode code 489 = .ok (.aload_n 1, 1) := by decide +kernel
theorem dL_law_490 : decode code 490 = .ok (.invokevirtual 54, 3) := by decide +kernel
theorem dL_law_493 : decode code 493 = .ok (.aload_n 2, 1) := by decide +kernel
theorem dL_law_494 : decode code 494 = .ok (.invokevirtual 58, 3) := by decide +kernel
theorem dL_law_497 : decode code 497 = .ok (.if_icmp .eq 312, 3) := by decide +kernel
theorem dL_law_500 : decode code 500 = .ok (.iconst 0, 1) := by decide +kernel
theorem dL_law_501 : decode code 501 = .ok (.ireturn, 1) := by decide +kernel
theorem dL_law_502 : decode code 502 = .ok (.aload_n 1, 1) := by decide +kernel
theorem dL_law_503 : decode code 503 = .ok (.aload_n 0, 1) := by decide +kernel
theorem dL_law_504 : decode code 504 = .ok (.iload_n 3, 1) := by decide +kernel
theorem dL_law_505 : decode code 505 = .ok (.iconst 1, 1) := by decide +kernel
theorem dL_law_506 : decode code 506 = .ok (.iadd, 1) := by decide +kernel
theorem dL_law_507 : decode code 507 = .ok (.iaload, 1) := by decide +kernel
theorem dL_law_508 : decode code 508 = .ok (.aload_n 0, 1) := by decide +kernel
theorem dL_law_509 : decode code 509 = .ok (.iload_n 3, 1) := by decide +kernel
theorem dL_law_510 : decode code 510 = .ok (.iconst 2, 1) := by decide +kernel
theorem dL_law_511 : decode code 511 = .ok (.iadd, 1) := by decide +kernel
theorem dL_law_512 : decode code 512 = .ok (.iaload, 1) := by decide +kernel
theorem dL_law_513 : decode code 513 = .ok (.invokevirtual 59, 3) := by decide +kernel
theorem dL_law_516 : decode code 516 = .ok (.aload_n 2, 1) := by decide +kernel
theorem dL_law_517 : decode code 517 = .ok (.aload_n 0, 1) := by decide +kernel
theorem dL_law_518 : decode code 518 = .ok (.iload_n 3, 1) := by decide +kernel
theorem dL_law_519 : decode code 519 = .ok (.iconst 1, 1) := by decide +kernel
theorem dL_law_520 : decode code 520 = .ok (.iadd, 1) := by decide +kernel
theorem dL_law_521 : decode code 521 = .ok (.iaload, 1) := by decide +kernel
theorem dL_law_522 : decode code 522 = .ok (.aload_n 0, 1) := by decide +kernel
theorem dL_law_523 : decode code 523 = .ok (.iload_n 3, 1) := by decide +kernel
theorem dL_law_524 : decode code 524 = .ok (.iconst 2, 1) := by decide +kernel
theorem dL_law_525 : decode code 525 = .ok (.iadd, 1) := by decide +kernel
theorem dL_law_526 : decode code 526 = .ok (.iaload, 1) := by decide +kernel
theorem dL_law_527 : decode code 527 = .ok (.invokevirtual 62, 3) := by decide +kernel
theorem dL_law_530 : decode code 530 = .ok (.if_icmp .eq 279, 3) := by decide +kernel
theorem dL_law_533 : decode code 533 = .ok (.iconst 0, 1) := by decide +kernel
theorem dL_law_534 : decode code 534 = .ok (.ireturn, 1) := by decide +kernel
theorem dL_law_535 : decode code 535 = .ok (.aload_n 1, 1) := by decide +kernel
theorem dL_law_536 : decode code 536 = .ok (.aload_n 0, 1) := by decide +kernel
theorem dL_law_537 : decode code 537 = .ok (.iload_n 3, 1) := by decide +kernel
theorem dL_law_538 : decode code 538 = .ok (.iconst 1, 1) := by decide +kernel
theorem dL_law_539 : decode code 539 = .ok (.iadd, 1) := by decide +kernel
theorem dL_law_540 : decode code 540 = .ok (.iaload, 1) := by decide +kernel
theorem dL_law_541 : decode code 541 = .ok (.invokevirtual 63, 3) := by decide +kernel
theorem dL_law_544 : decode code 544 = .ok (.aload_n 2, 1) := by decide +kernel
theorem dL_law_545 : decode code 545 = .ok (.aload_n 0, 1) := by decide +kernel
theorem dL_law_546 : decode code 546 = .ok (.iload_n 3, 1) := by decide +kernel
theorem dL_law_547 : decode code 547 = .ok (.iconst 1, 1) := by decide +kernel
theorem dL_law_548 : decode code 548 = .ok (.iadd, 1) := by decide +kernel
theorem dL_law_549 : decode code 549 = .ok (.iaload, 1) := by decide +kernel
theorem dL_law_550 : decode code 550 = .ok (.invokevirtual 66, 3) := by decide +kernel
theorem dL_law_553 : decode code 553 = .ok (.if_icmp .eq 256, 3) := by decide +kernel
theorem dL_law_556 : decode code 556 = .ok (.iconst 0, 1) := by decide +kernel
theorem dL_law_557 : decode code 557 = .ok (.ireturn, 1) := by decide +kernel
theorem dL_law_558 : decode code 558 = .ok (.aload_n 1, 1) := by decide +kernel
theorem dL_law_559 : decode code 559 = .ok (.aload_n 0, 1) := by decide +kernel
theorem dL_law_560 : decode code 560 = .ok (.iload_n 3, 1) := by decide +kernel
theorem dL_law_561 : decode code 561 = .ok (.iconst 1, 1) := by decide +kernel
theorem dL_law_562 : decode code 562 = .ok (.iadd, 1) := by decide +kernel
theorem dL_law_563 : decode code 563 = .ok (.iaload, 1) := by decide +kernel
theorem dL_law_564 : decode code 564 = .ok (.invokevirtual 67, 3) := by decide +kernel
theorem dL_law_567 : decode code 567 = .ok (.aload_n 2, 1) := by decide +kernel
theorem dL_law_568 : decode code 568 = .ok (.aload_n 0, 1) := by decide +kernel
theorem dL_law_569 : decode code 569 = .ok (.iload_n 3, 1) := by decide +kernel
theorem dL_law_570 : decode code 570 = .ok (.iconst 1, 1) := by decide +kernel
theorem dL_law_571 : decode code 571 = .ok (.iadd, 1) := by decide +kernel
theorem dL_law_572 : decode code 572 = .ok (.iaload, 1) := by decide +kernel
theorem dL_law_573 : decode code 573 = .ok (.invokevirtual 70, 3) := by decide +kernel
theorem dL_law_576 : decode code 576 = .ok (.if_icmp .eq 233, 3) := by decide +kernel
theorem dL_law_579 : decode code 579 = .ok (.iconst 0, 1) := by decide +kernel
theorem dL_law_580 : decode code 580 = .ok (.ireturn, 1) := by decide +kernel
theorem dL_law_581 : decode code 581 = .ok (.aload_n 1, 1) := by decide +kernel
theorem dL_law_582 : decode code 582 = .ok (.aload_n 0, 1) := by decide +kernel
theorem dL_law_583 : decode code 583 = .ok (.iload_n 3, 1) := by decide +kernel
theorem dL_law_584 : decode code 584 = .ok (.iconst 1, 1) := by decide +kernel
theorem dL_law_585 : decode code 585 = .ok (.iadd, 1) := by decide +kernel
theorem dL_law_586 : decode code 586 = .ok (.iaload, 1) := by decide +kernel
theorem dL_law_587 : decode code 587 = .ok (.aload_n 0, 1) := by decide +kernel
theorem dL_law_588 : decode code 588 = .ok (.iload_n 3, 1) := by decide +kernel
theorem dL_law_589 : decode code 589 = .ok (.iconst 2, 1) := by decide +kernel
theorem dL_law_590 : decode code 590 = .ok (.iadd, 1) := by decide +kernel
theorem dL_law_591 : decode code 591 = .ok (.iaload, 1) := by decide +kernel
theorem dL_law_592 : decode code 592 = .ok (.invokevirtual 71, 3) := by decide +kernel
theorem dL_law_595 : decode code 595 = .ok (.aload_n 2, 1) := by decide +kernel
theorem dL_law_596 : decode code 596 = .ok (.aload_n 0, 1) := by decide +kernel
theorem dL_law_597 : decode code 597 = .ok (.iload_n 3, 1) := by decide +kernel
theorem dL_law_598 : decode code 598 = .ok (.iconst 1, 1) := by decide +kernel
theorem dL_law_599 : decode code 599 = .ok (.iadd, 1) := by decide +kernel
theorem dL_law_600 : decode code 600 = .ok (.iaload, 1) := by decide +kernel
theorem dL_law_601 : decode code 601 = .ok (.aload_n 0, 1) := by decide +kernel
theorem dL_law_602 : decode code 602 = .ok (.iload_n 3, 1) := by decide +kernel
theorem dL_law_603 : decode code 603 = .ok (.iconst 2, 1) := by decide +kernel
theorem dL_law_604 : decode code 604 = .ok (.iadd, 1) := by decide +kernel
theorem dL_law_605 : decode code 605 = .ok (.iaload, 1) := by decide +kernel
theorem dL_law_606 : decode code 606 = .ok (.invokevirtual 74, 3) := by decide +kernel
theorem dL_law_609 : decode code 609 = .ok (.if_icmp .eq 200, 3) := by decide +kernel
theorem dL_law_612 : decode code 612 = .ok (.iconst 0, 1) := by decide +kernel
theorem dL_law_613 : decode code 613 = .ok (.ireturn, 1) := by decide +kernel
theorem dL_law_614 : decode code 614 = .ok (.aload_n 1, 1) := by decide +kernel
theorem dL_law_615 : decode code 615 = .ok (.aload_n 0, 1) := by decide +kernel
theorem dL_law_616 : decode code 616 = .ok (.iload_n 3, 1) := by decide +kernel
theorem dL_law_617 : decode code 617 = .ok (.iconst 1, 1) := by decide +kernel
theorem dL_law_618 : decode code 618 = .ok (.iadd, 1) := by decide +kernel
theorem dL_law_619 : decode code 619 = .ok (.iaload, 1) := by decide +kernel
theorem dL_law_620 : decode code 620 = .ok (.invokevirtual 75, 3) := by decide +kernel
theorem dL_law_623 : decode code 623 = .ok (.aload_n 2, 1) := by decide +kernel
theorem dL_law_624 : decode code 624 = .ok (.aload_n 0, 1) := by decide +kernel
theorem dL_law_625 : decode code 625 = .ok (.iload_n 3, 1) := by decide +kernel
theorem dL_law_626 : decode code 626 = .ok (.iconst 1, 1) := by decide +kernel
theorem dL_law_627 : decode code 627 = .ok (.iadd, 1) := by decide +kernel
theorem dL_law_628 : decode code 628 = .ok (.iaload, 1) := by decide +kernel
theorem dL_law_629 : decode code 629 = .ok (.invokevirtual 78, 3) := by decide +kernel
theorem dL_law_632 : decode code 632 = .ok (.if_icmp .eq 177, 3) := by decide +kernel
theorem dL_law_635 : decode code 635 = .ok (.iconst 0, 1) := by decide +kernel
theorem dL_law_636 : decode code 636 = .ok (.ireturn, 1) := by decide +kernel
theorem dL_law_637 : decode code 637 = .ok (.aload_n 1, 1) := by decide +kernel
theorem dL_law_638 : decode code 638 = .ok (.aload_n 0, 1) := by decide +kernel
theorem dL_law_639 : decode code 639 = .ok (.iload_n 3, 1) := by decide +kernel
theorem dL_law_640 : decode code 640 = .ok (.iconst 1, 1) := by decide +kernel
theorem dL_law_641 : decode code 641 = .ok (.iadd, 1) := by decide +kernel
theorem dL_law_642 : decode code 642 = .ok (.iaload, 1) := by decide +kernel
theorem dL_law_643 : decode code 643 = .ok (.aload_n 0, 1) := by decide +kernel
theorem dL_law_644 : decode code 644 = .ok (.iload_n 3, 1) := by decide +kernel
theorem dL_law_645 : decode code 645 = .ok (.iconst 2, 1) := by decide +kernel
theorem dL_law_646 : decode code 646 = .ok (.iadd, 1) := by decide +kernel
theorem dL_law_647 : decode code 647 = .ok (.iaload, 1) := by decide +kernel
theorem dL_law_648 : decode code 648 = .ok (.aload_n 0, 1) := by decide +kernel
theorem dL_law_649 : decode code 649 = .ok (.iload_n 3, 1) := by decide +kernel
theorem dL_law_650 : decode code 650 = .ok (.iconst 3, 1) := by decide +kernel
theorem dL_law_651 : decode code 651 = .ok (.iadd, 1) := by decide +kernel
theorem dL_law_652 : decode code 652 = .ok (.iaload, 1) := by decide +kernel
theorem dL_law_653 : decode code 653 = .ok (.invokevirtual 79, 3) := by decide +kernel
theorem dL_law_656 : decode code 656 = .ok (.aload_n 2, 1) := by decide +kernel
theorem dL_law_657 : decode code 657 = .ok (.aload_n 0, 1) := by decide +kernel
theorem dL_law_658 : decode code 658 = .ok (.iload_n 3, 1) := by decide +kernel
theorem dL_law_659 : decode code 659 = .ok (.iconst 1, 1) := by decide +kernel
theorem dL_law_660 : decode code 660 = .ok (.iadd, 1) := by decide +kernel
theorem dL_law_661 : decode code 661 = .ok (.iaload, 1) := by decide +kernel
theorem dL_law_662 : decode code 662 = .ok (.aload_n 0, 1) := by decide +kernel
theorem dL_law_663 : decode code 663 = .ok (.iload_n 3, 1) := by decide +kernel
theorem dL_law_664 : decode code 664 = .ok (.iconst 2, 1) := by decide +kernel
theorem dL_law_665 : decode code 665 = .ok (.iadd, 1) := by decide +kernel
theorem dL_law_666 : decode code 666 = .ok (.iaload, 1) := by decide +kernel
theorem dL_law_667 : decode code 667 = .ok (.aload_n 0, 1) := by decide +kernel
theorem dL_law_668 : decode code 668 = .ok (.iload_n 3, 1) := by decide +kernel
theorem dL_law_669 : decode code 669 = .ok (.iconst 3, 1) := by decide +kernel
theorem dL_law_670 : decode code 670 = .ok (.iadd, 1) := by decide +kernel
theorem dL_law_671 : decode code 671 = .ok (.iaload, 1) := by decide +kernel
theorem dL_law_672 : decode code 672 = .ok (.invokevirtual 82, 3) := by decide +kernel
theorem dL_law_675 : decode code 675 = .ok (.if_icmp .eq 134, 3) := by decide +kernel
theorem dL_law_678 : decode code 678 = .ok (.iconst 0, 1) := by decide +kernel
theorem dL_law_679 : decode code 679 = .ok (.ireturn, 1) := by decide +kernel
theorem dL_law_680 : decode code 680 = .ok (.aload_n 1, 1) := by decide +kernel
theorem dL_law_681 : decode code 681 = .ok (.aload_n 0, 1) := by decide +kernel
theorem dL_law_682 : decode code 682 = .ok (.iload_n 3, 1) := by decide +kernel
theorem dL_law_683 : decode code 683 = .ok (.iconst 1, 1) := by decide +kernel
theorem dL_law_684 : decode code 684 = .ok (.iadd, 1) := by decide +kernel
theorem dL_law_685 : decode code 685 = .ok (.iaload, 1) := by decide +kernel
theorem dL_law_686 : decode code 686 = .ok (.aload_n 0, 1) := by decide +kernel
theorem dL_law_687 : decode code 687 = .ok (.iload_n 3, 1) := by decide +kernel
theorem dL_law_688 : decode code 688 = .ok (.iconst 2, 1) := by decide +kernel
theorem dL_law_689 : decode code 689 = .ok (.iadd, 1) := by decide +kernel
theorem dL_law_690 : decode code 690 = .ok (.iaload, 1) := by decide +kernel
theorem dL_law_691 : decode code 691 = .ok (.invokevirtual 83, 3) := by decide +kernel
theorem dL_law_694 : decode code 694 = .ok (.aload_n 2, 1) := by decide +kernel
theorem dL_law_695 : decode code 695 = .ok (.aload_n 0, 1) := by decide +kernel
theorem dL_law_696 : decode code 696 = .ok (.iload_n 3, 1) := by decide +kernel
theorem dL_law_697 : decode code 697 = .ok (.iconst 1, 1) := by decide +kernel
theorem dL_law_698 : decode code 698 = .ok (.iadd, 1) := by decide +kernel
theorem dL_law_699 : decode code 699 = .ok (.iaload, 1) := by decide +kernel
theorem dL_law_700 : decode code 700 = .ok (.aload_n 0, 1) := by decide +kernel
theorem dL_law_701 : decode code 701 = .ok (.iload_n 3, 1) := by decide +kernel
theorem dL_law_702 : decode code 702 = .ok (.iconst 2, 1) := by decide +kernel
theorem dL_law_703 : decode code 703 = .ok (.iadd, 1) := by decide +kernel
theorem dL_law_704 : decode code 704 = .ok (.iaload, 1) := by decide +kernel
theorem dL_law_705 : decode code 705 = .ok (.invokevirtual 86, 3) := by decide +kernel
theorem dL_law_708 : decode code 708 = .ok (.if_icmp .eq 101, 3) := by decide +kernel
theorem dL_law_711 : decode code 711 = .ok (.iconst 0, 1) := by decide +kernel
theorem dL_law_712 : decode code 712 = .ok (.ireturn, 1) := by decide +kernel
theorem dL_law_713 : decode code 713 = .ok (.aload_n 1, 1) := by decide +kernel
theorem dL_law_714 : decode code 714 = .ok (.aload_n 0, 1) := by decide +kernel
theorem dL_law_715 : decode code 715 = .ok (.iload_n 3, 1) := by decide +kernel
theorem dL_law_716 : decode code 716 = .ok (.iconst 1, 1) := by decide +kernel
theorem dL_law_717 : decode code 717 = .ok (.iadd, 1) := by decide +kernel
theorem dL_law_718 : decode code 718 = .ok (.iaload, 1) := by decide +kernel
theorem dL_law_719 : decode code 719 = .ok (.invokevirtual 87, 3) := by decide +kernel
theorem dL_law_722 : decode code 722 = .ok (.aload_n 2, 1) := by decide +kernel
theorem dL_law_723 : decode code 723 = .ok (.aload_n 0, 1) := by decide +kernel
theorem dL_law_724 : decode code 724 = .ok (.iload_n 3, 1) := by decide +kernel
theorem dL_law_725 : decode code 725 = .ok (.iconst 1, 1) := by decide +kernel
theorem dL_law_726 : decode code 726 = .ok (.iadd, 1) := by decide +kernel
theorem dL_law_727 : decode code 727 = .ok (.iaload, 1) := by decide +kernel
theorem dL_law_728 : decode code 728 = .ok (.invokevirtual 90, 3) := by decide +kernel
theorem dL_law_731 : decode code 731 = .ok (.if_icmp .eq 78, 3) := by decide +kernel
theorem dL_law_734 : decode code 734 = .ok (.iconst 0, 1) := by decide +kernel
theorem dL_law_735 : decode code 735 = .ok (.ireturn, 1) := by decide +kernel
theorem dL_law_736 : decode code 736 = .ok (.aload_n 1, 1) := by decide +kernel
theorem dL_law_737 : decode code 737 = .ok (.invokevirtual 91, 3) := by decide +kernel
theorem dL_law_740 : decode code 740 = .ok (.aload_n 2, 1) := by decide +kernel
theorem dL_law_741 : decode code 741 = .ok (.invokevirtual 94, 3) := by decide +kernel
theorem dL_law_744 : decode code 744 = .ok (.if_icmp .eq 65, 3) := by decide +kernel
theorem dL_law_747 : decode code 747 = .ok (.iconst 0, 1) := by decide +kernel
theorem dL_law_748 : decode code 748 = .ok (.ireturn, 1) := by decide +kernel
theorem dL_law_749 : decode code 749 = .ok (.aload_n 1, 1) := by decide +kernel
theorem dL_law_750 : decode code 750 = .ok (.aload_n 0, 1) := by decide +kernel
theorem dL_law_751 : decode code 751 = .ok (.iload_n 3, 1) := by decide +kernel
theorem dL_law_752 : decode code 752 = .ok (.iconst 1, 1) := by decide +kernel
theorem dL_law_753 : decode code 753 = .ok (.iadd, 1) := by decide +kernel
theorem dL_law_754 : decode code 754 = .ok (.iaload, 1) := by decide +kernel
theorem dL_law_755 : decode code 755 = .ok (.aload_n 0, 1) := by decide +kernel
theorem dL_law_756 : decode code 756 = .ok (.iload_n 3, 1) := by decide +kernel
theorem dL_law_757 : decode code 757 = .ok (.iconst 2, 1) := by decide +kernel
theorem dL_law_758 : decode code 758 = .ok (.iadd, 1) := by decide +kernel
theorem dL_law_759 : decode code 759 = .ok (.iaload, 1) := by decide +kernel
theorem dL_law_760 : decode code 760 = .ok (.invokevirtual 95, 3) := by decide +kernel
theorem dL_law_763 : decode code 763 = .ok (.aload_n 2, 1) := by decide +kernel
theorem dL_law_764 : decode code 764 = .ok (.aload_n 0, 1) := by decide +kernel
theorem dL_law_765 : decode code 765 = .ok (.iload_n 3, 1) := by decide +kernel
theorem dL_law_766 : decode code 766 = .ok (.iconst 1, 1) := by decide +kernel
theorem dL_law_767 : decode code 767 = .ok (.iadd, 1) := by decide +kernel
theorem dL_law_768 : decode code 768 = .ok (.iaload, 1) := by decide +kernel
theorem dL_law_769 : decode code 769 = .ok (.aload_n 0, 1) := by decide +kernel
theorem dL_law_770 : decode code 770 = .ok (.iload_n 3, 1) := by decide +kernel
theorem dL_law_771 : decode code 771 = .ok (.iconst 2, 1) := by decide +kernel
theorem dL_law_772 : decode code 772 = .ok (.iadd, 1) := by decide +kernel
theorem dL_law_773 : decode code 773 = .ok (.iaload, 1) := by decide +kernel
theorem dL_law_774 : decode code 774 = .ok (.invokevirtual 98, 3) := by decide +kernel
theorem dL_law_777 : decode code 777 = .ok (.if_icmp .eq 32, 3) := by decide +kernel
theorem dL_law_780 : decode code 780 = .ok (.iconst 0, 1) := by decide +kernel
theorem dL_law_781 : decode code 781 = .ok (.ireturn, 1) := by decide +kernel
theorem dL_law_782 : decode code 782 = .ok (.aload_n 1, 1) := by decide +kernel
theorem dL_law_783 : decode code 783 = .ok (.invokevirtual 99, 3) := by decide +kernel
theorem dL_law_786 : decode code 786 = .ok (.aload_n 2, 1) := by decide +kernel
theorem dL_law_787 : decode code 787 = .ok (.invokevirtual 102, 3) := by decide +kernel
theorem dL_law_790 : decode code 790 = .ok (.if_icmp .eq 19, 3) := by decide +kernel
theorem dL_law_793 : decode code 793 = .ok (.iconst 0, 1) := by decide +kernel
theorem dL_law_794 : decode code 794 = .ok (.ireturn, 1) := by decide +kernel
theorem dL_law_795 : decode code 795 = .ok (.aload_n 1, 1) := by decide +kernel
theorem dL_law_796 : decode code 796 = .ok (.invokevirtual 103, 3) := by decide +kernel
theorem dL_law_799 : decode code 799 = .ok (.aload_n 2, 1) := by decide +kernel
theorem dL_law_800 : decode code 800 = .ok (.invokevirtual 107, 3) := by decide +kernel
theorem dL_law_803 : decode code 803 = .ok (.lcmp, 1) := by decide +kernel
theorem dL_law_804 : decode code 804 = .ok (.ifCond .eq 5, 3) := by decide +kernel
theorem dL_law_807 : decode code 807 = .ok (.iconst 0, 1) := by decide +kernel
theorem dL_law_808 : decode code 808 = .ok (.ireturn, 1) := by decide +kernel
theorem dL_law_809 : decode code 809 = .ok (.iinc 3 5, 3) := by decide +kernel
theorem dL_law_812 : decode code 812 = .ok (.goto (-794), 3) := by decide +kernel
theorem dL_law_815 : decode code 815 = .ok (.iconst 1, 1) := by decide +kernel
theorem dL_law_816 : decode code 816 = .ok (.ireturn, 1) := by decide +kernel
theorem dJ4_init_da8c8_0 : decode cJ4_init_da8c8 0 = .ok (.aload_n 0, 1) := by decide +kernel
theorem dJ4_init_da8c8_1 : decode cJ4_init_da8c8 1 = .ok (.bipush 16, 2) := by decide +kernel
theorem dJ4_init_da8c8_3 : decode cJ4_init_da8c8 3 = .ok (.invokespecial 1, 3) := by decide +kernel
theorem dJ4_init_da8c8_6 : decode cJ4_init_da8c8 6 = .ok (.return_, 1) := by decide +kernel
theorem dJ4_append_15ec4_0 : decode cJ4_append_15ec4 0 = .ok (.aload_n 0, 1) := by decide +kernel
theorem dJ4_append_15ec4_1 : decode cJ4_append_15ec4 1 = .ok (.aload_n 1, 1) := by decide +kernel
theorem dJ4_append_15ec4_2 : decode cJ4_append_15ec4 2 = .ok (.invokespecial 29, 3) := by decide +kernel
theorem dJ4_append_15ec4_5 : decode cJ4_append_15ec4 5 = .ok (.pop, 1) := by decide +kernel
theorem dJ4_append_15ec4_6 : decode cJ4_append_15ec4 6 = .ok (.aload_n 0, 1) := by decide +kernel
theorem dJ4_append_15ec4_7 : decode cJ4_append_15ec4 7 = .ok (.areturn, 1) := by decide +kernel
theorem dJ4_append_cf468_0 : decode cJ4_append_cf468 0 = .ok (.aload_n 0, 1) := by decide +kernel
theorem dJ4_append_cf468_1 : decode cJ4_append_cf468 1 = .ok (.iload_n 1, 1) := by decide +kernel
theorem dJ4_append_cf468_2 : decode cJ4_append_cf468 2 = .ok (.invokespecial 50, 3) := by decide +kernel
theorem dJ4_append_cf468_5 : decode cJ4_append_cf468 5 = .ok (.pop, 1) := by decide +kernel
theorem dJ4_append_cf468_6 : decode cJ4_append_cf468 6 = .ok (.aload_n 0, 1) := by decide +kernel
theorem dJ4_append_cf468_7 : decode cJ4_append_cf468 7 = .ok (.areturn, 1) := by decide +kernel
theorem dJ4_append_bf812_0 : decode cJ4_append_bf812 0 = .ok (.aload_n 0, 1) := by decide +kernel
theorem dJ4_append_bf812_1 : decode cJ4_append_bf812 1 = .ok (.iload_n 1, 1) := by decide +kernel
theorem dJ4_append_bf812_2 : decode cJ4_append_bf812 2 = .ok (.invokespecial 53, 3) := by decide +kernel
theorem dJ4_append_bf812_5 : decode cJ4_append_bf812 5 = .ok (.pop, 1) := by decide +kernel
theorem dJ4_append_bf812_6 : decode cJ4_append_bf812 6 = .ok (.aload_n 0, 1) := by decide +kernel
theorem dJ4_append_bf812_7 : decode cJ4_append_bf812 7 = .ok (.areturn, 1) := by decide +kernel
theorem dJ4_charAt_5068e_0 : decode cJ4_charAt_5068e 0 = .ok (.aload_n 0, 1) := by decide +kernel
theorem dJ4_charAt_5068e_1 : decode cJ4_charAt_5068e 1 = .ok (.iload_n 1, 1) := by decide +kernel
theorem dJ4_charAt_5068e_2 : decode cJ4_charAt_5068e 2 = .ok (.invokespecial 329, 3) := by decide +kernel
theorem dJ4_charAt_5068e_5 : decode cJ4_charAt_5068e 5 = .ok (.ireturn, 1) := by decide +kernel
theorem dJ4_setLength_d00df_0 : decode cJ4_setLength_d00df 0 = .ok (.aload_n 0, 1) := by decide +kernel
theorem dJ4_setLength_d00df_1 : decode cJ4_setLength_d00df 1 = .ok (.iload_n 1, 1) := by decide +kernel
theorem dJ4_setLength_d00df_2 : decode cJ4_setLength_d00df 2 = .ok (.invokespecial 333, 3) := by decide +kernel
theorem dJ4_setLength_d00df_5 : decode cJ4_setLength_d00df 5 = .ok (.return_, 1) := by decide +kernel
theorem dJ4_length_8abf5_0 : decode cJ4_length_8abf5 0 = .ok (.aload_n 0, 1) := by decide +kernel
theorem dJ4_length_8abf5_1 : decode cJ4_length_8abf5 1 = .ok (.invokespecial 343, 3) := by decide +kernel
theorem dJ4_length_8abf5_4 : decode cJ4_length_8abf5 4 = .ok (.ireturn, 1) := by decide +kernel
theorem dJ5_init_d00df_0 : decode cJ5_init_d00df 0 = .ok (.aload_n 0, 1) := by decide +kernel
theorem dJ5_init_d00df_1 : decode cJ5_init_d00df 1 = .ok (.invokespecial 3, 3) := by decide +kernel
theorem dJ5_init_d00df_4 : decode cJ5_init_d00df 4 = .ok (.getstatic 18, 3) := by decide +kernel
theorem dJ5_init_d00df_7 : decode cJ5_init_d00df 7 = .ok (.ifCond .eq 18, 3) := by decide +kernel
theorem dJ5_init_d00df_10 : decode cJ5_init_d00df 10 = .ok (.aload_n 0, 1) := by decide +kernel
theorem dJ5_init_d00df_11 : decode cJ5_init_d00df 11 = .ok (.iload_n 1, 1) := by decide +kernel
theorem dJ5_init_d00df_12 : decode cJ5_init_d00df 12 = .ok (.newarray .byte, 2) := by decide +kernel
theorem dJ5_init_d00df_14 : decode cJ5_init_d00df 14 = .ok (.putfield 15, 3) := by decide +kernel
theorem dJ5_init_d00df_17 : decode cJ5_init_d00df 17 = .ok (.aload_n 0, 1) := by decide +kernel
theorem dJ5_init_d00df_18 : decode cJ5_init_d00df 18 = .ok (.iconst 0, 1) := by decide +kernel
theorem dJ5_init_d00df_19 : decode cJ5_init_d00df 19 = .ok (.putfield 22, 3) := by decide +kernel
theorem dJ5_init_d00df_22 : decode cJ5_init_d00df 22 = .ok (.goto 16, 3) := by decide +kernel
theorem dJ5_init_d00df_25 : decode cJ5_init_d00df 25 = .ok (.aload_n 0, 1) := by decide +kernel
theorem dJ5_init_d00df_26 : decode cJ5_init_d00df 26 = .ok (.iload_n 1, 1) := by decide +kernel
theorem dJ5_init_d00df_27 : decode cJ5_init_d00df 27 = .ok (.invokestatic 26, 3) := by decide +kernel
theorem dJ5_init_d00df_30 : decode cJ5_init_d00df 30 = .ok (.putfield 15, 3) := by decide +kernel
theorem dJ5_init_d00df_33 : decode cJ5_init_d00df 33 = .ok (.aload_n 0, 1) := by decide +kernel
theorem dJ5_init_d00df_34 : decode cJ5_init_d00df 34 = .ok (.iconst 1, 1) := by decide +kernel
theorem dJ5_init_d00df_35 : decode cJ5_init_d00df 35 = .ok (.putfield 22, 3) := by decide +kernel
theorem dJ5_init_d00df_38 : decode cJ5_init_d00df 38 = .ok (.return_, 1) := by decide +kernel
theorem dJ5_length_8abf5_0 : decode cJ5_length_8abf5 0 = .ok (.aload_n 0, 1) := by decide +kernel
theorem dJ5_length_8abf5_1 : decode cJ5_length_8abf5 1 = .ok (.getfield 79, 3) := by decide +kernel
theorem dJ5_length_8abf5_4 : decode cJ5_length_8abf5 4 = .ok (.ireturn, 1) := by decide +kernel
theorem dJ5_ensureCapacityInternal_d00df_0 : decode cJ5_ensureCapacityInternal_d00df 0 = .ok (.aload_n 0, 1) := by decide +kernel
theorem dJ5_ensureCapacityInternal_d00df_1 : decode cJ5_ensureCapacityInternal_d00df 1 = .ok (.getfield 15, 3) := by decide +kernel
theorem dJ5_ensureCapacityInternal_d00df_4 : decode cJ5_ensureCapacityInternal_d00df 4 = .ok (.arraylength, 1) := by decide +kernel
theorem dJ5_ensureCapacityInternal_d00df_5 : decode cJ5_ensureCapacityInternal_d00df 5 = .ok (.aload_n 0, 1) := by decide +kernel
theorem dJ5_ensureCapacityInternal_d00df_6 : decode cJ5_ensureCapacityInternal_d00df 6 = .ok (.getfield 22, 3) := by decide +kernel
theorem dJ5_ensureCapacityInternal_d00df_9 : decode cJ5_ensureCapacityInternal_d00df 9 = .ok (.ishr, 1) := by decide +kernel
theorem dJ5_ensureCapacityInternal_d00df_10 : decode cJ5_ensureCapacityInternal_d00df 10 = .ok (.istore_n 2, 1) := by decide +kernel
theorem dJ5_ensureCapacityInternal_d00df_11 : decode cJ5_ensureCapacityInternal_d00df 11 = .ok (.iload_n 1, 1) := by decide +kernel
theorem dJ5_ensureCapacityInternal_d00df_12 : decode cJ5_ensureCapacityInternal_d00df 12 = .ok (.iload_n 2, 1) := by decide +kernel
theorem dJ5_ensureCapacityInternal_d00df_13 : decode cJ5_ensureCapacityInternal_d00df 13 = .ok (.isub, 1) := by decide +kernel
theorem dJ5_ensureCapacityInternal_d00df_14 : decode cJ5_ensureCapacityInternal_d00df 14 = .ok (.ifCond .le 24, 3) := by decide +kernel
theorem dJ5_ensureCapacityInternal_d00df_17 : decode cJ5_ensureCapacityInternal_d00df 17 = .ok (.aload_n 0, 1) := by decide +kernel
theorem dJ5_ensureCapacityInternal_d00df_18 : decode cJ5_ensureCapacityInternal_d00df 18 = .ok (.aload_n 0, 1) := by decide +kernel
theorem dJ5_ensureCapacityInternal_d00df_19 : decode cJ5_ensureCapacityInternal_d00df 19 = .ok (.getfield 15, 3) := by decide +kernel
theorem dJ5_ensureCapacityInternal_d00df_22 : decode cJ5_ensureCapacityInternal_d00df 22 = .ok (.aload_n 0, 1) := by decide +kernel
theorem dJ5_ensureCapacityInternal_d00df_23 : decode cJ5_ensureCapacityInternal_d00df 23 = .ok (.iload_n 1, 1) := by decide +kernel
theorem dJ5_ensureCapacityInternal_d00df_24 : decode cJ5_ensureCapacityInternal_d00df 24 = .ok (.invokevirtual 104, 3) := by decide +kernel
theorem dJ5_ensureCapacityInternal_d00df_27 : decode cJ5_ensureCapacityInternal_d00df 27 = .ok (.aload_n 0, 1) := by decide +kernel
theorem dJ5_ensureCapacityInternal_d00df_28 : decode cJ5_ensureCapacityInternal_d00df 28 = .ok (.getfield 22, 3) := by decide +kernel
theorem dJ5_ensureCapacityInternal_d00df_31 : decode cJ5_ensureCapacityInternal_d00df 31 = .ok (.ishl, 1) := by decide +kernel
theorem dJ5_ensureCapacityInternal_d00df_32 : decode cJ5_ensureCapacityInternal_d00df 32 = .ok (.invokestatic 108, 3) := by decide +kernel
theorem dJ5_ensureCapacityInternal_d00df_35 : decode cJ5_ensureCapacityInternal_d00df 35 = .ok (.putfield 15, 3) := by decide +kernel
theorem dJ5_ensureCapacityInternal_d00df_38 : decode cJ5_ensureCapacityInternal_d00df 38 = .ok (.return_, 1) := by decide +kernel
theorem dJ5_newCapacity_0f7a4_0 : decode cJ5_newCapacity_0f7a4 0 = .ok (.aload_n 0, 1) := by decide +kernel
theorem dJ5_newCapacity_0f7a4_1 : decode cJ5_newCapacity_0f7a4 1 = .ok (.getfield 15, 3) := by decide +kernel
theorem dJ5_newCapacity_0f7a4_4 : decode cJ5_newCapacity_0f7a4 4 = .ok (.arraylength, 1) := by decide +kernel
theorem dJ5_newCapacity_0f7a4_5 : decode cJ5_newCapacity_0f7a4 5 = .ok (.istore_n 2, 1) := by decide +kernel
theorem dJ5_newCapacity_0f7a4_6 : decode cJ5_newCapacity_0f7a4 6 = .ok (.iload_n 1, 1) := by decide +kernel
theorem dJ5_newCapacity_0f7a4_7 : decode cJ5_newCapacity_0f7a4 7 = .ok (.aload_n 0, 1) := by decide +kernel
theorem dJ5_newCapacity_0f7a4_8 : decode cJ5_newCapacity_0f7a4 8 = .ok (.getfield 22, 3) := by decide +kernel
theorem dJ5_newCapacity_0f7a4_11 : decode cJ5_newCapacity_0f7a4 11 = .ok (.ishl, 1) := by decide +kernel
theorem dJ5_newCapacity_0f7a4_12 : decode cJ5_newCapacity_0f7a4 12 = .ok (.istore_n 3, 1) := by decide +kernel
theorem dJ5_newCapacity_0f7a4_13 : decode cJ5_newCapacity_0f7a4 13 = .ok (.iload_n 3, 1) := by decide +kernel
theorem dJ5_newCapacity_0f7a4_14 : decode cJ5_newCapacity_0f7a4 14 = .ok (.iload_n 2, 1) := by decide +kernel
theorem dJ5_newCapacity_0f7a4_15 : decode cJ5_newCapacity_0f7a4 15 = .ok (.isub, 1) := by decide +kernel
theorem dJ5_newCapacity_0f7a4_16 : decode cJ5_newCapacity_0f7a4 16 = .ok (.istore 4, 2) := by decide +kernel
theorem dJ5_newCapacity_0f7a4_18 : decode cJ5_newCapacity_0f7a4 18 = .ok (.iload_n 2, 1) := by decide +kernel
theorem dJ5_newCapacity_0f7a4_19 : decode cJ5_newCapacity_0f7a4 19 = .ok (.iload 4, 2) := by decide +kernel
theorem dJ5_newCapacity_0f7a4_21 : decode cJ5_newCapacity_0f7a4 21 = .ok (.iload_n 2, 1) := by decide +kernel
theorem dJ5_newCapacity_0f7a4_22 : decode cJ5_newCapacity_0f7a4 22 = .ok (.iconst 2, 1) := by decide +kernel
theorem dJ5_newCapacity_0f7a4_23 : decode cJ5_newCapacity_0f7a4 23 = .ok (.aload_n 0, 1) := by decide +kernel
theorem dJ5_newCapacity_0f7a4_24 : decode cJ5_newCapacity_0f7a4 24 = .ok (.getfield 22, 3) := by decide +kernel
theorem dJ5_newCapacity_0f7a4_27 : decode cJ5_newCapacity_0f7a4 27 = .ok (.ishl, 1) := by decide +kernel
theorem dJ5_newCapacity_0f7a4_28 : decode cJ5_newCapacity_0f7a4 28 = .ok (.iadd, 1) := by decide +kernel
theorem dJ5_newCapacity_0f7a4_29 : decode cJ5_newCapacity_0f7a4 29 = .ok (.invokestatic 114, 3) := by decide +kernel
theorem dJ5_newCapacity_0f7a4_32 : decode cJ5_newCapacity_0f7a4 32 = .ok (.istore 5, 2) := by decide +kernel
theorem dJ5_newCapacity_0f7a4_34 : decode cJ5_newCapacity_0f7a4 34 = .ok (.iload 5, 2) := by decide +kernel
theorem dJ5_newCapacity_0f7a4_36 : decode cJ5_newCapacity_0f7a4 36 = .ok (.ldc 39, 2) := by decide +kernel
theorem dJ5_newCapacity_0f7a4_38 : decode cJ5_newCapacity_0f7a4 38 = .ok (.if_icmp .ne 13, 3) := by decide +kernel
theorem dJ5_newCapacity_0f7a4_41 : decode cJ5_newCapacity_0f7a4 41 = .ok (.new 120, 3) := by decide +kernel
theorem dJ5_newCapacity_0f7a4_44 : decode cJ5_newCapacity_0f7a4 44 = .ok (.dup, 1) := by decide +kernel
theorem dJ5_newCapacity_0f7a4_45 : decode cJ5_newCapacity_0f7a4 45 = .ok (.ldc 122, 2) := by decide +kernel
theorem dJ5_newCapacity_0f7a4_47 : decode cJ5_newCapacity_0f7a4 47 = .ok (.invokespecial 124, 3) := by decide +kernel
theorem dJ5_newCapacity_0f7a4_50 : decode cJ5_newCapacity_0f7a4 50 = .ok (.athrow, 1) := by decide +kernel
theorem dJ5_newCapacity_0f7a4_51 : decode cJ5_newCapacity_0f7a4 51 = .ok (.iload 5, 2) := by decide +kernel
theorem dJ5_newCapacity_0f7a4_53 : decode cJ5_newCapacity_0f7a4 53 = .ok (.aload_n 0, 1) := by decide +kernel
theorem dJ5_newCapacity_0f7a4_54 : decode cJ5_newCapacity_0f7a4 54 = .ok (.getfield 22, 3) := by decide +kernel
theorem dJ5_newCapacity_0f7a4_57 : decode cJ5_newCapacity_0f7a4 57 = .ok (.ishr, 1) := by decide +kernel
theorem dJ5_newCapacity_0f7a4_58 : decode cJ5_newCapacity_0f7a4 58 = .ok (.ireturn, 1) := by decide +kernel
theorem dJ5_setLength_d00df_0 : decode cJ5_setLength_d00df 0 = .ok (.iload_n 1, 1) := by decide +kernel
theorem dJ5_setLength_d00df_1 : decode cJ5_setLength_d00df 1 = .ok (.ifCond .ge 12, 3) := by decide +kernel
theorem dJ5_setLength_d00df_4 : decode cJ5_setLength_d00df 4 = .ok (.new 129, 3) := by decide +kernel
theorem dJ5_setLength_d00df_7 : decode cJ5_setLength_d00df 7 = .ok (.dup, 1) := by decide +kernel
theorem dJ5_setLength_d00df_8 : decode cJ5_setLength_d00df 8 = .ok (.iload_n 1, 1) := by decide +kernel
theorem dJ5_setLength_d00df_9 : decode cJ5_setLength_d00df 9 = .ok (.invokespecial 131, 3) := by decide +kernel
theorem dJ5_setLength_d00df_12 : decode cJ5_setLength_d00df 12 = .ok (.athrow, 1) := by decide +kernel
theorem dJ5_setLength_d00df_13 : decode cJ5_setLength_d00df 13 = .ok (.aload_n 0, 1) := by decide +kernel
theorem dJ5_setLength_d00df_14 : decode cJ5_setLength_d00df 14 = .ok (.iload_n 1, 1) := by decide +kernel
theorem dJ5_setLength_d00df_15 : decode cJ5_setLength_d00df 15 = .ok (.invokevirtual 100, 3) := by decide +kernel
theorem dJ5_setLength_d00df_18 : decode cJ5_setLength_d00df 18 = .ok (.aload_n 0, 1) := by decide +kernel
theorem dJ5_setLength_d00df_19 : decode cJ5_setLength_d00df 19 = .ok (.getfield 79, 3) := by decide +kernel
theorem dJ5_setLength_d00df_22 : decode cJ5_setLength_d00df 22 = .ok (.iload_n 1, 1) := by decide +kernel
theorem dJ5_setLength_d00df_23 : decode cJ5_setLength_d00df 23 = .ok (.if_icmp .ge 40, 3) := by decide +kernel
theorem dJ5_setLength_d00df_26 : decode cJ5_setLength_d00df 26 = .ok (.aload_n 0, 1) := by decide +kernel
theorem dJ5_setLength_d00df_27 : decode cJ5_setLength_d00df 27 = .ok (.invokevirtual 83, 3) := by decide +kernel
theorem dJ5_setLength_d00df_30 : decode cJ5_setLength_d00df 30 = .ok (.ifCond .eq 18, 3) := by decide +kernel
theorem dJ5_setLength_d00df_33 : decode cJ5_setLength_d00df 33 = .ok (.aload_n 0, 1) := by decide +kernel
theorem dJ5_setLength_d00df_34 : decode cJ5_setLength_d00df 34 = .ok (.getfield 15, 3) := by decide +kernel
theorem dJ5_setLength_d00df_37 : decode cJ5_setLength_d00df 37 = .ok (.aload_n 0, 1) := by decide +kernel
theorem dJ5_setLength_d00df_38 : decode cJ5_setLength_d00df 38 = .ok (.getfield 79, 3) := by decide +kernel
theorem dJ5_setLength_d00df_41 : decode cJ5_setLength_d00df 41 = .ok (.iload_n 1, 1) := by decide +kernel
theorem dJ5_setLength_d00df_42 : decode cJ5_setLength_d00df 42 = .ok (.invokestatic 133, 3) := by decide +kernel
theorem dJ5_setLength_d00df_45 : decode cJ5_setLength_d00df 45 = .ok (.goto 31, 3) := by decide +kernel
theorem dJ5_setLength_d00df_48 : decode cJ5_setLength_d00df 48 = .ok (.aload_n 0, 1) := by decide +kernel
theorem dJ5_setLength_d00df_49 : decode cJ5_setLength_d00df 49 = .ok (.getfield 15, 3) := by decide +kernel
theorem dJ5_setLength_d00df_52 : decode cJ5_setLength_d00df 52 = .ok (.aload_n 0, 1) := by decide +kernel
theorem dJ5_setLength_d00df_53 : decode cJ5_setLength_d00df 53 = .ok (.getfield 79, 3) := by decide +kernel
theorem dJ5_setLength_d00df_56 : decode cJ5_setLength_d00df 56 = .ok (.iload_n 1, 1) := by decide +kernel
theorem dJ5_setLength_d00df_57 : decode cJ5_setLength_d00df 57 = .ok (.invokestatic 137, 3) := by decide +kernel
theorem dJ5_setLength_d00df_60 : decode cJ5_setLength_d00df 60 = .ok (.goto 16, 3) := by decide +kernel
theorem dJ5_setLength_d00df_63 : decode cJ5_setLength_d00df 63 = .ok (.aload_n 0, 1) := by decide +kernel
theorem dJ5_setLength_d00df_64 : decode cJ5_setLength_d00df 64 = .ok (.getfield 79, 3) := by decide +kernel
theorem dJ5_setLength_d00df_67 : decode cJ5_setLength_d00df 67 = .ok (.iload_n 1, 1) := by decide +kernel
theorem dJ5_setLength_d00df_68 : decode cJ5_setLength_d00df 68 = .ok (.if_icmp .le 8, 3) := by decide +kernel
theorem dJ5_setLength_d00df_71 : decode cJ5_setLength_d00df 71 = .ok (.aload_n 0, 1) := by decide +kernel
theorem dJ5_setLength_d00df_72 : decode cJ5_setLength_d00df 72 = .ok (.iconst 1, 1) := by decide +kernel
theorem dJ5_setLength_d00df_73 : decode cJ5_setLength_d00df 73 = .ok (.putfield 73, 3) := by decide +kernel
theorem dJ5_setLength_d00df_76 : decode cJ5_setLength_d00df 76 = .ok (.aload_n 0, 1) := by decide +kernel
theorem dJ5_setLength_d00df_77 : decode cJ5_setLength_d00df 77 = .ok (.iload_n 1, 1) := by decide +kernel
theorem dJ5_setLength_d00df_78 : decode cJ5_setLength_d00df 78 = .ok (.putfield 79, 3) := by decide +kernel
theorem dJ5_setLength_d00df_81 : decode cJ5_setLength_d00df 81 = .ok (.return_, 1) := by decide +kernel
theorem dJ5_charAt_5068e_0 : decode cJ5_charAt_5068e 0 = .ok (.aload_n 0, 1) := by decide +kernel
theorem dJ5_charAt_5068e_1 : decode cJ5_charAt_5068e 1 = .ok (.getfield 22, 3) := by decide +kernel
theorem dJ5_charAt_5068e_4 : decode cJ5_charAt_5068e 4 = .ok (.istore_n 2, 1) := by decide +kernel
theorem dJ5_charAt_5068e_5 : decode cJ5_charAt_5068e 5 = .ok (.aload_n 0, 1) := by decide +kernel
theorem dJ5_charAt_5068e_6 : decode cJ5_charAt_5068e 6 = .ok (.getfield 15, 3) := by decide +kernel
theorem dJ5_charAt_5068e_9 : decode cJ5_charAt_5068e 9 = .ok (.astore_n 3, 1) := by decide +kernel
theorem dJ5_charAt_5068e_10 : decode cJ5_charAt_5068e 10 = .ok (.aload_n 0, 1) := by decide +kernel
theorem dJ5_charAt_5068e_11 : decode cJ5_charAt_5068e 11 = .ok (.getfield 79, 3) := by decide +kernel
theorem dJ5_charAt_5068e_14 : decode cJ5_charAt_5068e 14 = .ok (.aload_n 3, 1) := by decide +kernel
theorem dJ5_charAt_5068e_15 : decode cJ5_charAt_5068e 15 = .ok (.arraylength, 1) := by decide +kernel
theorem dJ5_charAt_5068e_16 : decode cJ5_charAt_5068e 16 = .ok (.iload_n 2, 1) := by decide +kernel
theorem dJ5_charAt_5068e_17 : decode cJ5_charAt_5068e 17 = .ok (.ishr, 1) := by decide +kernel
theorem dJ5_charAt_5068e_18 : decode cJ5_charAt_5068e 18 = .ok (.invokestatic 138, 3) := by decide +kernel
theorem dJ5_charAt_5068e_21 : decode cJ5_charAt_5068e 21 = .ok (.istore 4, 2) := by decide +kernel
theorem dJ5_charAt_5068e_23 : decode cJ5_charAt_5068e 23 = .ok (.iload_n 1, 1) := by decide +kernel
theorem dJ5_charAt_5068e_24 : decode cJ5_charAt_5068e 24 = .ok (.iload 4, 2) := by decide +kernel
theorem dJ5_charAt_5068e_26 : decode cJ5_charAt_5068e 26 = .ok (.invokestatic 144, 3) := by decide +kernel
theorem dJ5_charAt_5068e_29 : decode cJ5_charAt_5068e 29 = .ok (.iload_n 2, 1) := by decide +kernel
theorem dJ5_charAt_5068e_30 : decode cJ5_charAt_5068e 30 = .ok (.ifCond .ne 12, 3) := by decide +kernel
theorem dJ5_charAt_5068e_33 : decode cJ5_charAt_5068e 33 = .ok (.aload_n 3, 1) := by decide +kernel
theorem dJ5_charAt_5068e_34 : decode cJ5_charAt_5068e 34 = .ok (.iload_n 1, 1) := by decide +kernel
theorem dJ5_charAt_5068e_35 : decode cJ5_charAt_5068e 35 = .ok (.baload, 1) := by decide +kernel
theorem dJ5_charAt_5068e_36 : decode cJ5_charAt_5068e 36 = .ok (.sipush 255, 3) := by decide +kernel
theorem dJ5_charAt_5068e_39 : decode cJ5_charAt_5068e 39 = .ok (.iand, 1) := by decide +kernel
theorem dJ5_charAt_5068e_40 : decode cJ5_charAt_5068e 40 = .ok (.i2c, 1) := by decide +kernel
theorem dJ5_charAt_5068e_41 : decode cJ5_charAt_5068e 41 = .ok (.ireturn, 1) := by decide +kernel
theorem dJ5_charAt_5068e_42 : decode cJ5_charAt_5068e 42 = .ok (.aload_n 3, 1) := by decide +kernel
theorem dJ5_charAt_5068e_43 : decode cJ5_charAt_5068e 43 = .ok (.iload_n 1, 1) := by decide +kernel
theorem dJ5_charAt_5068e_44 : decode cJ5_charAt_5068e 44 = .ok (.invokestatic 148, 3) := by decide +kernel
theorem dJ5_charAt_5068e_47 : decode cJ5_charAt_5068e 47 = .ok (.ireturn, 1) := by decide +kernel
theorem dJ5_append_cf1ce_0 : decode cJ5_append_cf1ce 0 = .ok (.aload_n 1, 1) := by decide +kernel
theorem dJ5_append_cf1ce_1 : decode cJ5_append_cf1ce 1 = .ok (.ifnonnull 8, 3) := by decide +kernel
theorem dJ5_append_cf1ce_4 : decode cJ5_append_cf1ce 4 = .ok (.aload_n 0, 1) := by decide +kernel
theorem dJ5_append_cf1ce_5 : decode cJ5_append_cf1ce 5 = .ok (.invokevirtual 204, 3) := by decide +kernel
theorem dJ5_append_cf1ce_8 : decode cJ5_append_cf1ce 8 = .ok (.areturn, 1) := by decide +kernel
theorem dJ5_append_cf1ce_9 : decode cJ5_append_cf1ce 9 = .ok (.aload_n 1, 1) := by decide +kernel
theorem dJ5_append_cf1ce_10 : decode cJ5_append_cf1ce 10 = .ok (.invokevirtual 32, 3) := by decide +kernel
theorem dJ5_append_cf1ce_13 : decode cJ5_append_cf1ce 13 = .ok (.istore_n 2, 1) := by decide +kernel
theorem dJ5_append_cf1ce_14 : decode cJ5_append_cf1ce 14 = .ok (.aload_n 0, 1) := by decide +kernel
theorem dJ5_append_cf1ce_15 : decode cJ5_append_cf1ce 15 = .ok (.aload_n 0, 1) := by decide +kernel
theorem dJ5_append_cf1ce_16 : decode cJ5_append_cf1ce 16 = .ok (.getfield 79, 3) := by decide +kernel
theorem dJ5_append_cf1ce_19 : decode cJ5_append_cf1ce 19 = .ok (.iload_n 2, 1) := by decide +kernel
theorem dJ5_append_cf1ce_20 : decode cJ5_append_cf1ce 20 = .ok (.iadd, 1) := by decide +kernel
theorem dJ5_append_cf1ce_21 : decode cJ5_append_cf1ce 21 = .ok (.invokevirtual 100, 3) := by decide +kernel
theorem dJ5_append_cf1ce_24 : decode cJ5_append_cf1ce 24 = .ok (.aload_n 0, 1) := by decide +kernel
theorem dJ5_append_cf1ce_25 : decode cJ5_append_cf1ce 25 = .ok (.aload_n 0, 1) := by decide +kernel
theorem dJ5_append_cf1ce_26 : decode cJ5_append_cf1ce 26 = .ok (.getfield 79, 3) := by decide +kernel
theorem dJ5_append_cf1ce_29 : decode cJ5_append_cf1ce 29 = .ok (.aload_n 1, 1) := by decide +kernel
theorem dJ5_append_cf1ce_30 : decode cJ5_append_cf1ce 30 = .ok (.invokevirtual 208, 3) := by decide +kernel
theorem dJ5_append_cf1ce_33 : decode cJ5_append_cf1ce 33 = .ok (.aload_n 0, 1) := by decide +kernel
theorem dJ5_append_cf1ce_34 : decode cJ5_append_cf1ce 34 = .ok (.dup, 1) := by decide +kernel
theorem dJ5_append_cf1ce_35 : decode cJ5_append_cf1ce 35 = .ok (.getfield 79, 3) := by decide +kernel
theorem dJ5_append_cf1ce_38 : decode cJ5_append_cf1ce 38 = .ok (.iload_n 2, 1) := by decide +kernel
theorem dJ5_append_cf1ce_39 : decode cJ5_append_cf1ce 39 = .ok (.iadd, 1) := by decide +kernel
theorem dJ5_append_cf1ce_40 : decode cJ5_append_cf1ce 40 = .ok (.putfield 79, 3) := by decide +kernel
theorem dJ5_append_cf1ce_43 : decode cJ5_append_cf1ce 43 = .ok (.aload_n 0, 1) := by decide +kernel
theorem dJ5_append_cf1ce_44 : decode cJ5_append_cf1ce 44 = .ok (.areturn, 1) := by decide +kernel
theorem dJ5_append_3fe6f_0 : decode cJ5_append_3fe6f 0 = .ok (.aload_n 0, 1) := by decide +kernel
theorem dJ5_append_3fe6f_1 : decode cJ5_append_3fe6f 1 = .ok (.aload_n 0, 1) := by decide +kernel
theorem dJ5_append_3fe6f_2 : decode cJ5_append_3fe6f 2 = .ok (.getfield 79, 3) := by decide +kernel
theorem dJ5_append_3fe6f_5 : decode cJ5_append_3fe6f 5 = .ok (.iconst 1, 1) := by decide +kernel
theorem dJ5_append_3fe6f_6 : decode cJ5_append_3fe6f 6 = .ok (.iadd, 1) := by decide +kernel
theorem dJ5_append_3fe6f_7 : decode cJ5_append_3fe6f 7 = .ok (.invokevirtual 100, 3) := by decide +kernel
theorem dJ5_append_3fe6f_10 : decode cJ5_append_3fe6f 10 = .ok (.aload_n 0, 1) := by decide +kernel
theorem dJ5_append_3fe6f_11 : decode cJ5_append_3fe6f 11 = .ok (.invokevirtual 83, 3) := by decide +kernel
theorem dJ5_append_3fe6f_14 : decode cJ5_append_3fe6f 14 = .ok (.ifCond .eq 31, 3) := by decide +kernel
theorem dJ5_append_3fe6f_17 : decode cJ5_append_3fe6f 17 = .ok (.iload_n 1, 1) := by decide +kernel
theorem dJ5_append_3fe6f_18 : decode cJ5_append_3fe6f 18 = .ok (.invokestatic 191, 3) := by decide +kernel
theorem dJ5_append_3fe6f_21 : decode cJ5_append_3fe6f 21 = .ok (.ifCond .eq 24, 3) := by decide +kernel
theorem dJ5_append_3fe6f_24 : decode cJ5_append_3fe6f 24 = .ok (.aload_n 0, 1) := by decide +kernel
theorem dJ5_append_3fe6f_25 : decode cJ5_append_3fe6f 25 = .ok (.getfield 15, 3) := by decide +kernel
theorem dJ5_append_3fe6f_28 : decode cJ5_append_3fe6f 28 = .ok (.aload_n 0, 1) := by decide +kernel
theorem dJ5_append_3fe6f_29 : decode cJ5_append_3fe6f 29 = .ok (.dup, 1) := by decide +kernel
theorem dJ5_append_3fe6f_30 : decode cJ5_append_3fe6f 30 = .ok (.getfield 79, 3) := by decide +kernel
theorem dJ5_append_3fe6f_33 : decode cJ5_append_3fe6f 33 = .ok (.dup_x1, 1) := by decide +kernel
theorem dJ5_append_3fe6f_34 : decode cJ5_append_3fe6f 34 = .ok (.iconst 1, 1) := by decide +kernel
theorem dJ5_append_3fe6f_35 : decode cJ5_append_3fe6f 35 = .ok (.iadd, 1) := by decide +kernel
theorem dJ5_append_3fe6f_36 : decode cJ5_append_3fe6f 36 = .ok (.putfield 79, 3) := by decide +kernel
theorem dJ5_append_3fe6f_39 : decode cJ5_append_3fe6f 39 = .ok (.iload_n 1, 1) := by decide +kernel
theorem dJ5_append_3fe6f_40 : decode cJ5_append_3fe6f 40 = .ok (.i2b, 1) := by decide +kernel
theorem dJ5_append_3fe6f_41 : decode cJ5_append_3fe6f 41 = .ok (.bastore, 1) := by decide +kernel
theorem dJ5_append_3fe6f_42 : decode cJ5_append_3fe6f 42 = .ok (.goto 33, 3) := by decide +kernel
theorem dJ5_append_3fe6f_45 : decode cJ5_append_3fe6f 45 = .ok (.aload_n 0, 1) := by decide +kernel
theorem dJ5_append_3fe6f_46 : decode cJ5_append_3fe6f 46 = .ok (.invokevirtual 83, 3) := by decide +kernel
theorem dJ5_append_3fe6f_49 : decode cJ5_append_3fe6f 49 = .ok (.ifCond .eq 7, 3) := by decide +kernel
theorem dJ5_append_3fe6f_52 : decode cJ5_append_3fe6f 52 = .ok (.aload_n 0, 1) := by decide +kernel
theorem dJ5_append_3fe6f_53 : decode cJ5_append_3fe6f 53 = .ok (.invokevirtual 195, 3) := by decide +kernel
theorem dJ5_append_3fe6f_56 : decode cJ5_append_3fe6f 56 = .ok (.aload_n 0, 1) := by decide +kernel
theorem dJ5_append_3fe6f_57 : decode cJ5_append_3fe6f 57 = .ok (.getfield 15, 3) := by decide +kernel
theorem dJ5_append_3fe6f_60 : decode cJ5_append_3fe6f 60 = .ok (.aload_n 0, 1) := by decide +kernel
theorem dJ5_append_3fe6f_61 : decode cJ5_append_3fe6f 61 = .ok (.dup, 1) := by decide +kernel
theorem dJ5_append_3fe6f_62 : decode cJ5_append_3fe6f 62 = .ok (.getfield 79, 3) := by decide +kernel
theorem dJ5_append_3fe6f_65 : decode cJ5_append_3fe6f 65 = .ok (.dup_x1, 1) := by decide +kernel
theorem dJ5_append_3fe6f_66 : decode cJ5_append_3fe6f 66 = .ok (.iconst 1, 1) := by decide +kernel
theorem dJ5_append_3fe6f_67 : decode cJ5_append_3fe6f 67 = .ok (.iadd, 1) := by decide +kernel
theorem dJ5_append_3fe6f_68 : decode cJ5_append_3fe6f 68 = .ok (.putfield 79, 3) := by decide +kernel
theorem dJ5_append_3fe6f_71 : decode cJ5_append_3fe6f 71 = .ok (.iload_n 1, 1) := by decide +kernel
theorem dJ5_append_3fe6f_72 : decode cJ5_append_3fe6f 72 = .ok (.invokestatic 197, 3) := by decide +kernel
theorem dJ5_append_3fe6f_75 : decode cJ5_append_3fe6f 75 = .ok (.aload_n 0, 1) := by decide +kernel
theorem dJ5_append_3fe6f_76 : decode cJ5_append_3fe6f 76 = .ok (.areturn, 1) := by decide +kernel
theorem dJ5_append_c97b9_0 : decode cJ5_append_c97b9 0 = .ok (.aload_n 0, 1) := by decide +kernel
theorem dJ5_append_c97b9_1 : decode cJ5_append_c97b9 1 = .ok (.getfield 79, 3) := by decide +kernel
theorem dJ5_append_c97b9_4 : decode cJ5_append_c97b9 4 = .ok (.istore_n 2, 1) := by decide +kernel
theorem dJ5_append_c97b9_5 : decode cJ5_append_c97b9 5 = .ok (.iload_n 2, 1) := by decide +kernel
theorem dJ5_append_c97b9_6 : decode cJ5_append_c97b9 6 = .ok (.iload_n 1, 1) := by decide +kernel
theorem dJ5_append_c97b9_7 : decode cJ5_append_c97b9 7 = .ok (.invokestatic 245, 3) := by decide +kernel
theorem dJ5_append_c97b9_10 : decode cJ5_append_c97b9 10 = .ok (.iadd, 1) := by decide +kernel
theorem dJ5_append_c97b9_11 : decode cJ5_append_c97b9 11 = .ok (.istore_n 3, 1) := by decide +kernel
theorem dJ5_append_c97b9_12 : decode cJ5_append_c97b9 12 = .ok (.aload_n 0, 1) := by decide +kernel
theorem dJ5_append_c97b9_13 : decode cJ5_append_c97b9 13 = .ok (.iload_n 3, 1) := by decide +kernel
theorem dJ5_append_c97b9_14 : decode cJ5_append_c97b9 14 = .ok (.invokevirtual 100, 3) := by decide +kernel
theorem dJ5_append_c97b9_17 : decode cJ5_append_c97b9 17 = .ok (.aload_n 0, 1) := by decide +kernel
theorem dJ5_append_c97b9_18 : decode cJ5_append_c97b9 18 = .ok (.invokevirtual 83, 3) := by decide +kernel
theorem dJ5_append_c97b9_21 : decode cJ5_append_c97b9 21 = .ok (.ifCond .eq 16, 3) := by decide +kernel
theorem dJ5_append_c97b9_24 : decode cJ5_append_c97b9 24 = .ok (.iload_n 1, 1) := by decide +kernel
theorem dJ5_append_c97b9_25 : decode cJ5_append_c97b9 25 = .ok (.iload_n 3, 1) := by decide +kernel
theorem dJ5_append_c97b9_26 : decode cJ5_append_c97b9 26 = .ok (.aload_n 0, 1) := by decide +kernel
theorem dJ5_append_c97b9_27 : decode cJ5_append_c97b9 27 = .ok (.getfield 15, 3) := by decide +kernel
theorem dJ5_append_c97b9_30 : decode cJ5_append_c97b9 30 = .ok (.invokestatic 248, 3) := by decide +kernel
theorem dJ5_append_c97b9_33 : decode cJ5_append_c97b9 33 = .ok (.pop, 1) := by decide +kernel
theorem dJ5_append_c97b9_34 : decode cJ5_append_c97b9 34 = .ok (.goto 14, 3) := by decide +kernel
theorem dJ5_append_c97b9_37 : decode cJ5_append_c97b9 37 = .ok (.iload_n 1, 1) := by decide +kernel
theorem dJ5_append_c97b9_38 : decode cJ5_append_c97b9 38 = .ok (.iload_n 2, 1) := by decide +kernel
theorem dJ5_append_c97b9_39 : decode cJ5_append_c97b9 39 = .ok (.iload_n 3, 1) := by decide +kernel
theorem dJ5_append_c97b9_40 : decode cJ5_append_c97b9 40 = .ok (.aload_n 0, 1) := by decide +kernel
theorem dJ5_append_c97b9_41 : decode cJ5_append_c97b9 41 = .ok (.getfield 15, 3) := by decide +kernel
theorem dJ5_append_c97b9_44 : decode cJ5_append_c97b9 44 = .ok (.invokestatic 251, 3) := by decide +kernel
theorem dJ5_append_c97b9_47 : decode cJ5_append_c97b9 47 = .ok (.pop, 1) := by decide +kernel
theorem dJ5_append_c97b9_48 : decode cJ5_append_c97b9 48 = .ok (.aload_n 0, 1) := by decide +kernel
theorem dJ5_append_c97b9_49 : decode cJ5_append_c97b9 49 = .ok (.iload_n 3, 1) := by decide +kernel
theorem dJ5_append_c97b9_50 : decode cJ5_append_c97b9 50 = .ok (.putfield 79, 3) := by decide +kernel
theorem dJ5_append_c97b9_53 : decode cJ5_append_c97b9 53 = .ok (.aload_n 0, 1) := by decide +kernel
theorem dJ5_append_c97b9_54 : decode cJ5_append_c97b9 54 = .ok (.areturn, 1) := by decide +kernel
theorem dJ5_isLatin1_aae02_0 : decode cJ5_isLatin1_aae02 0 = .ok (.getstatic 18, 3) := by decide +kernel
theorem dJ5_isLatin1_aae02_3 : decode cJ5_isLatin1_aae02 3 = .ok (.ifCond .eq 14, 3) := by decide +kernel
theorem dJ5_isLatin1_aae02_6 : decode cJ5_isLatin1_aae02 6 = .ok (.aload_n 0, 1) := by decide +kernel
theorem dJ5_isLatin1_aae02_7 : decode cJ5_isLatin1_aae02 7 = .ok (.getfield 22, 3) := by decide +kernel
theorem dJ5_isLatin1_aae02_10 : decode cJ5_isLatin1_aae02 10 = .ok (.ifCond .ne 7, 3) := by decide +kernel
theorem dJ5_isLatin1_aae02_13 : decode cJ5_isLatin1_aae02 13 = .ok (.iconst 1, 1) := by decide +kernel
theorem dJ5_isLatin1_aae02_14 : decode cJ5_isLatin1_aae02 14 = .ok (.goto 4, 3) := by decide +kernel
theorem dJ5_isLatin1_aae02_17 : decode cJ5_isLatin1_aae02 17 = .ok (.iconst 0, 1) := by decide +kernel
theorem dJ5_isLatin1_aae02_18 : decode cJ5_isLatin1_aae02 18 = .ok (.ireturn, 1) := by decide +kernel
theorem dJ5_inflateIfNeededFor_a7421_0 : decode cJ5_inflateIfNeededFor_a7421 0 = .ok (.getstatic 18, 3) := by decide +kernel
theorem dJ5_inflateIfNeededFor_a7421_3 : decode cJ5_inflateIfNeededFor_a7421 3 = .ok (.ifCond .eq 18, 3) := by decide +kernel
theorem dJ5_inflateIfNeededFor_a7421_6 : decode cJ5_inflateIfNeededFor_a7421 6 = .ok (.aload_n 0, 1) := by decide +kernel
theorem dJ5_inflateIfNeededFor_a7421_7 : decode cJ5_inflateIfNeededFor_a7421 7 = .ok (.getfield 22, 3) := by decide +kernel
theorem dJ5_inflateIfNeededFor_a7421_10 : decode cJ5_inflateIfNeededFor_a7421 10 = .ok (.aload_n 1, 1) := by decide +kernel
theorem dJ5_inflateIfNeededFor_a7421_11 : decode cJ5_inflateIfNeededFor_a7421 11 = .ok (.invokevirtual 40, 3) := by decide +kernel
theorem dJ5_inflateIfNeededFor_a7421_14 : decode cJ5_inflateIfNeededFor_a7421 14 = .ok (.if_icmp .eq 7, 3) := by decide +kernel
theorem dJ5_inflateIfNeededFor_a7421_17 : decode cJ5_inflateIfNeededFor_a7421 17 = .ok (.aload_n 0, 1) := by decide +kernel
theorem dJ5_inflateIfNeededFor_a7421_18 : decode cJ5_inflateIfNeededFor_a7421 18 = .ok (.invokevirtual 195, 3) := by decide +kernel
theorem dJ5_inflateIfNeededFor_a7421_21 : decode cJ5_inflateIfNeededFor_a7421 21 = .ok (.return_, 1) := by decide +kernel
theorem dJ5_putStringAt_47b60_0 : decode cJ5_putStringAt_47b60 0 = .ok (.aload_n 0, 1) := by decide +kernel
theorem dJ5_putStringAt_47b60_1 : decode cJ5_putStringAt_47b60 1 = .ok (.aload_n 2, 1) := by decide +kernel
theorem dJ5_putStringAt_47b60_2 : decode cJ5_putStringAt_47b60 2 = .ok (.invokevirtual 397, 3) := by decide +kernel
theorem dJ5_putStringAt_47b60_5 : decode cJ5_putStringAt_47b60 5 = .ok (.aload_n 2, 1) := by decide +kernel
theorem dJ5_putStringAt_47b60_6 : decode cJ5_putStringAt_47b60 6 = .ok (.aload_n 0, 1) := by decide +kernel
theorem dJ5_putStringAt_47b60_7 : decode cJ5_putStringAt_47b60 7 = .ok (.getfield 15, 3) := by decide +kernel
theorem dJ5_putStringAt_47b60_10 : decode cJ5_putStringAt_47b60 10 = .ok (.iload_n 1, 1) := by decide +kernel
theorem dJ5_putStringAt_47b60_11 : decode cJ5_putStringAt_47b60 11 = .ok (.aload_n 0, 1) := by decide +kernel
theorem dJ5_putStringAt_47b60_12 : decode cJ5_putStringAt_47b60 12 = .ok (.getfield 22, 3) := by decide +kernel
theorem dJ5_putStringAt_47b60_15 : decode cJ5_putStringAt_47b60 15 = .ok (.invokevirtual 399, 3) := by decide +kernel
theorem dJ5_putStringAt_47b60_18 : decode cJ5_putStringAt_47b60 18 = .ok (.return_, 1) := by decide +kernel
theorem dJ6_getChars_ba4f3_0 : decode cJ6_getChars_ba4f3 0 = .ok (.iload_n 1, 1) := by decide +kernel
theorem dJ6_getChars_ba4f3_1 : decode cJ6_getChars_ba4f3 1 = .ok (.istore 5, 2) := by decide +kernel
theorem dJ6_getChars_ba4f3_3 : decode cJ6_getChars_ba4f3 3 = .ok (.iload_n 0, 1) := by decide +kernel
theorem dJ6_getChars_ba4f3_4 : decode cJ6_getChars_ba4f3 4 = .ok (.ifCond .ge 7, 3) := by decide +kernel
theorem dJ6_getChars_ba4f3_7 : decode cJ6_getChars_ba4f3 7 = .ok (.iconst 1, 1) := by decide +kernel
theorem dJ6_getChars_ba4f3_8 : decode cJ6_getChars_ba4f3 8 = .ok (.goto 4, 3) := by decide +kernel
theorem dJ6_getChars_ba4f3_11 : decode cJ6_getChars_ba4f3 11 = .ok (.iconst 0, 1) := by decide +kernel
theorem dJ6_getChars_ba4f3_12 : decode cJ6_getChars_ba4f3 12 = .ok (.istore 6, 2) := by decide +kernel
theorem dJ6_getChars_ba4f3_14 : decode cJ6_getChars_ba4f3 14 = .ok (.iload 6, 2) := by decide +kernel
theorem dJ6_getChars_ba4f3_16 : decode cJ6_getChars_ba4f3 16 = .ok (.ifCond .ne 6, 3) := by decide +kernel
theorem dJ6_getChars_ba4f3_19 : decode cJ6_getChars_ba4f3 19 = .ok (.iload_n 0, 1) := by decide +kernel
theorem dJ6_getChars_ba4f3_20 : decode cJ6_getChars_ba4f3 20 = .ok (.ineg, 1) := by decide +kernel
theorem dJ6_getChars_ba4f3_21 : decode cJ6_getChars_ba4f3 21 = .ok (.istore_n 0, 1) := by decide +kernel
theorem dJ6_getChars_ba4f3_22 : decode cJ6_getChars_ba4f3 22 = .ok (.iload_n 0, 1) := by decide +kernel
theorem dJ6_getChars_ba4f3_23 : decode cJ6_getChars_ba4f3 23 = .ok (.bipush (-100), 2) := by decide +kernel
theorem dJ6_getChars_ba4f3_25 : decode cJ6_getChars_ba4f3 25 = .ok (.if_icmp .gt 47, 3) := by decide +kernel
theorem dJ6_getChars_ba4f3_28 : decode cJ6_getChars_ba4f3 28 = .ok (.iload_n 0, 1) := by decide +kernel
theorem dJ6_getChars_ba4f3_29 : decode cJ6_getChars_ba4f3 29 = .ok (.bipush 100, 2) := by decide +kernel
theorem dJ6_getChars_ba4f3_31 : decode cJ6_getChars_ba4f3 31 = .ok (.idiv, 1) := by decide +kernel
theorem dJ6_getChars_ba4f3_32 : decode cJ6_getChars_ba4f3 32 = .ok (.istore_n 3, 1) := by decide +kernel
theorem dJ6_getChars_ba4f3_33 : decode cJ6_getChars_ba4f3 33 = .ok (.iload_n 3, 1) := by decide +kernel
theorem dJ6_getChars_ba4f3_34 : decode cJ6_getChars_ba4f3 34 = .ok (.bipush 100, 2) := by decide +kernel
theorem dJ6_getChars_ba4f3_36 : decode cJ6_getChars_ba4f3 36 = .ok (.imul, 1) := by decide +kernel
theorem dJ6_getChars_ba4f3_37 : decode cJ6_getChars_ba4f3 37 = .ok (.iload_n 0, 1) := by decide +kernel
theorem dJ6_getChars_ba4f3_38 : decode cJ6_getChars_ba4f3 38 = .ok (.isub, 1) := by decide +kernel
theorem dJ6_getChars_ba4f3_39 : decode cJ6_getChars_ba4f3 39 = .ok (.istore 4, 2) := by decide +kernel
theorem dJ6_getChars_ba4f3_41 : decode cJ6_getChars_ba4f3 41 = .ok (.iload_n 3, 1) := by decide +kernel
theorem dJ6_getChars_ba4f3_42 : decode cJ6_getChars_ba4f3 42 = .ok (.istore_n 0, 1) := by decide +kernel
theorem dJ6_getChars_ba4f3_43 : decode cJ6_getChars_ba4f3 43 = .ok (.aload_n 2, 1) := by decide +kernel
theorem dJ6_getChars_ba4f3_44 : decode cJ6_getChars_ba4f3 44 = .ok (.iinc 5 (-1), 3) := by decide +kernel
theorem dJ6_getChars_ba4f3_47 : decode cJ6_getChars_ba4f3 47 = .ok (.iload 5, 2) := by decide +kernel
theorem dJ6_getChars_ba4f3_49 : decode cJ6_getChars_ba4f3 49 = .ok (.getstatic 83, 3) := by decide +kernel
theorem dJ6_getChars_ba4f3_52 : decode cJ6_getChars_ba4f3 52 = .ok (.iload 4, 2) := by decide +kernel
theorem dJ6_getChars_ba4f3_54 : decode cJ6_getChars_ba4f3 54 = .ok (.baload, 1) := by decide +kernel
theorem dJ6_getChars_ba4f3_55 : decode cJ6_getChars_ba4f3 55 = .ok (.bastore, 1) := by decide +kernel
theorem dJ6_getChars_ba4f3_56 : decode cJ6_getChars_ba4f3 56 = .ok (.aload_n 2, 1) := by decide +kernel
theorem dJ6_getChars_ba4f3_57 : decode cJ6_getChars_ba4f3 57 = .ok (.iinc 5 (-1), 3) := by decide +kernel
theorem dJ6_getChars_ba4f3_60 : decode cJ6_getChars_ba4f3 60 = .ok (.iload 5, 2) := by decide +kernel
theorem dJ6_getChars_ba4f3_62 : decode cJ6_getChars_ba4f3 62 = .ok (.getstatic 87, 3) := by decide +kernel
theorem dJ6_getChars_ba4f3_65 : decode cJ6_getChars_ba4f3 65 = .ok (.iload 4, 2) := by decide +kernel
theorem dJ6_getChars_ba4f3_67 : decode cJ6_getChars_ba4f3 67 = .ok (.baload, 1) := by decide +kernel
theorem dJ6_getChars_ba4f3_68 : decode cJ6_getChars_ba4f3 68 = .ok (.bastore, 1) := by decide +kernel
theorem dJ6_getChars_ba4f3_69 : decode cJ6_getChars_ba4f3 69 = .ok (.goto (-47), 3) := by decide +kernel
theorem dJ6_getChars_ba4f3_72 : decode cJ6_getChars_ba4f3 72 = .ok (.aload_n 2, 1) := by decide +kernel
theorem dJ6_getChars_ba4f3_73 : decode cJ6_getChars_ba4f3 73 = .ok (.iinc 5 (-1), 3) := by decide +kernel
theorem dJ6_getChars_ba4f3_76 : decode cJ6_getChars_ba4f3 76 = .ok (.iload 5, 2) := by decide +kernel
theorem dJ6_getChars_ba4f3_78 : decode cJ6_getChars_ba4f3 78 = .ok (.getstatic 83, 3) := by decide +kernel
theorem dJ6_getChars_ba4f3_81 : decode cJ6_getChars_ba4f3 81 = .ok (.iload_n 0, 1) := by decide +kernel
theorem dJ6_getChars_ba4f3_82 : decode cJ6_getChars_ba4f3 82 = .ok (.ineg, 1) := by decide +kernel
theorem dJ6_getChars_ba4f3_83 : decode cJ6_getChars_ba4f3 83 = .ok (.baload, 1) := by decide +kernel
theorem dJ6_getChars_ba4f3_84 : decode cJ6_getChars_ba4f3 84 = .ok (.bastore, 1) := by decide +kernel
theorem dJ6_getChars_ba4f3_85 : decode cJ6_getChars_ba4f3 85 = .ok (.iload_n 0, 1) := by decide +kernel
theorem dJ6_getChars_ba4f3_86 : decode cJ6_getChars_ba4f3 86 = .ok (.bipush (-9), 2) := by decide +kernel
theorem dJ6_getChars_ba4f3_88 : decode cJ6_getChars_ba4f3 88 = .ok (.if_icmp .ge 16, 3) := by decide +kernel
theorem dJ6_getChars_ba4f3_91 : decode cJ6_getChars_ba4f3 91 = .ok (.aload_n 2, 1) := by decide +kernel
theorem dJ6_getChars_ba4f3_92 : decode cJ6_getChars_ba4f3 92 = .ok (.iinc 5 (-1), 3) := by decide +kernel
theorem dJ6_getChars_ba4f3_95 : decode cJ6_getChars_ba4f3 95 = .ok (.iload 5, 2) := by decide +kernel
theorem dJ6_getChars_ba4f3_97 : decode cJ6_getChars_ba4f3 97 = .ok (.getstatic 87, 3) := by decide +kernel
theorem dJ6_getChars_ba4f3_100 : decode cJ6_getChars_ba4f3 100 = .ok (.iload_n 0, 1) := by decide +kernel
theorem dJ6_getChars_ba4f3_101 : decode cJ6_getChars_ba4f3 101 = .ok (.ineg, 1) := by decide +kernel
theorem dJ6_getChars_ba4f3_102 : decode cJ6_getChars_ba4f3 102 = .ok (.baload, 1) := by decide +kernel
theorem dJ6_getChars_ba4f3_103 : decode cJ6_getChars_ba4f3 103 = .ok (.bastore, 1) := by decide +kernel
theorem dJ6_getChars_ba4f3_104 : decode cJ6_getChars_ba4f3 104 = .ok (.iload 6, 2) := by decide +kernel
theorem dJ6_getChars_ba4f3_106 : decode cJ6_getChars_ba4f3 106 = .ok (.ifCond .eq 12, 3) := by decide +kernel
theorem dJ6_getChars_ba4f3_109 : decode cJ6_getChars_ba4f3 109 = .ok (.aload_n 2, 1) := by decide +kernel
theorem dJ6_getChars_ba4f3_110 : decode cJ6_getChars_ba4f3 110 = .ok (.iinc 5 (-1), 3) := by decide +kernel
theorem dJ6_getChars_ba4f3_113 : decode cJ6_getChars_ba4f3 113 = .ok (.iload 5, 2) := by decide +kernel
theorem dJ6_getChars_ba4f3_115 : decode cJ6_getChars_ba4f3 115 = .ok (.bipush 45, 2) := by decide +kernel
theorem dJ6_getChars_ba4f3_117 : decode cJ6_getChars_ba4f3 117 = .ok (.bastore, 1) := by decide +kernel
theorem dJ6_getChars_ba4f3_118 : decode cJ6_getChars_ba4f3 118 = .ok (.iload 5, 2) := by decide +kernel
theorem dJ6_getChars_ba4f3_120 : decode cJ6_getChars_ba4f3 120 = .ok (.ireturn, 1) := by decide +kernel
theorem dJ6_stringSize_0f7a4_0 : decode cJ6_stringSize_0f7a4 0 = .ok (.iconst 1, 1) := by decide +kernel
theorem dJ6_stringSize_0f7a4_1 : decode cJ6_stringSize_0f7a4 1 = .ok (.istore_n 1, 1) := by decide +kernel
theorem dJ6_stringSize_0f7a4_2 : decode cJ6_stringSize_0f7a4 2 = .ok (.iload_n 0, 1) := by decide +kernel
theorem dJ6_stringSize_0f7a4_3 : decode cJ6_stringSize_0f7a4 3 = .ok (.ifCond .lt 8, 3) := by decide +kernel
theorem dJ6_stringSize_0f7a4_6 : decode cJ6_stringSize_0f7a4 6 = .ok (.iconst 0, 1) := by decide +kernel
theorem dJ6_stringSize_0f7a4_7 : decode cJ6_stringSize_0f7a4 7 = .ok (.istore_n 1, 1) := by decide +kernel
theorem dJ6_stringSize_0f7a4_8 : decode cJ6_stringSize_0f7a4 8 = .ok (.iload_n 0, 1) := by decide +kernel
theorem dJ6_stringSize_0f7a4_9 : decode cJ6_stringSize_0f7a4 9 = .ok (.ineg, 1) := by decide +kernel
theorem dJ6_stringSize_0f7a4_10 : decode cJ6_stringSize_0f7a4 10 = .ok (.istore_n 0, 1) := by decide +kernel
theorem dJ6_stringSize_0f7a4_11 : decode cJ6_stringSize_0f7a4 11 = .ok (.bipush (-10), 2) := by decide +kernel
theorem dJ6_stringSize_0f7a4_13 : decode cJ6_stringSize_0f7a4 13 = .ok (.istore_n 2, 1) := by decide +kernel
theorem dJ6_stringSize_0f7a4_14 : decode cJ6_stringSize_0f7a4 14 = .ok (.iconst 1, 1) := by decide +kernel
theorem dJ6_stringSize_0f7a4_15 : decode cJ6_stringSize_0f7a4 15 = .ok (.istore_n 3, 1) := by decide +kernel
theorem dJ6_stringSize_0f7a4_16 : decode cJ6_stringSize_0f7a4 16 = .ok (.iload_n 3, 1) := by decide +kernel
theorem dJ6_stringSize_0f7a4_17 : decode cJ6_stringSize_0f7a4 17 = .ok (.bipush 10, 2) := by decide +kernel
theorem dJ6_stringSize_0f7a4_19 : decode cJ6_stringSize_0f7a4 19 = .ok (.if_icmp .ge 23, 3) := by decide +kernel
theorem dJ6_stringSize_0f7a4_22 : decode cJ6_stringSize_0f7a4 22 = .ok (.iload_n 0, 1) := by decide +kernel
theorem dJ6_stringSize_0f7a4_23 : decode cJ6_stringSize_0f7a4 23 = .ok (.iload_n 2, 1) := by decide +kernel
theorem dJ6_stringSize_0f7a4_24 : decode cJ6_stringSize_0f7a4 24 = .ok (.if_icmp .le 7, 3) := by decide +kernel
theorem dJ6_stringSize_0f7a4_27 : decode cJ6_stringSize_0f7a4 27 = .ok (.iload_n 3, 1) := by decide +kernel
theorem dJ6_stringSize_0f7a4_28 : decode cJ6_stringSize_0f7a4 28 = .ok (.iload_n 1, 1) := by decide +kernel
theorem dJ6_stringSize_0f7a4_29 : decode cJ6_stringSize_0f7a4 29 = .ok (.iadd, 1) := by decide +kernel
theorem dJ6_stringSize_0f7a4_30 : decode cJ6_stringSize_0f7a4 30 = .ok (.ireturn, 1) := by decide +kernel
theorem dJ6_stringSize_0f7a4_31 : decode cJ6_stringSize_0f7a4 31 = .ok (.bipush 10, 2) := by decide +kernel
theorem dJ6_stringSize_0f7a4_33 : decode cJ6_stringSize_0f7a4 33 = .ok (.iload_n 2, 1) := by decide +kernel
theorem dJ6_stringSize_0f7a4_34 : decode cJ6_stringSize_0f7a4 34 = .ok (.imul, 1) := by decide +kernel
theorem dJ6_stringSize_0f7a4_35 : decode cJ6_stringSize_0f7a4 35 = .ok (.istore_n 2, 1) := by decide +kernel
theorem dJ6_stringSize_0f7a4_36 : decode cJ6_stringSize_0f7a4 36 = .ok (.iinc 3 1, 3) := by decide +kernel
theorem dJ6_stringSize_0f7a4_39 : decode cJ6_stringSize_0f7a4 39 = .ok (.goto (-23), 3) := by decide +kernel
theorem dJ6_stringSize_0f7a4_42 : decode cJ6_stringSize_0f7a4 42 = .ok (.bipush 10, 2) := by decide +kernel
theorem dJ6_stringSize_0f7a4_44 : decode cJ6_stringSize_0f7a4 44 = .ok (.iload_n 1, 1) := by decide +kernel
theorem dJ6_stringSize_0f7a4_45 : decode cJ6_stringSize_0f7a4 45 = .ok (.iadd, 1) := by decide +kernel
theorem dJ6_stringSize_0f7a4_46 : decode cJ6_stringSize_0f7a4 46 = .ok (.ireturn, 1) := by decide +kernel
theorem dJ9_max_7cf53_0 : decode cJ9_max_7cf53 0 = .ok (.iload_n 0, 1) := by decide +kernel
theorem dJ9_max_7cf53_1 : decode cJ9_max_7cf53 1 = .ok (.iload_n 1, 1) := by decide +kernel
theorem dJ9_max_7cf53_2 : decode cJ9_max_7cf53 2 = .ok (.if_icmp .lt 7, 3) := by decide +kernel
theorem dJ9_max_7cf53_5 : decode cJ9_max_7cf53 5 = .ok (.iload_n 0, 1) := by decide +kernel
theorem dJ9_max_7cf53_6 : decode cJ9_max_7cf53 6 = .ok (.goto 4, 3) := by decide +kernel
theorem dJ9_max_7cf53_9 : decode cJ9_max_7cf53 9 = .ok (.iload_n 1, 1) := by decide +kernel
theorem dJ9_max_7cf53_10 : decode cJ9_max_7cf53 10 = .ok (.ireturn, 1) := by decide +kernel
theorem dJ9_min_7cf53_0 : decode cJ9_min_7cf53 0 = .ok (.iload_n 0, 1) := by decide +kernel
theorem dJ9_min_7cf53_1 : decode cJ9_min_7cf53 1 = .ok (.iload_n 1, 1) := by decide +kernel
theorem dJ9_min_7cf53_2 : decode cJ9_min_7cf53 2 = .ok (.if_icmp .gt 7, 3) := by decide +kernel
theorem dJ9_min_7cf53_5 : decode cJ9_min_7cf53 5 = .ok (.iload_n 0, 1) := by decide +kernel
theorem dJ9_min_7cf53_6 : decode cJ9_min_7cf53 6 = .ok (.goto 4, 3) := by decide +kernel
theorem dJ9_min_7cf53_9 : decode cJ9_min_7cf53 9 = .ok (.iload_n 1, 1) := by decide +kernel
theorem dJ9_min_7cf53_10 : decode cJ9_min_7cf53 10 = .ok (.ireturn, 1) := by decide +kernel
theorem dJ0_length_8abf5_0 : decode cJ0_length_8abf5 0 = .ok (.aload_n 0, 1) := by decide +kernel
theorem dJ0_length_8abf5_1 : decode cJ0_length_8abf5 1 = .ok (.getfield 9, 3) := by decide +kernel
theorem dJ0_length_8abf5_4 : decode cJ0_length_8abf5 4 = .ok (.arraylength, 1) := by decide +kernel
theorem dJ0_length_8abf5_5 : decode cJ0_length_8abf5 5 = .ok (.aload_n 0, 1) := by decide +kernel
theorem dJ0_length_8abf5_6 : decode cJ0_length_8abf5 6 = .ok (.invokevirtual 335, 3) := by decide +kernel
theorem dJ0_length_8abf5_9 : decode cJ0_length_8abf5 9 = .ok (.ishr, 1) := by decide +kernel
theorem dJ0_length_8abf5_10 : decode cJ0_length_8abf5 10 = .ok (.ireturn, 1) := by decide +kernel
theorem dJ0_getBytes_840e7_0 : decode cJ0_getBytes_840e7 0 = .ok (.aload_n 0, 1) := by decide +kernel
theorem dJ0_getBytes_840e7_1 : decode cJ0_getBytes_840e7 1 = .ok (.invokevirtual 335, 3) := by decide +kernel
theorem dJ0_getBytes_840e7_4 : decode cJ0_getBytes_840e7 4 = .ok (.iload_n 3, 1) := by decide +kernel
theorem dJ0_getBytes_840e7_5 : decode cJ0_getBytes_840e7 5 = .ok (.if_icmp .ne 23, 3) := by decide +kernel
theorem dJ0_getBytes_840e7_8 : decode cJ0_getBytes_840e7 8 = .ok (.aload_n 0, 1) := by decide +kernel
theorem dJ0_getBytes_840e7_9 : decode cJ0_getBytes_840e7 9 = .ok (.getfield 9, 3) := by decide +kernel
theorem dJ0_getBytes_840e7_12 : decode cJ0_getBytes_840e7 12 = .ok (.iconst 0, 1) := by decide +kernel
theorem dJ0_getBytes_840e7_13 : decode cJ0_getBytes_840e7 13 = .ok (.aload_n 1, 1) := by decide +kernel
theorem dJ0_getBytes_840e7_14 : decode cJ0_getBytes_840e7 14 = .ok (.iload_n 2, 1) := by decide +kernel
theorem dJ0_getBytes_840e7_15 : decode cJ0_getBytes_840e7 15 = .ok (.iload_n 3, 1) := by decide +kernel
theorem dJ0_getBytes_840e7_16 : decode cJ0_getBytes_840e7 16 = .ok (.ishl, 1) := by decide +kernel
theorem dJ0_getBytes_840e7_17 : decode cJ0_getBytes_840e7 17 = .ok (.aload_n 0, 1) := by decide +kernel
theorem dJ0_getBytes_840e7_18 : decode cJ0_getBytes_840e7 18 = .ok (.getfield 9, 3) := by decide +kernel
theorem dJ0_getBytes_840e7_21 : decode cJ0_getBytes_840e7 21 = .ok (.arraylength, 1) := by decide +kernel
theorem dJ0_getBytes_840e7_22 : decode cJ0_getBytes_840e7 22 = .ok (.invokestatic 212, 3) := by decide +kernel
theorem dJ0_getBytes_840e7_25 : decode cJ0_getBytes_840e7 25 = .ok (.goto 18, 3) := by decide +kernel
theorem dJ0_getBytes_840e7_28 : decode cJ0_getBytes_840e7 28 = .ok (.aload_n 0, 1) := by decide +kernel
theorem dJ0_getBytes_840e7_29 : decode cJ0_getBytes_840e7 29 = .ok (.getfield 9, 3) := by decide +kernel
theorem dJ0_getBytes_840e7_32 : decode cJ0_getBytes_840e7 32 = .ok (.iconst 0, 1) := by decide +kernel
theorem dJ0_getBytes_840e7_33 : decode cJ0_getBytes_840e7 33 = .ok (.aload_n 1, 1) := by decide +kernel
theorem dJ0_getBytes_840e7_34 : decode cJ0_getBytes_840e7 34 = .ok (.iload_n 2, 1) := by decide +kernel
theorem dJ0_getBytes_840e7_35 : decode cJ0_getBytes_840e7 35 = .ok (.aload_n 0, 1) := by decide +kernel
theorem dJ0_getBytes_840e7_36 : decode cJ0_getBytes_840e7 36 = .ok (.getfield 9, 3) := by decide +kernel
theorem dJ0_getBytes_840e7_39 : decode cJ0_getBytes_840e7 39 = .ok (.arraylength, 1) := by decide +kernel
theorem dJ0_getBytes_840e7_40 : decode cJ0_getBytes_840e7 40 = .ok (.invokestatic 106, 3) := by decide +kernel
theorem dJ0_getBytes_840e7_43 : decode cJ0_getBytes_840e7 43 = .ok (.return_, 1) := by decide +kernel
theorem dJ0_coder_7d493_0 : decode cJ0_coder_7d493 0 = .ok (.getstatic 38, 3) := by decide +kernel
theorem dJ0_coder_7d493_3 : decode cJ0_coder_7d493 3 = .ok (.ifCond .eq 10, 3) := by decide +kernel
theorem dJ0_coder_7d493_6 : decode cJ0_coder_7d493 6 = .ok (.aload_n 0, 1) := by decide +kernel
theorem dJ0_coder_7d493_7 : decode cJ0_coder_7d493 7 = .ok (.getfield 15, 3) := by decide +kernel
theorem dJ0_coder_7d493_10 : decode cJ0_coder_7d493 10 = .ok (.goto 4, 3) := by decide +kernel
theorem dJ0_coder_7d493_13 : decode cJ0_coder_7d493 13 = .ok (.iconst 1, 1) := by decide +kernel
theorem dJ0_coder_7d493_14 : decode cJ0_coder_7d493 14 = .ok (.ireturn, 1) := by decide +kernel
theorem dJ0_checkIndex_df160_0 : decode cJ0_checkIndex_df160 0 = .ok (.iload_n 0, 1) := by decide +kernel
theorem dJ0_checkIndex_df160_1 : decode cJ0_checkIndex_df160 1 = .ok (.iload_n 1, 1) := by decide +kernel
theorem dJ0_checkIndex_df160_2 : decode cJ0_checkIndex_df160 2 = .ok (.getstatic 1053, 3) := by decide +kernel
theorem dJ0_checkIndex_df160_5 : decode cJ0_checkIndex_df160 5 = .ok (.invokestatic 1059, 3) := by decide +kernel
theorem dJ0_checkIndex_df160_8 : decode cJ0_checkIndex_df160 8 = .ok (.pop, 1) := by decide +kernel
theorem dJ0_checkIndex_df160_9 : decode cJ0_checkIndex_df160 9 = .ok (.return_, 1) := by decide +kernel
theorem dJ1_canEncode_fc78d_0 : decode cJ1_canEncode_fc78d 0 = .ok (.iload_n 0, 1) := by decide +kernel
theorem dJ1_canEncode_fc78d_1 : decode cJ1_canEncode_fc78d 1 = .ok (.sipush 255, 3) := by decide +kernel
theorem dJ1_canEncode_fc78d_4 : decode cJ1_canEncode_fc78d 4 = .ok (.if_icmp .gt 7, 3) := by decide +kernel
theorem dJ1_canEncode_fc78d_7 : decode cJ1_canEncode_fc78d 7 = .ok (.iconst 1, 1) := by decide +kernel
theorem dJ1_canEncode_fc78d_8 : decode cJ1_canEncode_fc78d 8 = .ok (.goto 4, 3) := by decide +kernel
theorem dJ1_canEncode_fc78d_11 : decode cJ1_canEncode_fc78d 11 = .ok (.iconst 0, 1) := by decide +kernel
theorem dJ1_canEncode_fc78d_12 : decode cJ1_canEncode_fc78d 12 = .ok (.ireturn, 1) := by decide +kernel
theorem dJ7_copyOf_9075b_0 : decode cJ7_copyOf_9075b 0 = .ok (.iload_n 1, 1) := by decide +kernel
theorem dJ7_copyOf_9075b_1 : decode cJ7_copyOf_9075b 1 = .ok (.aload_n 0, 1) := by decide +kernel
theorem dJ7_copyOf_9075b_2 : decode cJ7_copyOf_9075b 2 = .ok (.arraylength, 1) := by decide +kernel
theorem dJ7_copyOf_9075b_3 : decode cJ7_copyOf_9075b 3 = .ok (.if_icmp .ne 11, 3) := by decide +kernel
theorem dJ7_copyOf_9075b_6 : decode cJ7_copyOf_9075b 6 = .ok (.aload_n 0, 1) := by decide +kernel
theorem dJ7_copyOf_9075b_7 : decode cJ7_copyOf_9075b 7 = .ok (.invokevirtual 310, 3) := by decide +kernel
theorem dJ7_copyOf_9075b_10 : decode cJ7_copyOf_9075b 10 = .ok (.checkcast 311, 3) := by decide +kernel
theorem dJ7_copyOf_9075b_13 : decode cJ7_copyOf_9075b 13 = .ok (.areturn, 1) := by decide +kernel
theorem dJ7_copyOf_9075b_14 : decode cJ7_copyOf_9075b 14 = .ok (.iload_n 1, 1) := by decide +kernel
theorem dJ7_copyOf_9075b_15 : decode cJ7_copyOf_9075b 15 = .ok (.newarray .byte, 2) := by decide +kernel
theorem dJ7_copyOf_9075b_17 : decode cJ7_copyOf_9075b 17 = .ok (.astore_n 2, 1) := by decide +kernel
theorem dJ7_copyOf_9075b_18 : decode cJ7_copyOf_9075b 18 = .ok (.aload_n 0, 1) := by decide +kernel
theorem dJ7_copyOf_9075b_19 : decode cJ7_copyOf_9075b 19 = .ok (.iconst 0, 1) := by decide +kernel
theorem dJ7_copyOf_9075b_20 : decode cJ7_copyOf_9075b 20 = .ok (.aload_n 2, 1) := by decide +kernel
theorem dJ7_copyOf_9075b_21 : decode cJ7_copyOf_9075b 21 = .ok (.iconst 0, 1) := by decide +kernel
theorem dJ7_copyOf_9075b_22 : decode cJ7_copyOf_9075b 22 = .ok (.aload_n 0, 1) := by decide +kernel
theorem dJ7_copyOf_9075b_23 : decode cJ7_copyOf_9075b 23 = .ok (.arraylength, 1) := by decide +kernel
theorem dJ7_copyOf_9075b_24 : decode cJ7_copyOf_9075b 24 = .ok (.iload_n 1, 1) := by decide +kernel
theorem dJ7_copyOf_9075b_25 : decode cJ7_copyOf_9075b 25 = .ok (.invokestatic 304, 3) := by decide +kernel
theorem dJ7_copyOf_9075b_28 : decode cJ7_copyOf_9075b 28 = .ok (.invokestatic 150, 3) := by decide +kernel
theorem dJ7_copyOf_9075b_31 : decode cJ7_copyOf_9075b 31 = .ok (.aload_n 2, 1) := by decide +kernel
theorem dJ7_copyOf_9075b_32 : decode cJ7_copyOf_9075b 32 = .ok (.areturn, 1) := by decide +kernel
theorem dJ8_newLength_cabcc_0 : decode cJ8_newLength_cabcc 0 = .ok (.iload_n 0, 1) := by decide +kernel
theorem dJ8_newLength_cabcc_1 : decode cJ8_newLength_cabcc 1 = .ok (.iload_n 1, 1) := by decide +kernel
theorem dJ8_newLength_cabcc_2 : decode cJ8_newLength_cabcc 2 = .ok (.iload_n 2, 1) := by decide +kernel
theorem dJ8_newLength_cabcc_3 : decode cJ8_newLength_cabcc 3 = .ok (.invokestatic 194, 3) := by decide +kernel
theorem dJ8_newLength_cabcc_6 : decode cJ8_newLength_cabcc 6 = .ok (.iadd, 1) := by decide +kernel
theorem dJ8_newLength_cabcc_7 : decode cJ8_newLength_cabcc 7 = .ok (.istore_n 3, 1) := by decide +kernel
theorem dJ8_newLength_cabcc_8 : decode cJ8_newLength_cabcc 8 = .ok (.iconst 0, 1) := by decide +kernel
theorem dJ8_newLength_cabcc_9 : decode cJ8_newLength_cabcc 9 = .ok (.iload_n 3, 1) := by decide +kernel
theorem dJ8_newLength_cabcc_10 : decode cJ8_newLength_cabcc 10 = .ok (.if_icmp .ge 11, 3) := by decide +kernel
theorem dJ8_newLength_cabcc_13 : decode cJ8_newLength_cabcc 13 = .ok (.iload_n 3, 1) := by decide +kernel
theorem dJ8_newLength_cabcc_14 : decode cJ8_newLength_cabcc 14 = .ok (.ldc 200, 2) := by decide +kernel
theorem dJ8_newLength_cabcc_16 : decode cJ8_newLength_cabcc 16 = .ok (.if_icmp .gt 5, 3) := by decide +kernel
theorem dJ8_newLength_cabcc_19 : decode cJ8_newLength_cabcc 19 = .ok (.iload_n 3, 1) := by decide +kernel
theorem dJ8_newLength_cabcc_20 : decode cJ8_newLength_cabcc 20 = .ok (.ireturn, 1) := by decide +kernel
theorem dJ8_newLength_cabcc_21 : decode cJ8_newLength_cabcc 21 = .ok (.iload_n 0, 1) := by decide +kernel
theorem dJ8_newLength_cabcc_22 : decode cJ8_newLength_cabcc 22 = .ok (.iload_n 1, 1) := by decide +kernel
theorem dJ8_newLength_cabcc_23 : decode cJ8_newLength_cabcc 23 = .ok (.invokestatic 201, 3) := by decide +kernel
theorem dJ8_newLength_cabcc_26 : decode cJ8_newLength_cabcc 26 = .ok (.ireturn, 1) := by decide +kernel
theorem dJ3_checkIndex_8e157_0 : decode cJ3_checkIndex_8e157 0 = .ok (.iload_n 0, 1) := by decide +kernel
theorem dJ3_checkIndex_8e157_1 : decode cJ3_checkIndex_8e157 1 = .ok (.ifCond .lt 8, 3) := by decide +kernel
theorem dJ3_checkIndex_8e157_4 : decode cJ3_checkIndex_8e157 4 = .ok (.iload_n 0, 1) := by decide +kernel
theorem dJ3_checkIndex_8e157_5 : decode cJ3_checkIndex_8e157 5 = .ok (.iload_n 1, 1) := by decide +kernel
theorem dJ3_checkIndex_8e157_6 : decode cJ3_checkIndex_8e157 6 = .ok (.if_icmp .lt 10, 3) := by decide +kernel
theorem dJ3_checkIndex_8e157_9 : decode cJ3_checkIndex_8e157 9 = .ok (.aload_n 2, 1) := by decide +kernel
theorem dJ3_checkIndex_8e157_10 : decode cJ3_checkIndex_8e157 10 = .ok (.iload_n 0, 1) := by decide +kernel
theorem dJ3_checkIndex_8e157_11 : decode cJ3_checkIndex_8e157 11 = .ok (.iload_n 1, 1) := by decide +kernel
theorem dJ3_checkIndex_8e157_12 : decode cJ3_checkIndex_8e157 12 = .ok (.invokestatic 95, 3) := by decide +kernel
theorem dJ3_checkIndex_8e157_15 : decode cJ3_checkIndex_8e157 15 = .ok (.athrow, 1) := by decide +kernel
theorem dJ3_checkIndex_8e157_16 : decode cJ3_checkIndex_8e157 16 = .ok (.iload_n 0, 1) := by decide +kernel
theorem dJ3_checkIndex_8e157_17 : decode cJ3_checkIndex_8e157 17 = .ok (.ireturn, 1) := by decide +kernel
end
section
/-! the system as tables: methods by number, what a class's constant pool names; every word by its place in ztbl -/
theorem zsel_priv {C : String} {y y0 : MethodName} {s : State} {args : Array Value} (hc0 : y0.cls = y.cls) (hy : y.cls ≠ "java/lang/invoke/MethodHandle" ∧ y.cls ≠ "java/lang/invoke/VarHandle") (h0 : (Cond.selects C y0 y0).before args s = true)
    (hpriv : (Cond.privateMethod y).before args s = true) (hinst : (Cond.instanceMethod y).before args s = true) : (Cond.selects C y y).before args s = true := by
  obtain ⟨c2, r2, m2, q1, q2, q3, q4, kP, hkP, hkPi⟩ := Cond.selects_spec h0
  obtain ⟨mk, methM, hnamed, hmethM, -, -⟩ := Cond.instanceMethod_spec hinst
  have hfound : s.methodFound? y.cls y.name y.desc = some mk := State.methodFound?_of_named hnamed hy
  have e1 : s.vm.findClass y.cls = some mk.cls := findClass_of_methodNamed hnamed
  have e2 : s.vm.findClass y0.cls = some m2.cls := findClass_of_methodNamed q3
  have hcls : mk.cls = m2.cls := by
    rw [hc0] at e2
    exact Option.some.inj (e1.symm.trans e2)
  have hsel : selectMethod {} s.vm c2 mk = .method mk := selectMethod_private hmethM (Cond.privateMethod_at hpriv mk methM hnamed hmethM)
  simp only [Cond.before, Cond.holds, Cond.value, q1, hfound, hnamed, hsel, hcls, hkP]
  simp; exact hkPi
def zpriv : List MethodName := [⟨"java/lang/AbstractStringBuilder", "newCapacity", "(I)I"⟩, ⟨"java/lang/AbstractStringBuilder", "ensureCapacityInternal", "(I)V"⟩, ⟨"java/lang/AbstractStringBuilder", "putStringAt", "(ILjava/lang/String;)V"⟩, ⟨"java/lang/AbstractStringBuilder", "inflateIfNeededFor", "(Ljava/lang/String;)V"⟩]
def ztbl : List Cond := zpriv.map (fun y => Cond.selects RJ4 y y) ++ lw_tbl
def zgw : List Cond := ztbl.filter goodWord
theorem zgw_mem {i : Nat} {w : Cond} (h : ztbl[i]? = some w) (g : goodWord w = true) : w ∈ zgw := List.mem_filter.mpr ⟨List.mem_of_getElem? h, g⟩
theorem zgw_good : ∀ w ∈ zgw, w ∈ ztbl ∧ goodWord w = true := fun w h => List.mem_filter.mp h
def zcn (k : Nat) : String := [RX0, RX1, RX2, RX3, RX4, RX5, RX6, RX7, RX8, RX9, RL, RJ4, RJ5, RJ6, RJ9, RJ0, RJ1, RJ7, RJ8, RJ3].getD k ""
def zK (M : Nat) : Nat := [0, 0, 0, 0, 1, 1, 1, 1, 1, 1, 2, 2, 2, 3, 3, 3, 3, 3, 3, 3, 3, 3, 3, 3, 3, 4, 4, 4, 5, 5, 5, 5, 6, 6, 6, 6, 6, 7, 7, 8, 8, 8, 8, 8, 8, 8, 8, 8, 8, 8, 8, 8, 8, 8, 8, 8, 8, 8, 8, 8, 8, 8, 8, 8, 8, 8, 8, 8, 8, 8, 8, 8, 8, 8, 8, 8, 8, 8, 8, 8, 8, 8, 8, 8, 9, 9, 9, 9, 9, 9, 9, 9, 9, 9, 9, 9, 9, 9, 9, 9, 9, 9, 9, 9, 9, 9, 9, 9, 9, 9, 9, 9, 9, 9, 9, 9, 9, 9, 9, 9, 9, 9, 9, 9, 9, 9, 9, 9, 9, 9, 9, 9, 9, 9, 9, 9, 9, 9, 10, 11, 11, 11, 11, 11, 11, 11, 12, 12, 12, 12, 12, 12, 12, 12, 12, 12, 12, 12, 13, 13, 15, 15, 15, 15, 16, 17, 18, 19].getD M 0
def zY (M : Nat) : MethodName := [yX0_init, yX0_append, yX0_darkUntil, yX0_copyFrom, yX1_init, yX1_find, yX1_fillerOf, yX1_settle, yX1_itemsWith, yX1_choose, yX2_init, yX2_keep, yX2_takeBack, yX3_init, yX3_end, yX3_firstIn, yX3_beginningAt, yX3_endingAt, yX3_minutesIn, yX3_minutesOf, yX3_indexFor, yX3_insert, yX3_delete, yX3_move, yX3_copyFrom, yX4_init, yX4_append, yX4_copyFrom, yX5_init, yX5_append, yX5_covers, yX5_copyFrom, yX6_init, yX6_clear, yX6_add, yX6_share, yX6_rightFor, yX7_init, yX7_copyFrom, yX8_init, yX8_addProgramme, yX8_addRight, yX8_addBlackout, yX8_place, yX8_remove, yX8_earliest, yX8_fill, yX8_runOver, yX8_makeGood, yX8_items, yX8_item, yX8_onAir, yX8_left, yX8_mayPlace, yX8_owed, yX8_minutes, yX8_silence, yX8_ranked, yX8_broken, yX8_line, yX8_undo, yX8_fingerprint, yX8_within, yX8_isTime, yX8_isInterval, yX8_isProgramme, yX8_isItem, yX8_obstacle, yX8_rightsAllow, yX8_gatherItemsOf, yX8_putOnAir, yX8_earliestStart, yX8_nextToTry, yX8_nextWindow, yX8_makeRoomAfter, yX8_giveWay, yX8_cut, yX8_push, yX8_drop, yX8_kindOf, yX8_shareRights, yX8_programmesAhead, yX8_writeLine, yX8_writeTwoDigits, yX9_init, yX9_in, yX9_act, yX9_isProgramme, yX9_isItem, yX9_kind, yX9_length, yX9_of, yX9_end, yX9_addProgramme, yX9_addRight, yX9_addBlackout, yX9_lists, yX9_listsAll, yX9_rightFor, yX9_gives, yX9_isBroken, yX9_isDark, yX9_isTaken, yX9_fault, yX9_puts, yX9_drops, yX9_place, yX9_remove, yX9_firstFor, yX9_earliest, yX9_mayFill, yX9_measures, yX9_fill, yX9_mayPush, yX9_treats, yX9_runOver, yX9_makeGood, yX9_items, yX9_told, yX9_item, yX9_itemAt, yX9_onAir, yX9_leftOf, yX9_left, yX9_mayPlace, yX9_owed, yX9_isSpan, yX9_minutes, yX9_silence, yX9_airTime, yX9_ranked, yX9_broken, yX9_signs, yX9_number, yX9_two, yX9_line, yX9_undo, yX9_fingerprint, x, yJ4_init_da8c8, yJ4_append_15ec4, yJ4_append_cf468, yJ4_append_bf812, yJ4_charAt_5068e, yJ4_setLength_d00df, yJ4_length_8abf5, yJ5_init_d00df, yJ5_length_8abf5, yJ5_ensureCapacityInternal_d00df, yJ5_newCapacity_0f7a4, yJ5_setLength_d00df, yJ5_charAt_5068e, yJ5_append_cf1ce, yJ5_append_3fe6f, yJ5_append_c97b9, yJ5_isLatin1_aae02, yJ5_inflateIfNeededFor_a7421, yJ5_putStringAt_47b60, yJ6_getChars_ba4f3, yJ6_stringSize_0f7a4, yJ0_length_8abf5, yJ0_getBytes_840e7, yJ0_coder_7d493, yJ0_checkIndex_df160, yJ1_canEncode_fc78d, yJ7_copyOf_9075b, yJ8_newLength_cabcc, yJ3_checkIndex_8e157].getD M objectInit
def zB (M : Nat) : ByteArray := [cX0_init, cX0_append, cX0_darkUntil, cX0_copyFrom, cX1_init, cX1_find, cX1_fillerOf, cX1_settle, cX1_itemsWith, cX1_choose, cX2_init, cX2_keep, cX2_takeBack, cX3_init, cX3_end, cX3_firstIn, cX3_beginningAt, cX3_endingAt, cX3_minutesIn, cX3_minutesOf, cX3_indexFor, cX3_insert, cX3_delete, cX3_move, cX3_copyFrom, cX4_init, cX4_append, cX4_copyFrom, cX5_init, cX5_append, cX5_covers, cX5_copyFrom, cX6_init, cX6_clear, cX6_add, cX6_share, cX6_rightFor, cX7_init, cX7_copyFrom, cX8_init, cX8_addProgramme, cX8_addRight, cX8_addBlackout, cX8_place, cX8_remove, cX8_earliest, cX8_fill, cX8_runOver, cX8_makeGood, cX8_items, cX8_item, cX8_onAir, cX8_left, cX8_mayPlace, cX8_owed, cX8_minutes, cX8_silence, cX8_ranked, cX8_broken, cX8_line, cX8_undo, cX8_fingerprint, cX8_within, cX8_isTime, cX8_isInterval, cX8_isProgramme, cX8_isItem, cX8_obstacle, cX8_rightsAllow, cX8_gatherItemsOf, cX8_putOnAir, cX8_earliestStart, cX8_nextToTry, cX8_nextWindow, cX8_makeRoomAfter, cX8_giveWay, cX8_cut, cX8_push, cX8_drop, cX8_kindOf, cX8_shareRights, cX8_programmesAhead, cX8_writeLine, cX8_writeTwoDigits, cX9_init, cX9_in, cX9_act, cX9_isProgramme, cX9_isItem, cX9_kind, cX9_length, cX9_of, cX9_end, cX9_addProgramme, cX9_addRight, cX9_addBlackout, cX9_lists, cX9_listsAll, cX9_rightFor, cX9_gives, cX9_isBroken, cX9_isDark, cX9_isTaken, cX9_fault, cX9_puts, cX9_drops, cX9_place, cX9_remove, cX9_firstFor, cX9_earliest, cX9_mayFill, cX9_measures, cX9_fill, cX9_mayPush, cX9_treats, cX9_runOver, cX9_makeGood, cX9_items, cX9_told, cX9_item, cX9_itemAt, cX9_onAir, cX9_leftOf, cX9_left, cX9_mayPlace, cX9_owed, cX9_isSpan, cX9_minutes, cX9_silence, cX9_airTime, cX9_ranked, cX9_broken, cX9_signs, cX9_number, cX9_two, cX9_line, cX9_undo, cX9_fingerprint, code, cJ4_init_da8c8, cJ4_append_15ec4, cJ4_append_cf468, cJ4_append_bf812, cJ4_charAt_5068e, cJ4_setLength_d00df, cJ4_length_8abf5, cJ5_init_d00df, cJ5_length_8abf5, cJ5_ensureCapacityInternal_d00df, cJ5_newCapacity_0f7a4, cJ5_setLength_d00df, cJ5_charAt_5068e, cJ5_append_cf1ce, cJ5_append_3fe6f, cJ5_append_c97b9, cJ5_isLatin1_aae02, cJ5_inflateIfNeededFor_a7421, cJ5_putStringAt_47b60, cJ6_getChars_ba4f3, cJ6_stringSize_0f7a4, cJ0_length_8abf5, cJ0_getBytes_840e7, cJ0_coder_7d493, cJ0_checkIndex_df160, cJ1_canEncode_fc78d, cJ7_copyOf_9075b, cJ8_newLength_cabcc, cJ3_checkIndex_8e157].getD M ⟨#[]⟩
def zL (M : Nat) : Nat := [1, 4, 6, 2, 1, 5, 3, 5, 6, 7, 2, 2, 2, 1, 2, 4, 3, 3, 4, 4, 4, 6, 2, 3, 2, 1, 4, 2, 1, 5, 5, 2, 1, 1, 5, 4, 5, 1, 2, 1, 4, 5, 4, 5, 2, 3, 7, 3, 4, 1, 3, 2, 2, 3, 2, 8, 8, 3, 4, 3, 1, 4, 3, 1, 3, 2, 2, 4, 4, 3, 5, 7, 6, 6, 6, 3, 4, 5, 2, 2, 3, 6, 3, 2, 1, 3, 2, 2, 2, 2, 2, 3, 2, 5, 6, 5, 5, 2, 8, 2, 4, 7, 5, 4, 7, 3, 5, 2, 4, 3, 5, 9, 10, 6, 5, 8, 5, 1, 3, 3, 3, 2, 2, 2, 3, 2, 2, 9, 8, 4, 6, 3, 2, 2, 2, 4, 2, 5, 4, 1, 2, 2, 2, 2, 2, 1, 2, 1, 3, 6, 2, 5, 3, 2, 4, 1, 2, 3, 7, 4, 1, 4, 1, 2, 1, 3, 4, 3].getD M 0
def zR (M : Nat) : Option FieldType := [none, (some .int), (some .int), none, none, (some .int), (some .int), none, (some .int), (some .int), none, none, none, none, (some .int), (some .int), (some .int), (some .int), (some .int), (some .int), (some .int), none, none, none, none, none, (some .int), none, none, (some .int), (some .boolean), none, none, none, none, (some .boolean), (some .int), none, none, none, (some .int), (some .int), (some .int), (some .int), (some .int), (some .int), (some .int), (some .int), (some .int), (some .int), (some .int), (some .int), (some .int), (some .int), (some .int), (some .int), (some .int), (some .int), (some .int), (some .int), (some .int), (some .long), (some .boolean), (some .boolean), (some .boolean), (some .boolean), (some .boolean), (some .int), (some .boolean), none, (some .int), (some .int), (some .int), (some .int), (some .int), (some .boolean), (some .boolean), (some .boolean), none, (some .int), none, (some .int), none, none, none, (some .boolean), none, (some .boolean), (some .boolean), (some .int), (some .int), (some .int), (some .int), (some .int), (some .int), (some .int), none, none, (some .int), none, (some .boolean), (some .boolean), (some .boolean), (some .int), (some .int), none, (some .int), (some .int), (some .int), (some .int), (some .boolean), none, (some .int), (some .boolean), (some .int), (some .int), (some .int), (some .int), (some .int), (some .int), (some .int), (some .int), (some .int), (some .int), (some .int), (some .int), (some .boolean), (some .int), (some .int), (some .int), (some .int), (some .int), none, none, none, (some .int), (some .int), (some .long), ret, none, (some (.object "java/lang/StringBuilder")), (some (.object "java/lang/StringBuilder")), (some (.object "java/lang/StringBuilder")), (some .char), none, (some .int), none, (some .int), none, (some .int), none, (some .char), (some (.object "java/lang/AbstractStringBuilder")), (some (.object "java/lang/AbstractStringBuilder")), (some (.object "java/lang/AbstractStringBuilder")), (some .boolean), none, none, (some .int), (some .int), (some .int), none, (some .byte), none, (some .boolean), (some (.array .byte)), (some .int), (some .int)].getD M none
/-- calls by class and place in its pool: kind, method, number of arguments; places of the words -/
def zcalls : List ((Nat × Nat) × (Nat × (Nat × Nat)) × List Nat) := [
  ((0, 3), (6, (0, 0)), [158, 85, 86]),
  ((0, 25), (7, (0, 5)), [380, 370, 369, 72]),
  ((1, 3), (6, (0, 0)), [274, 85, 86]),
  ((1, 31), (8, (0, 2)), [525, 507, 73]),
  ((1, 46), (1, (16, 1)), [526, 527, 528, 63]),
  ((1, 52), (0, (6, 2)), [530, 531, 66]),
  ((1, 59), (1, (7, 2)), [533, 535, 15, 66]),
  ((1, 67), (1, (17, 1)), [542, 543, 544, 63]),
  ((1, 70), (1, (9, 2)), [546, 548, 17, 66]),
  ((1, 86), (1, (8, 3)), [537, 539, 16, 66]),
  ((1, 99), (1, (2, 3)), [541, 467, 468, 62]),
  ((2, 3), (6, (0, 0)), [227, 85, 86]),
  ((2, 17), (4, (37, 0)), [230, 90, 59]),
  ((2, 25), (1, (38, 1)), [360, 361, 362, 59]),
  ((3, 3), (6, (0, 0)), [178, 85, 86]),
  ((3, 28), (1, (14, 1)), [432, 433, 434, 63]),
  ((3, 32), (8, (0, 2)), [615, 507, 73]),
  ((3, 38), (9, (0, 2)), [616, 617, 73]),
  ((3, 41), (1, (23, 2)), [482, 484, 10, 63]),
  ((3, 45), (7, (0, 5)), [385, 370, 369, 72]),
  ((4, 3), (6, (0, 0)), [98, 85, 86]),
  ((4, 28), (7, (0, 5)), [368, 370, 369, 72]),
  ((5, 3), (6, (0, 0)), [130, 85, 86]),
  ((5, 28), (7, (0, 5)), [375, 370, 369, 72]),
  ((6, 3), (6, (0, 0)), [247, 85, 86]),
  ((6, 37), (7, (0, 5)), [457, 370, 369, 72]),
  ((6, 43), (1, (36, 2)), [458, 460, 8, 65]),
  ((6, 47), (1, (30, 4)), [462, 463, 464, 61]),
  ((7, 1), (6, (0, 0)), [92, 85, 86]),
  ((7, 9), (4, (25, 0)), [95, 96, 60]),
  ((7, 18), (4, (28, 0)), [127, 128, 61]),
  ((7, 25), (4, (0, 0)), [155, 156, 62]),
  ((7, 32), (4, (13, 0)), [175, 176, 63]),
  ((7, 37), (1, (27, 1)), [364, 365, 366, 60]),
  ((7, 41), (1, (31, 1)), [371, 372, 373, 61]),
  ((7, 44), (1, (3, 1)), [376, 377, 378, 62]),
  ((7, 47), (1, (24, 1)), [381, 382, 383, 63]),
  ((8, 3), (6, (0, 0)), [84, 85, 86]),
  ((8, 11), (4, (37, 0)), [89, 90, 59]),
  ((8, 18), (3, (10, 0)), [224, 225, 64]),
  ((8, 25), (4, (32, 0)), [244, 245, 65]),
  ((8, 32), (4, (4, 0)), [271, 272, 66]),
  ((8, 39), (3, (139, 0)), [303, 304, 68]),
  ((8, 44), (0, (62, 3)), [353, 354, 58]),
  ((8, 58), (1, (11, 1)), [356, 357, 358, 64]),
  ((8, 62), (1, (26, 3)), [386, 387, 388, 60]),
  ((8, 66), (1, (65, 1)), [394, 396, 4, 58]),
  ((8, 70), (0, (64, 3)), [398, 399, 58]),
  ((8, 80), (1, (29, 4)), [401, 402, 403, 61]),
  ((8, 90), (1, (1, 3)), [409, 410, 411, 62]),
  ((8, 91), (1, (53, 2)), [417, 418, 419, 58]),
  ((8, 95), (1, (70, 3)), [470, 472, 9, 58]),
  ((8, 99), (1, (66, 1)), [490, 492, 11, 58]),
  ((8, 106), (1, (22, 1)), [494, 495, 496, 63]),
  ((8, 113), (0, (63, 1)), [421, 422, 58]),
  ((8, 116), (1, (71, 2)), [502, 504, 12, 58]),
  ((8, 119), (1, (15, 2)), [428, 429, 430, 63]),
  ((8, 122), (1, (5, 3)), [521, 522, 523, 66]),
  ((8, 133), (1, (79, 1)), [554, 556, 18, 58]),
  ((8, 137), (1, (14, 1)), [448, 433, 434, 63]),
  ((8, 141), (1, (74, 1)), [558, 560, 19, 58]),
  ((8, 156), (1, (80, 0)), [590, 592, 24, 58]),
  ((8, 165), (1, (67, 2)), [424, 426, 5, 58]),
  ((8, 168), (1, (18, 3)), [611, 612, 613, 63]),
  ((8, 171), (8, (0, 2)), [506, 507, 73]),
  ((8, 176), (9, (0, 2)), [623, 617, 73]),
  ((8, 179), (1, (81, 1)), [628, 630, 25, 58]),
  ((8, 185), (1, (2, 3)), [466, 467, 468, 62]),
  ((8, 188), (1, (82, 1)), [644, 646, 26, 58]),
  ((8, 191), (1, (145, 0)), [835, 836, 837, 68]),
  ((8, 194), (1, (143, 1)), [842, 843, 844, 68]),
  ((8, 199), (1, (12, 1)), [858, 859, 860, 64]),
  ((8, 206), (1, (68, 3)), [436, 438, 6, 58]),
  ((8, 212), (1, (69, 1)), [440, 442, 7, 58]),
  ((8, 215), (1, (34, 3)), [449, 450, 451, 65]),
  ((8, 219), (1, (35, 1)), [453, 454, 455, 65]),
  ((8, 223), (1, (33, 0)), [444, 445, 446, 65]),
  ((8, 226), (1, (20, 1)), [474, 475, 476, 63]),
  ((8, 229), (1, (21, 5)), [478, 479, 480, 63]),
  ((8, 233), (1, (72, 3)), [509, 511, 13, 58]),
  ((8, 236), (1, (73, 2)), [513, 515, 14, 58]),
  ((8, 243), (1, (75, 2)), [562, 564, 20, 58]),
  ((8, 247), (1, (78, 1)), [574, 576, 23, 58]),
  ((8, 250), (1, (76, 2)), [566, 568, 21, 58]),
  ((8, 253), (1, (77, 2)), [570, 572, 22, 58]),
  ((8, 256), (1, (19, 1)), [632, 633, 634, 63]),
  ((8, 259), (1, (144, 1)), [648, 649, 650, 68]),
  ((8, 262), (1, (142, 1)), [702, 703, 704, 68]),
  ((8, 265), (1, (141, 1)), [750, 751, 752, 68]),
  ((8, 268), (1, (83, 1)), [791, 793, 27, 58]),
  ((8, 273), (1, (140, 1)), [796, 797, 798, 68]),
  ((9, 1), (6, (0, 0)), [873, 85, 86]),
  ((9, 41), (0, (85, 3)), [915, 916, 71]),
  ((9, 45), (1, (91, 2)), [950, 952, 33, 71]),
  ((9, 49), (1, (86, 0)), [918, 920, 28, 71]),
  ((9, 52), (1, (87, 1)), [926, 928, 29, 71]),
  ((9, 59), (1, (89, 1)), [974, 976, 39, 71]),
  ((9, 63), (1, (98, 3)), [978, 980, 40, 71]),
  ((9, 67), (1, (99, 0)), [970, 972, 38, 71]),
  ((9, 70), (1, (92, 1)), [954, 956, 34, 71]),
  ((9, 73), (1, (90, 1)), [942, 944, 31, 71]),
  ((9, 76), (1, (102, 2)), [946, 948, 32, 71]),
  ((9, 80), (1, (97, 0)), [958, 960, 35, 71]),
  ((9, 83), (1, (96, 3)), [962, 964, 36, 71]),
  ((9, 87), (1, (100, 1)), [966, 968, 37, 71]),
  ((9, 90), (1, (101, 3)), [982, 984, 41, 71]),
  ((9, 93), (1, (103, 2)), [938, 940, 30, 71]),
  ((9, 96), (1, (104, 4)), [986, 988, 42, 71]),
  ((9, 100), (1, (88, 1)), [994, 996, 43, 71]),
  ((9, 103), (1, (105, 1)), [998, 1000, 44, 71]),
  ((9, 107), (1, (108, 2)), [1006, 1008, 45, 71]),
  ((9, 110), (1, (110, 4)), [1018, 1020, 47, 71]),
  ((9, 114), (1, (111, 3)), [1014, 1016, 46, 71]),
  ((9, 117), (1, (113, 2)), [1030, 1032, 49, 71]),
  ((9, 120), (1, (114, 2)), [1026, 1028, 48, 71]),
  ((9, 123), (1, (118, 2)), [1046, 1048, 50, 71]),
  ((9, 126), (1, (120, 1)), [1054, 1056, 51, 71]),
  ((9, 129), (1, (122, 1)), [1062, 1064, 52, 71]),
  ((9, 132), (0, (126, 2)), [1078, 1079, 71]),
  ((9, 135), (1, (129, 1)), [1089, 1091, 53, 71]),
  ((9, 141), (1, (132, 1)), [1101, 1103, 54, 71]),
  ((9, 143), (1, (134, 1)), [1105, 1107, 55, 71]),
  ((9, 146), (1, (133, 1)), [1109, 1111, 56, 71]),
  ((10, 9), (3, (39, 0)), [81, 82, 58]),
  ((10, 12), (3, (84, 0)), [870, 871, 71]),
  ((10, 13), (1, (40, 3)), [349, 350, 351, 58]),
  ((10, 17), (1, (93, 3)), [911, 912, 913, 71]),
  ((10, 18), (1, (41, 4)), [390, 391, 392, 58]),
  ((10, 22), (1, (94, 4)), [922, 923, 924, 71]),
  ((10, 23), (1, (42, 3)), [405, 406, 407, 58]),
  ((10, 26), (1, (95, 3)), [930, 931, 932, 71]),
  ((10, 27), (1, (43, 3)), [413, 414, 415, 58]),
  ((10, 31), (1, (106, 3)), [934, 935, 936, 71]),
  ((10, 32), (1, (44, 1)), [486, 487, 488, 58]),
  ((10, 36), (1, (107, 1)), [990, 991, 992, 71]),
  ((10, 37), (1, (45, 2)), [498, 499, 500, 58]),
  ((10, 41), (1, (109, 2)), [1002, 1003, 1004, 71]),
  ((10, 42), (1, (46, 2)), [517, 518, 519, 58]),
  ((10, 45), (1, (112, 2)), [1010, 1011, 1012, 71]),
  ((10, 46), (1, (47, 2)), [550, 551, 552, 58]),
  ((10, 49), (1, (115, 2)), [1022, 1023, 1024, 71]),
  ((10, 50), (1, (48, 2)), [578, 579, 580, 58]),
  ((10, 53), (1, (116, 2)), [1034, 1035, 1036, 71]),
  ((10, 54), (1, (49, 0)), [582, 583, 584, 58]),
  ((10, 58), (1, (117, 0)), [1038, 1039, 1040, 71]),
  ((10, 59), (1, (50, 2)), [586, 587, 588, 58]),
  ((10, 62), (1, (119, 2)), [1042, 1043, 1044, 71]),
  ((10, 63), (1, (51, 1)), [594, 595, 596, 58]),
  ((10, 66), (1, (121, 1)), [1050, 1051, 1052, 71]),
  ((10, 67), (1, (52, 1)), [598, 599, 600, 58]),
  ((10, 70), (1, (123, 1)), [1058, 1059, 1060, 71]),
  ((10, 71), (1, (53, 2)), [602, 418, 419, 58]),
  ((10, 74), (1, (124, 2)), [1066, 1067, 1068, 71]),
  ((10, 75), (1, (54, 1)), [603, 604, 605, 58]),
  ((10, 78), (1, (125, 1)), [1070, 1071, 1072, 71]),
  ((10, 79), (1, (55, 3)), [607, 608, 609, 58]),
  ((10, 82), (1, (127, 3)), [1074, 1075, 1076, 71]),
  ((10, 83), (1, (56, 2)), [619, 620, 621, 58]),
  ((10, 86), (1, (128, 2)), [1081, 1082, 1083, 71]),
  ((10, 87), (1, (57, 1)), [624, 625, 626, 58]),
  ((10, 90), (1, (130, 1)), [1085, 1086, 1087, 71]),
  ((10, 91), (1, (58, 0)), [636, 637, 638, 58]),
  ((10, 94), (1, (131, 0)), [1093, 1094, 1095, 71]),
  ((10, 95), (1, (59, 2)), [640, 641, 642, 58]),
  ((10, 98), (1, (135, 2)), [1097, 1098, 1099, 71]),
  ((10, 99), (1, (60, 0)), [854, 855, 856, 58]),
  ((10, 102), (1, (136, 0)), [1113, 1114, 1115, 71]),
  ((10, 103), (1, (61, 0)), [862, 863, 864, 58]),
  ((10, 107), (1, (137, 0)), [1117, 1118, 1119, 71]),
  ((11, 1), (3, (146, 1)), [306, 307, 67]),
  ((11, 29), (5, (152, 1)), [800, 1129, 331, 801, 67]),
  ((11, 50), (5, (153, 1)), [754, 1127, 331, 755, 67]),
  ((11, 53), (5, (154, 1)), [706, 1126, 331, 707, 67]),
  ((11, 329), (5, (151, 1)), [846, 1134, 331, 847, 67]),
  ((11, 333), (5, (150, 1)), [652, 1123, 331, 653, 67]),
  ((11, 343), (5, (147, 0)), [839, 1133, 331, 840, 67]),
  ((12, 3), (6, (0, 0)), [309, 85, 86]),
  ((12, 32), (1, (160, 0)), [810, 811, 812, 69]),
  ((12, 40), (1, (162, 0)), [827, 815, 816, 69]),
  ((12, 83), (2, (155, 0)), [684, 686, 687, 685, 67]),
  ((12, 100), (2, (148, 1)), [655, 1124, 1, 657, 67]),
  ((12, 104), (2, (149, 1)), [659, 1125, 0, 661, 67]),
  ((12, 108), (0, (165, 2)), [672, 673, 75]),
  ((12, 114), (0, (166, 3)), [663, 664, 74]),
  ((12, 138), (8, (0, 2)), [849, 507, 73]),
  ((12, 144), (0, (163, 2)), [850, 786, 69]),
  ((12, 191), (0, (164, 1)), [757, 758, 76]),
  ((12, 208), (2, (157, 2)), [819, 1131, 2, 821, 67]),
  ((12, 245), (0, (159, 1)), [709, 710, 77]),
  ((12, 248), (0, (158, 3)), [712, 713, 77]),
  ((12, 397), (2, (156, 1)), [823, 1132, 3, 825, 67]),
  ((12, 399), (1, (161, 3)), [828, 829, 830, 69]),
  ((15, 212), (7, (0, 5)), [832, 370, 369, 72]),
  ((15, 335), (1, (162, 0)), [814, 815, 816, 69]),
  ((15, 1059), (0, (167, 3)), [788, 789, 78]),
  ((17, 150), (7, (0, 5)), [683, 370, 369, 72]),
  ((17, 304), (8, (0, 2)), [682, 507, 73]),
  ((18, 194), (9, (0, 2)), [666, 617, 73])]
/-- fields by class and place in its pool: class of the cell, place in it, whether it holds a reference, whether it is final; place of the word -/
def zflds : List ((Nat × Nat) × (Nat × (Nat × (Bool × Nat))) × Nat) := [
  ((0, 9), (1, (1, (true, 1))), 161),
  ((0, 15), (1, (2, (true, 1))), 162),
  ((0, 18), (1, (3, (true, 1))), 163),
  ((0, 21), (1, (0, (false, 0))), 159),
  ((1, 9), (2, (0, (true, 1))), 275),
  ((1, 15), (2, (4, (true, 1))), 280),
  ((1, 18), (2, (5, (true, 1))), 281),
  ((1, 21), (2, (6, (true, 1))), 282),
  ((1, 24), (2, (7, (true, 1))), 283),
  ((1, 27), (2, (1, (false, 0))), 277),
  ((1, 37), (2, (2, (false, 0))), 278),
  ((1, 40), (8, (3, (true, 2))), 211),
  ((1, 56), (2, (3, (false, 0))), 279),
  ((1, 63), (8, (0, (true, 2))), 204),
  ((1, 74), (4, (0, (false, 0))), 180),
  ((1, 77), (4, (1, (true, 2))), 183),
  ((1, 80), (5, (1, (true, 2))), 103),
  ((1, 85), (5, (0, (false, 0))), 101),
  ((1, 90), (5, (2, (true, 2))), 106),
  ((1, 92), (8, (2, (true, 2))), 209),
  ((1, 96), (5, (3, (true, 2))), 109),
  ((2, 11), (3, (2, (true, 1))), 234),
  ((2, 18), (3, (0, (false, 0))), 231),
  ((2, 22), (3, (1, (false, 0))), 233),
  ((3, 9), (4, (1, (true, 1))), 182),
  ((3, 15), (4, (2, (true, 1))), 185),
  ((3, 18), (4, (3, (true, 1))), 187),
  ((3, 21), (4, (4, (true, 1))), 189),
  ((3, 24), (4, (0, (false, 0))), 179),
  ((4, 9), (5, (1, (true, 1))), 102),
  ((4, 15), (5, (2, (true, 1))), 105),
  ((4, 18), (5, (3, (true, 1))), 108),
  ((4, 21), (5, (4, (true, 1))), 111),
  ((4, 24), (5, (0, (false, 0))), 99),
  ((5, 9), (6, (1, (true, 1))), 134),
  ((5, 15), (6, (2, (true, 1))), 136),
  ((5, 18), (6, (3, (true, 1))), 138),
  ((5, 21), (6, (4, (true, 1))), 140),
  ((5, 24), (6, (0, (false, 0))), 131),
  ((6, 11), (7, (1, (true, 1))), 249),
  ((6, 15), (7, (2, (true, 1))), 250),
  ((6, 18), (7, (3, (true, 1))), 251),
  ((6, 21), (7, (4, (true, 1))), 252),
  ((6, 24), (7, (5, (true, 1))), 254),
  ((6, 27), (7, (0, (false, 0))), 248),
  ((6, 31), (6, (4, (true, 2))), 141),
  ((6, 36), (6, (0, (false, 0))), 133),
  ((6, 51), (6, (3, (true, 2))), 139),
  ((7, 10), (8, (0, (true, 1))), 202),
  ((7, 19), (8, (1, (true, 1))), 205),
  ((7, 26), (8, (2, (true, 1))), 207),
  ((7, 33), (8, (3, (true, 1))), 210),
  ((8, 12), (9, (0, (true, 1))), 333),
  ((8, 19), (9, (1, (true, 1))), 334),
  ((8, 26), (9, (2, (true, 1))), 335),
  ((8, 33), (9, (3, (true, 1))), 336),
  ((8, 40), (9, (4, (true, 1))), 337),
  ((8, 48), (8, (0, (true, 2))), 203),
  ((8, 52), (5, (0, (false, 0))), 100),
  ((8, 73), (8, (1, (true, 2))), 206),
  ((8, 77), (6, (0, (false, 0))), 132),
  ((8, 83), (8, (2, (true, 2))), 208),
  ((8, 87), (1, (0, (false, 0))), 160),
  ((8, 102), (8, (3, (true, 2))), 212),
  ((8, 112), (4, (0, (false, 0))), 181),
  ((8, 126), (2, (0, (true, 2))), 276),
  ((8, 130), (5, (2, (true, 2))), 107),
  ((8, 140), (4, (3, (true, 2))), 188),
  ((8, 144), (5, (4, (true, 2))), 112),
  ((8, 147), (4, (1, (true, 2))), 184),
  ((8, 150), (4, (2, (true, 2))), 186),
  ((8, 153), (4, (4, (true, 2))), 190),
  ((8, 159), (7, (4, (true, 2))), 253),
  ((8, 162), (7, (5, (true, 2))), 255),
  ((8, 182), (5, (3, (true, 2))), 110),
  ((8, 198), (3, (0, (false, 0))), 232),
  ((8, 209), (5, (1, (true, 2))), 104),
  ((8, 239), (6, (2, (true, 2))), 137),
  ((8, 242), (6, (1, (true, 2))), 135),
  ((9, 7), (10, (0, (true, 1))), 874),
  ((9, 13), (10, (1, (true, 1))), 875),
  ((9, 16), (10, (3, (true, 1))), 877),
  ((9, 19), (10, (4, (true, 1))), 878),
  ((9, 22), (10, (5, (true, 1))), 879),
  ((9, 25), (10, (6, (true, 1))), 880),
  ((9, 28), (10, (7, (true, 1))), 881),
  ((9, 31), (10, (9, (true, 1))), 883),
  ((9, 34), (10, (10, (true, 1))), 884),
  ((9, 37), (10, (2, (false, 0))), 876),
  ((9, 56), (10, (8, (false, 0))), 882),
  ((9, 138), (10, (11, (false, 0))), 885),
  ((12, 15), (0, (0, (true, 0))), 319),
  ((12, 22), (0, (1, (false, 0))), 320),
  ((12, 73), (0, (2, (false, 0))), 321),
  ((12, 79), (0, (3, (false, 0))), 322)]
abbrev vwClz : List vw_C := [(RJ4, TJ4, 4), (RX0, TX0, 4), (RX1, TX1, 8), (RX2, TX2, 3), (RX3, TX3, 5), (RX4, TX4, 5), (RX5, TX5, 5), (RX6, TX6, 6), (RX7, TX7, 4), (RX8, TX8, 5), (RX9, TX9, 12)]
def zty (ci : Nat) : Nat → FieldType := [tyJ4, tyX0, tyX1, tyX2, tyX3, tyX4, tyX5, tyX6, tyX7, tyX8, tyX9].getD ci tyJ4
/-- whether a field holds a reference -/
def zrf (ci k : Nat) : Bool := (([[true, false, false, false], [false, true, true, true], [true, false, false, false, true, true, true, true], [false, false, true], [false, true, true, true, true], [false, true, true, true, true], [false, true, true, true, true], [false, true, true, true, true, true], [true, true, true, true], [true, true, true, true, true], [true, true, false, true, true, true, true, true, false, true, true, false]] : List (List Bool)).getD ci []).getD k false
/-- classes by class and place in its pool: class of the cells; places of classLink, instantiable, initialized -/
def znews : List ((Nat × Nat) × Nat × List Nat) := [((2, 9), 8, [228, 88, 59]), ((7, 7), 5, [93, 94, 60]), ((7, 16), 6, [125, 126, 61]), ((7, 23), 1, [153, 154, 62]), ((7, 30), 4, [173, 174, 63]), ((8, 9), 8, [87, 88, 59]), ((8, 16), 3, [222, 223, 64]), ((8, 23), 7, [242, 243, 65]), ((8, 30), 2, [269, 270, 66]), ((8, 37), 0, [301, 302, 68]), ((10, 7), 9, [79, 80, 58]), ((10, 10), 10, [868, 869, 71])]
def zwords (kd own idx : Nat) (y : MethodName) : List Cond := match kd with
  | 0 => [.methodLink (zcn own) idx y, .static y, .initialized y.cls]
  | 1 => [.methodLink (zcn own) idx y, .instanceMethod y, .selects y.cls y y, .initialized y.cls]
  | 2 => [.methodLink (zcn own) idx y, .sameMethod y.cls y.cls y.name y.desc, .selects RJ4 y y, .instanceMethod y, .initialized y.cls]
  | 3 => [.methodLink (zcn own) idx y, .instanceMethod y, .initialized y.cls]
  | 4 => [.methodLinkNest (zcn own) idx y "RadioWeek", .instanceMethod y, .initialized y.cls]
  | 5 => [.methodLink (zcn own) idx y, .sameMethod y.cls y.cls y.name y.desc, .superclass (zcn own) y.cls, .instanceMethod y, .initialized y.cls]
  | 6 => [.methodLink (zcn own) idx objectInit, .instanceMethod objectInit, .code objectInit ⟨#[0xb1]⟩ 1 none]
  | 8 => [.methodLink (zcn own) idx Lib.Math.min.name, .static Lib.Math.min.name, .initialized "java/lang/Math"]
  | 9 => [.methodLink (zcn own) idx Lib.Math.max.name, .static Lib.Math.max.name, .initialized "java/lang/Math"]
  | _ => [.methodLink (zcn own) idx arraycopyName, .native arraycopyName, .static arraycopyName, .initialized "java/lang/System"]
def zokc (e : (Nat × Nat) × (Nat × (Nat × Nat)) × List Nat) : Bool :=
  decide ((zwords e.2.1.1 e.1.1 e.1.2 (zY e.2.1.2.1)).map some = e.2.2.map (fun i => ztbl[i]?)) &&
  (if e.2.1.1 = 4 then ((zwords e.2.1.1 e.1.1 e.1.2 (zY e.2.1.2.1)).drop 1).all goodWord else (zwords e.2.1.1 e.1.1 e.1.2 (zY e.2.1.2.1)).all goodWord) &&
  (decide (6 ≤ e.2.1.1) || (decide ((zY e.2.1.2.1).cls ≠ "java/lang/invoke/MethodHandle") && decide ((zY e.2.1.2.1).cls ≠ "java/lang/invoke/VarHandle") &&
    decide ((parseMethodDescriptor (zY e.2.1.2.1).desc).map (fun d => d.parameters.length) = some e.2.1.2.2) &&
    (!(e.2.1.1 == 3 || e.2.1.1 == 4) || (decide ((zY e.2.1.2.1).name = "<init>") && decide (zR e.2.1.2.1 = none))) && (!(e.2.1.1 == 5) || decide ((zY e.2.1.2.1).name ≠ "<init>"))))
set_option maxRecDepth 100000 in
theorem zminc : Cond.code Lib.Math.min.name Lib.Math.min.code 2 (some .int) ∈ zgw := zgw_mem (i := 508) rfl rfl
set_option maxRecDepth 100000 in
theorem zmaxc : Cond.code Lib.Math.max.name Lib.Math.max.code 2 (some .int) ∈ zgw := zgw_mem (i := 618) rfl rfl
set_option maxRecDepth 100000 in
theorem zcalls_ok : zcalls.all zokc = true := by decide +kernel
def zokf (e : (Nat × Nat) × (Nat × (Nat × (Bool × Nat))) × Nat) : Bool := match vwClz[e.2.1.1]? with
  | some (_, T, N) => decide (e.2.1.2.1 < N) && decide (ztbl[e.2.2]? = some (.fieldLink (zcn e.1.1) e.1.2 (T e.2.1.2.1).1 (T e.2.1.2.1).2.1 (T e.2.1.2.1).2.2.1)) && goodWord (.fieldLink (zcn e.1.1) e.1.2 (T e.2.1.2.1).1 (T e.2.1.2.1).2.1 (T e.2.1.2.1).2.2.1) && decide (zrf e.2.1.1 e.2.1.2.1 = e.2.1.2.2.1) && (if e.2.1.2.2.2 = 0 then decide ((T e.2.1.2.1).2.2.2 = false) else if e.2.1.2.2.2 = 1 then decide ((T e.2.1.2.1).2.2.2 = true) && decide ((T e.2.1.2.1).1 = zcn e.1.1) else true)
  | none => false
set_option maxRecDepth 100000 in
theorem zflds_ok : zflds.all zokf = true := by decide +kernel
def zokn (e : (Nat × Nat) × Nat × List Nat) : Bool := match vwClz[e.2.1]? with
  | some (C, _, N) => decide ([some (Cond.classLink (zcn e.1.1) e.1.2 C), some (Cond.instantiable C N), some (Cond.initialized C)] = e.2.2.map (fun i => ztbl[i]?)) && goodWord (Cond.classLink (zcn e.1.1) e.1.2 C) && goodWord (Cond.instantiable C N) && goodWord (Cond.initialized C)
  | none => false
set_option maxRecDepth 100000 in
theorem znews_ok : znews.all zokn = true := by decide +kernel

def zcp (M : Nat) : Nat := [157, 412, 469, 379, 273, 524, 532, 536, 540, 549, 226, 359, 861, 177, 435, 431, 529, 545, 614, 635, 477, 481, 497, 485, 384, 97, 389, 367, 129, 404, 465, 374, 246, 447, 452, 456, 461, 91, 363, 83, 352, 393, 408, 416, 489, 501, 520, 553, 581, 585, 589, 597, 601, 420, 606, 610, 622, 627, 639, 643, 857, 865, 355, 423, 400, 397, 493, 427, 439, 443, 473, 505, 512, 516, 561, 565, 569, 573, 577, 557, 593, 631, 647, 794, 872, 917, 921, 929, 997, 977, 945, 953, 957, 914, 925, 933, 965, 961, 981, 973, 969, 985, 949, 941, 989, 1001, 937, 993, 1009, 1005, 1021, 1017, 1013, 1033, 1029, 1025, 1037, 1041, 1049, 1045, 1057, 1053, 1065, 1061, 1069, 1073, 1080, 1077, 1084, 1092, 1088, 1096, 1104, 1112, 1108, 1100, 1116, 1120, 0, 305, 799, 753, 705, 845, 651, 838, 308, 841, 658, 662, 654, 848, 802, 756, 708, 688, 826, 822, 714, 711, 813, 831, 817, 787, 759, 674, 665, 790].getD M 0
set_option maxRecDepth 100000 in
theorem zc0 : ztbl[157]? = some (.code (zY 0) (zB 0) (zL 0) (zR 0)) := rfl
set_option maxRecDepth 100000 in
theorem zc1 : ztbl[412]? = some (.code (zY 1) (zB 1) (zL 1) (zR 1)) := rfl
set_option maxRecDepth 100000 in
theorem zc2 : ztbl[469]? = some (.code (zY 2) (zB 2) (zL 2) (zR 2)) := rfl
set_option maxRecDepth 100000 in
theorem zc3 : ztbl[379]? = some (.code (zY 3) (zB 3) (zL 3) (zR 3)) := rfl
set_option maxRecDepth 100000 in
theorem zc4 : ztbl[273]? = some (.code (zY 4) (zB 4) (zL 4) (zR 4)) := rfl
set_option maxRecDepth 100000 in
theorem zc5 : ztbl[524]? = some (.code (zY 5) (zB 5) (zL 5) (zR 5)) := rfl
set_option maxRecDepth 100000 in
theorem zc6 : ztbl[532]? = some (.code (zY 6) (zB 6) (zL 6) (zR 6)) := rfl
set_option maxRecDepth 100000 in
theorem zc7 : ztbl[536]? = some (.code (zY 7) (zB 7) (zL 7) (zR 7)) := rfl
set_option maxRecDepth 100000 in
theorem zc8 : ztbl[540]? = some (.code (zY 8) (zB 8) (zL 8) (zR 8)) := rfl
set_option maxRecDepth 100000 in
theorem zc9 : ztbl[549]? = some (.code (zY 9) (zB 9) (zL 9) (zR 9)) := rfl
set_option maxRecDepth 100000 in
theorem zc10 : ztbl[226]? = some (.code (zY 10) (zB 10) (zL 10) (zR 10)) := rfl
set_option maxRecDepth 100000 in
theorem zc11 : ztbl[359]? = some (.code (zY 11) (zB 11) (zL 11) (zR 11)) := rfl
set_option maxRecDepth 100000 in
theorem zc12 : ztbl[861]? = some (.code (zY 12) (zB 12) (zL 12) (zR 12)) := rfl
set_option maxRecDepth 100000 in
theorem zc13 : ztbl[177]? = some (.code (zY 13) (zB 13) (zL 13) (zR 13)) := rfl
set_option maxRecDepth 100000 in
theorem zc14 : ztbl[435]? = some (.code (zY 14) (zB 14) (zL 14) (zR 14)) := rfl
set_option maxRecDepth 100000 in
theorem zc15 : ztbl[431]? = some (.code (zY 15) (zB 15) (zL 15) (zR 15)) := rfl
set_option maxRecDepth 100000 in
theorem zc16 : ztbl[529]? = some (.code (zY 16) (zB 16) (zL 16) (zR 16)) := rfl
set_option maxRecDepth 100000 in
theorem zc17 : ztbl[545]? = some (.code (zY 17) (zB 17) (zL 17) (zR 17)) := rfl
set_option maxRecDepth 100000 in
theorem zc18 : ztbl[614]? = some (.code (zY 18) (zB 18) (zL 18) (zR 18)) := rfl
set_option maxRecDepth 100000 in
theorem zc19 : ztbl[635]? = some (.code (zY 19) (zB 19) (zL 19) (zR 19)) := rfl
set_option maxRecDepth 100000 in
theorem zc20 : ztbl[477]? = some (.code (zY 20) (zB 20) (zL 20) (zR 20)) := rfl
set_option maxRecDepth 100000 in
theorem zc21 : ztbl[481]? = some (.code (zY 21) (zB 21) (zL 21) (zR 21)) := rfl
set_option maxRecDepth 100000 in
theorem zc22 : ztbl[497]? = some (.code (zY 22) (zB 22) (zL 22) (zR 22)) := rfl
set_option maxRecDepth 100000 in
theorem zc23 : ztbl[485]? = some (.code (zY 23) (zB 23) (zL 23) (zR 23)) := rfl
set_option maxRecDepth 100000 in
theorem zc24 : ztbl[384]? = some (.code (zY 24) (zB 24) (zL 24) (zR 24)) := rfl
set_option maxRecDepth 100000 in
theorem zc25 : ztbl[97]? = some (.code (zY 25) (zB 25) (zL 25) (zR 25)) := rfl
set_option maxRecDepth 100000 in
theorem zc26 : ztbl[389]? = some (.code (zY 26) (zB 26) (zL 26) (zR 26)) := rfl
set_option maxRecDepth 100000 in
theorem zc27 : ztbl[367]? = some (.code (zY 27) (zB 27) (zL 27) (zR 27)) := rfl
set_option maxRecDepth 100000 in
theorem zc28 : ztbl[129]? = some (.code (zY 28) (zB 28) (zL 28) (zR 28)) := rfl
set_option maxRecDepth 100000 in
theorem zc29 : ztbl[404]? = some (.code (zY 29) (zB 29) (zL 29) (zR 29)) := rfl
set_option maxRecDepth 100000 in
theorem zc30 : ztbl[465]? = some (.code (zY 30) (zB 30) (zL 30) (zR 30)) := rfl
set_option maxRecDepth 100000 in
theorem zc31 : ztbl[374]? = some (.code (zY 31) (zB 31) (zL 31) (zR 31)) := rfl
set_option maxRecDepth 100000 in
theorem zc32 : ztbl[246]? = some (.code (zY 32) (zB 32) (zL 32) (zR 32)) := rfl
set_option maxRecDepth 100000 in
theorem zc33 : ztbl[447]? = some (.code (zY 33) (zB 33) (zL 33) (zR 33)) := rfl
set_option maxRecDepth 100000 in
theorem zc34 : ztbl[452]? = some (.code (zY 34) (zB 34) (zL 34) (zR 34)) := rfl
set_option maxRecDepth 100000 in
theorem zc35 : ztbl[456]? = some (.code (zY 35) (zB 35) (zL 35) (zR 35)) := rfl
set_option maxRecDepth 100000 in
theorem zc36 : ztbl[461]? = some (.code (zY 36) (zB 36) (zL 36) (zR 36)) := rfl
set_option maxRecDepth 100000 in
theorem zc37 : ztbl[91]? = some (.code (zY 37) (zB 37) (zL 37) (zR 37)) := rfl
set_option maxRecDepth 100000 in
theorem zc38 : ztbl[363]? = some (.code (zY 38) (zB 38) (zL 38) (zR 38)) := rfl
set_option maxRecDepth 100000 in
theorem zc39 : ztbl[83]? = some (.code (zY 39) (zB 39) (zL 39) (zR 39)) := rfl
set_option maxRecDepth 100000 in
theorem zc40 : ztbl[352]? = some (.code (zY 40) (zB 40) (zL 40) (zR 40)) := rfl
set_option maxRecDepth 100000 in
theorem zc41 : ztbl[393]? = some (.code (zY 41) (zB 41) (zL 41) (zR 41)) := rfl
set_option maxRecDepth 100000 in
theorem zc42 : ztbl[408]? = some (.code (zY 42) (zB 42) (zL 42) (zR 42)) := rfl
set_option maxRecDepth 100000 in
theorem zc43 : ztbl[416]? = some (.code (zY 43) (zB 43) (zL 43) (zR 43)) := rfl
set_option maxRecDepth 100000 in
theorem zc44 : ztbl[489]? = some (.code (zY 44) (zB 44) (zL 44) (zR 44)) := rfl
set_option maxRecDepth 100000 in
theorem zc45 : ztbl[501]? = some (.code (zY 45) (zB 45) (zL 45) (zR 45)) := rfl
set_option maxRecDepth 100000 in
theorem zc46 : ztbl[520]? = some (.code (zY 46) (zB 46) (zL 46) (zR 46)) := rfl
set_option maxRecDepth 100000 in
theorem zc47 : ztbl[553]? = some (.code (zY 47) (zB 47) (zL 47) (zR 47)) := rfl
set_option maxRecDepth 100000 in
theorem zc48 : ztbl[581]? = some (.code (zY 48) (zB 48) (zL 48) (zR 48)) := rfl
set_option maxRecDepth 100000 in
theorem zc49 : ztbl[585]? = some (.code (zY 49) (zB 49) (zL 49) (zR 49)) := rfl
set_option maxRecDepth 100000 in
theorem zc50 : ztbl[589]? = some (.code (zY 50) (zB 50) (zL 50) (zR 50)) := rfl
set_option maxRecDepth 100000 in
theorem zc51 : ztbl[597]? = some (.code (zY 51) (zB 51) (zL 51) (zR 51)) := rfl
set_option maxRecDepth 100000 in
theorem zc52 : ztbl[601]? = some (.code (zY 52) (zB 52) (zL 52) (zR 52)) := rfl
set_option maxRecDepth 100000 in
theorem zc53 : ztbl[420]? = some (.code (zY 53) (zB 53) (zL 53) (zR 53)) := rfl
set_option maxRecDepth 100000 in
theorem zc54 : ztbl[606]? = some (.code (zY 54) (zB 54) (zL 54) (zR 54)) := rfl
set_option maxRecDepth 100000 in
theorem zc55 : ztbl[610]? = some (.code (zY 55) (zB 55) (zL 55) (zR 55)) := rfl
set_option maxRecDepth 100000 in
theorem zc56 : ztbl[622]? = some (.code (zY 56) (zB 56) (zL 56) (zR 56)) := rfl
set_option maxRecDepth 100000 in
theorem zc57 : ztbl[627]? = some (.code (zY 57) (zB 57) (zL 57) (zR 57)) := rfl
set_option maxRecDepth 100000 in
theorem zc58 : ztbl[639]? = some (.code (zY 58) (zB 58) (zL 58) (zR 58)) := rfl
set_option maxRecDepth 100000 in
theorem zc59 : ztbl[643]? = some (.code (zY 59) (zB 59) (zL 59) (zR 59)) := rfl
set_option maxRecDepth 100000 in
theorem zc60 : ztbl[857]? = some (.code (zY 60) (zB 60) (zL 60) (zR 60)) := rfl
set_option maxRecDepth 100000 in
theorem zc61 : ztbl[865]? = some (.code (zY 61) (zB 61) (zL 61) (zR 61)) := rfl
set_option maxRecDepth 100000 in
theorem zc62 : ztbl[355]? = some (.code (zY 62) (zB 62) (zL 62) (zR 62)) := rfl
set_option maxRecDepth 100000 in
theorem zc63 : ztbl[423]? = some (.code (zY 63) (zB 63) (zL 63) (zR 63)) := rfl
set_option maxRecDepth 100000 in
theorem zc64 : ztbl[400]? = some (.code (zY 64) (zB 64) (zL 64) (zR 64)) := rfl
set_option maxRecDepth 100000 in
theorem zc65 : ztbl[397]? = some (.code (zY 65) (zB 65) (zL 65) (zR 65)) := rfl
set_option maxRecDepth 100000 in
theorem zc66 : ztbl[493]? = some (.code (zY 66) (zB 66) (zL 66) (zR 66)) := rfl
set_option maxRecDepth 100000 in
theorem zc67 : ztbl[427]? = some (.code (zY 67) (zB 67) (zL 67) (zR 67)) := rfl
set_option maxRecDepth 100000 in
theorem zc68 : ztbl[439]? = some (.code (zY 68) (zB 68) (zL 68) (zR 68)) := rfl
set_option maxRecDepth 100000 in
theorem zc69 : ztbl[443]? = some (.code (zY 69) (zB 69) (zL 69) (zR 69)) := rfl
set_option maxRecDepth 100000 in
theorem zc70 : ztbl[473]? = some (.code (zY 70) (zB 70) (zL 70) (zR 70)) := rfl
set_option maxRecDepth 100000 in
theorem zc71 : ztbl[505]? = some (.code (zY 71) (zB 71) (zL 71) (zR 71)) := rfl
set_option maxRecDepth 100000 in
theorem zc72 : ztbl[512]? = some (.code (zY 72) (zB 72) (zL 72) (zR 72)) := rfl
set_option maxRecDepth 100000 in
theorem zc73 : ztbl[516]? = some (.code (zY 73) (zB 73) (zL 73) (zR 73)) := rfl
set_option maxRecDepth 100000 in
theorem zc74 : ztbl[561]? = some (.code (zY 74) (zB 74) (zL 74) (zR 74)) := rfl
set_option maxRecDepth 100000 in
theorem zc75 : ztbl[565]? = some (.code (zY 75) (zB 75) (zL 75) (zR 75)) := rfl
set_option maxRecDepth 100000 in
theorem zc76 : ztbl[569]? = some (.code (zY 76) (zB 76) (zL 76) (zR 76)) := rfl
set_option maxRecDepth 100000 in
theorem zc77 : ztbl[573]? = some (.code (zY 77) (zB 77) (zL 77) (zR 77)) := rfl
set_option maxRecDepth 100000 in
theorem zc78 : ztbl[577]? = some (.code (zY 78) (zB 78) (zL 78) (zR 78)) := rfl
set_option maxRecDepth 100000 in
theorem zc79 : ztbl[557]? = some (.code (zY 79) (zB 79) (zL 79) (zR 79)) := rfl
set_option maxRecDepth 100000 in
theorem zc80 : ztbl[593]? = some (.code (zY 80) (zB 80) (zL 80) (zR 80)) := rfl
set_option maxRecDepth 100000 in
theorem zc81 : ztbl[631]? = some (.code (zY 81) (zB 81) (zL 81) (zR 81)) := rfl
set_option maxRecDepth 100000 in
theorem zc82 : ztbl[647]? = some (.code (zY 82) (zB 82) (zL 82) (zR 82)) := rfl
set_option maxRecDepth 100000 in
theorem zc83 : ztbl[794]? = some (.code (zY 83) (zB 83) (zL 83) (zR 83)) := rfl
set_option maxRecDepth 100000 in
theorem zc84 : ztbl[872]? = some (.code (zY 84) (zB 84) (zL 84) (zR 84)) := rfl
set_option maxRecDepth 100000 in
theorem zc85 : ztbl[917]? = some (.code (zY 85) (zB 85) (zL 85) (zR 85)) := rfl
set_option maxRecDepth 100000 in
theorem zc86 : ztbl[921]? = some (.code (zY 86) (zB 86) (zL 86) (zR 86)) := rfl
set_option maxRecDepth 100000 in
theorem zc87 : ztbl[929]? = some (.code (zY 87) (zB 87) (zL 87) (zR 87)) := rfl
set_option maxRecDepth 100000 in
theorem zc88 : ztbl[997]? = some (.code (zY 88) (zB 88) (zL 88) (zR 88)) := rfl
set_option maxRecDepth 100000 in
theorem zc89 : ztbl[977]? = some (.code (zY 89) (zB 89) (zL 89) (zR 89)) := rfl
set_option maxRecDepth 100000 in
theorem zc90 : ztbl[945]? = some (.code (zY 90) (zB 90) (zL 90) (zR 90)) := rfl
set_option maxRecDepth 100000 in
theorem zc91 : ztbl[953]? = some (.code (zY 91) (zB 91) (zL 91) (zR 91)) := rfl
set_option maxRecDepth 100000 in
theorem zc92 : ztbl[957]? = some (.code (zY 92) (zB 92) (zL 92) (zR 92)) := rfl
set_option maxRecDepth 100000 in
theorem zc93 : ztbl[914]? = some (.code (zY 93) (zB 93) (zL 93) (zR 93)) := rfl
set_option maxRecDepth 100000 in
theorem zc94 : ztbl[925]? = some (.code (zY 94) (zB 94) (zL 94) (zR 94)) := rfl
set_option maxRecDepth 100000 in
theorem zc95 : ztbl[933]? = some (.code (zY 95) (zB 95) (zL 95) (zR 95)) := rfl
set_option maxRecDepth 100000 in
theorem zc96 : ztbl[965]? = some (.code (zY 96) (zB 96) (zL 96) (zR 96)) := rfl
set_option maxRecDepth 100000 in
theorem zc97 : ztbl[961]? = some (.code (zY 97) (zB 97) (zL 97) (zR 97)) := rfl
set_option maxRecDepth 100000 in
theorem zc98 : ztbl[981]? = some (.code (zY 98) (zB 98) (zL 98) (zR 98)) := rfl
set_option maxRecDepth 100000 in
theorem zc99 : ztbl[973]? = some (.code (zY 99) (zB 99) (zL 99) (zR 99)) := rfl
set_option maxRecDepth 100000 in
theorem zc100 : ztbl[969]? = some (.code (zY 100) (zB 100) (zL 100) (zR 100)) := rfl
set_option maxRecDepth 100000 in
theorem zc101 : ztbl[985]? = some (.code (zY 101) (zB 101) (zL 101) (zR 101)) := rfl
set_option maxRecDepth 100000 in
theorem zc102 : ztbl[949]? = some (.code (zY 102) (zB 102) (zL 102) (zR 102)) := rfl
set_option maxRecDepth 100000 in
theorem zc103 : ztbl[941]? = some (.code (zY 103) (zB 103) (zL 103) (zR 103)) := rfl
set_option maxRecDepth 100000 in
theorem zc104 : ztbl[989]? = some (.code (zY 104) (zB 104) (zL 104) (zR 104)) := rfl
set_option maxRecDepth 100000 in
theorem zc105 : ztbl[1001]? = some (.code (zY 105) (zB 105) (zL 105) (zR 105)) := rfl
set_option maxRecDepth 100000 in
theorem zc106 : ztbl[937]? = some (.code (zY 106) (zB 106) (zL 106) (zR 106)) := rfl
set_option maxRecDepth 100000 in
theorem zc107 : ztbl[993]? = some (.code (zY 107) (zB 107) (zL 107) (zR 107)) := rfl
set_option maxRecDepth 100000 in
theorem zc108 : ztbl[1009]? = some (.code (zY 108) (zB 108) (zL 108) (zR 108)) := rfl
set_option maxRecDepth 100000 in
theorem zc109 : ztbl[1005]? = some (.code (zY 109) (zB 109) (zL 109) (zR 109)) := rfl
set_option maxRecDepth 100000 in
theorem zc110 : ztbl[1021]? = some (.code (zY 110) (zB 110) (zL 110) (zR 110)) := rfl
set_option maxRecDepth 100000 in
theorem zc111 : ztbl[1017]? = some (.code (zY 111) (zB 111) (zL 111) (zR 111)) := rfl
set_option maxRecDepth 100000 in
theorem zc112 : ztbl[1013]? = some (.code (zY 112) (zB 112) (zL 112) (zR 112)) := rfl
set_option maxRecDepth 100000 in
theorem zc113 : ztbl[1033]? = some (.code (zY 113) (zB 113) (zL 113) (zR 113)) := rfl
set_option maxRecDepth 100000 in
theorem zc114 : ztbl[1029]? = some (.code (zY 114) (zB 114) (zL 114) (zR 114)) := rfl
set_option maxRecDepth 100000 in
theorem zc115 : ztbl[1025]? = some (.code (zY 115) (zB 115) (zL 115) (zR 115)) := rfl
set_option maxRecDepth 100000 in
theorem zc116 : ztbl[1037]? = some (.code (zY 116) (zB 116) (zL 116) (zR 116)) := rfl
set_option maxRecDepth 100000 in
theorem zc117 : ztbl[1041]? = some (.code (zY 117) (zB 117) (zL 117) (zR 117)) := rfl
set_option maxRecDepth 100000 in
theorem zc118 : ztbl[1049]? = some (.code (zY 118) (zB 118) (zL 118) (zR 118)) := rfl
set_option maxRecDepth 100000 in
theorem zc119 : ztbl[1045]? = some (.code (zY 119) (zB 119) (zL 119) (zR 119)) := rfl
set_option maxRecDepth 100000 in
theorem zc120 : ztbl[1057]? = some (.code (zY 120) (zB 120) (zL 120) (zR 120)) := rfl
set_option maxRecDepth 100000 in
theorem zc121 : ztbl[1053]? = some (.code (zY 121) (zB 121) (zL 121) (zR 121)) := rfl
set_option maxRecDepth 100000 in
theorem zc122 : ztbl[1065]? = some (.code (zY 122) (zB 122) (zL 122) (zR 122)) := rfl
set_option maxRecDepth 100000 in
theorem zc123 : ztbl[1061]? = some (.code (zY 123) (zB 123) (zL 123) (zR 123)) := rfl
set_option maxRecDepth 100000 in
theorem zc124 : ztbl[1069]? = some (.code (zY 124) (zB 124) (zL 124) (zR 124)) := rfl
set_option maxRecDepth 100000 in
theorem zc125 : ztbl[1073]? = some (.code (zY 125) (zB 125) (zL 125) (zR 125)) := rfl
set_option maxRecDepth 100000 in
theorem zc126 : ztbl[1080]? = some (.code (zY 126) (zB 126) (zL 126) (zR 126)) := rfl
set_option maxRecDepth 100000 in
theorem zc127 : ztbl[1077]? = some (.code (zY 127) (zB 127) (zL 127) (zR 127)) := rfl
set_option maxRecDepth 100000 in
theorem zc128 : ztbl[1084]? = some (.code (zY 128) (zB 128) (zL 128) (zR 128)) := rfl
set_option maxRecDepth 100000 in
theorem zc129 : ztbl[1092]? = some (.code (zY 129) (zB 129) (zL 129) (zR 129)) := rfl
set_option maxRecDepth 100000 in
theorem zc130 : ztbl[1088]? = some (.code (zY 130) (zB 130) (zL 130) (zR 130)) := rfl
set_option maxRecDepth 100000 in
theorem zc131 : ztbl[1096]? = some (.code (zY 131) (zB 131) (zL 131) (zR 131)) := rfl
set_option maxRecDepth 100000 in
theorem zc132 : ztbl[1104]? = some (.code (zY 132) (zB 132) (zL 132) (zR 132)) := rfl
set_option maxRecDepth 100000 in
theorem zc133 : ztbl[1112]? = some (.code (zY 133) (zB 133) (zL 133) (zR 133)) := rfl
set_option maxRecDepth 100000 in
theorem zc134 : ztbl[1108]? = some (.code (zY 134) (zB 134) (zL 134) (zR 134)) := rfl
set_option maxRecDepth 100000 in
theorem zc135 : ztbl[1100]? = some (.code (zY 135) (zB 135) (zL 135) (zR 135)) := rfl
set_option maxRecDepth 100000 in
theorem zc136 : ztbl[1116]? = some (.code (zY 136) (zB 136) (zL 136) (zR 136)) := rfl
set_option maxRecDepth 100000 in
theorem zc137 : ztbl[1120]? = some (.code (zY 137) (zB 137) (zL 137) (zR 137)) := rfl
set_option maxRecDepth 100000 in
theorem zc139 : ztbl[305]? = some (.code (zY 139) (zB 139) (zL 139) (zR 139)) := rfl
set_option maxRecDepth 100000 in
theorem zc140 : ztbl[799]? = some (.code (zY 140) (zB 140) (zL 140) (zR 140)) := rfl
set_option maxRecDepth 100000 in
theorem zc141 : ztbl[753]? = some (.code (zY 141) (zB 141) (zL 141) (zR 141)) := rfl
set_option maxRecDepth 100000 in
theorem zc142 : ztbl[705]? = some (.code (zY 142) (zB 142) (zL 142) (zR 142)) := rfl
set_option maxRecDepth 100000 in
theorem zc143 : ztbl[845]? = some (.code (zY 143) (zB 143) (zL 143) (zR 143)) := rfl
set_option maxRecDepth 100000 in
theorem zc144 : ztbl[651]? = some (.code (zY 144) (zB 144) (zL 144) (zR 144)) := rfl
set_option maxRecDepth 100000 in
theorem zc145 : ztbl[838]? = some (.code (zY 145) (zB 145) (zL 145) (zR 145)) := rfl
set_option maxRecDepth 100000 in
theorem zc146 : ztbl[308]? = some (.code (zY 146) (zB 146) (zL 146) (zR 146)) := rfl
set_option maxRecDepth 100000 in
theorem zc147 : ztbl[841]? = some (.code (zY 147) (zB 147) (zL 147) (zR 147)) := rfl
set_option maxRecDepth 100000 in
theorem zc148 : ztbl[658]? = some (.code (zY 148) (zB 148) (zL 148) (zR 148)) := rfl
set_option maxRecDepth 100000 in
theorem zc149 : ztbl[662]? = some (.code (zY 149) (zB 149) (zL 149) (zR 149)) := rfl
set_option maxRecDepth 100000 in
theorem zc150 : ztbl[654]? = some (.code (zY 150) (zB 150) (zL 150) (zR 150)) := rfl
set_option maxRecDepth 100000 in
theorem zc151 : ztbl[848]? = some (.code (zY 151) (zB 151) (zL 151) (zR 151)) := rfl
set_option maxRecDepth 100000 in
theorem zc152 : ztbl[802]? = some (.code (zY 152) (zB 152) (zL 152) (zR 152)) := rfl
set_option maxRecDepth 100000 in
theorem zc153 : ztbl[756]? = some (.code (zY 153) (zB 153) (zL 153) (zR 153)) := rfl
set_option maxRecDepth 100000 in
theorem zc154 : ztbl[708]? = some (.code (zY 154) (zB 154) (zL 154) (zR 154)) := rfl
set_option maxRecDepth 100000 in
theorem zc155 : ztbl[688]? = some (.code (zY 155) (zB 155) (zL 155) (zR 155)) := rfl
set_option maxRecDepth 100000 in
theorem zc156 : ztbl[826]? = some (.code (zY 156) (zB 156) (zL 156) (zR 156)) := rfl
set_option maxRecDepth 100000 in
theorem zc157 : ztbl[822]? = some (.code (zY 157) (zB 157) (zL 157) (zR 157)) := rfl
set_option maxRecDepth 100000 in
theorem zc158 : ztbl[714]? = some (.code (zY 158) (zB 158) (zL 158) (zR 158)) := rfl
set_option maxRecDepth 100000 in
theorem zc159 : ztbl[711]? = some (.code (zY 159) (zB 159) (zL 159) (zR 159)) := rfl
set_option maxRecDepth 100000 in
theorem zc160 : ztbl[813]? = some (.code (zY 160) (zB 160) (zL 160) (zR 160)) := rfl
set_option maxRecDepth 100000 in
theorem zc161 : ztbl[831]? = some (.code (zY 161) (zB 161) (zL 161) (zR 161)) := rfl
set_option maxRecDepth 100000 in
theorem zc162 : ztbl[817]? = some (.code (zY 162) (zB 162) (zL 162) (zR 162)) := rfl
set_option maxRecDepth 100000 in
theorem zc163 : ztbl[787]? = some (.code (zY 163) (zB 163) (zL 163) (zR 163)) := rfl
set_option maxRecDepth 100000 in
theorem zc164 : ztbl[759]? = some (.code (zY 164) (zB 164) (zL 164) (zR 164)) := rfl
set_option maxRecDepth 100000 in
theorem zc165 : ztbl[674]? = some (.code (zY 165) (zB 165) (zL 165) (zR 165)) := rfl
set_option maxRecDepth 100000 in
theorem zc166 : ztbl[665]? = some (.code (zY 166) (zB 166) (zL 166) (zR 166)) := rfl
set_option maxRecDepth 100000 in
theorem zc167 : ztbl[790]? = some (.code (zY 167) (zB 167) (zL 167) (zR 167)) := rfl
theorem zcode_ok : ∀ M, M < 168 → M ≠ 138 → Cond.code (zY M) (zB M) (zL M) (zR M) ∈ zgw := fun M hM hl => match M, hM, hl with
  | 0, _, _ => zgw_mem zc0 rfl
  | 1, _, _ => zgw_mem zc1 rfl
  | 2, _, _ => zgw_mem zc2 rfl
  | 3, _, _ => zgw_mem zc3 rfl
  | 4, _, _ => zgw_mem zc4 rfl
  | 5, _, _ => zgw_mem zc5 rfl
  | 6, _, _ => zgw_mem zc6 rfl
  | 7, _, _ => zgw_mem zc7 rfl
  | 8, _, _ => zgw_mem zc8 rfl
  | 9, _, _ => zgw_mem zc9 rfl
  | 10, _, _ => zgw_mem zc10 rfl
  | 11, _, _ => zgw_mem zc11 rfl
  | 12, _, _ => zgw_mem zc12 rfl
  | 13, _, _ => zgw_mem zc13 rfl
  | 14, _, _ => zgw_mem zc14 rfl
  | 15, _, _ => zgw_mem zc15 rfl
  | 16, _, _ => zgw_mem zc16 rfl
  | 17, _, _ => zgw_mem zc17 rfl
  | 18, _, _ => zgw_mem zc18 rfl
  | 19, _, _ => zgw_mem zc19 rfl
  | 20, _, _ => zgw_mem zc20 rfl
  | 21, _, _ => zgw_mem zc21 rfl
  | 22, _, _ => zgw_mem zc22 rfl
  | 23, _, _ => zgw_mem zc23 rfl
  | 24, _, _ => zgw_mem zc24 rfl
  | 25, _, _ => zgw_mem zc25 rfl
  | 26, _, _ => zgw_mem zc26 rfl
  | 27, _, _ => zgw_mem zc27 rfl
  | 28, _, _ => zgw_mem zc28 rfl
  | 29, _, _ => zgw_mem zc29 rfl
  | 30, _, _ => zgw_mem zc30 rfl
  | 31, _, _ => zgw_mem zc31 rfl
  | 32, _, _ => zgw_mem zc32 rfl
  | 33, _, _ => zgw_mem zc33 rfl
  | 34, _, _ => zgw_mem zc34 rfl
  | 35, _, _ => zgw_mem zc35 rfl
  | 36, _, _ => zgw_mem zc36 rfl
  | 37, _, _ => zgw_mem zc37 rfl
  | 38, _, _ => zgw_mem zc38 rfl
  | 39, _, _ => zgw_mem zc39 rfl
  | 40, _, _ => zgw_mem zc40 rfl
  | 41, _, _ => zgw_mem zc41 rfl
  | 42, _, _ => zgw_mem zc42 rfl
  | 43, _, _ => zgw_mem zc43 rfl
  | 44, _, _ => zgw_mem zc44 rfl
  | 45, _, _ => zgw_mem zc45 rfl
  | 46, _, _ => zgw_mem zc46 rfl
  | 47, _, _ => zgw_mem zc47 rfl
  | 48, _, _ => zgw_mem zc48 rfl
  | 49, _, _ => zgw_mem zc49 rfl
  | 50, _, _ => zgw_mem zc50 rfl
  | 51, _, _ => zgw_mem zc51 rfl
  | 52, _, _ => zgw_mem zc52 rfl
  | 53, _, _ => zgw_mem zc53 rfl
  | 54, _, _ => zgw_mem zc54 rfl
  | 55, _, _ => zgw_mem zc55 rfl
  | 56, _, _ => zgw_mem zc56 rfl
  | 57, _, _ => zgw_mem zc57 rfl
  | 58, _, _ => zgw_mem zc58 rfl
  | 59, _, _ => zgw_mem zc59 rfl
  | 60, _, _ => zgw_mem zc60 rfl
  | 61, _, _ => zgw_mem zc61 rfl
  | 62, _, _ => zgw_mem zc62 rfl
  | 63, _, _ => zgw_mem zc63 rfl
  | 64, _, _ => zgw_mem zc64 rfl
  | 65, _, _ => zgw_mem zc65 rfl
  | 66, _, _ => zgw_mem zc66 rfl
  | 67, _, _ => zgw_mem zc67 rfl
  | 68, _, _ => zgw_mem zc68 rfl
  | 69, _, _ => zgw_mem zc69 rfl
  | 70, _, _ => zgw_mem zc70 rfl
  | 71, _, _ => zgw_mem zc71 rfl
  | 72, _, _ => zgw_mem zc72 rfl
  | 73, _, _ => zgw_mem zc73 rfl
  | 74, _, _ => zgw_mem zc74 rfl
  | 75, _, _ => zgw_mem zc75 rfl
  | 76, _, _ => zgw_mem zc76 rfl
  | 77, _, _ => zgw_mem zc77 rfl
  | 78, _, _ => zgw_mem zc78 rfl
  | 79, _, _ => zgw_mem zc79 rfl
  | 80, _, _ => zgw_mem zc80 rfl
  | 81, _, _ => zgw_mem zc81 rfl
  | 82, _, _ => zgw_mem zc82 rfl
  | 83, _, _ => zgw_mem zc83 rfl
  | 84, _, _ => zgw_mem zc84 rfl
  | 85, _, _ => zgw_mem zc85 rfl
  | 86, _, _ => zgw_mem zc86 rfl
  | 87, _, _ => zgw_mem zc87 rfl
  | 88, _, _ => zgw_mem zc88 rfl
  | 89, _, _ => zgw_mem zc89 rfl
  | 90, _, _ => zgw_mem zc90 rfl
  | 91, _, _ => zgw_mem zc91 rfl
  | 92, _, _ => zgw_mem zc92 rfl
  | 93, _, _ => zgw_mem zc93 rfl
  | 94, _, _ => zgw_mem zc94 rfl
  | 95, _, _ => zgw_mem zc95 rfl
  | 96, _, _ => zgw_mem zc96 rfl
  | 97, _, _ => zgw_mem zc97 rfl
  | 98, _, _ => zgw_mem zc98 rfl
  | 99, _, _ => zgw_mem zc99 rfl
  | 100, _, _ => zgw_mem zc100 rfl
  | 101, _, _ => zgw_mem zc101 rfl
  | 102, _, _ => zgw_mem zc102 rfl
  | 103, _, _ => zgw_mem zc103 rfl
  | 104, _, _ => zgw_mem zc104 rfl
  | 105, _, _ => zgw_mem zc105 rfl
  | 106, _, _ => zgw_mem zc106 rfl
  | 107, _, _ => zgw_mem zc107 rfl
  | 108, _, _ => zgw_mem zc108 rfl
  | 109, _, _ => zgw_mem zc109 rfl
  | 110, _, _ => zgw_mem zc110 rfl
  | 111, _, _ => zgw_mem zc111 rfl
  | 112, _, _ => zgw_mem zc112 rfl
  | 113, _, _ => zgw_mem zc113 rfl
  | 114, _, _ => zgw_mem zc114 rfl
  | 115, _, _ => zgw_mem zc115 rfl
  | 116, _, _ => zgw_mem zc116 rfl
  | 117, _, _ => zgw_mem zc117 rfl
  | 118, _, _ => zgw_mem zc118 rfl
  | 119, _, _ => zgw_mem zc119 rfl
  | 120, _, _ => zgw_mem zc120 rfl
  | 121, _, _ => zgw_mem zc121 rfl
  | 122, _, _ => zgw_mem zc122 rfl
  | 123, _, _ => zgw_mem zc123 rfl
  | 124, _, _ => zgw_mem zc124 rfl
  | 125, _, _ => zgw_mem zc125 rfl
  | 126, _, _ => zgw_mem zc126 rfl
  | 127, _, _ => zgw_mem zc127 rfl
  | 128, _, _ => zgw_mem zc128 rfl
  | 129, _, _ => zgw_mem zc129 rfl
  | 130, _, _ => zgw_mem zc130 rfl
  | 131, _, _ => zgw_mem zc131 rfl
  | 132, _, _ => zgw_mem zc132 rfl
  | 133, _, _ => zgw_mem zc133 rfl
  | 134, _, _ => zgw_mem zc134 rfl
  | 135, _, _ => zgw_mem zc135 rfl
  | 136, _, _ => zgw_mem zc136 rfl
  | 137, _, _ => zgw_mem zc137 rfl
  | 138, _, h => absurd rfl h
  | 139, _, _ => zgw_mem zc139 rfl
  | 140, _, _ => zgw_mem zc140 rfl
  | 141, _, _ => zgw_mem zc141 rfl
  | 142, _, _ => zgw_mem zc142 rfl
  | 143, _, _ => zgw_mem zc143 rfl
  | 144, _, _ => zgw_mem zc144 rfl
  | 145, _, _ => zgw_mem zc145 rfl
  | 146, _, _ => zgw_mem zc146 rfl
  | 147, _, _ => zgw_mem zc147 rfl
  | 148, _, _ => zgw_mem zc148 rfl
  | 149, _, _ => zgw_mem zc149 rfl
  | 150, _, _ => zgw_mem zc150 rfl
  | 151, _, _ => zgw_mem zc151 rfl
  | 152, _, _ => zgw_mem zc152 rfl
  | 153, _, _ => zgw_mem zc153 rfl
  | 154, _, _ => zgw_mem zc154 rfl
  | 155, _, _ => zgw_mem zc155 rfl
  | 156, _, _ => zgw_mem zc156 rfl
  | 157, _, _ => zgw_mem zc157 rfl
  | 158, _, _ => zgw_mem zc158 rfl
  | 159, _, _ => zgw_mem zc159 rfl
  | 160, _, _ => zgw_mem zc160 rfl
  | 161, _, _ => zgw_mem zc161 rfl
  | 162, _, _ => zgw_mem zc162 rfl
  | 163, _, _ => zgw_mem zc163 rfl
  | 164, _, _ => zgw_mem zc164 rfl
  | 165, _, _ => zgw_mem zc165 rfl
  | 166, _, _ => zgw_mem zc166 rfl
  | 167, _, _ => zgw_mem zc167 rfl
  | n + 168, h, _ => absurd h (by omega)
theorem zcls_all : (List.range 168).all (fun M => decide ((zY M).cls = zcn (zK M)) && decide (zL M ≤ 10) && Jvm.plainName (zY M).cls) = true := by decide +kernel
def zlay : List (List Nat) := [[323, 325, 327, 329], [164, 166, 168, 170], [284, 286, 288, 290, 292, 294, 296, 298], [235, 237, 239], [191, 193, 195, 197, 199], [113, 115, 117, 119, 121], [142, 144, 146, 148, 150], [256, 258, 260, 262, 264, 266], [213, 215, 217, 219], [338, 340, 342, 344, 346], [886, 888, 890, 892, 894, 896, 898, 900, 902, 904, 906, 908]]
set_option maxRecDepth 100000 in
theorem zin0 : ∀ w ∈ u_ws (RJ4) (TJ4) 4, w ∈ zgw := by
  have h : ∀ j, j < 4 → ztbl[([323, 325, 327, 329] : List Nat).getD j 0]? = some (u_lay (RJ4) (TJ4) j) ∧ goodWord (u_lay (RJ4) (TJ4) j) = true := by decide +kernel
  intro w hw
  obtain ⟨j, hj, rfl⟩ := List.mem_map.mp hw
  exact zgw_mem (h j (List.mem_range.mp hj)).1 (h j (List.mem_range.mp hj)).2
set_option maxRecDepth 100000 in
theorem zin1 : ∀ w ∈ u_ws (RX0) (TX0) 4, w ∈ zgw := by
  have h : ∀ j, j < 4 → ztbl[([164, 166, 168, 170] : List Nat).getD j 0]? = some (u_lay (RX0) (TX0) j) ∧ goodWord (u_lay (RX0) (TX0) j) = true := by decide +kernel
  intro w hw
  obtain ⟨j, hj, rfl⟩ := List.mem_map.mp hw
  exact zgw_mem (h j (List.mem_range.mp hj)).1 (h j (List.mem_range.mp hj)).2
set_option maxRecDepth 100000 in
theorem zin2 : ∀ w ∈ u_ws (RX1) (TX1) 8, w ∈ zgw := by
  have h : ∀ j, j < 8 → ztbl[([284, 286, 288, 290, 292, 294, 296, 298] : List Nat).getD j 0]? = some (u_lay (RX1) (TX1) j) ∧ goodWord (u_lay (RX1) (TX1) j) = true := by decide +kernel
  intro w hw
  obtain ⟨j, hj, rfl⟩ := List.mem_map.mp hw
  exact zgw_mem (h j (List.mem_range.mp hj)).1 (h j (List.mem_range.mp hj)).2
set_option maxRecDepth 100000 in
theorem zin3 : ∀ w ∈ u_ws (RX2) (TX2) 3, w ∈ zgw := by
  have h : ∀ j, j < 3 → ztbl[([235, 237, 239] : List Nat).getD j 0]? = some (u_lay (RX2) (TX2) j) ∧ goodWord (u_lay (RX2) (TX2) j) = true := by decide +kernel
  intro w hw
  obtain ⟨j, hj, rfl⟩ := List.mem_map.mp hw
  exact zgw_mem (h j (List.mem_range.mp hj)).1 (h j (List.mem_range.mp hj)).2
set_option maxRecDepth 100000 in
theorem zin4 : ∀ w ∈ u_ws (RX3) (TX3) 5, w ∈ zgw := by
  have h : ∀ j, j < 5 → ztbl[([191, 193, 195, 197, 199] : List Nat).getD j 0]? = some (u_lay (RX3) (TX3) j) ∧ goodWord (u_lay (RX3) (TX3) j) = true := by decide +kernel
  intro w hw
  obtain ⟨j, hj, rfl⟩ := List.mem_map.mp hw
  exact zgw_mem (h j (List.mem_range.mp hj)).1 (h j (List.mem_range.mp hj)).2
set_option maxRecDepth 100000 in
theorem zin5 : ∀ w ∈ u_ws (RX4) (TX4) 5, w ∈ zgw := by
  have h : ∀ j, j < 5 → ztbl[([113, 115, 117, 119, 121] : List Nat).getD j 0]? = some (u_lay (RX4) (TX4) j) ∧ goodWord (u_lay (RX4) (TX4) j) = true := by decide +kernel
  intro w hw
  obtain ⟨j, hj, rfl⟩ := List.mem_map.mp hw
  exact zgw_mem (h j (List.mem_range.mp hj)).1 (h j (List.mem_range.mp hj)).2
set_option maxRecDepth 100000 in
theorem zin6 : ∀ w ∈ u_ws (RX5) (TX5) 5, w ∈ zgw := by
  have h : ∀ j, j < 5 → ztbl[([142, 144, 146, 148, 150] : List Nat).getD j 0]? = some (u_lay (RX5) (TX5) j) ∧ goodWord (u_lay (RX5) (TX5) j) = true := by decide +kernel
  intro w hw
  obtain ⟨j, hj, rfl⟩ := List.mem_map.mp hw
  exact zgw_mem (h j (List.mem_range.mp hj)).1 (h j (List.mem_range.mp hj)).2
set_option maxRecDepth 100000 in
theorem zin7 : ∀ w ∈ u_ws (RX6) (TX6) 6, w ∈ zgw := by
  have h : ∀ j, j < 6 → ztbl[([256, 258, 260, 262, 264, 266] : List Nat).getD j 0]? = some (u_lay (RX6) (TX6) j) ∧ goodWord (u_lay (RX6) (TX6) j) = true := by decide +kernel
  intro w hw
  obtain ⟨j, hj, rfl⟩ := List.mem_map.mp hw
  exact zgw_mem (h j (List.mem_range.mp hj)).1 (h j (List.mem_range.mp hj)).2
set_option maxRecDepth 100000 in
theorem zin8 : ∀ w ∈ u_ws (RX7) (TX7) 4, w ∈ zgw := by
  have h : ∀ j, j < 4 → ztbl[([213, 215, 217, 219] : List Nat).getD j 0]? = some (u_lay (RX7) (TX7) j) ∧ goodWord (u_lay (RX7) (TX7) j) = true := by decide +kernel
  intro w hw
  obtain ⟨j, hj, rfl⟩ := List.mem_map.mp hw
  exact zgw_mem (h j (List.mem_range.mp hj)).1 (h j (List.mem_range.mp hj)).2
set_option maxRecDepth 100000 in
theorem zin9 : ∀ w ∈ u_ws (RX8) (TX8) 5, w ∈ zgw := by
  have h : ∀ j, j < 5 → ztbl[([338, 340, 342, 344, 346] : List Nat).getD j 0]? = some (u_lay (RX8) (TX8) j) ∧ goodWord (u_lay (RX8) (TX8) j) = true := by decide +kernel
  intro w hw
  obtain ⟨j, hj, rfl⟩ := List.mem_map.mp hw
  exact zgw_mem (h j (List.mem_range.mp hj)).1 (h j (List.mem_range.mp hj)).2
set_option maxRecDepth 100000 in
theorem zin10 : ∀ w ∈ u_ws (RX9) (TX9) 12, w ∈ zgw := by
  have h : ∀ j, j < 12 → ztbl[([886, 888, 890, 892, 894, 896, 898, 900, 902, 904, 906, 908] : List Nat).getD j 0]? = some (u_lay (RX9) (TX9) j) ∧ goodWord (u_lay (RX9) (TX9) j) = true := by decide +kernel
  intro w hw
  obtain ⟨j, hj, rfl⟩ := List.mem_map.mp hw
  exact zgw_mem (h j (List.mem_range.mp hj)).1 (h j (List.mem_range.mp hj)).2
end
section
/-! a small interpreter of the instructions over whole numbers: cells by number, their shapes, their contents -/
abbrev zV : Type := Int ⊕ (Int ⊕ Option Nat)
abbrev zSh : Type := Nat → Nat × (Int × (Int → Option Nat))
abbrev zC : Type := Nat → Int → Int
abbrev zMem : Type := (Nat × Nat) × (zSh × zC)
abbrev zLs : Type := List (Option zV)
abbrev zI (x : Int) : zV := Sum.inl x
abbrev zJ (x : Int) : zV := Sum.inr (Sum.inl x)
abbrev zA (r : Nat) : zV := Sum.inr (Sum.inr (some r))
def zwr (x : Int) : Int := (x + 2147483648) % 4294967296 - 2147483648
def zwl (x : Int) : Int := (x + 9223372036854775808) % 18446744073709551616 - 9223372036854775808
def zup (c : zC) (r : Nat) (k v : Int) : zC := fun r' k' => if r' = r ∧ k' = k then v else c r' k'
def zcpy (c : zC) (a : Nat) (sp : Int) (b : Nat) (dp n : Int) : zC := fun r k => if r = b ∧ dp ≤ k ∧ k < dp + n then c a (sp + (k - dp)) else c r k
def zsup (S : zSh) (r : Nat) (x : Nat × (Int × (Int → Option Nat))) : zSh := fun r' => if r' = r then x else S r'
def zrup (f : Int → Option Nat) (k : Int) (v : Option Nat) : Int → Option Nat := fun j => if j = k then v else f j
def zfr (c : zC) (r : Nat) : zC := fun r' k => if r' = r then 0 else c r' k
def zlg : Option (Option zV) → Bool
  | some (some (.inr (.inl _))) => true
  | _ => false
def zok1 (L : zLs) : Nat → Bool
  | 0 => true
  | i + 1 => !zlg L[i]?
def zcat : zV → Nat
  | .inr (.inl _) => 2
  | _ => 1
def zone (v : zV) : Bool := zcat v == 1
def zjmp (pc : Nat) (off : Int) : Option Nat := if 0 ≤ (pc : Int) + off then some ((pc : Int) + off).toNat else none
def zcb (cd : ClassFile.Cond) (x y : Int) : Bool := match cd with
  | .eq => decide (x = y)
  | .ne => decide (¬ x = y)
  | .lt => decide (x < y)
  | .ge => decide (y ≤ x)
  | .gt => decide (y < x)
  | .le => decide (x ≤ y)
def zCall (own idx : Nat) : Option (Nat × (Nat × Nat)) := (zcalls.find? (fun e => e.1.1 == own && e.1.2 == idx)).map (fun e => e.2.1)
def zFld (own idx : Nat) : Option (Nat × (Nat × (Bool × Nat))) := (zflds.find? (fun e => e.1.1 == own && e.1.2 == idx)).map (fun e => e.2.1)
def zNew (own idx : Nat) : Option Nat := (znews.find? (fun e => e.1.1 == own && e.1.2 == idx)).map (fun e => e.2.1)
def zldc (own idx : Nat) : Option zV := match own, idx with
  | 8, 271 => some (zA 1)
  | 8, 276 => some (zA 3)
  | 12, 39 => some (zI 2147483647)
  | 18, 200 => some (zI 2147483639)
  | 8, 202 => some (zJ 73)
  | 8, 204 => some (zJ 31)
  | 9, 149 => some (zJ 31)
  | 9, 151 => some (zJ 2263)
  | _, _ => none
def zstt (own idx : Nat) : Option zV := match own, idx with
  | 12, 18 => some (zI 1)
  | 15, 38 => some (zI 1)
  | 13, 83 => some (zA 5)
  | 13, 87 => some (zA 6)
  | 15, 1053 => some (.inr (.inr none))
  | _, _ => none
/-- the number of fields of a class of cells -/
def znf (ci : Nat) : Nat := [4, 4, 8, 3, 5, 5, 5, 6, 4, 5, 12].getD ci 0
/-- the shape of a receiver of a class -/
def zTag (k : Nat) : Nat := [1, 2, 3, 4, 5, 6, 7, 8, 9, 10, 99, 0, 99, 99, 99, 11].getD k 99
abbrev zst : Type := Nat × (zLs × (List zV × zMem))
def zgetl (L : zLs) (i : Nat) : Option zV := (L[i]?).join
/-- instructions that are no call and no return -/
def znext (d M pc : Nat) (L : zLs) (st : List zV) (μ : zMem) (op : Instr) (len : Nat) : Option zst :=
  match op, len with
  | .iconst i, 1 => if -1 ≤ i ∧ i ≤ 5 then some (pc + 1, L, zI i :: st, μ) else none
  | .bipush b, 2 => if -128 ≤ b ∧ b < 128 then some (pc + 2, L, zI b :: st, μ) else none
  | .sipush b, 3 => if -32768 ≤ b ∧ b < 32768 then some (pc + 3, L, zI b :: st, μ) else none
  | .ldc i, 2 => match zldc (zK M) i with
    | some (.inl x) => some (pc + 2, L, zI x :: st, μ)
    | _ => none
  | .ldc_w i, 3 => match zldc (zK M) i with
    | some (.inr (.inr (some r))) => some (pc + 3, L, zA r :: st, μ)
    | _ => none
  | .ldc2_w i, 3 => match zldc (zK M) i with
    | some (.inr (.inl x)) => some (pc + 3, L, zJ x :: st, μ)
    | _ => none
  | .iload i, 2 => match zgetl L i with
    | some (.inl x) => some (pc + 2, L, zI x :: st, μ)
    | _ => none
  | .iload_n i, 1 => match zgetl L i.val with
    | some (.inl x) => some (pc + 1, L, zI x :: st, μ)
    | _ => none
  | .aload i, 2 => match zgetl L i with
    | some (.inr (.inr (some r))) => some (pc + 2, L, zA r :: st, μ)
    | _ => none
  | .aload_n i, 1 => match zgetl L i.val with
    | some (.inr (.inr (some r))) => some (pc + 1, L, zA r :: st, μ)
    | _ => none
  | .lload_n i, 1 => match zgetl L i.val with
    | some (.inr (.inl x)) => some (pc + 1, L, zJ x :: st, μ)
    | _ => none
  | .istore i, 2 => match st with
    | .inl x :: r => if zok1 L i = true ∧ i < L.length then some (pc + 2, L.set i (some (zI x)), r, μ) else none
    | _ => none
  | .istore_n i, 1 => match st with
    | .inl x :: r => if zok1 L i.val = true ∧ i.val < L.length then some (pc + 1, L.set i.val (some (zI x)), r, μ) else none
    | _ => none
  | .astore_n i, 1 => match st with
    | .inr (.inr (some x)) :: r => if zok1 L i.val = true ∧ i.val < L.length then some (pc + 1, L.set i.val (some (zA x)), r, μ) else none
    | _ => none
  | .lstore_n i, 1 => match st with
    | .inr (.inl x) :: r => if zok1 L i.val = true ∧ i.val + 1 < L.length then some (pc + 1, (L.set i.val (some (zJ x))).set (i.val + 1) none, r, μ) else none
    | _ => none
  | .iinc i n, 3 => match zgetl L i with
    | some (.inl x) => if zok1 L i = true ∧ i < L.length then some (pc + 3, L.set i (some (zI (zwr (x + n)))), st, μ) else none
    | _ => none
  | .iinc i n, 6 => match zgetl L i with
    | some (.inl x) => if zok1 L i = true ∧ i < L.length then some (pc + 6, L.set i (some (zI (zwr (x + n)))), st, μ) else none
    | _ => none
  | .iadd, 1 => match st with
    | .inl y :: .inl x :: r => some (pc + 1, L, zI (zwr (x + y)) :: r, μ)
    | _ => none
  | .isub, 1 => match st with
    | .inl y :: .inl x :: r => some (pc + 1, L, zI (zwr (x - y)) :: r, μ)
    | _ => none
  | .imul, 1 => match st with
    | .inl y :: .inl x :: r => some (pc + 1, L, zI (zwr (x * y)) :: r, μ)
    | _ => none
  | .idiv, 1 => match st with
    | .inl y :: .inl x :: r => if y ≠ 0 then some (pc + 1, L, zI (zwr (x.tdiv y)) :: r, μ) else none
    | _ => none
  | .irem, 1 => match st with
    | .inl y :: .inl x :: r => if y ≠ 0 then some (pc + 1, L, zI (zwr (x - x.tdiv y * y)) :: r, μ) else none
    | _ => none
  | .ineg, 1 => match st with
    | .inl x :: r => some (pc + 1, L, zI (zwr (-x)) :: r, μ)
    | _ => none
  | .iand, 1 => match st with
    | .inl y :: .inl x :: r => if y = 31 then some (pc + 1, L, zI (x % 32) :: r, μ) else if y = 255 then some (pc + 1, L, zI (x % 256) :: r, μ) else none
    | _ => none
  | .ishl, 1 => match st with
    | .inl y :: .inl x :: r => if y = 0 then some (pc + 1, L, zI x :: r, μ) else none
    | _ => none
  | .ishr, 1 => match st with
    | .inl y :: .inl x :: r => if y = 0 then some (pc + 1, L, zI x :: r, μ) else none
    | _ => none
  | .i2l, 1 => match st with
    | .inl x :: r => some (pc + 1, L, zJ x :: r, μ)
    | _ => none
  | .i2b, 1 => match st with
    | .inl x :: r => some (pc + 1, L, zI ((x + 128) % 256 - 128) :: r, μ)
    | _ => none
  | .i2c, 1 => match st with
    | .inl x :: r => some (pc + 1, L, zI (x % 65536) :: r, μ)
    | _ => none
  | .ladd, 1 => match st with
    | .inr (.inl y) :: .inr (.inl x) :: r => some (pc + 1, L, zJ (zwl (x + y)) :: r, μ)
    | _ => none
  | .lmul, 1 => match st with
    | .inr (.inl y) :: .inr (.inl x) :: r => some (pc + 1, L, zJ (zwl (x * y)) :: r, μ)
    | _ => none
  | .lcmp, 1 => match st with
    | .inr (.inl y) :: .inr (.inl x) :: r => some (pc + 1, L, zI (if x = y then 0 else if x < y then -1 else 1) :: r, μ)
    | _ => none
  | .ifCond cd off, 3 => match st, zjmp pc off with
    | .inl x :: r, some t => some (if zcb cd x 0 = true then t else pc + 3, L, r, μ)
    | _, _ => none
  | .if_icmp cd off, 3 => match st, zjmp pc off with
    | .inl y :: .inl x :: r, some t => some (if zcb cd x y = true then t else pc + 3, L, r, μ)
    | _, _ => none
  | .ifnonnull off, 3 => match st, zjmp pc off with
    | .inr (.inr (some _)) :: r, some t => some (t, L, r, μ)
    | _, _ => none
  | .goto off, 3 => match zjmp pc off with
    | some t => some (t, L, st, μ)
    | none => none
  | .tableswitch dflt lo hi offs, _ => match st with
    | .inl x :: r => if x < lo ∨ hi < x then (match zjmp pc dflt with
        | some t => some (t, L, r, μ)
        | none => none) else (match offs[(x - lo).toNat]? with
        | some off => (match zjmp pc off with
          | some t => some (t, L, r, μ)
          | none => none)
        | none => none)
    | _ => none
  | .pop, 1 => match st with
    | v :: r => if zcat v = 1 then some (pc + 1, L, r, μ) else none
    | _ => none
  | .dup, 1 => match st with
    | v :: r => if zcat v = 1 then some (pc + 1, L, v :: v :: r, μ) else none
    | _ => none
  | .dup2, 1 => match st with
    | v :: u :: r => if zcat v = 1 ∧ zcat u = 1 then some (pc + 1, L, v :: u :: v :: u :: r, μ) else none
    | _ => none
  | .dup_x1, 1 => match st with
    | v :: u :: r => if zcat v = 1 ∧ zcat u = 1 then some (pc + 1, L, v :: u :: v :: r, μ) else none
    | _ => none
  | .getstatic i, 3 => match zstt (zK M) i with
    | some v => some (pc + 3, L, v :: st, μ)
    | none => none
  | .getfield i, 3 => match st with
    | .inr (.inr (some q)) :: r => match zFld (zK M) i with
      | some (ci, k, true, _) => if (μ.2.1 q).1 = ci then (match (μ.2.1 q).2.2 (k : Int) with
        | some v => some (pc + 3, L, zA v :: r, μ)
        | none => none) else none
      | some (ci, k, false, _) => if (μ.2.1 q).1 = ci then some (pc + 3, L, zI (μ.2.2 q (k : Int)) :: r, μ) else none
      | none => if zK M = 15 ∧ (μ.2.1 q).1 = 11 then (if i = 9 then (match (μ.2.1 q).2.2 0 with
        | some v => some (pc + 3, L, zA v :: r, μ)
        | none => none) else if i = 15 then some (pc + 3, L, zI 0 :: r, μ) else none) else none
    | _ => none
  | .putfield i, 3 => match st, zFld (zK M) i with
    | .inl x :: .inr (.inr (some q)) :: r, some (ci, k, false, fn) => if (μ.2.1 q).1 = ci ∧ fn = 0 ∧ (ci = 0 → (k = 1 ∨ k = 2) → (x = 0 ∨ x = 1)) then some (pc + 3, L, r, (μ.1, (μ.2.1, zup μ.2.2 q k x))) else none
    | .inr (.inr (some v)) :: .inr (.inr (some q)) :: r, some (ci, k, true, fn) => if (μ.2.1 q).1 = ci ∧ (fn = 0 ∨ (fn = 1 ∧ (zY M).name = "<init>")) then some (pc + 3, L, r, (μ.1, (zsup μ.2.1 q ((μ.2.1 q).1, ((μ.2.1 q).2.1, zrup (μ.2.1 q).2.2 k (some v))), μ.2.2))) else none
    | _, _ => none
  | .iaload, 1 => match st with
    | .inl i :: .inr (.inr (some q)) :: r => if ((μ.2.1 q).1 = 20 ∨ (μ.2.1 q).1 = 30) ∧ 0 ≤ i ∧ i < (μ.2.1 q).2.1 then some (pc + 1, L, zI (μ.2.2 q i) :: r, μ) else none
    | _ => none
  | .baload, 1 => match st with
    | .inl i :: .inr (.inr (some q)) :: r => if ((μ.2.1 q).1 = 21 ∨ (μ.2.1 q).1 = 31) ∧ 0 ≤ i ∧ i < (μ.2.1 q).2.1 then some (pc + 1, L, zI (μ.2.2 q i) :: r, μ) else none
    | _ => none
  | .aaload, 1 => match st with
    | .inl i :: .inr (.inr (some q)) :: r => if (μ.2.1 q).1 = 22 ∧ 0 ≤ i ∧ i < (μ.2.1 q).2.1 then (match (μ.2.1 q).2.2 i with
      | some v => some (pc + 1, L, zA v :: r, μ)
      | none => none) else none
    | _ => none
  | .arraylength, 1 => match st with
    | .inr (.inr (some q)) :: r => if (μ.2.1 q).1 = 20 ∨ (μ.2.1 q).1 = 21 ∨ (μ.2.1 q).1 = 30 ∨ (μ.2.1 q).1 = 31 then some (pc + 1, L, zI (μ.2.1 q).2.1 :: r, μ) else none
    | _ => none
  | .iastore, 1 => match st with
    | .inl x :: .inl i :: .inr (.inr (some q)) :: r => if (μ.2.1 q).1 = 20 ∧ 0 ≤ i ∧ i < (μ.2.1 q).2.1 then some (pc + 1, L, r, (μ.1, (μ.2.1, zup μ.2.2 q i x))) else none
    | _ => none
  | .bastore, 1 => match st with
    | .inl x :: .inl i :: .inr (.inr (some q)) :: r => if (μ.2.1 q).1 = 21 ∧ 0 ≤ i ∧ i < (μ.2.1 q).2.1 ∧ -128 ≤ x ∧ x < 128 then some (pc + 1, L, r, (μ.1, (μ.2.1, zup μ.2.2 q i x))) else none
    | _ => none
  | .aastore, 1 => match st with
    | .inr (.inr (some v)) :: .inl i :: .inr (.inr (some q)) :: r => if (μ.2.1 q).1 = 22 ∧ (μ.2.1 v).1 = 8 ∧ 0 ≤ i ∧ i < (μ.2.1 q).2.1 then some (pc + 1, L, r, (μ.1, (zsup μ.2.1 q ((μ.2.1 q).1, ((μ.2.1 q).2.1, zrup (μ.2.1 q).2.2 i (some v))), μ.2.2))) else none
    | _ => none
  | .new i, 3 => match zNew (zK M) i with
    | some ci => some (pc + 3, L, zA μ.1.1 :: st, ((μ.1.1 + 1, μ.1.2 + znf ci), (zsup μ.2.1 μ.1.1 (ci, (0, fun _ => none)), zfr μ.2.2 μ.1.1)))
    | none => none
  | .newarray .int, 2 => match st with
    | .inl x :: r => if 0 ≤ x ∧ x ≤ 65536 then some (pc + 2, L, zA μ.1.1 :: r, ((μ.1.1 + 1, μ.1.2 + x.toNat), (zsup μ.2.1 μ.1.1 (20, (x, fun _ => none)), zfr μ.2.2 μ.1.1))) else none
    | _ => none
  | .newarray .byte, 2 => match st with
    | .inl x :: r => if 0 ≤ x ∧ x ≤ 65536 then some (pc + 2, L, zA μ.1.1 :: r, ((μ.1.1 + 1, μ.1.2 + x.toNat), (zsup μ.2.1 μ.1.1 (21, (x, fun _ => none)), zfr μ.2.2 μ.1.1))) else none
    | _ => none
  | .anewarray i, 3 => match st with
    | .inl x :: r => if 0 ≤ x ∧ x ≤ 65536 ∧ zNew (zK M) i = some 8 then some (pc + 3, L, zA μ.1.1 :: r, ((μ.1.1 + 1, μ.1.2 + x.toNat), (zsup μ.2.1 μ.1.1 (22, (x, fun _ => none)), zfr μ.2.2 μ.1.1))) else none
    | _ => none
  | .invokespecial i, 3 => match st, zCall (zK M) i with
    | .inr (.inr (some _)) :: r, some (6, _, _) => if 1 ≤ d ∧ (r.map zcat).sum ≤ 8 then some (pc + 3, L, r, μ) else none
    | _, _ => none
  | .invokestatic i, 3 => match st, zCall (zK M) i with
    | .inl n :: .inl dp :: .inr (.inr (some b)) :: .inl sp :: .inr (.inr (some a)) :: r, some (7, _, _) =>
      if 1 ≤ d ∧ (r.map zcat).sum ≤ 8 ∧ ((μ.2.1 a).1 = 20 ∧ (μ.2.1 b).1 = 20 ∨ ((μ.2.1 a).1 = 21 ∨ (μ.2.1 a).1 = 31) ∧ (μ.2.1 b).1 = 21) ∧ 0 ≤ sp ∧ 0 ≤ dp ∧ 0 ≤ n ∧ sp + n ≤ (μ.2.1 a).2.1 ∧ dp + n ≤ (μ.2.1 b).2.1 then some (pc + 3, L, r, (μ.1, (μ.2.1, zcpy μ.2.2 a sp b dp n))) else none
    | .inl y :: .inl x :: r, some (8, _, _) => if 1 ≤ d ∧ (r.map zcat).sum ≤ 8 then some (pc + 3, L, zI (if y < x then y else x) :: r, μ) else none
    | .inl y :: .inl x :: r, some (9, _, _) => if 1 ≤ d ∧ (r.map zcat).sum ≤ 8 then some (pc + 3, L, zI (if x < y then y else x) :: r, μ) else none
    | _, _ => none
  | _, _ => none
/-- a call: the method, its arguments, what stays on the stack -/
def zinv (M : Nat) (st : List zV) (μ : zMem) (op : Instr) (len : Nat) : Option (Nat × (List zV × List zV)) :=
  match op, len with
  | .invokestatic i, 3 => match zCall (zK M) i with
    | some (0, M', n) => if n ≤ st.length ∧ (st.take n).all zone = true ∧ ((st.drop n).map zcat).sum ≤ 8 then some (M', (st.take n).reverse, st.drop n) else none
    | _ => none
  | .invokevirtual i, 3 => match zCall (zK M) i with
    | some (kd, M', n) => if n < st.length ∧ (st.take n).all zone = true ∧ ((st.drop (n + 1)).map zcat).sum ≤ 8 then (match st.drop n with
        | .inr (.inr (some q)) :: r => if kd = 1 ∧ (μ.2.1 q).1 = zTag (zK M') ∨ kd = 2 ∧ (μ.2.1 q).1 = 0 then some (M', zA q :: (st.take n).reverse, r) else none
        | _ => none) else none
    | _ => none
  | .invokespecial i, 3 => match zCall (zK M) i with
    | some (kd, M', n) => if n < st.length ∧ (st.take n).all zone = true ∧ ((st.drop (n + 1)).map zcat).sum ≤ 8 then (match st.drop n with
        | .inr (.inr (some q)) :: r => if kd = 3 ∨ kd = 4 ∨ kd = 5 ∧ (μ.2.1 q).1 = 0 then some (M', zA q :: (st.take n).reverse, r) else none
        | _ => none) else none
    | _ => none
  | _, _ => none
def zent (M : Nat) (as : List zV) : zLs := as.map some ++ List.replicate (zL M - as.length) none
def zret (M : Nat) (st : List zV) (op : Instr) (len : Nat) : Option (Option zV) :=
  match op, len with
  | .ireturn, 1 => match st with
    | [.inl x] => match zR M with
      | some .int => some (some (zI x))
      | some .boolean => if x = 0 ∨ x = 1 then some (some (zI x)) else none
      | some .byte => if x = 0 then some (some (zI x)) else none
      | some .char => if 0 ≤ x ∧ x < 65536 then some (some (zI x)) else none
      | _ => none
    | _ => none
  | .lreturn, 1 => match st with
    | [.inr (.inl x)] => if zR M = some .long then some (some (zJ x)) else none
    | _ => none
  | .areturn, 1 => match st with
    | [.inr (.inr (some q))] => match zR M with
      | some (.object _) => some (some (zA q))
      | some (.array _) => some (some (zA q))
      | _ => none
    | _ => none
  | .return_, 1 => if st = [] ∧ zR M = none then some none else none
  | _, _ => none
def zgo : Nat → Nat → Nat → Nat → zLs → List zV → zMem → Option (Option zV × zMem)
  | 0, _, _, _, _, _, _ => none
  | f + 1, d, M, pc, L, st, μ => match decode (zB M) pc with
    | .ok (op, len) => match znext d M pc L st μ op len with
      | some (pc', L', st', μ') => zgo f d M pc' L' st' μ'
      | none => match zinv M st μ op len with
        | some (M', as, r) => match d with
          | 0 => none
          | d' + 1 => match zgo f d' M' 0 (zent M' as) [] μ with
            | some (v, μ') => zgo f (d' + 1) M (pc + 3) L (v.toList ++ r) μ'
            | none => none
        | none => match zret M st op len with
          | some v => some (v, μ)
          | none => none
    | .error _ => none
end
section
/-! what the machine holds when the interpreter stands at a state -/
def zad (lo : Nat) (roa : Nat → Nat) (r : Nat) : Nat := if r < 8 then roa r else lo + (r - 8)
def ztv (lo : Nat) (roa : Nat → Nat) (sio : Value) (v : zV) : Value := match v with
  | .inl x => .int (Int32.ofInt x)
  | .inr (.inl x) => .long (Int64.ofInt x)
  | .inr (.inr none) => sio
  | .inr (.inr (some r)) => .ref (zad lo roa r)
def zInR (x : Int) : Prop := -2147483648 ≤ x ∧ x < 2147483648
def zwf (v : zV) : Prop := match v with
  | .inl x => zInR x
  | .inr (.inl x) => -9223372036854775808 ≤ x ∧ x < 9223372036854775808
  | _ => True
def zfv (lo : Nat) (roa : Nat → Nat) (μ : zMem) (r k : Nat) : Value := if zrf (μ.2.1 r).1 k = true then va_rf (((μ.2.1 r).2.2 (k : Int)).map (zad lo roa)) else .int (Int32.ofInt (μ.2.2 r (k : Int)))
def zcell (lo : Nat) (roa : Nat → Nat) (D : va_G) (μ : zMem) (r : Nat) (U : State) (H : Heap) : Prop :=
  ((μ.2.1 r).1 < 11 → t_OB (lo + (r - 8)) (D.1 (μ.2.1 r).1) (znf (μ.2.1 r).1) (D.2 (μ.2.1 r).1) H (zfv lo roa μ r)) ∧
  ((μ.2.1 r).1 = 20 → ∃ (cA : ClassId) (N : Nat), (μ.2.1 r).2.1 = (N : Int) ∧ N < 2147483648 ∧ H[lo + (r - 8)]? = some (arrV cA N (fun j => .int (Int32.ofInt (μ.2.2 r (j : Int))))) ∧ ArrOfT U cA .int) ∧
  ((μ.2.1 r).1 = 21 → ∃ (cA : ClassId) (N : Nat), (μ.2.1 r).2.1 = (N : Int) ∧ N < 2147483648 ∧ H[lo + (r - 8)]? = some (arrV cA N (fun j => .int (Int32.ofInt (μ.2.2 r (j : Int))))) ∧ ArrOfT U cA .byte ∧ ∀ j : Nat, j < N → -128 ≤ μ.2.2 r (j : Int) ∧ μ.2.2 r (j : Int) < 128) ∧
  ((μ.2.1 r).1 = 22 → ∃ (cA : ClassId) (N : Nat), (μ.2.1 r).2.1 = (N : Int) ∧ N < 2147483648 ∧ H[lo + (r - 8)]? = some (arrV cA N (fun j => va_rf (((μ.2.1 r).2.2 (j : Int)).map (zad lo roa)))) ∧ ArrOfT U cA (.object RX7) ∧ va_RA U cA (.object RX7)) ∧
  (μ.2.1 r).1 ≠ 11 ∧ (μ.2.1 r).1 ≠ 30 ∧ (μ.2.1 r).1 ≠ 31
def zdyn (lo : Nat) (roa : Nat → Nat) (D : va_G) (rS : zSh) (rC : zC) (μ : zMem) (U : State) (H : Heap) : Prop :=
  H.size + 8 = lo + μ.1.1 ∧ 8 ≤ μ.1.1 ∧ (∀ r, 8 ≤ r → r < μ.1.1 → zcell lo roa D μ r U H) ∧ (∀ r, μ.1.1 ≤ r → (μ.2.1 r).1 = 99) ∧ (∀ r k, zInR (μ.2.2 r k)) ∧ ∀ r, r < 8 → μ.2.1 r = rS r ∧ μ.2.2 r = rC r
def zstr (lo : Nat) (roa : Nat → Nat) (rS : zSh) (rC : zC) (r : Nat) (U : State) (H : Heap) : Prop :=
  ((rS r).1 = 30 ∨ (rS r).1 = 31 ∨ (rS r).1 = 11 ∨ (rS r).1 = 98) ∧
  ((rS r).1 = 30 → ∃ N : Nat, (rS r).2.1 = (N : Int) ∧ N < 2147483648 ∧ va_T .int (roa r) N (fun j => .int (Int32.ofInt (rC r (j : Int)))) (fun q => lo ≤ q) U H) ∧
  ((rS r).1 = 31 → ∃ N : Nat, (rS r).2.1 = (N : Int) ∧ N < 2147483648 ∧ va_T .byte (roa r) N (fun j => .int (Int32.ofInt (rC r (j : Int)))) (fun q => lo ≤ q) U H ∧ ∀ j : Nat, j < N → -128 ≤ rC r (j : Int) ∧ rC r (j : Int) < 128) ∧
  ((rS r).1 = 11 → va_O "java/lang/String" (roa r) (fun q => lo ≤ q) U H ∧ va_OF "java/lang/String" "coder" "B" (.int 0) (roa r) (fun q => lo ≤ q) U H ∧ ∀ q, (rS r).2.2 0 = some q → va_OF "java/lang/String" "value" "[B" (.ref (zad lo roa q)) (roa r) (fun q => lo ≤ q) U H)
def zsta (lo : Nat) (roa : Nat → Nat) (sio : Value) (rS : zSh) (rC : zC) (U : State) (H : Heap) : Prop :=
  (∀ r, r < 8 → zstr lo roa rS rC r U H) ∧
  va_Z "java/lang/String" "COMPACT_STRINGS" "Z" (.int 1) (fun q => lo ≤ q) U H ∧ va_Z "java/lang/Integer" "DigitOnes" "[B" (.ref (roa 5)) (fun q => lo ≤ q) U H ∧ va_Z "java/lang/Integer" "DigitTens" "[B" (.ref (roa 6)) (fun q => lo ≤ q) U H ∧
  va_Z "jdk/internal/util/Preconditions" "SIOOBE_FORMATTER" "Ljava/util/function/BiFunction;" sio (fun q => lo ≤ q) U H
def zstw (roa : Nat → Nat) (U : State) : Prop :=
  vk_R RX8 271 " +" (roa 1) U ∧ vk_R RX8 276 " P" (roa 3) U ∧ (∀ (own : String) (idx : Nat) (y : MethodName), Cond.methodLinkNest own idx y "RadioWeek" ∈ ztbl → va_Nw (.methodLinkNest own idx y "RadioWeek") U) ∧ va_AO RX7 U
def zstat (lo : Nat) (roa : Nat → Nat) (sio : Value) (D : va_G) (rS : zSh) (rC : zC) (U : State) (H : Heap) : Prop :=
  va_K D vwClz [] U ∧ sio.category = 1 ∧ zsta lo roa sio rS rC U H ∧ zstw roa U
theorem zcell.moved {lo : Nat} {roa : Nat → Nat} {D : va_G} {μ : zMem} {r : Nat} {u U : State} {H : Heap} (hvm : u.vm.Alike U.vm) (h : zcell lo roa D μ r u H) : zcell lo roa D μ r U H := by
  obtain ⟨h1, h2, h3, h4, h5⟩ := h
  refine ⟨h1, fun e => ?_, fun e => ?_, fun e => ?_, h5⟩
  · obtain ⟨cA, N, a, b, c, d⟩ := h2 e
    exact ⟨cA, N, a, b, c, arrOfT_moved hvm d⟩
  · obtain ⟨cA, N, a, b, c, d, g⟩ := h3 e
    exact ⟨cA, N, a, b, c, arrOfT_moved hvm d, g⟩
  · obtain ⟨cA, N, a, b, c, d, g⟩ := h4 e
    exact ⟨cA, N, a, b, c, arrOfT_moved hvm d, g.moved hvm⟩
theorem zdyn.moved {lo : Nat} {roa : Nat → Nat} {D : va_G} {rS : zSh} {rC : zC} {μ : zMem} {u U : State} {H : Heap} (hvm : u.vm.Alike U.vm) (h : zdyn lo roa D rS rC μ u H) : zdyn lo roa D rS rC μ U H :=
  ⟨h.1, h.2.1, fun r h1 h2 => (h.2.2.1 r h1 h2).moved hvm, h.2.2.2⟩
theorem zcell.kept {lo : Nat} {roa : Nat → Nat} {D : va_G} {μ : zMem} {r : Nat} {U : State} {H H1 : Heap} (h : zcell lo roa D μ r U H) (hq : H1[lo + (r - 8)]? = H[lo + (r - 8)]?) : zcell lo roa D μ r U H1 := by
  obtain ⟨h1, h2, h3, h4, h5⟩ := h
  exact ⟨fun e => (h1 e).kept hq, fun e => by rw [hq]; exact h2 e, fun e => by rw [hq]; exact h3 e, fun e => by rw [hq]; exact h4 e, h5⟩
theorem zstr.moved {lo : Nat} {roa : Nat → Nat} {rS : zSh} {rC : zC} {r : Nat} {u U : State} {H : Heap} (hvm : u.vm.Alike U.vm) (h : zstr lo roa rS rC r u H) : zstr lo roa rS rC r U H := by
  obtain ⟨h0, h1, h2, h3⟩ := h
  refine ⟨h0, fun e => ?_, fun e => ?_, fun e => ?_⟩
  · obtain ⟨N, a, b, c⟩ := h1 e
    exact ⟨N, a, b, c.moved hvm⟩
  · obtain ⟨N, a, b, c, d⟩ := h2 e
    exact ⟨N, a, b, c.moved hvm, d⟩
  · obtain ⟨a, b, c⟩ := h3 e
    exact ⟨a.moved hvm, b.moved hvm, fun q hq => (c q hq).moved hvm⟩
theorem zstr.kept {lo : Nat} {roa : Nat → Nat} {rS : zSh} {rC : zC} {r : Nat} {U : State} {H H1 : Heap} (h : zstr lo roa rS rC r U H) (hq : ∀ a : Nat, a < H.size → ¬ lo ≤ a → H1[a]? = H[a]?) : zstr lo roa rS rC r U H1 := by
  obtain ⟨h0, h1, h2, h3⟩ := h
  refine ⟨h0, fun e => ?_, fun e => ?_, fun e => ?_⟩
  · obtain ⟨N, a, b, c⟩ := h1 e
    exact ⟨N, a, b, c.kept hq⟩
  · obtain ⟨N, a, b, c, d⟩ := h2 e
    exact ⟨N, a, b, c.kept hq, d⟩
  · obtain ⟨a, b, c⟩ := h3 e
    exact ⟨a.kept hq, b.kept hq, fun q hq2 => (c q hq2).kept hq⟩
theorem zsta.moved {lo : Nat} {roa : Nat → Nat} {sio : Value} {rS : zSh} {rC : zC} {u U : State} {H : Heap} (hvm : u.vm.Alike U.vm) (h : zsta lo roa sio rS rC u H) : zsta lo roa sio rS rC U H :=
  ⟨fun r hr => (h.1 r hr).moved hvm, h.2.1.moved hvm, h.2.2.1.moved hvm, h.2.2.2.1.moved hvm, h.2.2.2.2.moved hvm⟩
theorem zsta.kept {lo : Nat} {roa : Nat → Nat} {sio : Value} {rS : zSh} {rC : zC} {U : State} {H H1 : Heap} (h : zsta lo roa sio rS rC U H) (hq : ∀ a : Nat, a < H.size → ¬ lo ≤ a → H1[a]? = H[a]?) : zsta lo roa sio rS rC U H1 :=
  ⟨fun r hr => (h.1 r hr).kept hq, h.2.1.kept hq, h.2.2.1.kept hq, h.2.2.2.1.kept hq, h.2.2.2.2.kept hq⟩
theorem zstw.warm {roa : Nat → Nat} {s U : State} (hW : s.WarmedH U.vm) (h : zstw roa s) : zstw roa U :=
  ⟨vk_R.warm hW h.1, vk_R.warm hW h.2.1, fun own idx y hm => va_Nw.warmM hW (h.2.2.1 own idx y hm), va_AO.moved hW.alike h.2.2.2⟩
theorem zstw.same {roa : Nat → Nat} {u U : State} (hv : U.vm = u.vm) (h : zstw roa u) : zstw roa U :=
  ⟨vk_R.same hv h.1, vk_R.same hv h.2.1, fun own idx y hm => va_Nw.same rfl hv.symm (h.2.2.1 own idx y hm), va_AO.moved (by rw [hv]; exact Vm.Alike.refl _) h.2.2.2⟩
theorem zstat.warm {lo : Nat} {roa : Nat → Nat} {sio : Value} {D : va_G} {rS : zSh} {rC : zC} {s U : State} {H : Heap} (hW : s.WarmedH U.vm) (h : zstat lo roa sio D rS rC s H) : zstat lo roa sio D rS rC U H :=
  ⟨va_K.moved hW.alike h.1, h.2.1, h.2.2.1.moved hW.alike, h.2.2.2.warm hW⟩
theorem zstat.same {lo : Nat} {roa : Nat → Nat} {sio : Value} {D : va_G} {rS : zSh} {rC : zC} {u U : State} {H : Heap} (hv : U.vm = u.vm) (h : zstat lo roa sio D rS rC u H) : zstat lo roa sio D rS rC U H :=
  ⟨va_K.moved (by rw [hv]; exact Vm.Alike.refl _) h.1, h.2.1, h.2.2.1.moved (by rw [hv]; exact Vm.Alike.refl _), h.2.2.2.same hv⟩
theorem zstat.kept {lo : Nat} {roa : Nat → Nat} {sio : Value} {D : va_G} {rS : zSh} {rC : zC} {U : State} {H H1 : Heap} (h : zstat lo roa sio D rS rC U H) (hq : ∀ a : Nat, a < H.size → ¬ lo ≤ a → H1[a]? = H[a]?) : zstat lo roa sio D rS rC U H1 :=
  ⟨h.1, h.2.1, h.2.2.1.kept hq, h.2.2.2⟩
/-- the locals that are known -/
def zlv (tv : zV → Value) : Nat → zLs → List (Nat × Value)
  | _, [] => []
  | i, none :: L => zlv tv (i + 1) L
  | i, some v :: L => (i, tv v) :: zlv tv (i + 1) L
theorem zlv_mem {tv : zV → Value} : ∀ (L : zLs) (i j : Nat) (x : Value), (j, x) ∈ zlv tv i L ↔ ∃ (k : Nat) (v : zV), j = i + k ∧ L[k]? = some (some v) ∧ x = tv v
  | [], i, j, x => by simp [zlv]
  | none :: L, i, j, x => by
    rw [zlv, zlv_mem L (i + 1) j x]
    constructor
    · rintro ⟨k, v, rfl, h, rfl⟩
      exact ⟨k + 1, v, by omega, by simpa using h, rfl⟩
    · rintro ⟨k, v, rfl, h, rfl⟩
      cases k with
      | zero => simp at h
      | succ k => exact ⟨k, v, by omega, by simpa using h, rfl⟩
  | some w :: L, i, j, x => by
    rw [zlv, List.mem_cons, zlv_mem L (i + 1) j x]
    constructor
    · rintro (h | ⟨k, v, rfl, h, rfl⟩)
      · cases h
        exact ⟨0, w, rfl, rfl, rfl⟩
      · exact ⟨k + 1, v, by omega, by simpa using h, rfl⟩
    · rintro ⟨k, v, rfl, h, rfl⟩
      cases k with
      | zero => left; simp at h; rw [h]; rfl
      | succ k => right; exact ⟨k, v, by omega, by simpa using h, rfl⟩
theorem zlv_get {tv : zV → Value} {L : zLs} {ls : Array Slot} {nL i : Nat} {v : zV} (h : lv_has ls nL (zlv tv 0 L)) (hi : zgetl L i = some v) : ls[i]? = some (.val (tv v)) := by
  have h1 : L[i]? = some (some v) := by
    unfold zgetl at hi
    cases h2 : L[i]? with
    | none => rw [h2] at hi; cases hi
    | some w => rw [h2] at hi; simp at hi; rw [hi]
  exact h.2.2 (i, tv v) ((zlv_mem L 0 i (tv v)).mpr ⟨i, v, by omega, h1, rfl⟩)
theorem zlv_less {ls : Array Slot} {nL : Nat} {l l' : List (Nat × Value)} (h : lv_has ls nL l) (hs : ∀ q ∈ l', q ∈ l) : lv_has ls nL l' := ⟨h.1, h.2.1, fun q hq => h.2.2 q (hs q hq)⟩
theorem ztv_cat {lo : Nat} {roa : Nat → Nat} {sio : Value} (hs : sio.category = 1) (v : zV) : (ztv lo roa sio v).category = zcat v := by
  rcases v with x | x | _ | r <;> first | rfl | exact hs
theorem zlv_set {lo : Nat} {roa : Nat → Nat} {sio : Value} (hs : sio.category = 1) {L : zLs} {i : Nat} {v : zV} (hok : zok1 L i = true) : ∀ q ∈ zlv (ztv lo roa sio) 0 (L.set i (some v)), q ∈ (i, ztv lo roa sio v) :: (zlv (ztv lo roa sio) 0 L).filter (fun q => !(q.1 == i) && !(q.1 + 1 == i && q.2.category == 2)) := by
  rintro ⟨j, x⟩ hq
  obtain ⟨k, w, rfl, hk, rfl⟩ := (zlv_mem _ 0 j x).mp hq
  rw [Nat.zero_add]
  by_cases hki : k = i
  · subst hki
    have hlt : k < L.length := by
      have := (List.getElem?_eq_some_iff.mp hk).1
      simpa using this
    rw [List.getElem?_set_self hlt] at hk
    cases hk
    exact List.mem_cons_self
  · rw [List.getElem?_set_ne (fun h => hki h.symm)] at hk
    refine List.mem_cons_of_mem _ (List.mem_filter.mpr ⟨(zlv_mem _ 0 k _).mpr ⟨k, w, by omega, hk, rfl⟩, ?_⟩)
    have h1 : (k == i) = false := by simpa using hki
    simp only [h1, Bool.not_false, Bool.true_and, Bool.not_eq_true', Bool.and_eq_false_iff]
    by_cases h2 : k + 1 = i
    · right
      subst h2
      simp only [zok1, hk, zlg] at hok
      rw [ztv_cat hs]
      rcases w with x | x | _ | r
      · rfl
      · simp at hok
      · rfl
      · rfl
    · left
      simpa using h2
theorem zlv_set2 {lo : Nat} {roa : Nat → Nat} {sio : Value} (hs : sio.category = 1) {L : zLs} {i : Nat} {v : zV} (hok : zok1 L i = true) : ∀ q ∈ zlv (ztv lo roa sio) 0 ((L.set i (some v)).set (i + 1) none), q ∈ (i, ztv lo roa sio v) :: (zlv (ztv lo roa sio) 0 L).filter (fun q => !(q.1 == i) && (!(q.1 == i + 1) && !(q.1 + 1 == i && q.2.category == 2))) := by
  rintro ⟨j, x⟩ hq
  obtain ⟨k, w, rfl, hk, rfl⟩ := (zlv_mem _ 0 j x).mp hq
  have hk1 : k ≠ i + 1 := by
    rintro rfl
    have hlt : i + 1 < (L.set i (some v)).length := by
      have := (List.getElem?_eq_some_iff.mp hk).1
      simpa using this
    rw [List.getElem?_set_self hlt] at hk
    cases hk
  rw [List.getElem?_set_ne (fun h => hk1 h.symm)] at hk
  have h1 := zlv_set (lo := lo) (roa := roa) hs (v := v) hok (k, ztv lo roa sio w) ((zlv_mem _ 0 k _).mpr ⟨k, w, by omega, hk, rfl⟩)
  rw [Nat.zero_add]
  rcases List.mem_cons.mp h1 with h2 | h2
  · rw [h2]
    exact List.mem_cons_self
  · obtain ⟨h3, h4⟩ := List.mem_filter.mp h2
    refine List.mem_cons_of_mem _ (List.mem_filter.mpr ⟨h3, ?_⟩)
    simp only [Bool.and_eq_true] at h4 ⊢
    exact ⟨h4.1, by simpa using hk1, h4.2⟩
end
section
/-! whole numbers and the machine's -/
theorem zbm (x : Int) : x.bmod 4294967296 = zwr x := by
  unfold zwr Int.bmod
  dsimp only
  split <;> omega
theorem zbl (x : Int) : x.bmod 18446744073709551616 = zwl x := by
  unfold zwl Int.bmod
  dsimp only
  split <;> omega
theorem zti (x : Int) : (Int32.ofInt x).toInt = zwr x := by rw [Int32.toInt_ofInt]; exact zbm x
theorem ztl (x : Int) : (Int64.ofInt x).toInt = zwl x := by rw [Int64.toInt_ofInt]; exact zbl x
theorem zwr_id {x : Int} (h : zInR x) : zwr x = x := by unfold zInR at h; unfold zwr; omega
theorem zwr_in (x : Int) : zInR (zwr x) := by unfold zInR zwr; omega
theorem zwl_in (x : Int) : -9223372036854775808 ≤ zwl x ∧ zwl x < 9223372036854775808 := by unfold zwl; omega
theorem zwl_id {x : Int} (h : -9223372036854775808 ≤ x ∧ x < 9223372036854775808) : zwl x = x := by unfold zwl; omega
theorem ztx {x : Int} (h : zInR x) : (Int32.ofInt x).toInt = x := by rw [zti, zwr_id h]
theorem zoi_inj {a b : Int32} (h : a.toInt = b.toInt) : a = b := Int32.toInt_inj.mp h
theorem zol_inj {a b : Int64} (h : a.toInt = b.toInt) : a = b := Int64.toInt_inj.mp h
theorem zw_w (x : Int) : zwr (zwr x) = zwr x := zwr_id (zwr_in x)
theorem z_ofw (x : Int) : Int32.ofInt (zwr x) = Int32.ofInt x := zoi_inj (by rw [zti, zti, zw_w])
theorem z_ofl (x : Int) : Int64.ofInt (zwl x) = Int64.ofInt x := zol_inj (by rw [ztl, ztl, zwl_id (zwl_in x)])
theorem z_add (x y : Int) : Int32.ofInt x + Int32.ofInt y = Int32.ofInt (zwr (x + y)) := by rw [z_ofw, Int32.ofInt_add]
theorem z_sub (x y : Int) : Int32.ofInt x - Int32.ofInt y = Int32.ofInt (zwr (x - y)) := by rw [z_ofw, Int32.ofInt_sub]
theorem z_mul (x y : Int) : Int32.ofInt x * Int32.ofInt y = Int32.ofInt (zwr (x * y)) := by rw [z_ofw, Int32.ofInt_mul]
theorem z_neg (x : Int) : - Int32.ofInt x = Int32.ofInt (zwr (-x)) := by rw [z_ofw, Int32.ofInt_neg]
theorem z_addl (x y : Int) : Int64.ofInt x + Int64.ofInt y = Int64.ofInt (zwl (x + y)) := by rw [z_ofl, Int64.ofInt_add]
theorem z_mull (x y : Int) : Int64.ofInt x * Int64.ofInt y = Int64.ofInt (zwl (x * y)) := by rw [z_ofl, Int64.ofInt_mul]
theorem z_le {x y : Int} (hx : zInR x) (hy : zInR y) : Int32.ofInt x ≤ Int32.ofInt y ↔ x ≤ y := by rw [Int32.le_iff_toInt_le, ztx hx, ztx hy]
theorem z_lt {x y : Int} (hx : zInR x) (hy : zInR y) : Int32.ofInt x < Int32.ofInt y ↔ x < y := by rw [Int32.lt_iff_toInt_lt, ztx hx, ztx hy]
theorem z_eq {x y : Int} (hx : zInR x) (hy : zInR y) : Int32.ofInt x = Int32.ofInt y ↔ x = y := by rw [← Int32.toInt_inj, ztx hx, ztx hy]
theorem z_0 : (0 : Int32) = Int32.ofInt 0 := rfl
theorem z_div {x y : Int} (hx : zInR x) (hy : zInR y) : Int32.ofInt x / Int32.ofInt y = Int32.ofInt (zwr (x.tdiv y)) := by
  refine zoi_inj ?_
  rw [zti, zw_w, Int32.toInt_div, ztx hx, ztx hy]
  exact zbm _
theorem z_ne0 {y : Int} (hy : zInR y) (h : y ≠ 0) : ¬ Int32.ofInt y = 0 := by rw [z_0, z_eq hy ⟨by decide, by decide⟩]; exact h
theorem z_nat (n : Nat) : Int32.ofInt (n : Int) = nI n := rfl
theorem z_cl {i : Int} (hi : zInR i) (h : 0 ≤ i) : (Int32.ofInt i).toNatClampNeg = i.toNat := by
  show (Int32.ofInt i).toInt.toNat = i.toNat
  rw [ztx hi]
theorem z_in {i : Int} {N : Nat} (hi : zInR i) (h : 0 ≤ i) (h2 : i < (N : Int)) : vp_in (Int32.ofInt i) N := by
  unfold vp_in
  rw [z_cl hi h, z_0, z_lt hi ⟨by decide, by decide⟩]
  omega
theorem z_bip {b : Int} (h : -128 ≤ b ∧ b < 128) : (Int8.ofInt b).toInt32 = Int32.ofInt b := by
  refine zoi_inj ?_
  rw [Int8.toInt_toInt32, Int8.toInt_ofInt, zti, show Int8.size = 256 from rfl]
  unfold zwr Int.bmod
  dsimp only
  split <;> omega
theorem z_sip {b : Int} (h : -32768 ≤ b ∧ b < 32768) : (Int16.ofInt b).toInt32 = Int32.ofInt b := by
  refine zoi_inj ?_
  rw [Int16.toInt_toInt32, Int16.toInt_ofInt, zti, show Int16.size = 65536 from rfl]
  unfold zwr Int.bmod
  dsimp only
  split <;> omega
theorem z_i2l {x : Int} (h : zInR x) : (Int32.ofInt x).toInt64 = Int64.ofInt x := by
  refine zol_inj ?_
  rw [Int32.toInt_toInt64, ztx h, ztl, zwl_id (by unfold zInR at h; omega)]
theorem z_i2b {x : Int} (h : zInR x) : (Int32.ofInt x).toInt8.toInt32 = Int32.ofInt ((x + 128) % 256 - 128) := by
  refine zoi_inj ?_
  rw [Int8.toInt_toInt32, Int32.toInt_toInt8, ztx h, ztx (by unfold zInR; omega)]
  unfold Int.bmod
  dsimp only
  split <;> omega
theorem z_bv {x : Int} : (Int32.ofInt x).toBitVec.toNat = (x % 4294967296).toNat := by
  show (BitVec.ofInt 32 x).toNat = _
  rw [BitVec.toNat_ofInt]
  rfl
theorem z_i2c {x : Int} : ((Int32.ofInt x).toUInt32 % 65536).toInt32 = Int32.ofInt (x % 65536) := by
  rw [pk_char, z_bv, ← z_nat]
  congr 1
  omega
theorem z_and31 {x : Int} : Int32.ofInt x &&& Int32.ofInt 31 = Int32.ofInt (x % 32) := by
  rw [pk_and (Int32.ofInt x) (m := Int32.ofInt 31) 5 (by decide), z_bv, ← z_nat]
  congr 1
  omega
theorem z_and255 {x : Int} : Int32.ofInt x &&& Int32.ofInt 255 = Int32.ofInt (x % 256) := by
  rw [pk_and (Int32.ofInt x) (m := Int32.ofInt 255) 8 (by decide), z_bv, ← z_nat]
  congr 1
  omega
theorem z_shl {x : Int} : Int32.ofInt x <<< (Int32.ofInt 0 &&& 31) = Int32.ofInt x := sb_shl0 _
theorem z_shr {x : Int} : Int32.ofInt x >>> (Int32.ofInt 0 &&& 31) = Int32.ofInt x := sb_shr0 _
end
section
/-! one instruction of the interpreter is one of the machine -/
def zCtx (p : Program) (R : Room) (s : State) (m : MethodId) (args : Array Value) (meth : Method) (c : Code) (lo : Nat) (roa : Nat → Nat) (sio : Value) (D : va_G) (rS : zSh) (rC : zC) (d M : Nat) : Prop :=
  p.tables.exec = Jvm.exec ∧ c.code = zB M ∧ c.maxLocals = zL M ∧ s.vm.findClass (zcn (zK M)) = some m.cls ∧ (∀ w ∈ zgw, w.before args s = true) ∧ meth.sig.returnType = zR M ∧ meth.locks = false ∧ ((zY M).name = "<init>" → meth.name = "<init>") ∧
  zstat lo roa sio D rS rC s s.heap ∧ lo ≤ s.heap.size ∧ d ≤ R.frames ∧ 38 * d + 2 ≤ R.locals
def zAt (lo : Nat) (roa : Nat → Nat) (sio : Value) (D : va_G) (rS : zSh) (rC : zC) (s : State) (M : Nat) (L : zLs) (st : List zV) (μ : zMem) (H : Heap) (locs : List Loc) (ls : Array Slot) : Prop :=
  zdyn lo roa D rS rC μ s H ∧ va_S (fun q => lo ≤ q) s.heap H locs ∧ lv_has ls (zL M) (zlv (ztv lo roa sio) 0 L) ∧ L.length = zL M ∧ (∀ i v, zgetl L i = some v → zwf v) ∧ ∀ v ∈ st, zwf v
def zGo (p : Program) (l : Launch) (e : Env) (R : Room) (s : State) (m : MethodId) (args : Array Value) (below : List Frame) (meth : Method) (c : Code) (Q : State → Prop) (lo : Nat) (roa : Nat → Nat) (sio : Value) (D : va_G) (rS : zSh) (rC : zC) (M a1 a2 b1 b2 : Nat) (q : zst) : Prop :=
  ∀ (H : Heap) (locs : List Loc) (ls : Array Slot) (cells slots : Nat), cells + a1 = q.2.2.2.1.1 + b1 → slots + a2 = q.2.2.2.1.2 + b2 → zAt lo roa sio D rS rC s M q.2.1 q.2.2.1 q.2.2.2 H locs ls →
    W p l e R s m args below meth c H locs cells slots Q (F0 m q.1 ls (q.2.2.1.map (ztv lo roa sio)))
theorem zwf1 {v : zV} {st : List zV} (h : ∀ u ∈ v :: st, zwf u) : zwf v := h v List.mem_cons_self
theorem zwf2 {v : zV} {st : List zV} (h : ∀ u ∈ v :: st, zwf u) : ∀ u ∈ st, zwf u := fun u hu => h u (List.mem_cons_of_mem _ hu)
theorem zwfc {v : zV} {st : List zV} (h : zwf v) (h2 : ∀ u ∈ st, zwf u) : ∀ u ∈ v :: st, zwf u := fun u hu => (List.mem_cons.mp hu).elim (fun e => e ▸ h) (h2 u)
theorem zwl_set {L : zLs} {i : Nat} {v : zV} (h : ∀ j w, zgetl L j = some w → zwf w) (hv : zwf v) : ∀ j w, zgetl (L.set i (some v)) j = some w → zwf w := by
  intro j w hj
  unfold zgetl at hj h
  by_cases hi : i = j
  · subst hi
    rw [List.getElem?_set] at hj
    split at hj
    · split at hj
      · simp at hj
        exact hj ▸ hv
      · cases hj
    · contradiction
  · rw [List.getElem?_set_ne hi] at hj
    exact h j w hj
theorem zwl_set2 {L : zLs} {i : Nat} {v : zV} (h : ∀ j w, zgetl L j = some w → zwf w) (hv : zwf v) : ∀ j w, zgetl ((L.set i (some v)).set (i + 1) none) j = some w → zwf w := by
  intro j w hj
  by_cases hi : i + 1 = j
  · subst hi
    unfold zgetl at hj
    rw [List.getElem?_set] at hj
    split at hj
    · split at hj <;> cases hj
    · contradiction
  · refine zwl_set (i := i) h hv j w ?_
    unfold zgetl at hj ⊢
    rwa [List.getElem?_set_ne hi] at hj
theorem zjmp_eq {pc t : Nat} {off : Int} (h : zjmp pc off = some t) : (pc : Int) + off = (t : Int) := by
  unfold zjmp at h
  split at h
  · cases h
    omega
  · cases h
theorem z_remw (x y : Int) : Int32.ofInt (zwr (x - zwr (zwr (x.tdiv y) * y))) = Int32.ofInt (zwr (x - x.tdiv y * y)) := by
  rw [z_ofw, z_ofw, Int32.ofInt_sub, Int32.ofInt_sub, z_ofw, Int32.ofInt_mul, Int32.ofInt_mul, z_ofw]
section ZS
variable {p : Program} {l : Launch} {e : Env} {R : Room} {s : State} {m : MethodId} {args : Array Value} {below : List Frame} {meth : Method} {c : Code} {Q : State → Prop} {lo : Nat} {roa : Nat → Nat} {sio : Value} {D : va_G} {rS : zSh} {rC : zC} {d M a1 a2 b1 b2 : Nat} {pc len : Nat} {L : zLs} {st : List zV} {μ : zMem} {q : zst}

set_option maxHeartbeats 1000000 in
theorem zs_iconst {i : Int} (C : zCtx p R s m args meth c lo roa sio D rS rC d M) (hd : decode (zB M) pc = .ok (.iconst i, len)) (hn : znext d M pc L st μ (.iconst i) len = some q) (k : zGo p l e R s m args below meth c Q lo roa sio D rS rC M a1 a2 b1 b2 q) : zGo p l e R s m args below meth c Q lo roa sio D rS rC M a1 a2 b1 b2 (pc, L, st, μ) := by
  intro H locs ls cells slots h1 h2 h3
  obtain ⟨hdyn, hS, hl, hlen, hwl, hws⟩ := h3
  obtain ⟨hx, hb, hml, hown, hts, hr, hlk, hini, hst, hlo, hfr, hlc⟩ := C
  unfold znext at hn
  split at hn <;> try contradiction
  injections
  subst_vars
  split at hn <;> try contradiction
  cases hn
  rename_i hi
  exact lv_iconst hx hb hd rfl (k H locs ls cells slots h1 h2 ⟨hdyn, hS, hl, hlen, hwl, zwfc (by unfold zwf zInR; dsimp only; omega) hws⟩)
set_option maxHeartbeats 1000000 in
theorem zs_bipush {i : Int} (C : zCtx p R s m args meth c lo roa sio D rS rC d M) (hd : decode (zB M) pc = .ok (.bipush i, len)) (hn : znext d M pc L st μ (.bipush i) len = some q) (k : zGo p l e R s m args below meth c Q lo roa sio D rS rC M a1 a2 b1 b2 q) : zGo p l e R s m args below meth c Q lo roa sio D rS rC M a1 a2 b1 b2 (pc, L, st, μ) := by
  intro H locs ls cells slots h1 h2 h3
  obtain ⟨hdyn, hS, hl, hlen, hwl, hws⟩ := h3
  obtain ⟨hx, hb, hml, hown, hts, hr, hlk, hini, hst, hlo, hfr, hlc⟩ := C
  unfold znext at hn
  split at hn <;> try contradiction
  injections
  subst_vars
  split at hn <;> try contradiction
  cases hn
  rename_i hi
  exact lv_bipush hx hb hd (z_bip hi) (k H locs ls cells slots h1 h2 ⟨hdyn, hS, hl, hlen, hwl, zwfc (by unfold zwf zInR; dsimp only; omega) hws⟩)
set_option maxHeartbeats 1000000 in
theorem zs_sipush {i : Int} (C : zCtx p R s m args meth c lo roa sio D rS rC d M) (hd : decode (zB M) pc = .ok (.sipush i, len)) (hn : znext d M pc L st μ (.sipush i) len = some q) (k : zGo p l e R s m args below meth c Q lo roa sio D rS rC M a1 a2 b1 b2 q) : zGo p l e R s m args below meth c Q lo roa sio D rS rC M a1 a2 b1 b2 (pc, L, st, μ) := by
  intro H locs ls cells slots h1 h2 h3
  obtain ⟨hdyn, hS, hl, hlen, hwl, hws⟩ := h3
  obtain ⟨hx, hb, hml, hown, hts, hr, hlk, hini, hst, hlo, hfr, hlc⟩ := C
  unfold znext at hn
  split at hn <;> try contradiction
  injections
  subst_vars
  split at hn <;> try contradiction
  cases hn
  rename_i hi
  exact lv_sipush hx hb hd (z_sip hi) (k H locs ls cells slots h1 h2 ⟨hdyn, hS, hl, hlen, hwl, zwfc (by unfold zwf zInR; dsimp only; omega) hws⟩)
set_option maxHeartbeats 1000000 in
theorem zs_iload {i : Nat} (C : zCtx p R s m args meth c lo roa sio D rS rC d M) (hd : decode (zB M) pc = .ok (.iload i, len)) (hn : znext d M pc L st μ (.iload i) len = some q) (k : zGo p l e R s m args below meth c Q lo roa sio D rS rC M a1 a2 b1 b2 q) : zGo p l e R s m args below meth c Q lo roa sio D rS rC M a1 a2 b1 b2 (pc, L, st, μ) := by
  intro H locs ls cells slots h1 h2 h3
  obtain ⟨hdyn, hS, hl, hlen, hwl, hws⟩ := h3
  obtain ⟨hx, hb, hml, hown, hts, hr, hlk, hini, hst, hlo, hfr, hlc⟩ := C
  unfold znext at hn
  split at hn <;> try contradiction
  injections
  subst_vars
  split at hn <;> try contradiction
  cases hn
  rename_i x hi
  exact lv_iload hx hb hd (zlv_get hl hi) (k H locs ls cells slots h1 h2 ⟨hdyn, hS, hl, hlen, hwl, zwfc (hwl _ _ hi) hws⟩)
set_option maxHeartbeats 1000000 in
theorem zs_iload_n {i : Fin 4} (C : zCtx p R s m args meth c lo roa sio D rS rC d M) (hd : decode (zB M) pc = .ok (.iload_n i, len)) (hn : znext d M pc L st μ (.iload_n i) len = some q) (k : zGo p l e R s m args below meth c Q lo roa sio D rS rC M a1 a2 b1 b2 q) : zGo p l e R s m args below meth c Q lo roa sio D rS rC M a1 a2 b1 b2 (pc, L, st, μ) := by
  intro H locs ls cells slots h1 h2 h3
  obtain ⟨hdyn, hS, hl, hlen, hwl, hws⟩ := h3
  obtain ⟨hx, hb, hml, hown, hts, hr, hlk, hini, hst, hlo, hfr, hlc⟩ := C
  unfold znext at hn
  split at hn <;> try contradiction
  injections
  subst_vars
  split at hn <;> try contradiction
  cases hn
  rename_i x hi
  exact lv_iload_n hx hb hd rfl (zlv_get hl hi) (k H locs ls cells slots h1 h2 ⟨hdyn, hS, hl, hlen, hwl, zwfc (hwl _ _ hi) hws⟩)
set_option maxHeartbeats 1000000 in
theorem zs_aload {i : Nat} (C : zCtx p R s m args meth c lo roa sio D rS rC d M) (hd : decode (zB M) pc = .ok (.aload i, len)) (hn : znext d M pc L st μ (.aload i) len = some q) (k : zGo p l e R s m args below meth c Q lo roa sio D rS rC M a1 a2 b1 b2 q) : zGo p l e R s m args below meth c Q lo roa sio D rS rC M a1 a2 b1 b2 (pc, L, st, μ) := by
  intro H locs ls cells slots h1 h2 h3
  obtain ⟨hdyn, hS, hl, hlen, hwl, hws⟩ := h3
  obtain ⟨hx, hb, hml, hown, hts, hr, hlk, hini, hst, hlo, hfr, hlc⟩ := C
  unfold znext at hn
  split at hn <;> try contradiction
  injections
  subst_vars
  split at hn <;> try contradiction
  cases hn
  rename_i x hi
  exact lv_aload hx hb hd (zlv_get hl hi) (k H locs ls cells slots h1 h2 ⟨hdyn, hS, hl, hlen, hwl, zwfc (hwl _ _ hi) hws⟩)
set_option maxHeartbeats 1000000 in
theorem zs_aload_n {i : Fin 4} (C : zCtx p R s m args meth c lo roa sio D rS rC d M) (hd : decode (zB M) pc = .ok (.aload_n i, len)) (hn : znext d M pc L st μ (.aload_n i) len = some q) (k : zGo p l e R s m args below meth c Q lo roa sio D rS rC M a1 a2 b1 b2 q) : zGo p l e R s m args below meth c Q lo roa sio D rS rC M a1 a2 b1 b2 (pc, L, st, μ) := by
  intro H locs ls cells slots h1 h2 h3
  obtain ⟨hdyn, hS, hl, hlen, hwl, hws⟩ := h3
  obtain ⟨hx, hb, hml, hown, hts, hr, hlk, hini, hst, hlo, hfr, hlc⟩ := C
  unfold znext at hn
  split at hn <;> try contradiction
  injections
  subst_vars
  split at hn <;> try contradiction
  cases hn
  rename_i x hi
  exact lv_aload_n hx hb hd rfl (zlv_get hl hi) (k H locs ls cells slots h1 h2 ⟨hdyn, hS, hl, hlen, hwl, zwfc (hwl _ _ hi) hws⟩)
set_option maxHeartbeats 1000000 in
theorem zs_lload_n {i : Fin 4} (C : zCtx p R s m args meth c lo roa sio D rS rC d M) (hd : decode (zB M) pc = .ok (.lload_n i, len)) (hn : znext d M pc L st μ (.lload_n i) len = some q) (k : zGo p l e R s m args below meth c Q lo roa sio D rS rC M a1 a2 b1 b2 q) : zGo p l e R s m args below meth c Q lo roa sio D rS rC M a1 a2 b1 b2 (pc, L, st, μ) := by
  intro H locs ls cells slots h1 h2 h3
  obtain ⟨hdyn, hS, hl, hlen, hwl, hws⟩ := h3
  obtain ⟨hx, hb, hml, hown, hts, hr, hlk, hini, hst, hlo, hfr, hlc⟩ := C
  unfold znext at hn
  split at hn <;> try contradiction
  injections
  subst_vars
  split at hn <;> try contradiction
  cases hn
  rename_i x hi
  exact lv_lload_n hx hb hd rfl (zlv_get hl hi) (k H locs ls cells slots h1 h2 ⟨hdyn, hS, hl, hlen, hwl, zwfc (hwl _ _ hi) hws⟩)
set_option maxHeartbeats 1000000 in
theorem zs_istore {i : Nat} (C : zCtx p R s m args meth c lo roa sio D rS rC d M) (hd : decode (zB M) pc = .ok (.istore i, len)) (hn : znext d M pc L st μ (.istore i) len = some q) (k : zGo p l e R s m args below meth c Q lo roa sio D rS rC M a1 a2 b1 b2 q) : zGo p l e R s m args below meth c Q lo roa sio D rS rC M a1 a2 b1 b2 (pc, L, st, μ) := by
  intro H locs ls cells slots h1 h2 h3
  obtain ⟨hdyn, hS, hl, hlen, hwl, hws⟩ := h3
  obtain ⟨hx, hb, hml, hown, hts, hr, hlk, hini, hst, hlo, hfr, hlc⟩ := C
  unfold znext at hn
  split at hn <;> try contradiction
  injections
  subst_vars
  split at hn <;> try contradiction
  split at hn <;> try contradiction
  cases hn
  rename_i x r hi
  exact lv_istore hx hb hd hl (by rw [← hlen]; exact hi.2) rfl (fun ls1 hl1 => k H locs ls1 cells slots h1 h2 ⟨hdyn, hS, zlv_less hl1 (zlv_set hst.2.1 hi.1), by simpa using hlen, zwl_set hwl (zwf1 hws), zwf2 hws⟩)
set_option maxHeartbeats 1000000 in
theorem zs_istore_n {i : Fin 4} (C : zCtx p R s m args meth c lo roa sio D rS rC d M) (hd : decode (zB M) pc = .ok (.istore_n i, len)) (hn : znext d M pc L st μ (.istore_n i) len = some q) (k : zGo p l e R s m args below meth c Q lo roa sio D rS rC M a1 a2 b1 b2 q) : zGo p l e R s m args below meth c Q lo roa sio D rS rC M a1 a2 b1 b2 (pc, L, st, μ) := by
  intro H locs ls cells slots h1 h2 h3
  obtain ⟨hdyn, hS, hl, hlen, hwl, hws⟩ := h3
  obtain ⟨hx, hb, hml, hown, hts, hr, hlk, hini, hst, hlo, hfr, hlc⟩ := C
  unfold znext at hn
  split at hn <;> try contradiction
  injections
  subst_vars
  split at hn <;> try contradiction
  split at hn <;> try contradiction
  cases hn
  rename_i x r hi
  exact lv_istore_n hx hb hd rfl hl (by rw [← hlen]; exact hi.2) rfl (fun ls1 hl1 => k H locs ls1 cells slots h1 h2 ⟨hdyn, hS, zlv_less hl1 (zlv_set hst.2.1 hi.1), by simpa using hlen, zwl_set hwl (zwf1 hws), zwf2 hws⟩)
set_option maxHeartbeats 1000000 in
theorem zs_astore_n {i : Fin 4} (C : zCtx p R s m args meth c lo roa sio D rS rC d M) (hd : decode (zB M) pc = .ok (.astore_n i, len)) (hn : znext d M pc L st μ (.astore_n i) len = some q) (k : zGo p l e R s m args below meth c Q lo roa sio D rS rC M a1 a2 b1 b2 q) : zGo p l e R s m args below meth c Q lo roa sio D rS rC M a1 a2 b1 b2 (pc, L, st, μ) := by
  intro H locs ls cells slots h1 h2 h3
  obtain ⟨hdyn, hS, hl, hlen, hwl, hws⟩ := h3
  obtain ⟨hx, hb, hml, hown, hts, hr, hlk, hini, hst, hlo, hfr, hlc⟩ := C
  unfold znext at hn
  split at hn <;> try contradiction
  injections
  subst_vars
  split at hn <;> try contradiction
  split at hn <;> try contradiction
  cases hn
  rename_i x r hi
  exact lv_astore_n hx hb hd rfl hl (by rw [← hlen]; exact hi.2) rfl (fun ls1 hl1 => k H locs ls1 cells slots h1 h2 ⟨hdyn, hS, zlv_less hl1 (zlv_set hst.2.1 hi.1), by simpa using hlen, zwl_set hwl (zwf1 hws), zwf2 hws⟩)
set_option maxHeartbeats 1000000 in
theorem zs_lstore_n {i : Fin 4} (C : zCtx p R s m args meth c lo roa sio D rS rC d M) (hd : decode (zB M) pc = .ok (.lstore_n i, len)) (hn : znext d M pc L st μ (.lstore_n i) len = some q) (k : zGo p l e R s m args below meth c Q lo roa sio D rS rC M a1 a2 b1 b2 q) : zGo p l e R s m args below meth c Q lo roa sio D rS rC M a1 a2 b1 b2 (pc, L, st, μ) := by
  intro H locs ls cells slots h1 h2 h3
  obtain ⟨hdyn, hS, hl, hlen, hwl, hws⟩ := h3
  obtain ⟨hx, hb, hml, hown, hts, hr, hlk, hini, hst, hlo, hfr, hlc⟩ := C
  unfold znext at hn
  split at hn <;> try contradiction
  injections
  subst_vars
  split at hn <;> try contradiction
  split at hn <;> try contradiction
  cases hn
  rename_i x r hi
  exact lv_lstore_n hx hb hd rfl hl (by rw [← hlen]; exact hi.2) rfl (fun ls1 hl1 => k H locs ls1 cells slots h1 h2 ⟨hdyn, hS, zlv_less hl1 (zlv_set2 hst.2.1 hi.1), by simpa using hlen, zwl_set2 hwl (zwf1 hws), zwf2 hws⟩)
set_option maxHeartbeats 1000000 in
theorem zs_iadd (C : zCtx p R s m args meth c lo roa sio D rS rC d M) (hd : decode (zB M) pc = .ok (.iadd, len)) (hn : znext d M pc L st μ (.iadd) len = some q) (k : zGo p l e R s m args below meth c Q lo roa sio D rS rC M a1 a2 b1 b2 q) : zGo p l e R s m args below meth c Q lo roa sio D rS rC M a1 a2 b1 b2 (pc, L, st, μ) := by
  intro H locs ls cells slots h1 h2 h3
  obtain ⟨hdyn, hS, hl, hlen, hwl, hws⟩ := h3
  obtain ⟨hx, hb, hml, hown, hts, hr, hlk, hini, hst, hlo, hfr, hlc⟩ := C
  unfold znext at hn
  split at hn <;> try contradiction
  split at hn <;> try contradiction
  cases hn
  rename_i y x r
  exact lv_iadd hx hb hd (by rw [z_add]; exact k H locs ls cells slots h1 h2 ⟨hdyn, hS, hl, hlen, hwl, zwfc (zwr_in _) (zwf2 (zwf2 hws))⟩)
set_option maxHeartbeats 1000000 in
theorem zs_isub (C : zCtx p R s m args meth c lo roa sio D rS rC d M) (hd : decode (zB M) pc = .ok (.isub, len)) (hn : znext d M pc L st μ (.isub) len = some q) (k : zGo p l e R s m args below meth c Q lo roa sio D rS rC M a1 a2 b1 b2 q) : zGo p l e R s m args below meth c Q lo roa sio D rS rC M a1 a2 b1 b2 (pc, L, st, μ) := by
  intro H locs ls cells slots h1 h2 h3
  obtain ⟨hdyn, hS, hl, hlen, hwl, hws⟩ := h3
  obtain ⟨hx, hb, hml, hown, hts, hr, hlk, hini, hst, hlo, hfr, hlc⟩ := C
  unfold znext at hn
  split at hn <;> try contradiction
  split at hn <;> try contradiction
  cases hn
  rename_i y x r
  exact lv_isub hx hb hd (by rw [z_sub]; exact k H locs ls cells slots h1 h2 ⟨hdyn, hS, hl, hlen, hwl, zwfc (zwr_in _) (zwf2 (zwf2 hws))⟩)
set_option maxHeartbeats 1000000 in
theorem zs_imul (C : zCtx p R s m args meth c lo roa sio D rS rC d M) (hd : decode (zB M) pc = .ok (.imul, len)) (hn : znext d M pc L st μ (.imul) len = some q) (k : zGo p l e R s m args below meth c Q lo roa sio D rS rC M a1 a2 b1 b2 q) : zGo p l e R s m args below meth c Q lo roa sio D rS rC M a1 a2 b1 b2 (pc, L, st, μ) := by
  intro H locs ls cells slots h1 h2 h3
  obtain ⟨hdyn, hS, hl, hlen, hwl, hws⟩ := h3
  obtain ⟨hx, hb, hml, hown, hts, hr, hlk, hini, hst, hlo, hfr, hlc⟩ := C
  unfold znext at hn
  split at hn <;> try contradiction
  split at hn <;> try contradiction
  cases hn
  rename_i y x r
  exact lv_imul hx hb hd (by rw [z_mul]; exact k H locs ls cells slots h1 h2 ⟨hdyn, hS, hl, hlen, hwl, zwfc (zwr_in _) (zwf2 (zwf2 hws))⟩)
set_option maxHeartbeats 1000000 in
theorem zs_ineg (C : zCtx p R s m args meth c lo roa sio D rS rC d M) (hd : decode (zB M) pc = .ok (.ineg, len)) (hn : znext d M pc L st μ (.ineg) len = some q) (k : zGo p l e R s m args below meth c Q lo roa sio D rS rC M a1 a2 b1 b2 q) : zGo p l e R s m args below meth c Q lo roa sio D rS rC M a1 a2 b1 b2 (pc, L, st, μ) := by
  intro H locs ls cells slots h1 h2 h3
  obtain ⟨hdyn, hS, hl, hlen, hwl, hws⟩ := h3
  obtain ⟨hx, hb, hml, hown, hts, hr, hlk, hini, hst, hlo, hfr, hlc⟩ := C
  unfold znext at hn
  split at hn <;> try contradiction
  split at hn <;> try contradiction
  cases hn
  rename_i x r
  exact lv_ineg hx hb hd (by rw [z_neg]; exact k H locs ls cells slots h1 h2 ⟨hdyn, hS, hl, hlen, hwl, zwfc (zwr_in _) (zwf2 hws)⟩)
set_option maxHeartbeats 1000000 in
theorem zs_idiv (C : zCtx p R s m args meth c lo roa sio D rS rC d M) (hd : decode (zB M) pc = .ok (.idiv, len)) (hn : znext d M pc L st μ (.idiv) len = some q) (k : zGo p l e R s m args below meth c Q lo roa sio D rS rC M a1 a2 b1 b2 q) : zGo p l e R s m args below meth c Q lo roa sio D rS rC M a1 a2 b1 b2 (pc, L, st, μ) := by
  intro H locs ls cells slots h1 h2 h3
  obtain ⟨hdyn, hS, hl, hlen, hwl, hws⟩ := h3
  obtain ⟨hx, hb, hml, hown, hts, hr, hlk, hini, hst, hlo, hfr, hlc⟩ := C
  unfold znext at hn
  split at hn <;> try contradiction
  split at hn <;> try contradiction
  split at hn <;> try contradiction
  cases hn
  rename_i y x r hy
  exact lv_idiv hx hb hd (z_ne0 (zwf1 hws) hy) (by rw [z_div (zwf1 (zwf2 hws)) (zwf1 hws)]; exact k H locs ls cells slots h1 h2 ⟨hdyn, hS, hl, hlen, hwl, zwfc (zwr_in _) (zwf2 (zwf2 hws))⟩)
set_option maxHeartbeats 1000000 in
theorem zs_irem (C : zCtx p R s m args meth c lo roa sio D rS rC d M) (hd : decode (zB M) pc = .ok (.irem, len)) (hn : znext d M pc L st μ (.irem) len = some q) (k : zGo p l e R s m args below meth c Q lo roa sio D rS rC M a1 a2 b1 b2 q) : zGo p l e R s m args below meth c Q lo roa sio D rS rC M a1 a2 b1 b2 (pc, L, st, μ) := by
  intro H locs ls cells slots h1 h2 h3
  obtain ⟨hdyn, hS, hl, hlen, hwl, hws⟩ := h3
  obtain ⟨hx, hb, hml, hown, hts, hr, hlk, hini, hst, hlo, hfr, hlc⟩ := C
  unfold znext at hn
  split at hn <;> try contradiction
  split at hn <;> try contradiction
  split at hn <;> try contradiction
  cases hn
  rename_i y x r hy
  exact lv_irem hx hb hd (z_ne0 (zwf1 hws) hy) (by rw [z_div (zwf1 (zwf2 hws)) (zwf1 hws), z_mul, z_sub, z_remw]; exact k H locs ls cells slots h1 h2 ⟨hdyn, hS, hl, hlen, hwl, zwfc (zwr_in _) (zwf2 (zwf2 hws))⟩)
set_option maxHeartbeats 1000000 in
theorem zs_ishl (C : zCtx p R s m args meth c lo roa sio D rS rC d M) (hd : decode (zB M) pc = .ok (.ishl, len)) (hn : znext d M pc L st μ (.ishl) len = some q) (k : zGo p l e R s m args below meth c Q lo roa sio D rS rC M a1 a2 b1 b2 q) : zGo p l e R s m args below meth c Q lo roa sio D rS rC M a1 a2 b1 b2 (pc, L, st, μ) := by
  intro H locs ls cells slots h1 h2 h3
  obtain ⟨hdyn, hS, hl, hlen, hwl, hws⟩ := h3
  obtain ⟨hx, hb, hml, hown, hts, hr, hlk, hini, hst, hlo, hfr, hlc⟩ := C
  unfold znext at hn
  split at hn <;> try contradiction
  split at hn <;> try contradiction
  split at hn <;> try contradiction
  cases hn
  rename_i y x r hy
  subst hy
  exact lv_ishl hx hb hd (by rw [z_shl]; exact k H locs ls cells slots h1 h2 ⟨hdyn, hS, hl, hlen, hwl, zwfc (zwf1 (zwf2 hws)) (zwf2 (zwf2 hws))⟩)
set_option maxHeartbeats 1000000 in
theorem zs_ishr (C : zCtx p R s m args meth c lo roa sio D rS rC d M) (hd : decode (zB M) pc = .ok (.ishr, len)) (hn : znext d M pc L st μ (.ishr) len = some q) (k : zGo p l e R s m args below meth c Q lo roa sio D rS rC M a1 a2 b1 b2 q) : zGo p l e R s m args below meth c Q lo roa sio D rS rC M a1 a2 b1 b2 (pc, L, st, μ) := by
  intro H locs ls cells slots h1 h2 h3
  obtain ⟨hdyn, hS, hl, hlen, hwl, hws⟩ := h3
  obtain ⟨hx, hb, hml, hown, hts, hr, hlk, hini, hst, hlo, hfr, hlc⟩ := C
  unfold znext at hn
  split at hn <;> try contradiction
  split at hn <;> try contradiction
  split at hn <;> try contradiction
  cases hn
  rename_i y x r hy
  subst hy
  exact lv_ishr hx hb hd (by rw [z_shr]; exact k H locs ls cells slots h1 h2 ⟨hdyn, hS, hl, hlen, hwl, zwfc (zwf1 (zwf2 hws)) (zwf2 (zwf2 hws))⟩)
set_option maxHeartbeats 1000000 in
theorem zs_i2l (C : zCtx p R s m args meth c lo roa sio D rS rC d M) (hd : decode (zB M) pc = .ok (.i2l, len)) (hn : znext d M pc L st μ (.i2l) len = some q) (k : zGo p l e R s m args below meth c Q lo roa sio D rS rC M a1 a2 b1 b2 q) : zGo p l e R s m args below meth c Q lo roa sio D rS rC M a1 a2 b1 b2 (pc, L, st, μ) := by
  intro H locs ls cells slots h1 h2 h3
  obtain ⟨hdyn, hS, hl, hlen, hwl, hws⟩ := h3
  obtain ⟨hx, hb, hml, hown, hts, hr, hlk, hini, hst, hlo, hfr, hlc⟩ := C
  unfold znext at hn
  split at hn <;> try contradiction
  split at hn <;> try contradiction
  cases hn
  rename_i x r
  exact lv_i2l hx hb hd (z_i2l (zwf1 hws)) (k H locs ls cells slots h1 h2 ⟨hdyn, hS, hl, hlen, hwl, zwfc (by have := zwf1 hws; unfold zwf zInR at this; unfold zwf; dsimp only at this ⊢; omega) (zwf2 hws)⟩)
set_option maxHeartbeats 1000000 in
theorem zs_i2b (C : zCtx p R s m args meth c lo roa sio D rS rC d M) (hd : decode (zB M) pc = .ok (.i2b, len)) (hn : znext d M pc L st μ (.i2b) len = some q) (k : zGo p l e R s m args below meth c Q lo roa sio D rS rC M a1 a2 b1 b2 q) : zGo p l e R s m args below meth c Q lo roa sio D rS rC M a1 a2 b1 b2 (pc, L, st, μ) := by
  intro H locs ls cells slots h1 h2 h3
  obtain ⟨hdyn, hS, hl, hlen, hwl, hws⟩ := h3
  obtain ⟨hx, hb, hml, hown, hts, hr, hlk, hini, hst, hlo, hfr, hlc⟩ := C
  unfold znext at hn
  split at hn <;> try contradiction
  split at hn <;> try contradiction
  cases hn
  rename_i x r
  exact lv_i2b hx hb hd (z_i2b (zwf1 hws)) (k H locs ls cells slots h1 h2 ⟨hdyn, hS, hl, hlen, hwl, zwfc (by unfold zwf zInR; dsimp only; omega) (zwf2 hws)⟩)
set_option maxHeartbeats 1000000 in
theorem zs_i2c (C : zCtx p R s m args meth c lo roa sio D rS rC d M) (hd : decode (zB M) pc = .ok (.i2c, len)) (hn : znext d M pc L st μ (.i2c) len = some q) (k : zGo p l e R s m args below meth c Q lo roa sio D rS rC M a1 a2 b1 b2 q) : zGo p l e R s m args below meth c Q lo roa sio D rS rC M a1 a2 b1 b2 (pc, L, st, μ) := by
  intro H locs ls cells slots h1 h2 h3
  obtain ⟨hdyn, hS, hl, hlen, hwl, hws⟩ := h3
  obtain ⟨hx, hb, hml, hown, hts, hr, hlk, hini, hst, hlo, hfr, hlc⟩ := C
  unfold znext at hn
  split at hn <;> try contradiction
  split at hn <;> try contradiction
  cases hn
  rename_i x r
  exact lv_i2c hx hb hd z_i2c (k H locs ls cells slots h1 h2 ⟨hdyn, hS, hl, hlen, hwl, zwfc (by unfold zwf zInR; dsimp only; omega) (zwf2 hws)⟩)
set_option maxHeartbeats 1000000 in
theorem zs_ladd (C : zCtx p R s m args meth c lo roa sio D rS rC d M) (hd : decode (zB M) pc = .ok (.ladd, len)) (hn : znext d M pc L st μ (.ladd) len = some q) (k : zGo p l e R s m args below meth c Q lo roa sio D rS rC M a1 a2 b1 b2 q) : zGo p l e R s m args below meth c Q lo roa sio D rS rC M a1 a2 b1 b2 (pc, L, st, μ) := by
  intro H locs ls cells slots h1 h2 h3
  obtain ⟨hdyn, hS, hl, hlen, hwl, hws⟩ := h3
  obtain ⟨hx, hb, hml, hown, hts, hr, hlk, hini, hst, hlo, hfr, hlc⟩ := C
  unfold znext at hn
  split at hn <;> try contradiction
  split at hn <;> try contradiction
  cases hn
  rename_i y x r
  exact lv_ladd hx hb hd (by rw [z_addl]; exact k H locs ls cells slots h1 h2 ⟨hdyn, hS, hl, hlen, hwl, zwfc (zwl_in _) (zwf2 (zwf2 hws))⟩)
set_option maxHeartbeats 1000000 in
theorem zs_lmul (C : zCtx p R s m args meth c lo roa sio D rS rC d M) (hd : decode (zB M) pc = .ok (.lmul, len)) (hn : znext d M pc L st μ (.lmul) len = some q) (k : zGo p l e R s m args below meth c Q lo roa sio D rS rC M a1 a2 b1 b2 q) : zGo p l e R s m args below meth c Q lo roa sio D rS rC M a1 a2 b1 b2 (pc, L, st, μ) := by
  intro H locs ls cells slots h1 h2 h3
  obtain ⟨hdyn, hS, hl, hlen, hwl, hws⟩ := h3
  obtain ⟨hx, hb, hml, hown, hts, hr, hlk, hini, hst, hlo, hfr, hlc⟩ := C
  unfold znext at hn
  split at hn <;> try contradiction
  split at hn <;> try contradiction
  cases hn
  rename_i y x r
  exact lv_lmul hx hb hd (by rw [z_mull]; exact k H locs ls cells slots h1 h2 ⟨hdyn, hS, hl, hlen, hwl, zwfc (zwl_in _) (zwf2 (zwf2 hws))⟩)
set_option maxHeartbeats 1000000 in
theorem zs_pop (C : zCtx p R s m args meth c lo roa sio D rS rC d M) (hd : decode (zB M) pc = .ok (.pop, len)) (hn : znext d M pc L st μ (.pop) len = some q) (k : zGo p l e R s m args below meth c Q lo roa sio D rS rC M a1 a2 b1 b2 q) : zGo p l e R s m args below meth c Q lo roa sio D rS rC M a1 a2 b1 b2 (pc, L, st, μ) := by
  intro H locs ls cells slots h1 h2 h3
  obtain ⟨hdyn, hS, hl, hlen, hwl, hws⟩ := h3
  obtain ⟨hx, hb, hml, hown, hts, hr, hlk, hini, hst, hlo, hfr, hlc⟩ := C
  unfold znext at hn
  split at hn <;> try contradiction
  split at hn <;> try contradiction
  split at hn <;> try contradiction
  cases hn
  rename_i v r hv
  exact lv_pop hx hb hd ((ztv_cat hst.2.1 v).trans hv) (k H locs ls cells slots h1 h2 ⟨hdyn, hS, hl, hlen, hwl, zwf2 hws⟩)
set_option maxHeartbeats 1000000 in
theorem zs_dup (C : zCtx p R s m args meth c lo roa sio D rS rC d M) (hd : decode (zB M) pc = .ok (.dup, len)) (hn : znext d M pc L st μ (.dup) len = some q) (k : zGo p l e R s m args below meth c Q lo roa sio D rS rC M a1 a2 b1 b2 q) : zGo p l e R s m args below meth c Q lo roa sio D rS rC M a1 a2 b1 b2 (pc, L, st, μ) := by
  intro H locs ls cells slots h1 h2 h3
  obtain ⟨hdyn, hS, hl, hlen, hwl, hws⟩ := h3
  obtain ⟨hx, hb, hml, hown, hts, hr, hlk, hini, hst, hlo, hfr, hlc⟩ := C
  unfold znext at hn
  split at hn <;> try contradiction
  split at hn <;> try contradiction
  split at hn <;> try contradiction
  cases hn
  rename_i v r hv
  exact lv_dup hx hb hd ((ztv_cat hst.2.1 v).trans hv) (k H locs ls cells slots h1 h2 ⟨hdyn, hS, hl, hlen, hwl, zwfc (zwf1 hws) hws⟩)
set_option maxHeartbeats 1000000 in
theorem zs_dup2 (C : zCtx p R s m args meth c lo roa sio D rS rC d M) (hd : decode (zB M) pc = .ok (.dup2, len)) (hn : znext d M pc L st μ (.dup2) len = some q) (k : zGo p l e R s m args below meth c Q lo roa sio D rS rC M a1 a2 b1 b2 q) : zGo p l e R s m args below meth c Q lo roa sio D rS rC M a1 a2 b1 b2 (pc, L, st, μ) := by
  intro H locs ls cells slots h1 h2 h3
  obtain ⟨hdyn, hS, hl, hlen, hwl, hws⟩ := h3
  obtain ⟨hx, hb, hml, hown, hts, hr, hlk, hini, hst, hlo, hfr, hlc⟩ := C
  unfold znext at hn
  split at hn <;> try contradiction
  split at hn <;> try contradiction
  split at hn <;> try contradiction
  cases hn
  rename_i v u r hv
  exact lv_dup2_11 hx hb hd ((ztv_cat hst.2.1 v).trans hv.1) ((ztv_cat hst.2.1 u).trans hv.2) (k H locs ls cells slots h1 h2 ⟨hdyn, hS, hl, hlen, hwl, zwfc (zwf1 hws) (zwfc (zwf1 (zwf2 hws)) hws)⟩)
set_option maxHeartbeats 1000000 in
theorem zs_dup_x1 (C : zCtx p R s m args meth c lo roa sio D rS rC d M) (hd : decode (zB M) pc = .ok (.dup_x1, len)) (hn : znext d M pc L st μ (.dup_x1) len = some q) (k : zGo p l e R s m args below meth c Q lo roa sio D rS rC M a1 a2 b1 b2 q) : zGo p l e R s m args below meth c Q lo roa sio D rS rC M a1 a2 b1 b2 (pc, L, st, μ) := by
  intro H locs ls cells slots h1 h2 h3
  obtain ⟨hdyn, hS, hl, hlen, hwl, hws⟩ := h3
  obtain ⟨hx, hb, hml, hown, hts, hr, hlk, hini, hst, hlo, hfr, hlc⟩ := C
  unfold znext at hn
  split at hn <;> try contradiction
  split at hn <;> try contradiction
  split at hn <;> try contradiction
  cases hn
  rename_i v u r hv
  exact lv_dup_x1 hx hb hd ((ztv_cat hst.2.1 v).trans hv.1) ((ztv_cat hst.2.1 u).trans hv.2) (k H locs ls cells slots h1 h2 ⟨hdyn, hS, hl, hlen, hwl, zwfc (zwf1 hws) (zwfc (zwf1 (zwf2 hws)) (zwfc (zwf1 hws) (zwf2 (zwf2 hws))))⟩)
set_option maxHeartbeats 1000000 in
theorem zs_goto {off : Int} (C : zCtx p R s m args meth c lo roa sio D rS rC d M) (hd : decode (zB M) pc = .ok (.goto off, len)) (hn : znext d M pc L st μ (.goto off) len = some q) (k : zGo p l e R s m args below meth c Q lo roa sio D rS rC M a1 a2 b1 b2 q) : zGo p l e R s m args below meth c Q lo roa sio D rS rC M a1 a2 b1 b2 (pc, L, st, μ) := by
  intro H locs ls cells slots h1 h2 h3
  obtain ⟨hdyn, hS, hl, hlen, hwl, hws⟩ := h3
  obtain ⟨hx, hb, hml, hown, hts, hr, hlk, hini, hst, hlo, hfr, hlc⟩ := C
  unfold znext at hn
  split at hn <;> try contradiction
  injections
  subst_vars
  split at hn <;> try contradiction
  cases hn
  rename_i t ht
  exact lv_goto hx hb hd (zjmp_eq ht) (k H locs ls cells slots h1 h2 ⟨hdyn, hS, hl, hlen, hwl, hws⟩)
set_option maxHeartbeats 1000000 in
theorem zs_ifnonnull {off : Int} (C : zCtx p R s m args meth c lo roa sio D rS rC d M) (hd : decode (zB M) pc = .ok (.ifnonnull off, len)) (hn : znext d M pc L st μ (.ifnonnull off) len = some q) (k : zGo p l e R s m args below meth c Q lo roa sio D rS rC M a1 a2 b1 b2 q) : zGo p l e R s m args below meth c Q lo roa sio D rS rC M a1 a2 b1 b2 (pc, L, st, μ) := by
  intro H locs ls cells slots h1 h2 h3
  obtain ⟨hdyn, hS, hl, hlen, hwl, hws⟩ := h3
  obtain ⟨hx, hb, hml, hown, hts, hr, hlk, hini, hst, hlo, hfr, hlc⟩ := C
  unfold znext at hn
  split at hn <;> try contradiction
  injections
  subst_vars
  split at hn <;> try contradiction
  cases hn
  rename_i v r t ht
  exact lv_ifnonnull hx hb hd (zjmp_eq ht) (k H locs ls cells slots h1 h2 ⟨hdyn, hS, hl, hlen, hwl, zwf2 hws⟩)
end ZS
end
section
/-! reading and writing cells -/
theorem zcell_congr {lo : Nat} {roa : Nat → Nat} {D : va_G} {μ μ' : zMem} {r : Nat} {U : State} {H : Heap} (h1 : μ'.2.1 r = μ.2.1 r) (h2 : μ'.2.2 r = μ.2.2 r) (h : zcell lo roa D μ r U H) : zcell lo roa D μ' r U H := by
  have e : zfv lo roa μ' r = zfv lo roa μ r := by
    funext k
    unfold zfv
    rw [h1, h2]
  unfold zcell at h ⊢
  rw [e, h1, h2]
  exact h
theorem zdyn_set {lo : Nat} {roa : Nat → Nat} {D : va_G} {rS : zSh} {rC : zC} {μ μ' : zMem} {U : State} {H H1 : Heap} {q : Nat} (h : zdyn lo roa D rS rC μ U H) (hq8 : 8 ≤ q) (hqn : q < μ.1.1) (h1 : μ'.1 = μ.1) (hs : ∀ r, r ≠ q → μ'.2.1 r = μ.2.1 r ∧ μ'.2.2 r = μ.2.2 r) (hc : zcell lo roa D μ' q U H1) (hr : ∀ k, zInR (μ'.2.2 q k)) (hz : H1.size = H.size) (ho : ∀ x, x ≠ lo + (q - 8) → H1[x]? = H[x]?) : zdyn lo roa D rS rC μ' U H1 := by
  obtain ⟨g1, g2, g3, g4, g5, g6⟩ := h
  refine ⟨by rw [hz, h1]; exact g1, by rw [h1]; exact g2, fun r hr8 hrn => ?_, fun r hrn => ?_, fun r k => ?_, fun r hr8 => ?_⟩
  · by_cases e : r = q
    · rw [e]
      exact hc
    · exact (zcell_congr (hs r e).1 (hs r e).2 (g3 r hr8 (by rw [h1] at hrn; exact hrn))).kept (ho _ (by omega))
  · rw [h1] at hrn
    rw [(hs r (by omega)).1]
    exact g4 r hrn
  · by_cases e : r = q
    · rw [e]
      exact hr k
    · rw [(hs r e).2]
      exact g5 r k
  · have e : r ≠ q := by omega
    rw [(hs r e).1, (hs r e).2]
    exact g6 r hr8
theorem zdyn_push {lo : Nat} {roa : Nat → Nat} {D : va_G} {rS : zSh} {rC : zC} {μ : zMem} {U : State} {H H1 : Heap} {sl : Nat} {x : Nat × (Int × (Int → Option Nat))} (h : zdyn lo roa D rS rC μ U H) (hc : zcell lo roa D ((μ.1.1 + 1, sl), (zsup μ.2.1 μ.1.1 x, zfr μ.2.2 μ.1.1)) μ.1.1 U H1) (hz : H1.size = H.size + 1) (ho : ∀ y, y < H.size → H1[y]? = H[y]?) : zdyn lo roa D rS rC ((μ.1.1 + 1, sl), (zsup μ.2.1 μ.1.1 x, zfr μ.2.2 μ.1.1)) U H1 := by
  obtain ⟨g1, g2, g3, g4, g5, g6⟩ := h
  have hs : ∀ r, r ≠ μ.1.1 → zsup μ.2.1 μ.1.1 x r = μ.2.1 r ∧ zfr μ.2.2 μ.1.1 r = μ.2.2 r := fun r hr => by
    refine ⟨by unfold zsup; rw [if_neg hr], ?_⟩
    funext k
    unfold zfr
    rw [if_neg hr]
  refine ⟨by dsimp only; omega, by dsimp only; omega, fun r hr8 hrn => ?_, fun r hrn => ?_, fun r k => ?_, fun r hr8 => ?_⟩
  · by_cases e : r = μ.1.1
    · rw [e]
      exact hc
    · exact (zcell_congr (hs r e).1 (hs r e).2 (g3 r hr8 (by dsimp only at hrn; omega))).kept (ho _ (by dsimp only at hrn; omega))
  · dsimp only at hrn ⊢
    rw [(hs r (by omega)).1]
    exact g4 r (by omega)
  · dsimp only
    by_cases e : r = μ.1.1
    · rw [e]
      unfold zfr
      rw [if_pos rfl]
      exact ⟨by decide, by decide⟩
    · rw [(hs r e).2]
      exact g5 r k
  · have e : r ≠ μ.1.1 := by omega
    dsimp only
    rw [(hs r e).1, (hs r e).2]
    exact g6 r hr8
/-- an array that can be read -/
def zarr (U : State) (H : Heap) (a : Nat) (ty : FieldType) (N : Nat) (f : Nat → Value) : Prop :=
  ∃ cell : Cell, H[a]? = some cell ∧ U.isArrayOf cell ty ∧ cell.vm ≠ .unknown ∧ N ≤ cell.slots.size ∧ cell.slots.size.toInt32 = Int32.ofNat N ∧ ∀ j : Nat, j < N → cell.slots[j]? = some (f j)
theorem zarr_of {U : State} {H : Heap} {a N : Nat} {cA : ClassId} {ty : FieldType} {f : Nat → Value} (h : H[a]? = some (arrV cA N f)) (h2 : ArrOfT U cA ty) : zarr U H a ty N f :=
  ⟨_, h, h2 N f, (fun h => by cases h), by rw [arrV_size]; exact Nat.le_refl _, (by rw [arrV_size] <;> rfl), fun j hj => arrV_read cA f hj⟩
theorem zarr_ofT {U : State} {H : Heap} {a N : Nat} {ty : FieldType} {f : Nat → Value} {A : Nat → Prop} (h : va_T ty a N f A U H) : zarr U H a ty N f := by
  obtain ⟨cell, h1, h2, h3, h4, h5, h6, -⟩ := h
  exact ⟨cell, h1, h2, h3, h4, h5, h6⟩
section ZM
variable {lo : Nat} {roa : Nat → Nat} {sio : Value} {D : va_G} {rS : zSh} {rC : zC} {μ : zMem} {s : State} {H : Heap} {locs : List Loc} {q : Nat}
theorem zrange (h : zdyn lo roa D rS rC μ s H) (hst : zsta lo roa sio rS rC s s.heap) (h1 : (μ.2.1 q).1 ≠ 30) (h2 : (μ.2.1 q).1 ≠ 31) (h3 : (μ.2.1 q).1 ≠ 11) (h4 : (μ.2.1 q).1 < 90) : 8 ≤ q ∧ q < μ.1.1 := by
  obtain ⟨g1, g2, g3, g4, g5, g6⟩ := h
  constructor
  · refine Nat.le_of_not_lt fun hq => ?_
    have e := (g6 q hq).1
    rcases (hst.1 q hq).1 with w | w | w | w <;> rw [← e] at w
    · exact h1 w
    · exact h2 w
    · exact h3 w
    · omega
  · refine Nat.lt_of_not_le fun hq => ?_
    have := g4 q hq
    omega
theorem zaddr (h : 8 ≤ q) : zad lo roa q = lo + (q - 8) := by
  unfold zad
  rw [if_neg (by omega)]
theorem zstaH (hst : zsta lo roa sio rS rC s s.heap) (hS : va_S (fun q => lo ≤ q) s.heap H locs) : zsta lo roa sio rS rC s H := hst.kept hS.2.1
/-- a row of whole numbers, wherever it lies -/
theorem zread_i (h : zdyn lo roa D rS rC μ s H) (hst : zsta lo roa sio rS rC s s.heap) (hS : va_S (fun q => lo ≤ q) s.heap H locs) (ht : (μ.2.1 q).1 = 20 ∨ (μ.2.1 q).1 = 30) :
    ∃ N : Nat, (μ.2.1 q).2.1 = (N : Int) ∧ N < 2147483648 ∧ zarr s H (zad lo roa q) .int N (fun j => .int (Int32.ofInt (μ.2.2 q (j : Int)))) := by
  rcases ht with ht | ht
  · obtain ⟨h8, hn⟩ := zrange (q := q) h hst (by omega) (by omega) (by omega) (by omega)
    obtain ⟨cA, N, e1, e2, e3, e4⟩ := (h.2.2.1 q h8 hn).2.1 ht
    exact ⟨N, e1, e2, by rw [zaddr h8]; exact zarr_of e3 e4⟩
  · have h8 : q < 8 := by
      refine Nat.lt_of_not_le fun h8 => ?_
      by_cases hn : q < μ.1.1
      · exact (h.2.2.1 q h8 hn).2.2.2.2.2.1 ht
      · have := h.2.2.2.1 q (Nat.le_of_not_lt hn)
        omega
    have e := (h.2.2.2.2.2 q h8)
    rw [e.1] at ht ⊢
    obtain ⟨N, e1, e2, e3⟩ := ((zstaH hst hS).1 q h8).2.1 ht
    refine ⟨N, e1, e2, ?_⟩
    rw [e.2]
    unfold zad
    rw [if_pos h8]
    exact zarr_ofT e3
theorem zread_b (h : zdyn lo roa D rS rC μ s H) (hst : zsta lo roa sio rS rC s s.heap) (hS : va_S (fun q => lo ≤ q) s.heap H locs) (ht : (μ.2.1 q).1 = 21 ∨ (μ.2.1 q).1 = 31) :
    ∃ N : Nat, (μ.2.1 q).2.1 = (N : Int) ∧ N < 2147483648 ∧ zarr s H (zad lo roa q) .byte N (fun j => .int (Int32.ofInt (μ.2.2 q (j : Int)))) ∧ ∀ j : Nat, j < N → -128 ≤ μ.2.2 q (j : Int) ∧ μ.2.2 q (j : Int) < 128 := by
  rcases ht with ht | ht
  · obtain ⟨h8, hn⟩ := zrange (q := q) h hst (by omega) (by omega) (by omega) (by omega)
    obtain ⟨cA, N, e1, e2, e3, e4, e5⟩ := (h.2.2.1 q h8 hn).2.2.1 ht
    exact ⟨N, e1, e2, by rw [zaddr h8]; exact zarr_of e3 e4, e5⟩
  · have h8 : q < 8 := by
      refine Nat.lt_of_not_le fun h8 => ?_
      by_cases hn : q < μ.1.1
      · exact (h.2.2.1 q h8 hn).2.2.2.2.2.2 ht
      · have := h.2.2.2.1 q (Nat.le_of_not_lt hn)
        omega
    have e := (h.2.2.2.2.2 q h8)
    rw [e.1] at ht ⊢
    obtain ⟨N, e1, e2, e3, e4⟩ := ((zstaH hst hS).1 q h8).2.2.1 ht
    rw [e.2]
    refine ⟨N, e1, e2, ?_, e4⟩
    unfold zad
    rw [if_pos h8]
    exact zarr_ofT e3
theorem zS_put {H1 : Heap} {a k : Nat} (hS : va_S (fun q => lo ≤ q) s.heap H locs) (z : H1.size = H.size) (oq : ∀ x, x ≠ a → H1[x]? = H[x]?) (ha : lo ≤ a) : va_S (fun q => lo ≤ q) s.heap H1 (locs ++ [⟨a, k⟩]) := hS.put z oq ha
end ZM
/-- an array with one place changed -/
theorem zarr_set {cA : ClassId} {N j : Nat} {f : Nat → Value} (hj : j < N) (v : Value) : (arrV cA N f).setSlot j v = arrV cA N (updV f j v) := by
  unfold arrV Cell.setSlot updV
  congr 1
  apply Array.ext
  · simp
  · intro i h1 h2
    simp at h1 h2 ⊢
    by_cases e : j = i
    · subst e
      simp
    · rw [Array.getElem_setIfInBounds_ne (by simpa using h2) e]
      simp [Ne.symm e]
end
section
/-! one instruction of the interpreter is one of the machine, second half -/
theorem zldcwS {p : Program} {l : Launch} {e : Env} {R : Room} {s : State} {m : MethodId} {args : Array Value} {below : List Frame} {meth : Method} {c : Code} {Q : State → Prop} {H : Heap} {locs : List Loc} {cells slots : Nat} {cc : ByteArray} {pc : Nat} {ls : Array Slot} {rest : List Value} (hexec : p.tables.exec = Jvm.exec) (hb : c.code = cc) {own tx : String} {index q : Nat} (hown : s.vm.findClass own = some m.cls) (hZ : vk_R own index tx q s) (hdg : decode cc pc = .ok (.ldc_w index, 3))
    (k : W p l e R s m args below meth c H locs cells slots Q (F0 m (pc + 3) ls (.ref q :: rest))) : W p l e R s m args below meth c H locs cells slots Q (F0 m pc ls rest) := by
  subst hb
  intro T hT X
  obtain ⟨t, a1, b1⟩ := k T hT X
  refine ⟨t, ?_, b1⟩
  obtain ⟨kk, cf, i, a', hk, hcf, hcp, -, hr, hev'⟩ := Cond.stringRef_spec hown hZ.1
  cases hZ.2.symm.trans hev'
  obtain ⟨k', hk', he⟩ := X.warmed.alike.2.2 _ _ hk
  have hr' : k'.resolved[index]? = some (some (.string q)) := by
    rcases X.warmed.entry hk hk' index with h | ⟨h, -⟩
    · rw [h]; exact hr
    · rw [hr] at h; cases h
  jvm_step X.here [hexec, hdg, ldc_w.wp_string (e := e) (s := T) (f := F0 m pc ls rest) X.here.top hk' (by rw [he]; exact hcf) hcp hr']
  exact a1
theorem zlv_memg {tv : zV → Value} {L : zLs} {i : Nat} {v : zV} (hi : zgetl L i = some v) : (i, tv v) ∈ zlv tv 0 L := by
  refine (zlv_mem L 0 i (tv v)).mpr ⟨i, v, by omega, ?_, rfl⟩
  unfold zgetl at hi
  cases h2 : L[i]? with
  | none => rw [h2] at hi; cases hi
  | some w => rw [h2] at hi; simp at hi; rw [hi]
theorem z_lcmp {x y : Int} (hx : -9223372036854775808 ≤ x ∧ x < 9223372036854775808) (hy : -9223372036854775808 ≤ y ∧ y < 9223372036854775808) : lg_cmp (Int64.ofInt x) (Int64.ofInt y) = Int32.ofInt (if x = y then 0 else if x < y then -1 else 1) := by
  have e1 : Int64.ofInt x < Int64.ofInt y ↔ x < y := by rw [Int64.lt_iff_toInt_lt, ztl, ztl, zwl_id hx, zwl_id hy]
  have e2 : Int64.ofInt x = Int64.ofInt y ↔ x = y := by rw [← Int64.toInt_inj, ztl, ztl, zwl_id hx, zwl_id hy]
  have e3 : Int64.ofInt y < Int64.ofInt x ↔ y < x := by rw [Int64.lt_iff_toInt_lt, ztl, ztl, zwl_id hx, zwl_id hy]
  unfold lg_cmp
  by_cases h1 : y < x
  · rw [if_pos (e3.mpr h1), if_neg (show ¬ x = y by omega), if_neg (show ¬ x < y by omega)]
    rfl
  · rw [if_neg (fun h => h1 (e3.mp h))]
    by_cases h2 : x = y
    · rw [if_pos (e2.mpr h2), if_pos h2]
      rfl
    · rw [if_neg (fun h => h2 (e2.mp h)), if_neg h2, if_pos (show x < y by omega)]
      rfl
theorem z_cmpin (x y : Int) : zInR (if x = y then 0 else if x < y then -1 else 1) := by
  unfold zInR
  split
  · omega
  · split <;> omega
theorem zjmp2 {cd : ClassFile.Cond} {x y : Int} {t u : Nat} {P : Nat → Prop} (h : P (if zcb cd x y = true then t else u)) : (zcb cd x y = true → P t) ∧ (zcb cd x y = false → P u) := by
  cases hc : zcb cd x y <;> simp [hc] at h ⊢ <;> exact h
def zsok : Bool :=
  decide (ztbl[671]? = some (.constant (zcn 12) 39 2147483647)) && decide (ztbl[667]? = some (.constant (zcn 18) 200 2147483639)) && decide (ztbl[866]? = some (.constantLong (zcn 8) 202 73)) && decide (ztbl[867]? = some (.constantLong (zcn 8) 204 31)) && decide (ztbl[1121]? = some (.constantLong (zcn 9) 149 31)) && decide (ztbl[1122]? = some (.constantLong (zcn 9) 151 2263)) &&
  decide (ztbl[310]? = some (.fieldLink (zcn 12) 18 "java/lang/String" "COMPACT_STRINGS" "Z")) && decide (ztbl[818]? = some (.fieldLink (zcn 15) 38 "java/lang/String" "COMPACT_STRINGS" "Z")) && decide (ztbl[715]? = some (.fieldLink (zcn 13) 83 "java/lang/Integer" "DigitOnes" "[B")) && decide (ztbl[717]? = some (.fieldLink (zcn 13) 87 "java/lang/Integer" "DigitTens" "[B")) && decide (ztbl[731]? = some (.fieldLink (zcn 15) 1053 "jdk/internal/util/Preconditions" "SIOOBE_FORMATTER" "Ljava/util/function/BiFunction;")) &&
  decide (ztbl[1135]? = some (.fieldLink (zcn 15) 9 "java/lang/String" "value" "[B")) && decide (ztbl[1136]? = some (.fieldLink (zcn 15) 15 "java/lang/String" "coder" "B"))
theorem zsok_ok : zsok = true := by decide +kernel
theorem zsw : (.constant (zcn 12) 39 2147483647 : Cond) ∈ zgw ∧ (.constant (zcn 18) 200 2147483639 : Cond) ∈ zgw ∧ (.constantLong (zcn 8) 202 73 : Cond) ∈ zgw ∧ (.constantLong (zcn 8) 204 31 : Cond) ∈ zgw ∧ (.constantLong (zcn 9) 149 31 : Cond) ∈ zgw ∧ (.constantLong (zcn 9) 151 2263 : Cond) ∈ zgw ∧ (.fieldLink (zcn 12) 18 "java/lang/String" "COMPACT_STRINGS" "Z" : Cond) ∈ zgw ∧ (.fieldLink (zcn 15) 38 "java/lang/String" "COMPACT_STRINGS" "Z" : Cond) ∈ zgw ∧ (.fieldLink (zcn 13) 83 "java/lang/Integer" "DigitOnes" "[B" : Cond) ∈ zgw ∧ (.fieldLink (zcn 13) 87 "java/lang/Integer" "DigitTens" "[B" : Cond) ∈ zgw ∧ (.fieldLink (zcn 15) 1053 "jdk/internal/util/Preconditions" "SIOOBE_FORMATTER" "Ljava/util/function/BiFunction;" : Cond) ∈ zgw ∧ (.fieldLink (zcn 15) 9 "java/lang/String" "value" "[B" : Cond) ∈ zgw ∧ (.fieldLink (zcn 15) 15 "java/lang/String" "coder" "B" : Cond) ∈ zgw := by
  have h := zsok_ok
  unfold zsok at h
  simp only [Bool.and_eq_true, decide_eq_true_eq] at h
  obtain ⟨⟨⟨⟨⟨⟨⟨⟨⟨⟨⟨⟨g0, g1⟩, g2⟩, g3⟩, g4⟩, g5⟩, g6⟩, g7⟩, g8⟩, g9⟩, g10⟩, g11⟩, g12⟩ := h
  exact ⟨zgw_mem g0 rfl, zgw_mem g1 rfl, zgw_mem g2 rfl, zgw_mem g3 rfl, zgw_mem g4 rfl, zgw_mem g5 rfl, zgw_mem g6 rfl, zgw_mem g7 rfl, zgw_mem g8 rfl, zgw_mem g9 rfl, zgw_mem g10 rfl, zgw_mem g11 rfl, zgw_mem g12 rfl⟩
section ZS
variable {p : Program} {l : Launch} {e : Env} {R : Room} {s : State} {m : MethodId} {args : Array Value} {below : List Frame} {meth : Method} {c : Code} {Q : State → Prop} {lo : Nat} {roa : Nat → Nat} {sio : Value} {D : va_G} {rS : zSh} {rC : zC} {d M a1 a2 b1 b2 : Nat} {pc len : Nat} {L : zLs} {st : List zV} {μ : zMem} {q : zst}
set_option maxHeartbeats 1000000 in
theorem zs_iinc {i : Nat} {n : Int} (C : zCtx p R s m args meth c lo roa sio D rS rC d M) (hd : decode (zB M) pc = .ok (.iinc i n, len)) (hn : znext d M pc L st μ (.iinc i n) len = some q) (k : zGo p l e R s m args below meth c Q lo roa sio D rS rC M a1 a2 b1 b2 q) : zGo p l e R s m args below meth c Q lo roa sio D rS rC M a1 a2 b1 b2 (pc, L, st, μ) := by
  intro H locs ls cells slots h1 h2 h3
  obtain ⟨hdyn, hS, hl, hlen, hwl, hws⟩ := h3
  obtain ⟨hx, hb, hml, hown, hts, hr, hlk, hini, hst, hlo, hfr, hlc⟩ := C
  unfold znext at hn
  split at hn <;> try contradiction
  all_goals
    injections
    subst_vars
    split at hn <;> try contradiction
    split at hn <;> try contradiction
    cases hn
    rename_i x hi hok
    obtain ⟨k0, hk0⟩ := List.getElem?_of_mem (zlv_memg (tv := ztv lo roa sio) hi)
    first
      | exact lv_iinc hx hb hd hl hk0 (z_add x _) (by rw [← hlen]; exact hok.2) rfl (fun ls1 hl1 => k H locs ls1 cells slots h1 h2 ⟨hdyn, hS, zlv_less hl1 (zlv_set hst.2.1 hok.1), by simpa using hlen, zwl_set hwl (zwr_in _), hws⟩)
      | exact lv_iincW hx hb hd hl hk0 (z_add x _) (by rw [← hlen]; exact hok.2) rfl (fun ls1 hl1 => k H locs ls1 cells slots h1 h2 ⟨hdyn, hS, zlv_less hl1 (zlv_set hst.2.1 hok.1), by simpa using hlen, zwl_set hwl (zwr_in _), hws⟩)
set_option maxHeartbeats 1000000 in
theorem zs_iand (C : zCtx p R s m args meth c lo roa sio D rS rC d M) (hd : decode (zB M) pc = .ok (.iand, len)) (hn : znext d M pc L st μ (.iand) len = some q) (k : zGo p l e R s m args below meth c Q lo roa sio D rS rC M a1 a2 b1 b2 q) : zGo p l e R s m args below meth c Q lo roa sio D rS rC M a1 a2 b1 b2 (pc, L, st, μ) := by
  intro H locs ls cells slots h1 h2 h3
  obtain ⟨hdyn, hS, hl, hlen, hwl, hws⟩ := h3
  obtain ⟨hx, hb, hml, hown, hts, hr, hlk, hini, hst, hlo, hfr, hlc⟩ := C
  unfold znext at hn
  split at hn <;> try contradiction
  split at hn <;> try contradiction
  rename_i y x r
  split at hn
  · rename_i hy
    cases hn
    subst hy
    exact lv_iand hx hb hd (by rw [z_and31]; exact k H locs ls cells slots h1 h2 ⟨hdyn, hS, hl, hlen, hwl, zwfc (by unfold zwf zInR; dsimp only; omega) (zwf2 (zwf2 hws))⟩)
  · split at hn <;> try contradiction
    rename_i hy
    cases hn
    subst hy
    exact lv_iand hx hb hd (by rw [z_and255]; exact k H locs ls cells slots h1 h2 ⟨hdyn, hS, hl, hlen, hwl, zwfc (by unfold zwf zInR; dsimp only; omega) (zwf2 (zwf2 hws))⟩)
set_option maxHeartbeats 1000000 in
theorem zs_lcmp (C : zCtx p R s m args meth c lo roa sio D rS rC d M) (hd : decode (zB M) pc = .ok (.lcmp, len)) (hn : znext d M pc L st μ (.lcmp) len = some q) (k : zGo p l e R s m args below meth c Q lo roa sio D rS rC M a1 a2 b1 b2 q) : zGo p l e R s m args below meth c Q lo roa sio D rS rC M a1 a2 b1 b2 (pc, L, st, μ) := by
  intro H locs ls cells slots h1 h2 h3
  obtain ⟨hdyn, hS, hl, hlen, hwl, hws⟩ := h3
  obtain ⟨hx, hb, hml, hown, hts, hr, hlk, hini, hst, hlo, hfr, hlc⟩ := C
  unfold znext at hn
  split at hn <;> try contradiction
  split at hn <;> try contradiction
  cases hn
  rename_i y x r
  exact W.lcmp hx hb hd (by rw [z_lcmp (zwf1 (zwf2 hws)) (zwf1 hws)]; exact k H locs ls cells slots h1 h2 ⟨hdyn, hS, hl, hlen, hwl, zwfc (z_cmpin _ _) (zwf2 (zwf2 hws))⟩)
theorem z_in0 : zInR 0 := ⟨by decide, by decide⟩
set_option maxHeartbeats 1000000 in
theorem zs_if_icmp {cd : ClassFile.Cond} {off : Int} (C : zCtx p R s m args meth c lo roa sio D rS rC d M) (hd : decode (zB M) pc = .ok (.if_icmp cd off, len)) (hn : znext d M pc L st μ (.if_icmp cd off) len = some q) (k : zGo p l e R s m args below meth c Q lo roa sio D rS rC M a1 a2 b1 b2 q) : zGo p l e R s m args below meth c Q lo roa sio D rS rC M a1 a2 b1 b2 (pc, L, st, μ) := by
  intro H locs ls cells slots h1 h2 h3
  obtain ⟨hdyn, hS, hl, hlen, hwl, hws⟩ := h3
  obtain ⟨hx, hb, hml, hown, hts, hr, hlk, hini, hst, hlo, hfr, hlc⟩ := C
  unfold znext at hn
  split at hn <;> try contradiction
  injections
  subst_vars
  rename_i cd off
  split at hn <;> try contradiction
  cases hn
  rename_i y x r t ht
  obtain ⟨kt, kf⟩ := zjmp2 (P := fun t => zGo p l e R s m args below meth c Q lo roa sio D rS rC M a1 a2 b1 b2 (t, L, r, μ)) k
  have kT := fun h => kt h H locs ls cells slots h1 h2 ⟨hdyn, hS, hl, hlen, hwl, zwf2 (zwf2 hws)⟩
  have kF := fun h => kf h H locs ls cells slots h1 h2 ⟨hdyn, hS, hl, hlen, hwl, zwf2 (zwf2 hws)⟩
  cases cd
  · exact lv_icmp_eq hx hb hd (zjmp_eq ht) (fun h => kT (decide_eq_true ((z_eq (zwf1 (zwf2 hws)) (zwf1 hws)).mp h))) (fun h => kF (decide_eq_false (fun h9 => h ((z_eq (zwf1 (zwf2 hws)) (zwf1 hws)).mpr h9))))
  · exact lv_icmp_ne hx hb hd (zjmp_eq ht) (fun h => kT (decide_eq_true ((not_congr (z_eq (zwf1 (zwf2 hws)) (zwf1 hws))).mp h))) (fun h => kF (decide_eq_false (fun h9 => h9 (((z_eq (zwf1 (zwf2 hws)) (zwf1 hws))).mp h))))
  · exact lv_icmp_lt hx hb hd (zjmp_eq ht) (fun h => kT (decide_eq_true ((z_lt (zwf1 (zwf2 hws)) (zwf1 hws)).mp h))) (fun h => kF (decide_eq_false (fun h9 => h ((z_lt (zwf1 (zwf2 hws)) (zwf1 hws)).mpr h9))))
  · exact lv_icmp_ge hx hb hd (zjmp_eq ht) (fun h => kT (decide_eq_true ((z_le (zwf1 hws) (zwf1 (zwf2 hws))).mp h))) (fun h => kF (decide_eq_false (fun h9 => h ((z_le (zwf1 hws) (zwf1 (zwf2 hws))).mpr h9))))
  · exact lv_icmp_gt hx hb hd (zjmp_eq ht) (fun h => kT (decide_eq_true ((z_lt (zwf1 hws) (zwf1 (zwf2 hws))).mp h))) (fun h => kF (decide_eq_false (fun h9 => h ((z_lt (zwf1 hws) (zwf1 (zwf2 hws))).mpr h9))))
  · exact lv_icmp_le hx hb hd (zjmp_eq ht) (fun h => kT (decide_eq_true ((z_le (zwf1 (zwf2 hws)) (zwf1 hws)).mp h))) (fun h => kF (decide_eq_false (fun h9 => h ((z_le (zwf1 (zwf2 hws)) (zwf1 hws)).mpr h9))))
set_option maxHeartbeats 1000000 in
theorem zs_ifCond {cd : ClassFile.Cond} {off : Int} (C : zCtx p R s m args meth c lo roa sio D rS rC d M) (hd : decode (zB M) pc = .ok (.ifCond cd off, len)) (hn : znext d M pc L st μ (.ifCond cd off) len = some q) (k : zGo p l e R s m args below meth c Q lo roa sio D rS rC M a1 a2 b1 b2 q) : zGo p l e R s m args below meth c Q lo roa sio D rS rC M a1 a2 b1 b2 (pc, L, st, μ) := by
  intro H locs ls cells slots h1 h2 h3
  obtain ⟨hdyn, hS, hl, hlen, hwl, hws⟩ := h3
  obtain ⟨hx, hb, hml, hown, hts, hr, hlk, hini, hst, hlo, hfr, hlc⟩ := C
  unfold znext at hn
  split at hn <;> try contradiction
  injections
  subst_vars
  rename_i cd off
  split at hn <;> try contradiction
  cases hn
  rename_i x r t ht
  obtain ⟨kt, kf⟩ := zjmp2 (P := fun t => zGo p l e R s m args below meth c Q lo roa sio D rS rC M a1 a2 b1 b2 (t, L, r, μ)) k
  have kT := fun h => kt h H locs ls cells slots h1 h2 ⟨hdyn, hS, hl, hlen, hwl, zwf2 hws⟩
  have kF := fun h => kf h H locs ls cells slots h1 h2 ⟨hdyn, hS, hl, hlen, hwl, zwf2 hws⟩
  cases cd
  · exact lv_if_eq hx hb hd (zjmp_eq ht) (fun h => kT (decide_eq_true ((z_eq (zwf1 hws) (z_in0)).mp h))) (fun h => kF (decide_eq_false (fun h9 => h ((z_eq (zwf1 hws) (z_in0)).mpr h9))))
  · exact lv_if_ne hx hb hd (zjmp_eq ht) (fun h => kT (decide_eq_true ((not_congr (z_eq (zwf1 hws) (z_in0))).mp h))) (fun h => kF (decide_eq_false (fun h9 => h9 (((z_eq (zwf1 hws) (z_in0))).mp h))))
  · exact lv_if_lt hx hb hd (zjmp_eq ht) (fun h => kT (decide_eq_true ((z_lt (zwf1 hws) (z_in0)).mp h))) (fun h => kF (decide_eq_false (fun h9 => h ((z_lt (zwf1 hws) (z_in0)).mpr h9))))
  · exact lv_if_ge hx hb hd (zjmp_eq ht) (fun h => kT (decide_eq_true ((z_le (z_in0) (zwf1 hws)).mp h))) (fun h => kF (decide_eq_false (fun h9 => h ((z_le (z_in0) (zwf1 hws)).mpr h9))))
  · exact lv_if_gt hx hb hd (zjmp_eq ht) (fun h => kT (decide_eq_true ((z_lt (z_in0) (zwf1 hws)).mp h))) (fun h => kF (decide_eq_false (fun h9 => h ((z_lt (z_in0) (zwf1 hws)).mpr h9))))
  · exact lv_if_le hx hb hd (zjmp_eq ht) (fun h => kT (decide_eq_true ((z_le (zwf1 hws) (z_in0)).mp h))) (fun h => kF (decide_eq_false (fun h9 => h ((z_le (zwf1 hws) (z_in0)).mpr h9))))
set_option maxHeartbeats 1000000 in
theorem zs_tableswitch {dflt lo9 hi9 : Int} {offs : Array Int} (C : zCtx p R s m args meth c lo roa sio D rS rC d M) (hd : decode (zB M) pc = .ok (.tableswitch dflt lo9 hi9 offs, len)) (hn : znext d M pc L st μ (.tableswitch dflt lo9 hi9 offs) len = some q) (k : zGo p l e R s m args below meth c Q lo roa sio D rS rC M a1 a2 b1 b2 q) : zGo p l e R s m args below meth c Q lo roa sio D rS rC M a1 a2 b1 b2 (pc, L, st, μ) := by
  intro H locs ls cells slots h1 h2 h3
  obtain ⟨hdyn, hS, hl, hlen, hwl, hws⟩ := h3
  obtain ⟨hx, hb, hml, hown, hts, hr, hlk, hini, hst, hlo, hfr, hlc⟩ := C
  rcases st with _ | ⟨x | v, r⟩
  · cases hn
  · replace hn : (if x < lo9 ∨ hi9 < x then (match zjmp pc dflt with | some t => some (t, L, r, μ) | none => none) else (match offs[(x - lo9).toNat]? with | some off => (match zjmp pc off with | some t => some (t, L, r, μ) | none => none) | none => none)) = some q := hn
    have ex : (Int32.ofInt x).toInt = x := ztx (zwf1 hws)
    split at hn
    · rename_i hc
      split at hn <;> try contradiction
      rename_i t ht
      cases hn
      exact lv_tableOut hx hb hd (by rw [ex]; exact hc) (zjmp_eq ht) (k H locs ls cells slots h1 h2 ⟨hdyn, hS, hl, hlen, hwl, zwf2 hws⟩)
    · rename_i hc
      split at hn <;> try contradiction
      rename_i off ho
      split at hn <;> try contradiction
      rename_i t ht
      cases hn
      exact lv_tableIn hx hb hd (by rw [ex]; omega) (by rw [ex]; omega) (by rw [ex]; exact ho) (zjmp_eq ht) (k H locs ls cells slots h1 h2 ⟨hdyn, hS, hl, hlen, hwl, zwf2 hws⟩)
  · cases hn
set_option maxHeartbeats 1000000 in
theorem zs_ldc {i : Nat} (C : zCtx p R s m args meth c lo roa sio D rS rC d M) (hd : decode (zB M) pc = .ok (.ldc i, len)) (hn : znext d M pc L st μ (.ldc i) len = some q) (k : zGo p l e R s m args below meth c Q lo roa sio D rS rC M a1 a2 b1 b2 q) : zGo p l e R s m args below meth c Q lo roa sio D rS rC M a1 a2 b1 b2 (pc, L, st, μ) := by
  intro H locs ls cells slots h1 h2 h3
  obtain ⟨hdyn, hS, hl, hlen, hwl, hws⟩ := h3
  obtain ⟨hx, hb, hml, hown, hts, hr, hlk, hini, hst, hlo, hfr, hlc⟩ := C
  unfold znext at hn
  split at hn <;> try contradiction
  injections
  subst_vars
  split at hn <;> try contradiction
  cases hn
  rename_i x hx0
  unfold zldc at hx0
  split at hx0 <;> try contradiction
  all_goals
    rename_i e1
    cases hx0
  · exact lv_ldc hx hb (by rw [e1] at hown; exact hown) (hts _ zsw.1) hd (k H locs ls cells slots h1 h2 ⟨hdyn, hS, hl, hlen, hwl, zwfc (by exact ⟨by decide, by decide⟩) hws⟩)
  · exact lv_ldc hx hb (by rw [e1] at hown; exact hown) (hts _ zsw.2.1) hd (k H locs ls cells slots h1 h2 ⟨hdyn, hS, hl, hlen, hwl, zwfc (by exact ⟨by decide, by decide⟩) hws⟩)
set_option maxHeartbeats 1000000 in
theorem zs_ldc_w {i : Nat} (C : zCtx p R s m args meth c lo roa sio D rS rC d M) (hd : decode (zB M) pc = .ok (.ldc_w i, len)) (hn : znext d M pc L st μ (.ldc_w i) len = some q) (k : zGo p l e R s m args below meth c Q lo roa sio D rS rC M a1 a2 b1 b2 q) : zGo p l e R s m args below meth c Q lo roa sio D rS rC M a1 a2 b1 b2 (pc, L, st, μ) := by
  intro H locs ls cells slots h1 h2 h3
  obtain ⟨hdyn, hS, hl, hlen, hwl, hws⟩ := h3
  obtain ⟨hx, hb, hml, hown, hts, hr, hlk, hini, hst, hlo, hfr, hlc⟩ := C
  unfold znext at hn
  split at hn <;> try contradiction
  injections
  subst_vars
  split at hn <;> try contradiction
  cases hn
  rename_i x hx0
  unfold zldc at hx0
  split at hx0 <;> try contradiction
  all_goals
    rename_i e1
    cases hx0
  · exact zldcwS hx hb (by rw [e1] at hown; exact hown) hst.2.2.2.1 hd (k H locs ls cells slots h1 h2 ⟨hdyn, hS, hl, hlen, hwl, zwfc trivial hws⟩)
  · exact zldcwS hx hb (by rw [e1] at hown; exact hown) hst.2.2.2.2.1 hd (k H locs ls cells slots h1 h2 ⟨hdyn, hS, hl, hlen, hwl, zwfc trivial hws⟩)
set_option maxHeartbeats 1000000 in
theorem zs_ldc2_w {i : Nat} (C : zCtx p R s m args meth c lo roa sio D rS rC d M) (hd : decode (zB M) pc = .ok (.ldc2_w i, len)) (hn : znext d M pc L st μ (.ldc2_w i) len = some q) (k : zGo p l e R s m args below meth c Q lo roa sio D rS rC M a1 a2 b1 b2 q) : zGo p l e R s m args below meth c Q lo roa sio D rS rC M a1 a2 b1 b2 (pc, L, st, μ) := by
  intro H locs ls cells slots h1 h2 h3
  obtain ⟨hdyn, hS, hl, hlen, hwl, hws⟩ := h3
  obtain ⟨hx, hb, hml, hown, hts, hr, hlk, hini, hst, hlo, hfr, hlc⟩ := C
  unfold znext at hn
  split at hn <;> try contradiction
  injections
  subst_vars
  split at hn <;> try contradiction
  cases hn
  rename_i x hx0
  unfold zldc at hx0
  split at hx0 <;> try contradiction
  all_goals
    rename_i e1
    cases hx0
  · exact lv_ldc2 hx hb (by rw [e1] at hown; exact hown) (hts _ zsw.2.2.1) hd (k H locs ls cells slots h1 h2 ⟨hdyn, hS, hl, hlen, hwl, zwfc (by exact ⟨by decide, by decide⟩) hws⟩)
  · exact lv_ldc2 hx hb (by rw [e1] at hown; exact hown) (hts _ zsw.2.2.2.1) hd (k H locs ls cells slots h1 h2 ⟨hdyn, hS, hl, hlen, hwl, zwfc (by exact ⟨by decide, by decide⟩) hws⟩)
  · exact lv_ldc2 hx hb (by rw [e1] at hown; exact hown) (hts _ zsw.2.2.2.2.1) hd (k H locs ls cells slots h1 h2 ⟨hdyn, hS, hl, hlen, hwl, zwfc (by exact ⟨by decide, by decide⟩) hws⟩)
  · exact lv_ldc2 hx hb (by rw [e1] at hown; exact hown) (hts _ zsw.2.2.2.2.2.1) hd (k H locs ls cells slots h1 h2 ⟨hdyn, hS, hl, hlen, hwl, zwfc (by exact ⟨by decide, by decide⟩) hws⟩)
set_option maxHeartbeats 1000000 in
theorem zs_getstatic {i : Nat} (C : zCtx p R s m args meth c lo roa sio D rS rC d M) (hd : decode (zB M) pc = .ok (.getstatic i, len)) (hn : znext d M pc L st μ (.getstatic i) len = some q) (k : zGo p l e R s m args below meth c Q lo roa sio D rS rC M a1 a2 b1 b2 q) : zGo p l e R s m args below meth c Q lo roa sio D rS rC M a1 a2 b1 b2 (pc, L, st, μ) := by
  intro H locs ls cells slots h1 h2 h3
  obtain ⟨hdyn, hS, hl, hlen, hwl, hws⟩ := h3
  obtain ⟨hx, hb, hml, hown, hts, hr, hlk, hini, hst, hlo, hfr, hlc⟩ := C
  unfold znext at hn
  split at hn <;> try contradiction
  injections
  subst_vars
  split at hn <;> try contradiction
  cases hn
  rename_i v hv
  unfold zstt at hv
  split at hv <;> try contradiction
  all_goals
    rename_i e1
    cases hv
  · exact va_gets hx hb hst.2.2.1.2.1 hS (by rw [e1] at hown; exact hown) (hts _ zsw.2.2.2.2.2.2.1) (fun _ h => h) hd (k H locs ls cells slots h1 h2 ⟨hdyn, hS, hl, hlen, hwl, zwfc (by exact ⟨by decide, by decide⟩) hws⟩)
  · exact va_gets hx hb hst.2.2.1.2.1 hS (by rw [e1] at hown; exact hown) (hts _ zsw.2.2.2.2.2.2.2.1) (fun _ h => h) hd (k H locs ls cells slots h1 h2 ⟨hdyn, hS, hl, hlen, hwl, zwfc (by exact ⟨by decide, by decide⟩) hws⟩)
  · exact va_gets hx hb hst.2.2.1.2.2.1 hS (by rw [e1] at hown; exact hown) (hts _ zsw.2.2.2.2.2.2.2.2.1) (fun _ h => h) hd (k H locs ls cells slots h1 h2 ⟨hdyn, hS, hl, hlen, hwl, zwfc (by exact trivial) hws⟩)
  · exact va_gets hx hb hst.2.2.1.2.2.2.1 hS (by rw [e1] at hown; exact hown) (hts _ zsw.2.2.2.2.2.2.2.2.2.1) (fun _ h => h) hd (k H locs ls cells slots h1 h2 ⟨hdyn, hS, hl, hlen, hwl, zwfc (by exact trivial) hws⟩)
  · exact va_gets hx hb hst.2.2.1.2.2.2.2 hS (by rw [e1] at hown; exact hown) (hts _ zsw.2.2.2.2.2.2.2.2.2.2.1) (fun _ h => h) hd (k H locs ls cells slots h1 h2 ⟨hdyn, hS, hl, hlen, hwl, zwfc (by exact trivial) hws⟩)
end ZS
end
section
/-! fields -/
theorem zfind {α : Type} {l : List ((Nat × Nat) × α)} {own idx : Nat} {e : (Nat × Nat) × α} (h : l.find? (fun e => e.1.1 == own && e.1.2 == idx) = some e) : e ∈ l ∧ e.1 = (own, idx) := by
  refine ⟨List.mem_of_find?_eq_some h, ?_⟩
  have h2 := List.find?_some h
  simp only [Bool.and_eq_true, beq_iff_eq] at h2
  exact Prod.ext h2.1 h2.2
theorem zFld_ok {own idx ci k fn : Nat} {isr : Bool} (h : zFld own idx = some (ci, k, isr, fn)) : ∃ (C : String) (T : u_T) (N : Nat), vwClz[ci]? = some (C, T, N) ∧ k < N ∧ Cond.fieldLink (zcn own) idx (T k).1 (T k).2.1 (T k).2.2.1 ∈ zgw ∧ zrf ci k = isr ∧ (fn = 0 → (T k).2.2.2 = false) ∧ (fn = 1 → (T k).2.2.2 = true ∧ (T k).1 = zcn own) := by
  unfold zFld at h
  rw [Option.map_eq_some_iff] at h
  obtain ⟨e, h1, h2⟩ := h
  obtain ⟨hm, he⟩ := zfind h1
  have h3 := List.all_eq_true.mp zflds_ok e hm
  unfold zokf at h3
  rw [h2, he] at h3
  dsimp only at h3
  split at h3
  · rename_i C T N hc
    simp only [Bool.and_eq_true, decide_eq_true_eq] at h3
    obtain ⟨⟨⟨⟨g1, g2⟩, g3⟩, g4⟩, g5⟩ := h3
    refine ⟨C, T, N, hc, g1, zgw_mem g2 g3, g4, fun e0 => ?_, fun e1 => ?_⟩
    · rw [if_pos e0] at g5
      simpa using g5
    · rw [if_neg (by omega), if_pos e1] at g5
      simpa using g5
  · cases h3
theorem zty_ok : ∀ (ci : Nat) (C : String) (T : u_T) (N : Nat), vwClz[ci]? = some (C, T, N) → ci < 11 ∧ N = znf ci ∧ (∀ w ∈ u_ws C T N, w ∈ zgw) ∧ (∀ a, a < N → ∀ b, b < N → a ≠ b → (T a).2.1 ≠ (T b).2.1) ∧ (∀ k, k < N → parseFieldDescriptor (T k).2.2.1 = some (zty ci k)) := by
  intro ci C T N h
  match ci, h with
  | 0, h => cases h; exact ⟨by decide, rfl, zin0, nmJ4, tyJ4_ok⟩
  | 1, h => cases h; exact ⟨by decide, rfl, zin1, nmX0, tyX0_ok⟩
  | 2, h => cases h; exact ⟨by decide, rfl, zin2, nmX1, tyX1_ok⟩
  | 3, h => cases h; exact ⟨by decide, rfl, zin3, nmX2, tyX2_ok⟩
  | 4, h => cases h; exact ⟨by decide, rfl, zin4, nmX3, tyX3_ok⟩
  | 5, h => cases h; exact ⟨by decide, rfl, zin5, nmX4, tyX4_ok⟩
  | 6, h => cases h; exact ⟨by decide, rfl, zin6, nmX5, tyX5_ok⟩
  | 7, h => cases h; exact ⟨by decide, rfl, zin7, nmX6, tyX6_ok⟩
  | 8, h => cases h; exact ⟨by decide, rfl, zin8, nmX7, tyX7_ok⟩
  | 9, h => cases h; exact ⟨by decide, rfl, zin9, nmX8, tyX8_ok⟩
  | 10, h => cases h; exact ⟨by decide, rfl, zin10, nmX9, tyX9_ok⟩
  | n + 11, h => simp [vwClz] at h
/-- a reference goes into a field that holds references, a number into one of numbers -/
theorem zfit_r : ∀ ci, ci < 11 → ∀ k, k < znf ci → zrf ci k = true → ∀ a : Nat, narrow (zty ci k) (.ref a) = .ref a ∧ fits (zty ci k) (.ref a) = true := by
  have h : ∀ ci, ci < 11 → ∀ k, k < znf ci → zrf ci k = true → (match zty ci k with
    | .object _ => true
    | .array _ => true
    | _ => false) = true := by decide +kernel
  intro ci h1 k h2 h3 a
  have h4 := h ci h1 k h2 h3
  revert h4
  cases zty ci k <;> intro h4 <;> first | contradiction | exact ⟨rfl, rfl⟩
theorem zfit_i : ∀ ci, ci < 11 → ∀ k, k < znf ci → zrf ci k = false → ∀ x : Int, (ci = 0 → (k = 1 ∨ k = 2) → (x = 0 ∨ x = 1)) → narrow (zty ci k) (.int (Int32.ofInt x)) = .int (Int32.ofInt x) ∧ fits (zty ci k) (.int (Int32.ofInt x)) = true := by
  have h : ∀ ci, ci < 11 → ∀ k, k < znf ci → zrf ci k = false → (match zty ci k with
    | .int => true
    | .byte => ci == 0 && k == 1
    | .boolean => ci == 0 && k == 2
    | _ => false) = true := by decide +kernel
  intro ci h1 k h2 h3 x hx
  have h4 := h ci h1 k h2 h3
  revert h4
  cases zty ci k <;> intro h4 <;> first
    | contradiction
    | exact ⟨rfl, rfl⟩
    | (simp only [Bool.and_eq_true, beq_iff_eq] at h4
       rcases hx h4.1 (by omega) with rfl | rfl <;> exact ⟨rfl, rfl⟩)
section ZP
variable {p : Program} {l : Launch} {e : Env} {R : Room} {s : State} {m : MethodId} {args : Array Value} {below : List Frame} {meth : Method} {c : Code} {Q : State → Prop} {D : va_G} {H : Heap} {locs : List Loc} {cells slots : Nat} {cc : ByteArray} {pc : Nat} {ls : Array Slot} {rest : List Value}
theorem zget_row (hx : p.tables.exec = Jvm.exec) (hb : c.code = cc) {own Cn : String} {T : u_T} {N ci k index a : Nat} {V : Nat → Value} (hts : ∀ w ∈ zgw, w.before args s = true) (hin : ∀ w ∈ u_ws Cn T N, w ∈ zgw) (hown : s.vm.findClass own = some m.cls) (hK : va_K D vwClz [] s) (hc : vwClz[ci]? = some (Cn, T, N)) (hk : k < N) (hob : t_OB a (D.1 ci) N (D.2 ci) H V) (hlink : Cond.fieldLink own index (T k).1 (T k).2.1 (T k).2.2.1 ∈ zgw) (hdg : decode cc pc = .ok (.getfield index, 3))
    (kk : W p l e R s m args below meth c H locs cells slots Q (F0 m (pc + 3) ls (V k :: rest))) : W p l e R s m args below meth c H locs cells slots Q (F0 m pc ls (.ref a :: rest)) := by
  obtain ⟨cell, q1, q2, q3, q4⟩ := hob
  obtain ⟨hS, hfc, kC, hkC, hkind⟩ := hK.1 ci _ hc
  obtain ⟨cf, kf, fi, f, hi, hsl⟩ := hS k hk
  refine W.getf hx hb hown (hts _ hlink) hi (u_facts hfc hkC (u_lays hts hin hk) hi).1 q1 (by rw [q3]; exact fun h => by cases h) (v := V k) ?_ rfl rfl hdg kk
  rw [hsl, q4 k hk]
theorem zput_row (hx : p.tables.exec = Jvm.exec) (hb : c.code = cc) {own Cn : String} {T : u_T} {N ci k index a : Nat} {V : Nat → Value} {ty : Nat → FieldType} {v : Value} (hts : ∀ w ∈ zgw, w.before args s = true) (hin : ∀ w ∈ u_ws Cn T N, w ∈ zgw) (hty : ∀ k, k < N → parseFieldDescriptor (T k).2.2.1 = some (ty k)) (hnm : ∀ a, a < N → ∀ b, b < N → a ≠ b → (T a).2.1 ≠ (T b).2.1) (hown : s.vm.findClass own = some m.cls) (hK : va_K D vwClz [] s) (hc : vwClz[ci]? = some (Cn, T, N)) (hk : k < N) (hob : t_OB a (D.1 ci) N (D.2 ci) H V) (hlink : Cond.fieldLink own index (T k).1 (T k).2.1 (T k).2.2.1 ∈ zgw)
    (hfin : (T k).2.2.2 = false ∨ ((T k).2.2.2 = true ∧ (T k).1 = own ∧ meth.name = "<init>")) (hn : narrow (ty k) v = v) (hfit : fits (ty k) v = true) (hdg : decode cc pc = .ok (.putfield index, 3))
    (kk : ∀ H1 : Heap, t_OB a (D.1 ci) N (D.2 ci) H1 (updV V k v) → H1.size = H.size → (∀ x, x ≠ a → H1[x]? = H[x]?) → W p l e R s m args below meth c H1 (locs ++ [⟨a, D.2 ci k⟩]) cells slots Q (F0 m (pc + 3) ls rest)) : W p l e R s m args below meth c H locs cells slots Q (F0 m pc ls (v :: .ref a :: rest)) := by
  have hap := va_apart (own := own) hts hin ty hty hnm hK hc
  obtain ⟨cell, q1, q2, q3, q4⟩ := hob
  obtain ⟨hS, hfc, kC, hkC, hkind⟩ := hK.1 ci _ hc
  obtain ⟨cf, kf, fi, f, hi, hsl⟩ := hS k hk
  have hlay := hts _ (hin _ (u_in_lay hk))
  have hst := (u_facts hfc hkC (u_lays hts hin hk) hi).1
  unfold u_lay at hlay
  rcases hfin with hf | ⟨hf, hdecl, hin2⟩
  · rw [if_neg (by rw [hf]; decide)] at hlay
    have h6 := u_store hfc hkC hkind hlay hi (hty k hk) hn hfit
    refine W.putK hx hb (f := f) ⟨hown, hts _ hlink, ⟨_, _, _, hi⟩, hst⟩ (by rw [q2]; exact h6) q1 q3 (by rw [hsl]; exact k2_hasslot (q4 k hk)) rfl rfl hdg fun H' e1 e2 e3 => ?_
    rw [hsl] at e1 ⊢
    exact kk H' ⟨_, e1, q2, q3, t_set q4 hap hk v⟩ e2 e3
  · rw [if_pos hf] at hlay
    have hcf : m.cls = cf := by
      obtain ⟨_, _, c', _, _, _, -, -, hf', -, -, -, hown2, -⟩ := Cond.laysFinal_spec hlay
      have e1 : c' = cf := by have := hi.symm.trans hf'; simp at this; exact this.1.symm
      rw [hdecl] at hown2
      rw [← e1]; exact Option.some.inj (hown.symm.trans hown2)
    have h6 := u_fits hfc hkC hkind (Or.inr hlay) hi (hty k hk) hn hfit
    refine W.putFinK hx hb hown (hts _ hlink) hi hst hcf hin2 (by rw [q2]; exact h6) q1 q3 (by rw [hsl]; exact k2_hasslot (q4 k hk)) rfl rfl hdg fun H' e1 e2 e3 => ?_
    rw [hsl] at e1 ⊢
    exact kk H' ⟨_, e1, q2, q3, t_set q4 hap hk v⟩ e2 e3
end ZP
end
section
/-! one instruction of the interpreter is one of the machine: cells -/
theorem zlenR {lo : Nat} {roa : Nat → Nat} {sio : Value} {D : va_G} {rS : zSh} {rC : zC} {μ : zMem} {s : State} {H : Heap} {locs : List Loc} {f : Nat} (hdyn : zdyn lo roa D rS rC μ s H) (hst : zsta lo roa sio rS rC s s.heap) (hS : va_S (fun q => lo ≤ q) s.heap H locs) (ht : (μ.2.1 f).1 = 20 ∨ (μ.2.1 f).1 = 21 ∨ (μ.2.1 f).1 = 30 ∨ (μ.2.1 f).1 = 31) : zInR (μ.2.1 f).2.1 := by
  unfold zInR
  rcases ht with ht | ht | ht | ht
  · obtain ⟨N, e1, e2, e3⟩ := zread_i hdyn hst hS (Or.inl ht)
    omega
  · obtain ⟨N, e1, e2, e3, -⟩ := zread_b hdyn hst hS (Or.inl ht)
    omega
  · obtain ⟨N, e1, e2, e3⟩ := zread_i hdyn hst hS (Or.inr ht)
    omega
  · obtain ⟨N, e1, e2, e3, -⟩ := zread_b hdyn hst hS (Or.inr ht)
    omega
theorem zup_ne {c : zC} {q r : Nat} {k v : Int} (h : r ≠ q) : zup c q k v r = c r := by
  funext k'
  unfold zup
  rw [if_neg (fun h2 => h h2.1)]
theorem zup_q {c : zC} {q : Nat} {k v j : Int} : zup c q k v q j = if j = k then v else c q j := by
  unfold zup
  by_cases h : j = k
  · rw [if_pos ⟨rfl, h⟩, if_pos h]
  · rw [if_neg (fun h2 => h h2.2), if_neg h]
theorem zsup_ne {S : zSh} {q r : Nat} {x : Nat × (Int × (Int → Option Nat))} (h : r ≠ q) : zsup S q x r = S r := by
  unfold zsup
  rw [if_neg h]
theorem zsup_q {S : zSh} {q : Nat} {x : Nat × (Int × (Int → Option Nat))} : zsup S q x q = x := by
  unfold zsup
  rw [if_pos rfl]
theorem zNew_ok {own idx ci : Nat} (h : zNew own idx = some ci) : ∃ (C : String) (T : u_T) (N : Nat), vwClz[ci]? = some (C, T, N) ∧ Cond.classLink (zcn own) idx C ∈ zgw ∧ Cond.instantiable C N ∈ zgw ∧ Cond.initialized C ∈ zgw := by
  unfold zNew at h
  rw [Option.map_eq_some_iff] at h
  obtain ⟨e, h1, h2⟩ := h
  obtain ⟨hm, he⟩ := zfind h1
  have h3 := List.all_eq_true.mp znews_ok e hm
  unfold zokn at h3
  rw [h2, he] at h3
  dsimp only at h3
  split at h3
  · rename_i C T N hc
    simp only [Bool.and_eq_true, decide_eq_true_eq] at h3
    obtain ⟨⟨⟨g1, g2⟩, g3⟩, g4⟩ := h3
    obtain ⟨i0, i1, i2, e1, e2, e3⟩ : ∃ i0 i1 i2, ztbl[i0]? = some (Cond.classLink (zcn own) idx C) ∧ ztbl[i1]? = some (Cond.instantiable C N) ∧ ztbl[i2]? = some (Cond.initialized C) := by
      rcases hl : e.2.2 with _ | ⟨i0, _ | ⟨i1, _ | ⟨i2, _ | ⟨i3, l⟩⟩⟩⟩ <;> rw [hl] at g1 <;> simp at g1
      exact ⟨i0, i1, i2, g1.1.symm, g1.2.1.symm, g1.2.2.symm⟩
    exact ⟨C, T, N, hc, zgw_mem e1 g2, zgw_mem e2 g3, zgw_mem e3 g4⟩
  · cases h3
theorem zcats (lo : Nat) (roa : Nat → Nat) {sio : Value} (hs : sio.category = 1) (r : List zV) : ((r.map (ztv lo roa sio)).map fun v => v.category).sum = (r.map zcat).sum := by
  rw [List.map_map]
  congr 1
  exact List.map_congr_left fun v _ => ztv_cat hs v
theorem zin_n {i : Int} {N n : Nat} (hi : zInR i) (h : 0 ≤ i) (h2 : i < (N : Int)) (h3 : N ≤ n) : ¬ (Int32.ofInt i < 0 ∨ n ≤ (Int32.ofInt i).toNatClampNeg) := by
  have h4 := z_cl hi h
  rw [h4, z_0, z_lt hi ⟨by decide, by decide⟩]
  omega
theorem zsize {N : Nat} (h : N < 2147483648) : Int32.ofNat N = Int32.ofInt (N : Int) := rfl
section ZS
variable {p : Program} {l : Launch} {e : Env} {R : Room} {s : State} {m : MethodId} {args : Array Value} {below : List Frame} {meth : Method} {c : Code} {Q : State → Prop} {lo : Nat} {roa : Nat → Nat} {sio : Value} {D : va_G} {rS : zSh} {rC : zC} {d M a1 a2 b1 b2 : Nat} {pc len : Nat} {L : zLs} {st : List zV} {μ : zMem} {q : zst}
set_option maxHeartbeats 1000000 in
theorem zs_getfield {i : Nat} (C : zCtx p R s m args meth c lo roa sio D rS rC d M) (hd : decode (zB M) pc = .ok (.getfield i, len)) (hn : znext d M pc L st μ (.getfield i) len = some q) (k : zGo p l e R s m args below meth c Q lo roa sio D rS rC M a1 a2 b1 b2 q) : zGo p l e R s m args below meth c Q lo roa sio D rS rC M a1 a2 b1 b2 (pc, L, st, μ) := by
  intro H locs ls cells slots h1 h2 h3
  dsimp only at h1 h2 h3 ⊢
  obtain ⟨hdyn, hS, hl, hlen, hwl, hws⟩ := h3
  obtain ⟨hx, hb, hml, hown, hts, hr, hlk, hini, hst, hlo, hfr, hlc⟩ := C
  unfold znext at hn
  split at hn <;> try contradiction
  injections
  subst_vars
  rename_i i
  split at hn <;> try contradiction
  rename_i f r
  split at hn
  · rename_i ci kf fn hF
    split at hn <;> try contradiction
    rename_i ht
    split at hn <;> try contradiction
    rename_i v hv
    cases hn
    obtain ⟨Cn, T, N, hc, hk, hlink, hrf, -, -⟩ := zFld_ok hF
    obtain ⟨hci, hN, hin, hnm, hty⟩ := zty_ok ci Cn T N hc
    obtain ⟨h8, hqn⟩ := zrange (q := f) hdyn hst.2.2.1 (by omega) (by omega) (by omega) (by omega)
    have hob := (hdyn.2.2.1 f h8 hqn).1 (by omega)
    rw [ht, ← hN] at hob
    have e1 : zfv lo roa μ f kf = .ref (zad lo roa v) := by
      unfold zfv
      rw [ht, if_pos hrf, hv]
      rfl
    have hkk := k H locs ls cells slots h1 h2 ⟨hdyn, hS, hl, hlen, hwl, zwfc trivial (zwf2 hws)⟩
    have h0 := zget_row (rest := r.map (ztv lo roa sio)) (ls := ls) hx hb hts hin hown hst.1 hc hk hob hlink hd (by rw [e1]; exact hkk)
    rw [← zaddr (roa := roa) h8] at h0
    exact h0
  · rename_i ci kf fn hF
    split at hn <;> try contradiction
    rename_i ht
    cases hn
    obtain ⟨Cn, T, N, hc, hk, hlink, hrf, -, -⟩ := zFld_ok hF
    obtain ⟨hci, hN, hin, hnm, hty⟩ := zty_ok ci Cn T N hc
    obtain ⟨h8, hqn⟩ := zrange (q := f) hdyn hst.2.2.1 (by omega) (by omega) (by omega) (by omega)
    have hob := (hdyn.2.2.1 f h8 hqn).1 (by omega)
    rw [ht, ← hN] at hob
    have e1 : zfv lo roa μ f kf = .int (Int32.ofInt (μ.2.2 f (kf : Int))) := by
      unfold zfv
      rw [ht, if_neg (by rw [hrf]; decide)]
    have hkk := k H locs ls cells slots h1 h2 ⟨hdyn, hS, hl, hlen, hwl, zwfc (hdyn.2.2.2.2.1 _ _) (zwf2 hws)⟩
    have h0 := zget_row (rest := r.map (ztv lo roa sio)) (ls := ls) hx hb hts hin hown hst.1 hc hk hob hlink hd (by rw [e1]; exact hkk)
    rw [← zaddr (roa := roa) h8] at h0
    exact h0
  · rename_i hF
    split at hn <;> try contradiction
    rename_i hs
    have hf8 : f < 8 := by
      refine Nat.lt_of_not_le fun h8 => ?_
      by_cases hn9 : f < μ.1.1
      · exact (hdyn.2.2.1 f h8 hn9).2.2.2.2.1 hs.2
      · have := hdyn.2.2.2.1 f (Nat.le_of_not_lt hn9)
        omega
    have eS := (hdyn.2.2.2.2.2 f hf8)
    have hz := (zstaH hst.2.2.1 hS).1 f hf8
    have hs2 : (rS f).1 = 11 := by rw [← eS.1]; exact hs.2
    obtain ⟨hO, hCo, hVa⟩ := hz.2.2.2 hs2
    have ea : zad lo roa f = roa f := by unfold zad; rw [if_pos hf8]
    rw [hs.1] at hown
    split at hn
    · rename_i hi
      subst hi
      split at hn <;> try contradiction
      rename_i v hv
      cases hn
      rw [eS.1] at hv
      obtain ⟨cf, kc, fi, fd, cell, g1, g2, g3, g4, g5, g6⟩ := hVa v hv
      have hkk := k H locs ls cells slots h1 h2 ⟨hdyn, hS, hl, hlen, hwl, zwfc trivial (zwf2 hws)⟩
      have h0 := W.getf (rest := r.map (ztv lo roa sio)) (g := F0 m pc ls (.ref (roa f) :: r.map (ztv lo roa sio))) hx hb hown (hts _ zsw.2.2.2.2.2.2.2.2.2.2.2.1) g1 g2 g3 g4 (v := .ref (zad lo roa v)) g5 rfl rfl hd hkk
      rw [← ea] at h0
      exact h0
    · split at hn <;> try contradiction
      rename_i hi
      subst hi
      cases hn
      obtain ⟨cf, kc, fi, fd, cell, g1, g2, g3, g4, g5, g6⟩ := hCo
      have hkk := k H locs ls cells slots h1 h2 ⟨hdyn, hS, hl, hlen, hwl, zwfc z_in0 (zwf2 hws)⟩
      have h0 := W.getf (rest := r.map (ztv lo roa sio)) (g := F0 m pc ls (.ref (roa f) :: r.map (ztv lo roa sio))) hx hb hown (hts _ zsw.2.2.2.2.2.2.2.2.2.2.2.2) g1 g2 g3 g4 (v := .int 0) g5 rfl rfl hd hkk
      rw [← ea] at h0
      exact h0
set_option maxHeartbeats 1000000 in
theorem zs_iaload (C : zCtx p R s m args meth c lo roa sio D rS rC d M) (hd : decode (zB M) pc = .ok (.iaload, len)) (hn : znext d M pc L st μ (.iaload) len = some q) (k : zGo p l e R s m args below meth c Q lo roa sio D rS rC M a1 a2 b1 b2 q) : zGo p l e R s m args below meth c Q lo roa sio D rS rC M a1 a2 b1 b2 (pc, L, st, μ) := by
  intro H locs ls cells slots h1 h2 h3
  dsimp only at h1 h2 h3 ⊢
  obtain ⟨hdyn, hS, hl, hlen, hwl, hws⟩ := h3
  obtain ⟨hx, hb, hml, hown, hts, hr, hlk, hini, hst, hlo, hfr, hlc⟩ := C
  unfold znext at hn
  split at hn <;> try contradiction
  split at hn <;> try contradiction
  split at hn <;> try contradiction
  cases hn
  rename_i i f r ht
  obtain ⟨N, e1, e2, ⟨cell, c1, c2, c3, c4, c5, c6⟩⟩ := zread_i hdyn hst.2.2.1 hS ht.1
  have hi := zwf1 hws
  have hkk := k H locs ls cells slots h1 h2 ⟨hdyn, hS, hl, hlen, hwl, zwfc (hdyn.2.2.2.2.1 _ _) (zwf2 (zwf2 hws))⟩
  have hlt : i.toNat < N := by have := ht.2; omega
  exact W.iald (g := F0 m pc ls (.int (Int32.ofInt i) :: .ref (zad lo roa f) :: r.map (ztv lo roa sio))) hx hb c1 c2 c3 (zin_n hi ht.2.1 (by rw [← e1]; exact ht.2.2) c4) (v := .int (Int32.ofInt (μ.2.2 f i))) (by rw [z_cl hi ht.2.1, c6 _ hlt]; dsimp only; rw [show ((i.toNat : Nat) : Int) = i by omega]) rfl rfl hd hkk
set_option maxHeartbeats 1000000 in
theorem zs_baload (C : zCtx p R s m args meth c lo roa sio D rS rC d M) (hd : decode (zB M) pc = .ok (.baload, len)) (hn : znext d M pc L st μ (.baload) len = some q) (k : zGo p l e R s m args below meth c Q lo roa sio D rS rC M a1 a2 b1 b2 q) : zGo p l e R s m args below meth c Q lo roa sio D rS rC M a1 a2 b1 b2 (pc, L, st, μ) := by
  intro H locs ls cells slots h1 h2 h3
  dsimp only at h1 h2 h3 ⊢
  obtain ⟨hdyn, hS, hl, hlen, hwl, hws⟩ := h3
  obtain ⟨hx, hb, hml, hown, hts, hr, hlk, hini, hst, hlo, hfr, hlc⟩ := C
  unfold znext at hn
  split at hn <;> try contradiction
  split at hn <;> try contradiction
  split at hn <;> try contradiction
  cases hn
  rename_i i f r ht
  obtain ⟨N, e1, e2, ⟨cell, c1, c2, c3, c4, c5, c6⟩, -⟩ := zread_b hdyn hst.2.2.1 hS ht.1
  have hi := zwf1 hws
  have hkk := k H locs ls cells slots h1 h2 ⟨hdyn, hS, hl, hlen, hwl, zwfc (hdyn.2.2.2.2.1 _ _) (zwf2 (zwf2 hws))⟩
  have hlt : i.toNat < N := by have := ht.2; omega
  exact W.bald (g := F0 m pc ls (.int (Int32.ofInt i) :: .ref (zad lo roa f) :: r.map (ztv lo roa sio))) hx hb c1 c2 c3 (zin_n hi ht.2.1 (by rw [← e1]; exact ht.2.2) c4) (v := .int (Int32.ofInt (μ.2.2 f i))) (by rw [z_cl hi ht.2.1, c6 _ hlt]; dsimp only; rw [show ((i.toNat : Nat) : Int) = i by omega]) rfl rfl hd hkk
set_option maxHeartbeats 1000000 in
theorem zs_aaload (C : zCtx p R s m args meth c lo roa sio D rS rC d M) (hd : decode (zB M) pc = .ok (.aaload, len)) (hn : znext d M pc L st μ (.aaload) len = some q) (k : zGo p l e R s m args below meth c Q lo roa sio D rS rC M a1 a2 b1 b2 q) : zGo p l e R s m args below meth c Q lo roa sio D rS rC M a1 a2 b1 b2 (pc, L, st, μ) := by
  intro H locs ls cells slots h1 h2 h3
  dsimp only at h1 h2 h3 ⊢
  obtain ⟨hdyn, hS, hl, hlen, hwl, hws⟩ := h3
  obtain ⟨hx, hb, hml, hown, hts, hr, hlk, hini, hst, hlo, hfr, hlc⟩ := C
  unfold znext at hn
  split at hn <;> try contradiction
  split at hn <;> try contradiction
  split at hn <;> try contradiction
  rename_i i f r ht
  split at hn <;> try contradiction
  rename_i v hv
  cases hn
  obtain ⟨h8, hqn⟩ := zrange (q := f) hdyn hst.2.2.1 (by omega) (by omega) (by omega) (by omega)
  obtain ⟨cA, N, e1, e2, e3, e4, e5⟩ := (hdyn.2.2.1 f h8 hqn).2.2.2.1 ht.1
  have hi := zwf1 hws
  have hlt : i.toNat < N := by have := ht.2; omega
  have hkk := k H locs ls cells slots h1 h2 ⟨hdyn, hS, hl, hlen, hwl, zwfc trivial (zwf2 (zwf2 hws))⟩
  have h0 := W.aald (g := F0 m pc ls (.int (Int32.ofInt i) :: .ref (lo + (f - 8)) :: r.map (ztv lo roa sio))) hx hb e3 (e4 N _) rfl (fun h => by cases h) (zin_n hi ht.2.1 (by rw [← e1]; exact ht.2.2) (by rw [arrV_size]; exact Nat.le_refl _)) (v := .ref (zad lo roa v)) (by rw [z_cl hi ht.2.1, arrV_read _ _ hlt]; (try dsimp only); rw [show ((i.toNat : Nat) : Int) = i by omega, hv]; rfl) rfl rfl hd hkk
  rw [← zaddr (roa := roa) h8] at h0
  exact h0
set_option maxHeartbeats 1000000 in
theorem zs_arraylength (C : zCtx p R s m args meth c lo roa sio D rS rC d M) (hd : decode (zB M) pc = .ok (.arraylength, len)) (hn : znext d M pc L st μ (.arraylength) len = some q) (k : zGo p l e R s m args below meth c Q lo roa sio D rS rC M a1 a2 b1 b2 q) : zGo p l e R s m args below meth c Q lo roa sio D rS rC M a1 a2 b1 b2 (pc, L, st, μ) := by
  intro H locs ls cells slots h1 h2 h3
  dsimp only at h1 h2 h3 ⊢
  obtain ⟨hdyn, hS, hl, hlen, hwl, hws⟩ := h3
  obtain ⟨hx, hb, hml, hown, hts, hr, hlk, hini, hst, hlo, hfr, hlc⟩ := C
  unfold znext at hn
  split at hn <;> try contradiction
  split at hn <;> try contradiction
  split at hn <;> try contradiction
  cases hn
  rename_i f r ht
  have hkk := k H locs ls cells slots h1 h2 ⟨hdyn, hS, hl, hlen, hwl, zwfc (zlenR hdyn hst.2.2.1 hS ht) (zwf2 hws)⟩
  have hA : ∃ (N : Nat) (ty : FieldType) (g : Nat → Value), (μ.2.1 f).2.1 = (N : Int) ∧ zarr s H (zad lo roa f) ty N g := by
    rcases ht with ht | ht | ht | ht
    · obtain ⟨N, e1, e2, e3⟩ := zread_i hdyn hst.2.2.1 hS (Or.inl ht)
      exact ⟨N, _, _, e1, e3⟩
    · obtain ⟨N, e1, e2, e3, -⟩ := zread_b hdyn hst.2.2.1 hS (Or.inl ht)
      exact ⟨N, _, _, e1, e3⟩
    · obtain ⟨N, e1, e2, e3⟩ := zread_i hdyn hst.2.2.1 hS (Or.inr ht)
      exact ⟨N, _, _, e1, e3⟩
    · obtain ⟨N, e1, e2, e3, -⟩ := zread_b hdyn hst.2.2.1 hS (Or.inr ht)
      exact ⟨N, _, _, e1, e3⟩
  obtain ⟨N, ty, g, e1, cell, c1, c2, c3, c4, c5, c6⟩ := hA
  rw [e1] at hkk
  exact W.alen (g := F0 m pc ls (.ref (zad lo roa f) :: r.map (ztv lo roa sio))) (n := Int32.ofInt (N : Int)) hx hb c1 c2 c5 rfl rfl hd hkk
set_option maxHeartbeats 1000000 in
theorem zs_iastore (C : zCtx p R s m args meth c lo roa sio D rS rC d M) (hd : decode (zB M) pc = .ok (.iastore, len)) (hn : znext d M pc L st μ (.iastore) len = some q) (k : zGo p l e R s m args below meth c Q lo roa sio D rS rC M a1 a2 b1 b2 q) : zGo p l e R s m args below meth c Q lo roa sio D rS rC M a1 a2 b1 b2 (pc, L, st, μ) := by
  intro H locs ls cells slots h1 h2 h3
  dsimp only at h1 h2 h3 ⊢
  obtain ⟨hdyn, hS, hl, hlen, hwl, hws⟩ := h3
  obtain ⟨hx, hb, hml, hown, hts, hr, hlk, hini, hst, hlo, hfr, hlc⟩ := C
  unfold znext at hn
  split at hn <;> try contradiction
  split at hn <;> try contradiction
  split at hn <;> try contradiction
  cases hn
  rename_i x i f r ht
  obtain ⟨h8, hqn⟩ := zrange (q := f) hdyn hst.2.2.1 (by omega) (by omega) (by omega) (by omega)
  obtain ⟨cA, N, e1, e2, e3, e4⟩ := (hdyn.2.2.1 f h8 hqn).2.1 ht.1
  have hi := zwf1 (zwf2 hws)
  have hlt : i.toNat < N := by have := ht.2; omega
  have h0 := W.iast (g := F0 m pc ls (.int (Int32.ofInt x) :: .int (Int32.ofInt i) :: .ref (lo + (f - 8)) :: r.map (ztv lo roa sio))) hx hb e3 (e4 N _) (fun h => by cases h) (zin_n hi ht.2.1 (by rw [← e1]; exact ht.2.2) (by rw [arrV_size]; exact Nat.le_refl _)) rfl rfl hd (fun H1 g1 g2 g3 => k H1 _ ls cells slots h1 h2 ⟨zdyn_set (q := f) hdyn h8 hqn rfl (fun r hr => ⟨rfl, zup_ne hr⟩) (by
      refine ⟨fun h => absurd h (by rw [show (μ.2.1 f).1 = 20 from ht.1]; decide), fun _ => ⟨cA, N, e1, e2, ?_, e4⟩, fun h => absurd (ht.1.symm.trans h) (by decide), fun h => absurd (ht.1.symm.trans h) (by decide), by rw [show (μ.2.1 f).1 = 20 from ht.1]; decide⟩
      rw [g1, z_cl hi ht.2.1, zarr_set hlt]
      congr 2
      funext j
      show updV _ _ _ j = _
      dsimp only
      rw [zup_q]
      unfold updV
      by_cases hj : j = i.toNat
      · rw [if_pos hj, if_pos (by omega)]
      · rw [if_neg hj, if_neg (by omega)]) (fun k => by dsimp only; rw [zup_q]; split <;> first | exact zwf1 hws | exact hdyn.2.2.2.2.1 _ _) g2 g3, zS_put hS g2 g3 (by omega), hl, hlen, hwl, zwf2 (zwf2 (zwf2 hws))⟩)
  rw [← zaddr (roa := roa) h8] at h0
  exact h0
set_option maxHeartbeats 1000000 in
theorem zs_bastore (C : zCtx p R s m args meth c lo roa sio D rS rC d M) (hd : decode (zB M) pc = .ok (.bastore, len)) (hn : znext d M pc L st μ (.bastore) len = some q) (k : zGo p l e R s m args below meth c Q lo roa sio D rS rC M a1 a2 b1 b2 q) : zGo p l e R s m args below meth c Q lo roa sio D rS rC M a1 a2 b1 b2 (pc, L, st, μ) := by
  intro H locs ls cells slots h1 h2 h3
  dsimp only at h1 h2 h3 ⊢
  obtain ⟨hdyn, hS, hl, hlen, hwl, hws⟩ := h3
  obtain ⟨hx, hb, hml, hown, hts, hr, hlk, hini, hst, hlo, hfr, hlc⟩ := C
  unfold znext at hn
  split at hn <;> try contradiction
  split at hn <;> try contradiction
  split at hn <;> try contradiction
  cases hn
  rename_i x i f r ht
  obtain ⟨h8, hqn⟩ := zrange (q := f) hdyn hst.2.2.1 (by omega) (by omega) (by omega) (by omega)
  obtain ⟨cA, N, e1, e2, e3, e4, e5⟩ := (hdyn.2.2.1 f h8 hqn).2.2.1 ht.1
  have hi := zwf1 (zwf2 hws)
  have hlt : i.toNat < N := by have := ht.2; omega
  have hnb : narrow .byte (.int (Int32.ofInt x)) = .int (Int32.ofInt x) := by
    show Value.int (Int32.ofInt x).toInt8.toInt32 = _
    rw [z_i2b (zwf1 hws), show (x + 128) % 256 - 128 = x by have := ht.2.2.2; omega]
  have h0 := W.bast (g := F0 m pc ls (.int (Int32.ofInt x) :: .int (Int32.ofInt i) :: .ref (lo + (f - 8)) :: r.map (ztv lo roa sio))) hx hb e3 (e4 N _) (fun h => by cases h) (zin_n hi ht.2.1 (by rw [← e1]; exact ht.2.2.1) (by rw [arrV_size]; exact Nat.le_refl _)) rfl rfl hd (fun H1 g1 g2 g3 => k H1 _ ls cells slots h1 h2 ⟨zdyn_set (q := f) hdyn h8 hqn rfl (fun r hr => ⟨rfl, zup_ne hr⟩) (by
      refine ⟨fun h => absurd h (by rw [show (μ.2.1 f).1 = 21 from ht.1]; decide), fun h => absurd (ht.1.symm.trans h) (by decide), fun _ => ⟨cA, N, e1, e2, ?_, e4, fun j hj => ?_⟩, fun h => absurd (ht.1.symm.trans h) (by decide), by rw [show (μ.2.1 f).1 = 21 from ht.1]; decide⟩
      · rw [g1, hnb, z_cl hi ht.2.1, zarr_set hlt]
        congr 2
        funext j
        show updV _ _ _ j = _
        dsimp only
        rw [zup_q]
        unfold updV
        by_cases hj : j = i.toNat
        · rw [if_pos hj, if_pos (by omega)]
        · rw [if_neg hj, if_neg (by omega)]
      · dsimp only
        rw [zup_q]
        split
        · exact ht.2.2.2
        · exact e5 j hj) (fun k => by dsimp only; rw [zup_q]; split <;> first | exact zwf1 hws | exact hdyn.2.2.2.2.1 _ _) g2 g3, zS_put hS g2 g3 (by omega), hl, hlen, hwl, zwf2 (zwf2 (zwf2 hws))⟩)
  rw [← zaddr (roa := roa) h8] at h0
  exact h0
end ZS
end
section
/-! one instruction of the interpreter is one of the machine: fields written, new cells, the library's own calls -/
theorem zcast {a b : Nat} : ((a : Int) = (b : Int)) ↔ a = b := by omega
theorem zfv_put {lo : Nat} {roa : Nat → Nat} {μ : zMem} {f kf k : Nat} {x : Int} (h : zrf (μ.2.1 f).1 kf = false) : updV (zfv lo roa μ f) kf (.int (Int32.ofInt x)) k = zfv lo roa (μ.1, (μ.2.1, zup μ.2.2 f kf x)) f k := by
  unfold updV zfv
  dsimp only
  rw [zup_q]
  by_cases e : k = kf
  · subst e
    rw [if_pos rfl, if_neg (by rw [h]; decide), if_pos rfl]
  · rw [if_neg e, if_neg (fun h2 => e (zcast.mp h2))]
theorem zfv_putr {lo : Nat} {roa : Nat → Nat} {μ : zMem} {f kf k v : Nat} (h : zrf (μ.2.1 f).1 kf = true) : updV (zfv lo roa μ f) kf (.ref (zad lo roa v)) k = zfv lo roa (μ.1, (zsup μ.2.1 f ((μ.2.1 f).1, ((μ.2.1 f).2.1, zrup (μ.2.1 f).2.2 kf (some v))), μ.2.2)) f k := by
  unfold updV zfv
  simp only [zsup_q]
  unfold zrup
  by_cases e : k = kf
  · subst e
    rw [if_pos rfl, if_pos h, if_pos rfl]
    rfl
  · rw [if_neg e, if_neg (fun h2 => e (zcast.mp h2))]
section ZS
variable {p : Program} {l : Launch} {e : Env} {R : Room} {s : State} {m : MethodId} {args : Array Value} {below : List Frame} {meth : Method} {c : Code} {Q : State → Prop} {lo : Nat} {roa : Nat → Nat} {sio : Value} {D : va_G} {rS : zSh} {rC : zC} {d M a1 a2 b1 b2 : Nat} {pc len : Nat} {L : zLs} {st : List zV} {μ : zMem} {q : zst}
set_option maxHeartbeats 1000000 in
theorem zs_putfield {i : Nat} (C : zCtx p R s m args meth c lo roa sio D rS rC d M) (hd : decode (zB M) pc = .ok (.putfield i, len)) (hn : znext d M pc L st μ (.putfield i) len = some q) (k : zGo p l e R s m args below meth c Q lo roa sio D rS rC M a1 a2 b1 b2 q) : zGo p l e R s m args below meth c Q lo roa sio D rS rC M a1 a2 b1 b2 (pc, L, st, μ) := by
  intro H locs ls cells slots h1 h2 h3
  dsimp only at h1 h2 h3 ⊢
  obtain ⟨hdyn, hS, hl, hlen, hwl, hws⟩ := h3
  obtain ⟨hx, hb, hml, hown, hts, hr, hlk, hini, hst, hlo, hfr, hlc⟩ := C
  unfold znext at hn
  split at hn <;> try contradiction
  injections
  subst_vars
  rename_i i
  split at hn
  · rename_i x f r ci kf fn hF
    split at hn <;> try contradiction
    rename_i ht
    cases hn
    obtain ⟨Cn, T, N, hc, hk, hlink, hrf, hf0, -⟩ := zFld_ok hF
    obtain ⟨hci, hN, hin, hnm, hty⟩ := zty_ok ci Cn T N hc
    have ht1 := ht.1
    obtain ⟨h8, hqn⟩ := zrange (q := f) hdyn hst.2.2.1 (by omega) (by omega) (by omega) (by omega)
    have hz := hdyn.2.2.1 f h8 hqn
    have hob := hz.1 (by omega)
    rw [ht1, ← hN] at hob
    obtain ⟨n1, n2⟩ := zfit_i ci hci kf (by omega) hrf x ht.2.2
    have h0 := zput_row (rest := r.map (ztv lo roa sio)) (ls := ls) (v := .int (Int32.ofInt x)) (ty := zty ci) hx hb hts hin hty hnm hown hst.1 hc hk hob hlink (Or.inl (hf0 ht.2.1)) n1 n2 hd (fun H1 g1 g2 g3 => k H1 _ ls cells slots h1 h2 ⟨zdyn_set (q := f) hdyn h8 hqn rfl (fun r hr => ⟨rfl, zup_ne hr⟩) (by
        refine ⟨fun _ => ?_, fun h => absurd (ht1.symm.trans h) (by omega), fun h => absurd (ht1.symm.trans h) (by omega), fun h => absurd (ht1.symm.trans h) (by omega), hz.2.2.2.2⟩
        dsimp only
        rw [ht1, ← hN]
        exact g1.to (fun k _ => zfv_put (by rw [ht1]; exact hrf))) (fun k => by dsimp only; rw [zup_q]; split <;> first | exact zwf1 hws | exact hdyn.2.2.2.2.1 _ _) g2 g3, zS_put hS g2 g3 (by omega), hl, hlen, hwl, zwf2 (zwf2 hws)⟩)
    rw [← zaddr (roa := roa) h8] at h0
    exact h0
  · rename_i v f r ci kf fn hF
    split at hn <;> try contradiction
    rename_i ht
    cases hn
    obtain ⟨Cn, T, N, hc, hk, hlink, hrf, hf0, hf1⟩ := zFld_ok hF
    obtain ⟨hci, hN, hin, hnm, hty⟩ := zty_ok ci Cn T N hc
    have ht1 := ht.1
    obtain ⟨h8, hqn⟩ := zrange (q := f) hdyn hst.2.2.1 (by omega) (by omega) (by omega) (by omega)
    have hz := hdyn.2.2.1 f h8 hqn
    have hob := hz.1 (by omega)
    rw [ht1, ← hN] at hob
    obtain ⟨n1, n2⟩ := zfit_r ci hci kf (by omega) hrf (zad lo roa v)
    have h0 := zput_row (rest := r.map (ztv lo roa sio)) (ls := ls) (v := .ref (zad lo roa v)) (ty := zty ci) hx hb hts hin hty hnm hown hst.1 hc hk hob hlink (ht.2.elim (fun e => Or.inl (hf0 e)) (fun e => Or.inr ⟨(hf1 e.1).1, (hf1 e.1).2, hini e.2⟩)) n1 n2 hd (fun H1 g1 g2 g3 => k H1 _ ls cells slots h1 h2 ⟨zdyn_set (q := f) hdyn h8 hqn rfl (fun r hr => ⟨zsup_ne hr, rfl⟩) (by
        refine ⟨fun _ => ?_, fun h => ?_, fun h => ?_, fun h => ?_, ?_⟩
        · dsimp only
          have g9 := g1.to (fun k _ => zfv_putr (k := k) (v := v) (lo := lo) (roa := roa) (μ := μ) (f := f) (kf := kf) (by rw [ht1]; exact hrf))
          rw [hN, ← ht1] at g9
          simp only [zsup_q]
          exact g9
        · dsimp only at h; rw [zsup_q] at h; exact absurd (ht1.symm.trans h) (by omega)
        · dsimp only at h; rw [zsup_q] at h; exact absurd (ht1.symm.trans h) (by omega)
        · dsimp only at h; rw [zsup_q] at h; exact absurd (ht1.symm.trans h) (by omega)
        · dsimp only; rw [zsup_q]; exact hz.2.2.2.2) (fun k => hdyn.2.2.2.2.1 _ _) g2 g3, zS_put hS g2 g3 (by omega), hl, hlen, hwl, zwf2 (zwf2 hws)⟩)
    rw [← zaddr (roa := roa) h8] at h0
    exact h0
  · contradiction
set_option maxHeartbeats 1000000 in
theorem zs_aastore (C : zCtx p R s m args meth c lo roa sio D rS rC d M) (hd : decode (zB M) pc = .ok (.aastore, len)) (hn : znext d M pc L st μ (.aastore) len = some q) (k : zGo p l e R s m args below meth c Q lo roa sio D rS rC M a1 a2 b1 b2 q) : zGo p l e R s m args below meth c Q lo roa sio D rS rC M a1 a2 b1 b2 (pc, L, st, μ) := by
  intro H locs ls cells slots h1 h2 h3
  dsimp only at h1 h2 h3 ⊢
  obtain ⟨hdyn, hS, hl, hlen, hwl, hws⟩ := h3
  obtain ⟨hx, hb, hml, hown, hts, hr, hlk, hini, hst, hlo, hfr, hlc⟩ := C
  unfold znext at hn
  split at hn <;> try contradiction
  split at hn <;> try contradiction
  split at hn <;> try contradiction
  cases hn
  rename_i v i f r ht
  obtain ⟨h8, hqn⟩ := zrange (q := f) hdyn hst.2.2.1 (by omega) (by omega) (by omega) (by omega)
  obtain ⟨h8v, hvn⟩ := zrange (q := v) hdyn hst.2.2.1 (by omega) (by omega) (by omega) (by omega)
  obtain ⟨cA, N, e1, e2, e3, e4, e5⟩ := (hdyn.2.2.1 f h8 hqn).2.2.2.1 ht.1
  have hi : zInR i := zwf1 (zwf2 hws)
  have hlt : i.toNat < N := by have := ht.2; omega
  have hobv := (hdyn.2.2.1 v h8v hvn).1 (by omega)
  rw [ht.2.1] at hobv
  obtain ⟨cellV, g1, g2, g3, -⟩ := hobv
  have hcls := (hst.1.1 8 _ rfl).2
  obtain ⟨kA, comp, k1, k2, k3, -⟩ := e5
  have hcomp : comp = D.1 8 := Option.some.inj (k3.symm.trans hcls.1)
  subst hcomp
  have hcls0 := hcls
  obtain ⟨kC, hkC, -⟩ := hcls.2
  have e5 : va_RA s cA (.object RX7) := ((hdyn.2.2.1 f h8 hqn).2.2.2.1 ht.1).elim (fun cA2 h => h.elim (fun N2 h => by
    have e9 : cA2 = cA := by
      have h9 := h.2.2.1.symm.trans e3
      simp only [Option.some.injEq, arrV, Cell.mk.injEq] at h9
      exact h9.1
    exact e9 ▸ h.2.2.2.2))
  have h0 := W.aast (g := F0 m pc ls (.ref (lo + (v - 8)) :: .int (Int32.ofInt i) :: .ref (lo + (f - 8)) :: r.map (ztv lo roa sio))) hx hb e3 (fun q h => by cases h) (fun h => by cases h) k1 k2 rfl hkC ⟨fun h => by rw [z_0, z_lt hi ⟨by decide, by decide⟩] at h; omega, by rw [arrV_size, z_cl hi ht.2.2.1]; exact hlt⟩ g1 (fun q h => by rw [g3] at h; cases h) (by rw [g2]; exact hkC) (by rw [g2]; exact va_assign hcls0) rfl rfl hd (fun H1 y1 y2 y3 => k H1 _ ls cells slots h1 h2 ⟨zdyn_set (q := f) hdyn h8 hqn rfl (fun r hr => ⟨zsup_ne hr, rfl⟩) (by
      refine ⟨fun h => ?_, fun h => ?_, fun h => ?_, fun h => ?_, ?_⟩
      · dsimp only at h; rw [zsup_q] at h; exact absurd h (by show ¬ (μ.2.1 f).1 < 11; omega)
      · dsimp only at h; rw [zsup_q] at h; exact absurd (ht.1.symm.trans h) (by decide)
      · dsimp only at h; rw [zsup_q] at h; exact absurd (ht.1.symm.trans h) (by decide)
      · refine ⟨cA, N, ?_, e2, ?_, e4, e5⟩
        · dsimp only; rw [zsup_q]; exact e1
        · dsimp only
          rw [zsup_q, y1, z_cl hi ht.2.2.1, zarr_set hlt]
          congr 2
          funext j
          show updV _ _ _ j = _
          unfold updV zrup
          dsimp only
          by_cases hj : j = i.toNat
          · rw [if_pos hj, if_pos (by omega), ← zaddr (roa := roa) h8v]
            rfl
          · rw [if_neg hj, if_neg (by omega)]
      · dsimp only; rw [zsup_q]; exact (hdyn.2.2.1 f h8 hqn).2.2.2.2) (fun k => hdyn.2.2.2.2.1 _ _) y2 y3, zS_put hS y2 y3 (by omega), hl, hlen, hwl, zwf2 (zwf2 (zwf2 hws))⟩)
  rw [← zaddr (roa := roa) h8, ← zaddr (roa := roa) h8v] at h0
  exact h0
end ZS
end
section
/-! one instruction of the interpreter is one of the machine: new cells, the library's own calls -/
theorem zCall_ok {own idx kd M' n : Nat} (h : zCall own idx = some (kd, M', n)) : ∃ ps : List Nat, zokc ((own, idx), (kd, M', n), ps) = true := by
  unfold zCall at h
  rw [Option.map_eq_some_iff] at h
  obtain ⟨e, h1, h2⟩ := h
  obtain ⟨hm, he⟩ := zfind h1
  have h3 := List.all_eq_true.mp zcalls_ok e hm
  refine ⟨e.2.2, ?_⟩
  rw [← h2, ← he]
  exact h3
theorem zCall_m {own idx kd M' n : Nat} (h : zCall own idx = some (kd, M', n)) : ∀ w ∈ zwords kd own idx (zY M'), w ∈ ztbl := by
  obtain ⟨ps, h1⟩ := zCall_ok h
  unfold zokc at h1
  simp only [Bool.and_eq_true, decide_eq_true_eq] at h1
  obtain ⟨⟨h2, -⟩, -⟩ := h1
  intro w hw
  have h3 : some w ∈ (zwords kd own idx (zY M')).map some := List.mem_map.mpr ⟨w, hw, rfl⟩
  rw [h2] at h3
  obtain ⟨i, -, hi⟩ := List.mem_map.mp h3
  exact List.mem_of_getElem? hi
theorem zCall_g {own idx kd M' n : Nat} (h : zCall own idx = some (kd, M', n)) (hk : kd ≠ 4) : ∀ w ∈ zwords kd own idx (zY M'), w ∈ zgw := by
  obtain ⟨ps, h1⟩ := zCall_ok h
  unfold zokc at h1
  simp only [Bool.and_eq_true] at h1
  obtain ⟨⟨-, h2⟩, -⟩ := h1
  rw [if_neg hk] at h2
  intro w hw
  exact List.mem_filter.mpr ⟨zCall_m h w hw, List.all_eq_true.mp h2 w hw⟩
theorem zCall_g4 {own idx M' n : Nat} (h : zCall own idx = some (4, M', n)) : ∀ w ∈ (zwords 4 own idx (zY M')).drop 1, w ∈ zgw := by
  obtain ⟨ps, h1⟩ := zCall_ok h
  unfold zokc at h1
  simp only [Bool.and_eq_true] at h1
  obtain ⟨⟨-, h2⟩, -⟩ := h1
  rw [if_pos trivial] at h2
  intro w hw
  exact List.mem_filter.mpr ⟨zCall_m h w (List.mem_of_mem_drop hw), List.all_eq_true.mp h2 w hw⟩
theorem zCall_s {own idx kd M' n : Nat} (h : zCall own idx = some (kd, M', n)) (hk : kd < 6) : (zY M').cls ≠ "java/lang/invoke/MethodHandle" ∧ (zY M').cls ≠ "java/lang/invoke/VarHandle" ∧ (parseMethodDescriptor (zY M').desc).map (fun d => d.parameters.length) = some n ∧ (kd = 3 ∨ kd = 4 → (zY M').name = "<init>" ∧ zR M' = none) ∧ (kd = 5 → (zY M').name ≠ "<init>") := by
  obtain ⟨ps, h1⟩ := zCall_ok h
  unfold zokc at h1
  simp only [Bool.and_eq_true, Bool.or_eq_true, decide_eq_true_eq, Bool.not_eq_true', Bool.or_eq_false_iff, beq_eq_false_iff_ne, ne_eq] at h1
  obtain ⟨-, h2⟩ := h1
  have h3 := h2.resolve_left (by omega)
  obtain ⟨⟨⟨⟨g1, g2⟩, g3⟩, g4⟩, g5⟩ := h3
  exact ⟨g1, g2, g3, fun e => g4.resolve_left (by omega), fun e => g5.resolve_left (by omega)⟩
theorem zdef_ok : ∀ ci, ci < 11 → ∀ k, k < znf ci → defaultValue (zty ci k) = (if zrf ci k = true then .null else .int 0) := by decide +kernel
theorem zarrw : Cond.arrayClass .int ∈ zgw ∧ Cond.arrayClass .byte ∈ zgw := ⟨zgw_mem (i := 124) rfl rfl, zgw_mem (i := 332) rfl rfl⟩
theorem znfw : nativeFrameWords "java/lang/System" "arraycopy" 5 ≤ 20 := by decide
section ZC
variable {p : Program} {l : Launch} {e : Env} {R : Room} {s : State} {m : MethodId} {args : Array Value} {below : List Frame} {meth : Method} {c : Code} {Q : State → Prop} {H : Heap} {locs : List Loc} {cells slots : Nat} {cc : ByteArray} {pc : Nat} {ls : Array Slot} {rest : List Value}
theorem zcopy_row (hx : p.tables.exec = Jvm.exec) (hb : c.code = cc) (hml : c.maxLocals = ls.size) {own : String} {index : Nat} (hown : s.vm.findClass own = some m.cls) (hlink : (Cond.methodLink own index arraycopyName).before args s = true) (hnat : (Cond.native arraycopyName).before args s = true) (hstat : (Cond.static arraycopyName).before args s = true) (hini : (Cond.initialized "java/lang/System").before args s = true)
    {a b n0 n1 : Nat} {c1 : ClassId} {f g : Nat → Int32} {ty : FieldType} (hprim : refKind ty = false) (ha : zarr s H a ty n0 (fun j => .int (f j))) (hbH : H[b]? = some (arrV c1 n1 (fun j => .int (g j)))) (hbT : ArrOfT s c1 ty)
    {sp dp n : Int32} (h1 : ¬ sp < 0) (h2 : ¬ dp < 0) (h3 : ¬ n < 0) (h4 : sp.toNatClampNeg + n.toNatClampNeg ≤ n0) (h5 : dp.toNatClampNeg + n.toNatClampNeg ≤ n1) (hfit : ∀ i, i < n.toNatClampNeg → fits ty (.int (f (sp.toNatClampNeg + i))) = true)
    (hframes : 1 ≤ R.frames) (hlocals : (rest.map fun v => v.category).sum + (nativeFrameWords "java/lang/System" "arraycopy" 5 + 11) ≤ R.locals) (hdg : decode cc pc = .ok (.invokestatic index, 3))
    (kk : ∀ (H1 : Heap) (locs1 : List Loc), H1[b]? = some (arrV c1 n1 (fun j => .int (va_cpy f g sp.toNatClampNeg dp.toNatClampNeg n.toNatClampNeg j))) → H1.size = H.size → (∀ q, q ≠ b → H1[q]? = H[q]?) → (∀ lc ∈ locs1, lc ∈ locs ∨ lc.base = b) → W p l e R s m args below meth c H1 locs1 cells slots Q (F0 m (pc + 3) ls rest)) : W p l e R s m args below meth c H locs cells slots Q (F0 m pc ls (.int n :: .int dp :: .ref b :: .int sp :: .ref a :: rest)) := by
  have nn : ∀ z : Int32, ¬ z < 0 → z.toInt = (z.toNatClampNeg : Int) := by
    intro z hz
    have hz0 : (0 : Int) ≤ z.toInt := by
      have := Int32.not_lt.mp hz
      simpa using Int32.le_iff_toInt_le.mp this
    show z.toInt = ((z.toInt.toNat : Nat) : Int)
    omega
  intro T hT X
  obtain ⟨cell, c1', c2, c3, c4, c5, c6⟩ := ha
  obtain ⟨s0, k0, hk0, cm0, hkk0⟩ := c2
  obtain ⟨s1, k1, hk1, cm1, hkk1⟩ := hbT n1 (fun j => .int (g j))
  obtain ⟨vm', X', step⟩ := X.arraycopy hx hown hlink hnat hstat hini (src := a) (dst := b) (cs := cell) (cd := arrV c1 n1 (fun j => .int (g j))) (srcPos := sp) (destPos := dp) (n := n) (by rw [hT]; exact c1') (by rw [hT]; exact hbH)
    s0 s1 c3 (fun h => by cases h) hk0 hk1 hkk0 hkk1 (by simp [hprim]) h1 h2 h3
    (by rw [nn sp h1, nn n h3]; omega)
    (by rw [nn dp h2, nn n h3, arrV_size]; omega)
    (fun vm₁ _ i hi => by
      have e : cell.slots.getD (sp.toNatClampNeg + i) .null = .int (f (sp.toNatClampNeg + i)) := by
        rw [Array.getD_eq_getD_getElem?, c6 _ (by omega)]
        rfl
      refine ⟨?_, ?_⟩
      · rw [e]
        exact hfit i hi
      · rw [e]
        exact trivial)
    (g := F0 m pc ls (.int n :: .int dp :: .ref b :: .int sp :: .ref a :: rest)) rfl (by rw [hml]) (rest := rest) rfl (by rw [hb]; exact hdg) hframes (by show 2 * 0 + _ + _ ≤ _; omega)
  have e1 : copied cell (arrV c1 n1 (fun j => .int (g j))) sp dp n = arrV c1 n1 (fun j => .int (va_cpy f g sp.toNatClampNeg dp.toNatClampNeg n.toNatClampNeg j)) := va_copiedX (fun z => .int z) cell c1 f g c6 h4
  rw [e1] at X' step
  have hl : b < H.size := (Array.getElem?_eq_some_iff.mp hbH).1
  have hheap : ((T.setVm vm').setCell b (arrV c1 n1 (fun j => .int (va_cpy f g sp.toNatClampNeg dp.toNatClampNeg n.toNatClampNeg j)))).heap = H.setIfInBounds b (arrV c1 n1 (fun j => .int (va_cpy f g sp.toNatClampNeg dp.toNatClampNeg n.toNatClampNeg j))) := by rw [← hT]; rfl
  obtain ⟨t, y1, y2⟩ := kk _ _ (by simp [Array.getElem?_setIfInBounds, hl]) (by simp) (fun q hq => by simp [Array.getElem?_setIfInBounds, Ne.symm hq]) (fun lc hlc => by
      rcases List.mem_append.mp hlc with h | h
      · exact Or.inl h
      · obtain ⟨z, -, hz⟩ := List.mem_map.mp h
        exact Or.inr (by rw [← hz])) _ hheap X'
  exact ⟨t, step t y1, y2⟩
end ZC
section ZS
variable {p : Program} {l : Launch} {e : Env} {R : Room} {s : State} {m : MethodId} {args : Array Value} {below : List Frame} {meth : Method} {c : Code} {Q : State → Prop} {lo : Nat} {roa : Nat → Nat} {sio : Value} {D : va_G} {rS : zSh} {rC : zC} {d M a1 a2 b1 b2 : Nat} {pc len : Nat} {L : zLs} {st : List zV} {μ : zMem} {q : zst}
set_option maxHeartbeats 1000000 in
theorem zs_new {i : Nat} (C : zCtx p R s m args meth c lo roa sio D rS rC d M) (hd : decode (zB M) pc = .ok (.new i, len)) (hn : znext d M pc L st μ (.new i) len = some q) (hrm : q.2.2.2.1.1 + b1 ≤ R.cells + a1 ∧ q.2.2.2.1.2 + b2 ≤ R.slots + a2) (k : zGo p l e R s m args below meth c Q lo roa sio D rS rC M a1 a2 b1 b2 q) : zGo p l e R s m args below meth c Q lo roa sio D rS rC M a1 a2 b1 b2 (pc, L, st, μ) := by
  intro H locs ls cells slots h1 h2 h3
  dsimp only at h1 h2 h3 ⊢
  obtain ⟨hdyn, hS, hl, hlen, hwl, hws⟩ := h3
  obtain ⟨hx, hb, hml, hown, hts, hr, hlk, hini, hst, hlo, hfr, hlc⟩ := C
  unfold znext at hn
  split at hn <;> try contradiction
  injections
  subst_vars
  rename_i i
  split at hn <;> try contradiction
  rename_i ci hN
  cases hn
  dsimp only at hrm
  obtain ⟨Cn, T, N, hc, w1, w2, w3⟩ := zNew_ok hN
  obtain ⟨hci, hNn, hin, hnm, hty⟩ := zty_ok ci Cn T N hc
  have hKn := hst.1.1 ci _ hc
  subst hNn
  have eA : zad lo roa μ.1.1 = H.size := by rw [zaddr hdyn.2.1]; have := hdyn.1; have := hdyn.2.1; omega
  refine W.newcK hx hb hown (hts _ w1) (hts _ w2) (hts _ w3) rfl hd (by omega) (by omega) hKn.2.1 rfl fun H1 kC hkC e1 z1 o1 => ?_
  have h0 := k H1 locs ls (cells + 1) (slots + znf ci) (by dsimp only; omega) (by dsimp only; omega) ⟨zdyn_push hdyn (by
      refine ⟨fun _ => ?_, fun h => ?_, fun h => ?_, fun h => ?_, ?_⟩
      · simp only [zsup_q]
        have hb0 := u_born (zty ci) hts hin hKn hkC e1 hty
        rw [show lo + (μ.1.1 - 8) = H.size by have := hdyn.1; have := hdyn.2.1; omega]
        refine hb0.to (fun j hj => ?_)
        rw [zdef_ok ci hci j hj]
        unfold zfv
        simp only [zsup_q]
        cases zrf ci j
        · rw [if_neg (by decide), if_neg (by decide)]
          unfold zfr
          rw [if_pos rfl]
          rfl
        · rw [if_pos rfl, if_pos rfl]
          rfl
      · simp only [zsup_q] at h; omega
      · simp only [zsup_q] at h; omega
      · simp only [zsup_q] at h; omega
      · simp only [zsup_q]; omega) z1 o1, ⟨Nat.le_trans hS.1 (by omega), fun x y1 y2 => (o1 x (Nat.lt_of_lt_of_le y1 hS.1)).trans (hS.2.1 x y1 y2), hS.2.2⟩, hl, hlen, hwl, zwfc trivial hws⟩
  simp only [List.map_cons, ztv, eA] at h0
  exact h0
set_option maxHeartbeats 1000000 in
theorem zs_newarray_i (C : zCtx p R s m args meth c lo roa sio D rS rC d M) (hd : decode (zB M) pc = .ok (.newarray .int, len)) (hn : znext d M pc L st μ (.newarray .int) len = some q) (hrm : q.2.2.2.1.1 + b1 ≤ R.cells + a1 ∧ q.2.2.2.1.2 + b2 ≤ R.slots + a2) (k : zGo p l e R s m args below meth c Q lo roa sio D rS rC M a1 a2 b1 b2 q) : zGo p l e R s m args below meth c Q lo roa sio D rS rC M a1 a2 b1 b2 (pc, L, st, μ) := by
  intro H locs ls cells slots h1 h2 h3
  dsimp only at h1 h2 h3 ⊢
  obtain ⟨hdyn, hS, hl, hlen, hwl, hws⟩ := h3
  obtain ⟨hx, hb, hml, hown, hts, hr, hlk, hini, hst, hlo, hfr, hlc⟩ := C
  unfold znext at hn
  split at hn <;> try contradiction
  split at hn <;> try contradiction
  split at hn <;> try contradiction
  cases hn
  rename_i x r hx0
  dsimp only at hrm
  have hxr := zwf1 hws
  have eA : zad lo roa μ.1.1 = H.size := by rw [zaddr hdyn.2.1]; have := hdyn.1; have := hdyn.2.1; omega
  have hcl := z_cl hxr hx0.1
  refine va_newaK (atype := .int) (N := x.toNat) hx hb (hts _ zarrw.1) (g := F0 m pc ls (.int (Int32.ofInt x) :: r.map (ztv lo roa sio))) rfl hd rfl (fun h => by rw [z_0, z_lt hxr ⟨by decide, by decide⟩] at h; omega) hcl (by show x.toNat * componentBytes .int ≤ _; rw [show componentBytes .int = 4 from rfl]; omega) (by omega) (by omega) rfl fun H1 cA e1 z1 o1 hAr hNm => ?_
  have h0 := k H1 locs ls (cells + 1) (slots + x.toNat) (by dsimp only; omega) (by dsimp only; omega) ⟨zdyn_push hdyn (by
      refine ⟨fun h => ?_, fun h => ?_, fun h => ?_, fun h => ?_, ?_⟩
      · simp only [zsup_q] at h; omega
      · refine ⟨cA, x.toNat, ?_, by omega, ?_, hAr⟩
        · simp only [zsup_q]; omega
        · rw [show lo + (μ.1.1 - 8) = H.size by have := hdyn.1; have := hdyn.2.1; omega, e1]
          congr 2
          funext j
          dsimp only
          unfold zfr
          rw [if_pos rfl]
          rfl
      · simp only [zsup_q] at h; omega
      · simp only [zsup_q] at h; omega
      · simp only [zsup_q]; omega) z1 o1, ⟨Nat.le_trans hS.1 (by omega), fun x y1 y2 => (o1 x (Nat.lt_of_lt_of_le y1 hS.1)).trans (hS.2.1 x y1 y2), hS.2.2⟩, hl, hlen, hwl, zwfc trivial (zwf2 hws)⟩
  simp only [List.map_cons, ztv, eA] at h0
  exact h0
set_option maxHeartbeats 1000000 in
theorem zs_newarray_b (C : zCtx p R s m args meth c lo roa sio D rS rC d M) (hd : decode (zB M) pc = .ok (.newarray .byte, len)) (hn : znext d M pc L st μ (.newarray .byte) len = some q) (hrm : q.2.2.2.1.1 + b1 ≤ R.cells + a1 ∧ q.2.2.2.1.2 + b2 ≤ R.slots + a2) (k : zGo p l e R s m args below meth c Q lo roa sio D rS rC M a1 a2 b1 b2 q) : zGo p l e R s m args below meth c Q lo roa sio D rS rC M a1 a2 b1 b2 (pc, L, st, μ) := by
  intro H locs ls cells slots h1 h2 h3
  dsimp only at h1 h2 h3 ⊢
  obtain ⟨hdyn, hS, hl, hlen, hwl, hws⟩ := h3
  obtain ⟨hx, hb, hml, hown, hts, hr, hlk, hini, hst, hlo, hfr, hlc⟩ := C
  unfold znext at hn
  split at hn <;> try contradiction
  split at hn <;> try contradiction
  split at hn <;> try contradiction
  cases hn
  rename_i x r hx0
  dsimp only at hrm
  have hxr := zwf1 hws
  have eA : zad lo roa μ.1.1 = H.size := by rw [zaddr hdyn.2.1]; have := hdyn.1; have := hdyn.2.1; omega
  have hcl := z_cl hxr hx0.1
  refine va_newaK (atype := .byte) (N := x.toNat) hx hb (hts _ zarrw.2) (g := F0 m pc ls (.int (Int32.ofInt x) :: r.map (ztv lo roa sio))) rfl hd rfl (fun h => by rw [z_0, z_lt hxr ⟨by decide, by decide⟩] at h; omega) hcl (by show x.toNat * componentBytes .byte ≤ _; rw [show componentBytes .byte = 1 from rfl]; omega) (by omega) (by omega) rfl fun H1 cA e1 z1 o1 hAr hNm => ?_
  have h0 := k H1 locs ls (cells + 1) (slots + x.toNat) (by dsimp only; omega) (by dsimp only; omega) ⟨zdyn_push hdyn (by
      refine ⟨fun h => ?_, fun h => ?_, fun h => ?_, fun h => ?_, ?_⟩
      · simp only [zsup_q] at h; omega
      · simp only [zsup_q] at h; omega
      · refine ⟨cA, x.toNat, ?_, by omega, ?_, hAr, fun j hj => by dsimp only; unfold zfr; rw [if_pos rfl]; omega⟩
        · simp only [zsup_q]; omega
        · rw [show lo + (μ.1.1 - 8) = H.size by have := hdyn.1; have := hdyn.2.1; omega, e1]
          congr 2
          funext j
          dsimp only
          unfold zfr
          rw [if_pos rfl]
          rfl
      · simp only [zsup_q] at h; omega
      · simp only [zsup_q]; omega) z1 o1, ⟨Nat.le_trans hS.1 (by omega), fun x y1 y2 => (o1 x (Nat.lt_of_lt_of_le y1 hS.1)).trans (hS.2.1 x y1 y2), hS.2.2⟩, hl, hlen, hwl, zwfc trivial (zwf2 hws)⟩
  simp only [List.map_cons, ztv, eA] at h0
  exact h0
set_option maxHeartbeats 1000000 in
theorem zs_anewarray {i : Nat} (C : zCtx p R s m args meth c lo roa sio D rS rC d M) (hd : decode (zB M) pc = .ok (.anewarray i, len)) (hn : znext d M pc L st μ (.anewarray i) len = some q) (hrm : q.2.2.2.1.1 + b1 ≤ R.cells + a1 ∧ q.2.2.2.1.2 + b2 ≤ R.slots + a2) (k : zGo p l e R s m args below meth c Q lo roa sio D rS rC M a1 a2 b1 b2 q) : zGo p l e R s m args below meth c Q lo roa sio D rS rC M a1 a2 b1 b2 (pc, L, st, μ) := by
  intro H locs ls cells slots h1 h2 h3
  dsimp only at h1 h2 h3 ⊢
  obtain ⟨hdyn, hS, hl, hlen, hwl, hws⟩ := h3
  obtain ⟨hx, hb, hml, hown, hts, hr, hlk, hini, hst, hlo, hfr, hlc⟩ := C
  unfold znext at hn
  split at hn <;> try contradiction
  injections
  subst_vars
  rename_i i
  split at hn <;> try contradiction
  split at hn <;> try contradiction
  cases hn
  rename_i x r hx0
  dsimp only at hrm
  obtain ⟨Cn, T, N, hc, w1, w2, w3⟩ := zNew_ok hx0.2.2
  cases hc
  have hxr := zwf1 hws
  have eA : zad lo roa μ.1.1 = H.size := by rw [zaddr hdyn.2.1]; have := hdyn.1; have := hdyn.2.1; omega
  have hcl := z_cl hxr hx0.1
  refine W.anew hx hb hown (hts _ w1) (va_AO.use hst.2.2.2.2.2.2) (g := F0 m pc ls (.int (Int32.ofInt x) :: r.map (ztv lo roa sio))) rfl hd rfl (fun h => by rw [z_0, z_lt hxr ⟨by decide, by decide⟩] at h; omega) (by rw [hcl]; omega) (by omega) (by rw [hcl]; omega) fun cA kA comp f1 f2 f3 f4 => ?_
  rw [hcl]
  generalize hH1 : H.push ({ cls := cA, slots := Array.replicate x.toNat .null, vm := .none } : Cell) = H1
  have z1 : H1.size = H.size + 1 := by rw [← hH1, Array.size_push]
  have e1 : H1[H.size]? = some (arrV cA x.toNat (fun _ => .null)) := by rw [← hH1, Array.getElem?_push_size, ← arrV_new]
  have o1 : ∀ q : Nat, q < H.size → H1[q]? = H[q]? := fun q hq => by rw [← hH1, Array.getElem?_push, if_neg (Nat.ne_of_lt hq)]
  have hAr : ArrOfT s cA (.object RX7) := fun N z => ⟨(fun k h => by cases h), kA, f2, comp, f3⟩
  have h0 := k H1 locs ls (cells + 1) (slots + x.toNat) (by dsimp only; omega) (by dsimp only; omega) ⟨zdyn_push hdyn (by
      refine ⟨fun h => ?_, fun h => ?_, fun h => ?_, fun h => ?_, ?_⟩
      · simp only [zsup_q] at h; omega
      · simp only [zsup_q] at h; omega
      · simp only [zsup_q] at h; omega
      · refine ⟨cA, x.toNat, ?_, by omega, ?_, hAr, kA, comp, f2, f3, f4, f1⟩
        · simp only [zsup_q]; omega
        · rw [show lo + (μ.1.1 - 8) = H.size by have := hdyn.1; have := hdyn.2.1; omega, e1]
          simp only [zsup_q]
          rfl
      · simp only [zsup_q]; omega) z1 o1, ⟨Nat.le_trans hS.1 (by omega), fun x y1 y2 => (o1 x (Nat.lt_of_lt_of_le y1 hS.1)).trans (hS.2.1 x y1 y2), hS.2.2⟩, hl, hlen, hwl, zwfc trivial (zwf2 hws)⟩
  simp only [List.map_cons, ztv, eA] at h0
  exact h0
set_option maxHeartbeats 1000000 in
theorem zs_invokespecial {i : Nat} (C : zCtx p R s m args meth c lo roa sio D rS rC d M) (hd : decode (zB M) pc = .ok (.invokespecial i, len)) (hn : znext d M pc L st μ (.invokespecial i) len = some q) (k : zGo p l e R s m args below meth c Q lo roa sio D rS rC M a1 a2 b1 b2 q) : zGo p l e R s m args below meth c Q lo roa sio D rS rC M a1 a2 b1 b2 (pc, L, st, μ) := by
  intro H locs ls cells slots h1 h2 h3
  dsimp only at h1 h2 h3 ⊢
  obtain ⟨hdyn, hS, hl, hlen, hwl, hws⟩ := h3
  obtain ⟨hx, hb, hml, hown, hts, hr, hlk, hini, hst, hlo, hfr, hlc⟩ := C
  unfold znext at hn
  split at hn <;> try contradiction
  injections
  subst_vars
  rename_i i
  split at hn <;> try contradiction
  split at hn <;> try contradiction
  cases hn
  rename_i q0 r u1 u2 hC hq
  have hw := zCall_g hC (by decide)
  exact W.objInit (g := F0 m pc ls (.ref (zad lo roa q0) :: r.map (ztv lo roa sio))) hx hb hown (hts _ (hw _ (by simp [zwords]))) (hts _ (hw _ (by simp [zwords]))) (hts _ (hw _ (by simp [zwords]))) rfl (by rw [hml]; exact hl.1) rfl hd (by omega) (by rw [zcats lo roa hst.2.1]; show 2 * 0 + _ + _ ≤ _; omega) (k H locs ls cells slots h1 h2 ⟨hdyn, hS, hl, hlen, hwl, zwf2 hws⟩)
end ZS
end
section
/-! one instruction of the interpreter is one of the machine: arraycopy, min, max; all of them together; nothing is taken back -/
theorem z_fitb {x : Int} (h : zInR x) (h1 : -128 ≤ x ∧ x < 128) : fits .byte (.int (Int32.ofInt x)) = true := by
  have e : Int32.ofInt x = (Int32.ofInt x).toInt8.toInt32 := by rw [z_i2b h, show (x + 128) % 256 - 128 = x by omega]
  rw [e]
  exact pk_fb _
theorem z_min {x y : Int} (hx : zInR x) (hy : zInR y) : (if Int32.ofInt y < Int32.ofInt x then Int32.ofInt y else Int32.ofInt x) = Int32.ofInt (if y < x then y else x) := by
  by_cases h : y < x
  · rw [if_pos h, if_pos ((z_lt hy hx).mpr h)]
  · rw [if_neg h, if_neg (fun h2 => h ((z_lt hy hx).mp h2))]
theorem z_max {x y : Int} (hx : zInR x) (hy : zInR y) : (if Int32.ofInt x < Int32.ofInt y then Int32.ofInt y else Int32.ofInt x) = Int32.ofInt (if x < y then y else x) := by
  by_cases h : x < y
  · rw [if_pos h, if_pos ((z_lt hx hy).mpr h)]
  · rw [if_neg h, if_neg (fun h2 => h ((z_lt hx hy).mp h2))]
theorem zcpy_ne {c : zC} {a b r : Nat} {sp dp n : Int} (h : r ≠ b) : zcpy c a sp b dp n r = c r := by
  funext k
  unfold zcpy
  rw [if_neg (fun h2 => h h2.1)]
theorem zcpy_q {c : zC} {a b : Nat} {sp dp n k : Int} : zcpy c a sp b dp n b k = if dp ≤ k ∧ k < dp + n then c a (sp + (k - dp)) else c b k := by
  unfold zcpy
  by_cases h : dp ≤ k ∧ k < dp + n
  · rw [if_pos ⟨rfl, h⟩, if_pos h]
  · rw [if_neg (fun h2 => h h2.2), if_neg h]
theorem zcpy_f {c : zC} {a b n0 n1 : Nat} {sp dp n : Int} (h1 : 0 ≤ sp) (h2 : 0 ≤ dp) (h3 : 0 ≤ n) (j : Nat) :
    Int32.ofInt (zcpy c a sp b dp n b (j : Int)) = va_cpy (fun j : Nat => Int32.ofInt (c a (j : Int))) (fun j : Nat => Int32.ofInt (c b (j : Int))) sp.toNat dp.toNat n.toNat j := by
  rw [zcpy_q]
  unfold va_cpy
  by_cases h : dp ≤ (j : Int) ∧ (j : Int) < dp + n
  · rw [if_pos h, if_pos (by omega)]
    congr 2
    omega
  · rw [if_neg h, if_neg (by omega)]
section ZS
variable {p : Program} {l : Launch} {e : Env} {R : Room} {s : State} {m : MethodId} {args : Array Value} {below : List Frame} {meth : Method} {c : Code} {Q : State → Prop} {lo : Nat} {roa : Nat → Nat} {sio : Value} {D : va_G} {rS : zSh} {rC : zC} {d M a1 a2 b1 b2 : Nat} {pc len : Nat} {L : zLs} {st : List zV} {μ : zMem} {q : zst}
set_option maxHeartbeats 2000000 in
theorem zs_invokestatic {i : Nat} (C : zCtx p R s m args meth c lo roa sio D rS rC d M) (hd : decode (zB M) pc = .ok (.invokestatic i, len)) (hn : znext d M pc L st μ (.invokestatic i) len = some q) (hrm : q.2.2.2.1.1 + b1 ≤ R.cells + a1 ∧ q.2.2.2.1.2 + b2 ≤ R.slots + a2) (k : zGo p l e R s m args below meth c Q lo roa sio D rS rC M a1 a2 b1 b2 q) : zGo p l e R s m args below meth c Q lo roa sio D rS rC M a1 a2 b1 b2 (pc, L, st, μ) := by
  intro H locs ls cells slots h1 h2 h3
  dsimp only at h1 h2 h3 ⊢
  obtain ⟨hdyn, hS, hl, hlen, hwl, hws⟩ := h3
  obtain ⟨hx, hb, hml, hown, hts, hr, hlk, hini, hst, hlo, hfr, hlc⟩ := C
  unfold znext at hn
  split at hn <;> try contradiction
  injections
  subst_vars
  rename_i i
  split at hn <;> try contradiction
  · rename_i n dp b sp a r u1 u2 hC
    split at hn <;> try contradiction
    rename_i hq
    cases hn
    have hw := zCall_g hC (by decide)
    obtain ⟨hd1, hsum, htag, hsp, hdp, hnn, hs1, hs2⟩ := hq
    have wn := zwf1 hws
    have wdp := zwf1 (zwf2 hws)
    have wsp := zwf1 (zwf2 (zwf2 (zwf2 hws)))
    have hfw := znfw
    have q0 : ∀ z : Int, zInR z → 0 ≤ z → ¬ Int32.ofInt z < 0 := fun z hz h0 h => by rw [z_0, z_lt hz ⟨by decide, by decide⟩] at h; omega
    rcases htag with ⟨ta, tb⟩ | ⟨ta, tb⟩
    · obtain ⟨h8, hqn⟩ := zrange (q := b) hdyn hst.2.2.1 (by omega) (by omega) (by omega) (by omega)
      obtain ⟨cA, N, e1, e2, e3, e4⟩ := (hdyn.2.2.1 b h8 hqn).2.1 tb
      obtain ⟨N0, f1, f2, f3⟩ := zread_i (q := a) hdyn hst.2.2.1 hS (Or.inl ta)
      have h0 := zcopy_row (rest := r.map (ztv lo roa sio)) (ls := ls) (f := fun j : Nat => Int32.ofInt (μ.2.2 a (j : Int))) (g := fun j : Nat => Int32.ofInt (μ.2.2 b (j : Int))) hx hb (hml.trans hl.1.symm) hown (hts _ (hw _ (by simp [zwords]))) (hts _ (hw _ (by simp [zwords]))) (hts _ (hw _ (by simp [zwords]))) (hts _ (hw _ (by simp [zwords]))) (ty := .int) rfl f3 e3 e4 (q0 _ wsp hsp) (q0 _ wdp hdp) (q0 _ wn hnn) (by rw [z_cl wsp hsp, z_cl wn hnn]; omega) (by rw [z_cl wdp hdp, z_cl wn hnn]; omega) (fun i _ => rfl) (by omega) (by rw [zcats lo roa hst.2.1]; omega) hd (fun H1 locs1 g1 g2 g3 g4 => k H1 locs1 ls cells slots h1 h2 ⟨zdyn_set (q := b) hdyn h8 hqn rfl (fun r hr => ⟨rfl, zcpy_ne hr⟩) (by
          refine ⟨fun h => absurd h (by rw [show (μ.2.1 b).1 = 20 from tb]; decide), fun _ => ⟨cA, N, e1, e2, ?_, e4⟩, fun h => absurd (tb.symm.trans h) (by decide), fun h => absurd (tb.symm.trans h) (by decide), by rw [show (μ.2.1 b).1 = 20 from tb]; decide⟩
          rw [g1, z_cl wsp hsp, z_cl wdp hdp, z_cl wn hnn]
          congr 2
          funext j
          rw [← zcpy_f (n0 := N0) (n1 := N) hsp hdp hnn]) (fun k => by dsimp only; rw [zcpy_q]; split <;> exact hdyn.2.2.2.2.1 _ _) g2 g3, ⟨by rw [g2]; exact hS.1, fun x y1 y2 => by rw [g3 x (fun e => y2 (by show lo ≤ x; omega))]; exact hS.2.1 x y1 y2, fun lc hlc => (g4 lc hlc).elim (hS.2.2 lc) (fun e => by show lo ≤ lc.base; rw [e]; exact Nat.le_add_right _ _)⟩, hl, hlen, hwl, zwf2 (zwf2 (zwf2 (zwf2 (zwf2 hws))))⟩)
      rw [← zaddr (roa := roa) h8] at h0
      exact h0
    · obtain ⟨h8, hqn⟩ := zrange (q := b) hdyn hst.2.2.1 (by omega) (by omega) (by omega) (by omega)
      obtain ⟨cA, N, e1, e2, e3, e4, e5⟩ := (hdyn.2.2.1 b h8 hqn).2.2.1 tb
      obtain ⟨N0, f1, f2, f3, f4⟩ := zread_b (q := a) hdyn hst.2.2.1 hS ta
      have h0 := zcopy_row (rest := r.map (ztv lo roa sio)) (ls := ls) (f := fun j : Nat => Int32.ofInt (μ.2.2 a (j : Int))) (g := fun j : Nat => Int32.ofInt (μ.2.2 b (j : Int))) hx hb (hml.trans hl.1.symm) hown (hts _ (hw _ (by simp [zwords]))) (hts _ (hw _ (by simp [zwords]))) (hts _ (hw _ (by simp [zwords]))) (hts _ (hw _ (by simp [zwords]))) (ty := .byte) rfl f3 e3 e4 (q0 _ wsp hsp) (q0 _ wdp hdp) (q0 _ wn hnn) (by rw [z_cl wsp hsp, z_cl wn hnn]; omega) (by rw [z_cl wdp hdp, z_cl wn hnn]; omega) (fun i hi => z_fitb (hdyn.2.2.2.2.1 _ _) (f4 _ (by rw [z_cl wn hnn] at hi; rw [z_cl wsp hsp]; omega))) (by omega) (by rw [zcats lo roa hst.2.1]; omega) hd (fun H1 locs1 g1 g2 g3 g4 => k H1 locs1 ls cells slots h1 h2 ⟨zdyn_set (q := b) hdyn h8 hqn rfl (fun r hr => ⟨rfl, zcpy_ne hr⟩) (by
          refine ⟨fun h => absurd h (by rw [show (μ.2.1 b).1 = 21 from tb]; decide), fun h => absurd (tb.symm.trans h) (by decide), fun _ => ⟨cA, N, e1, e2, ?_, e4, fun j hj => ?_⟩, fun h => absurd (tb.symm.trans h) (by decide), by rw [show (μ.2.1 b).1 = 21 from tb]; decide⟩
          · rw [g1, z_cl wsp hsp, z_cl wdp hdp, z_cl wn hnn]
            congr 2
            funext j
            rw [← zcpy_f (n0 := N0) (n1 := N) hsp hdp hnn]
          · dsimp only
            rw [zcpy_q]
            split
            · have h9 := f4 (sp + ((j : Int) - dp)).toNat (by omega)
              rw [show (((sp + ((j : Int) - dp)).toNat : Nat) : Int) = sp + ((j : Int) - dp) by omega] at h9
              exact h9
            · exact e5 j hj) (fun k => by dsimp only; rw [zcpy_q]; split <;> exact hdyn.2.2.2.2.1 _ _) g2 g3, ⟨by rw [g2]; exact hS.1, fun x y1 y2 => by rw [g3 x (fun e => y2 (by show lo ≤ x; omega))]; exact hS.2.1 x y1 y2, fun lc hlc => (g4 lc hlc).elim (hS.2.2 lc) (fun e => by show lo ≤ lc.base; rw [e]; exact Nat.le_add_right _ _)⟩, hl, hlen, hwl, zwf2 (zwf2 (zwf2 (zwf2 (zwf2 hws))))⟩)
      rw [← zaddr (roa := roa) h8] at h0
      exact h0
  · rename_i y x r u1 u2 hC
    split at hn <;> try contradiction
    rename_i hq
    cases hn
    dsimp only at hrm
    have hw := zCall_g hC (by decide)
    have hx1 := zwf1 (zwf2 hws)
    have hy1 := zwf1 hws
    exact va_mmin hx hb (hml.trans hl.1.symm) hown (hts _ (hw _ (by simp [zwords]))) (hts _ (hw _ (by simp [zwords]))) (hts _ (hw _ (by simp [zwords]))) (hts _ zminc) (by omega) (by rw [zcats lo roa hst.2.1]; omega) (by omega) (by omega) hd (by rw [z_min hx1 hy1]; exact k H locs ls cells slots h1 h2 ⟨hdyn, hS, hl, hlen, hwl, zwfc (by split <;> first | exact hy1 | exact hx1) (zwf2 (zwf2 hws))⟩)
  · rename_i y x r u1 u2 hC
    split at hn <;> try contradiction
    rename_i hq
    cases hn
    dsimp only at hrm
    have hw := zCall_g hC (by decide)
    have hx1 := zwf1 (zwf2 hws)
    have hy1 := zwf1 hws
    exact va_mmax hx hb (hml.trans hl.1.symm) hown (hts _ (hw _ (by simp [zwords]))) (hts _ (hw _ (by simp [zwords]))) (hts _ (hw _ (by simp [zwords]))) (hts _ zmaxc) (by omega) (by rw [zcats lo roa hst.2.1]; omega) (by omega) (by omega) hd (by rw [z_max hx1 hy1]; exact k H locs ls cells slots h1 h2 ⟨hdyn, hS, hl, hlen, hwl, zwfc (by split <;> first | exact hy1 | exact hx1) (zwf2 (zwf2 hws))⟩)
end ZS
end
section
/-! one instruction, all of them; nothing is taken back -/
section ZS
variable {p : Program} {l : Launch} {e : Env} {R : Room} {s : State} {m : MethodId} {args : Array Value} {below : List Frame} {meth : Method} {c : Code} {Q : State → Prop} {lo : Nat} {roa : Nat → Nat} {sio : Value} {D : va_G} {rS : zSh} {rC : zC} {d M a1 a2 b1 b2 : Nat} {pc len : Nat} {L : zLs} {st : List zV} {μ : zMem} {q : zst}
set_option maxHeartbeats 4000000 in
theorem znext_ok {op : Instr} (C : zCtx p R s m args meth c lo roa sio D rS rC d M) (hd : decode (zB M) pc = .ok (op, len)) (hn : znext d M pc L st μ op len = some q) (hrm : q.2.2.2.1.1 + b1 ≤ R.cells + a1 ∧ q.2.2.2.1.2 + b2 ≤ R.slots + a2) (k : zGo p l e R s m args below meth c Q lo roa sio D rS rC M a1 a2 b1 b2 q) : zGo p l e R s m args below meth c Q lo roa sio D rS rC M a1 a2 b1 b2 (pc, L, st, μ) :=
  match op, hd, hn with
  | .iconst _, hd, hn => zs_iconst C hd hn k
  | .bipush _, hd, hn => zs_bipush C hd hn k
  | .sipush _, hd, hn => zs_sipush C hd hn k
  | .iload _, hd, hn => zs_iload C hd hn k
  | .iload_n _, hd, hn => zs_iload_n C hd hn k
  | .aload _, hd, hn => zs_aload C hd hn k
  | .aload_n _, hd, hn => zs_aload_n C hd hn k
  | .lload_n _, hd, hn => zs_lload_n C hd hn k
  | .istore _, hd, hn => zs_istore C hd hn k
  | .istore_n _, hd, hn => zs_istore_n C hd hn k
  | .astore_n _, hd, hn => zs_astore_n C hd hn k
  | .lstore_n _, hd, hn => zs_lstore_n C hd hn k
  | .iadd, hd, hn => zs_iadd C hd hn k
  | .isub, hd, hn => zs_isub C hd hn k
  | .imul, hd, hn => zs_imul C hd hn k
  | .ineg, hd, hn => zs_ineg C hd hn k
  | .idiv, hd, hn => zs_idiv C hd hn k
  | .irem, hd, hn => zs_irem C hd hn k
  | .ishl, hd, hn => zs_ishl C hd hn k
  | .ishr, hd, hn => zs_ishr C hd hn k
  | .i2l, hd, hn => zs_i2l C hd hn k
  | .i2b, hd, hn => zs_i2b C hd hn k
  | .i2c, hd, hn => zs_i2c C hd hn k
  | .ladd, hd, hn => zs_ladd C hd hn k
  | .lmul, hd, hn => zs_lmul C hd hn k
  | .pop, hd, hn => zs_pop C hd hn k
  | .dup, hd, hn => zs_dup C hd hn k
  | .dup2, hd, hn => zs_dup2 C hd hn k
  | .dup_x1, hd, hn => zs_dup_x1 C hd hn k
  | .goto _, hd, hn => zs_goto C hd hn k
  | .ifnonnull _, hd, hn => zs_ifnonnull C hd hn k
  | .iinc _ _, hd, hn => zs_iinc C hd hn k
  | .iand, hd, hn => zs_iand C hd hn k
  | .lcmp, hd, hn => zs_lcmp C hd hn k
  | .if_icmp _ _, hd, hn => zs_if_icmp C hd hn k
  | .ifCond _ _, hd, hn => zs_ifCond C hd hn k
  | .tableswitch _ _ _ _, hd, hn => zs_tableswitch C hd hn k
  | .ldc _, hd, hn => zs_ldc C hd hn k
  | .ldc_w _, hd, hn => zs_ldc_w C hd hn k
  | .ldc2_w _, hd, hn => zs_ldc2_w C hd hn k
  | .getstatic _, hd, hn => zs_getstatic C hd hn k
  | .getfield _, hd, hn => zs_getfield C hd hn k
  | .iaload, hd, hn => zs_iaload C hd hn k
  | .baload, hd, hn => zs_baload C hd hn k
  | .aaload, hd, hn => zs_aaload C hd hn k
  | .arraylength, hd, hn => zs_arraylength C hd hn k
  | .iastore, hd, hn => zs_iastore C hd hn k
  | .bastore, hd, hn => zs_bastore C hd hn k
  | .putfield _, hd, hn => zs_putfield C hd hn k
  | .aastore, hd, hn => zs_aastore C hd hn k
  | .new _, hd, hn => zs_new C hd hn hrm k
  | .anewarray _, hd, hn => zs_anewarray C hd hn hrm k
  | .invokespecial _, hd, hn => zs_invokespecial C hd hn k
  | .invokestatic _, hd, hn => zs_invokestatic C hd hn hrm k
  | .newarray a, hd, hn => match a, hd, hn with
    | .int, hd, hn => zs_newarray_i C hd hn hrm k
    | .byte, hd, hn => zs_newarray_b C hd hn hrm k
    | .boolean, _, hn => by cases hn
    | .char, _, hn => by cases hn
    | .float, _, hn => by cases hn
    | .double, _, hn => by cases hn
    | .short, _, hn => by cases hn
    | .long, _, hn => by cases hn
  | .aconst_null, _, hn => by cases hn
  | .areturn, _, hn => by cases hn
  | .astore _, _, hn => by cases hn
  | .athrow, _, hn => by cases hn
  | .caload, _, hn => by cases hn
  | .castore, _, hn => by cases hn
  | .checkcast _, _, hn => by cases hn
  | .d2f, _, hn => by cases hn
  | .d2i, _, hn => by cases hn
  | .d2l, _, hn => by cases hn
  | .dadd, _, hn => by cases hn
  | .daload, _, hn => by cases hn
  | .dastore, _, hn => by cases hn
  | .dcmp _, _, hn => by cases hn
  | .dconst _, _, hn => by cases hn
  | .ddiv, _, hn => by cases hn
  | .dload _, _, hn => by cases hn
  | .dload_n _, _, hn => by cases hn
  | .dmul, _, hn => by cases hn
  | .dneg, _, hn => by cases hn
  | .drem, _, hn => by cases hn
  | .dreturn, _, hn => by cases hn
  | .dstore _, _, hn => by cases hn
  | .dstore_n _, _, hn => by cases hn
  | .dsub, _, hn => by cases hn
  | .dup_x2, _, hn => by cases hn
  | .dup2_x1, _, hn => by cases hn
  | .dup2_x2, _, hn => by cases hn
  | .f2d, _, hn => by cases hn
  | .f2i, _, hn => by cases hn
  | .f2l, _, hn => by cases hn
  | .fadd, _, hn => by cases hn
  | .faload, _, hn => by cases hn
  | .fastore, _, hn => by cases hn
  | .fcmp _, _, hn => by cases hn
  | .fconst _, _, hn => by cases hn
  | .fdiv, _, hn => by cases hn
  | .fload _, _, hn => by cases hn
  | .fload_n _, _, hn => by cases hn
  | .fmul, _, hn => by cases hn
  | .fneg, _, hn => by cases hn
  | .frem, _, hn => by cases hn
  | .freturn, _, hn => by cases hn
  | .fstore _, _, hn => by cases hn
  | .fstore_n _, _, hn => by cases hn
  | .fsub, _, hn => by cases hn
  | .goto_w _, _, hn => by cases hn
  | .i2d, _, hn => by cases hn
  | .i2f, _, hn => by cases hn
  | .i2s, _, hn => by cases hn
  | .if_acmp _ _, _, hn => by cases hn
  | .ifnull _, _, hn => by cases hn
  | .instanceof _, _, hn => by cases hn
  | .invokedynamic _, _, hn => by cases hn
  | .invokeinterface _ _, _, hn => by cases hn
  | .invokevirtual _, _, hn => by cases hn
  | .ior, _, hn => by cases hn
  | .ireturn, _, hn => by cases hn
  | .iushr, _, hn => by cases hn
  | .ixor, _, hn => by cases hn
  | .jsr _, _, hn => by cases hn
  | .jsr_w _, _, hn => by cases hn
  | .l2d, _, hn => by cases hn
  | .l2f, _, hn => by cases hn
  | .l2i, _, hn => by cases hn
  | .laload, _, hn => by cases hn
  | .land, _, hn => by cases hn
  | .lastore, _, hn => by cases hn
  | .lconst _, _, hn => by cases hn
  | .ldiv, _, hn => by cases hn
  | .lload _, _, hn => by cases hn
  | .lneg, _, hn => by cases hn
  | .lookupswitch _ _, _, hn => by cases hn
  | .lor, _, hn => by cases hn
  | .lrem, _, hn => by cases hn
  | .lreturn, _, hn => by cases hn
  | .lshl, _, hn => by cases hn
  | .lshr, _, hn => by cases hn
  | .lstore _, _, hn => by cases hn
  | .lsub, _, hn => by cases hn
  | .lushr, _, hn => by cases hn
  | .lxor, _, hn => by cases hn
  | .monitorenter, _, hn => by cases hn
  | .monitorexit, _, hn => by cases hn
  | .multianewarray _ _, _, hn => by cases hn
  | .nop, _, hn => by cases hn
  | .pop2, _, hn => by cases hn
  | .putstatic _, _, hn => by cases hn
  | .ret _, _, hn => by cases hn
  | .return_, _, hn => by cases hn
  | .saload, _, hn => by cases hn
  | .sastore, _, hn => by cases hn
  | .swap, _, hn => by cases hn
end ZS
set_option maxHeartbeats 4000000 in
theorem znext_mono {d M pc len : Nat} {L : zLs} {st : List zV} {μ : zMem} {q : zst} {op : Instr} (hn : znext d M pc L st μ op len = some q) : μ.1.1 ≤ q.2.2.2.1.1 ∧ μ.1.2 ≤ q.2.2.2.1.2 := by
  unfold znext at hn
  split at hn <;> (repeat' split at hn) <;> first | contradiction | (cases hn; exact ⟨Nat.le_refl _, Nat.le_refl _⟩) | (cases hn; dsimp only; omega)
theorem zgo_mono : ∀ (f d M pc : Nat) (L : zLs) (st : List zV) (μ : zMem) (r : Option zV) (μ' : zMem), zgo f d M pc L st μ = some (r, μ') → μ.1.1 ≤ μ'.1.1 ∧ μ.1.2 ≤ μ'.1.2
  | 0, _, _, _, _, _, _, _, _, h => by cases h
  | f + 1, d, M, pc, L, st, μ, r, μ', h => by
    unfold zgo at h
    split at h
    · split at h
      · rename_i hn
        have h1 := znext_mono hn
        have h2 := zgo_mono f _ _ _ _ _ _ _ _ h
        dsimp only at h1
        omega
      · split at h
        · split at h
          · cases h
          · split at h
            · rename_i hc
              have h1 := zgo_mono f _ _ _ _ _ _ _ _ hc
              have h2 := zgo_mono f _ _ _ _ _ _ _ _ h
              omega
            · cases h
        · split at h
          · cases h
            exact ⟨Nat.le_refl _, Nat.le_refl _⟩
          · cases h
    · cases h
end
section
/-! the interpreter is right: what it answers the machine answers -/
def zokM (e : (Nat × Nat) × (Nat × (Nat × Nat)) × List Nat) : Bool :=
  decide (e.2.1.2.1 < 168) && decide (e.2.1.2.1 ≠ 138) && (decide (6 ≤ e.2.1.1) || decide (e.2.1.2.2 + (if e.2.1.1 = 0 then 0 else 1) ≤ zL e.2.1.2.1)) && (!(e.2.1.1 == 1) || decide (zTag (zK e.2.1.2.1) ≠ 99)) && (!(e.2.1.1 == 2) || decide ((zY e.2.1.2.1).cls = RJ5))
theorem zcallsM : zcalls.all zokM = true := by decide +kernel
theorem zCall_M {own idx kd M' n : Nat} (h : zCall own idx = some (kd, M', n)) : M' < 168 ∧ M' ≠ 138 ∧ (kd < 6 → n + (if kd = 0 then 0 else 1) ≤ zL M') ∧ (kd = 1 → zTag (zK M') ≠ 99) := by
  unfold zCall at h
  rw [Option.map_eq_some_iff] at h
  obtain ⟨e, h1, h2⟩ := h
  obtain ⟨hm, he⟩ := zfind h1
  have h3 := List.all_eq_true.mp zcallsM e hm
  unfold zokM at h3
  rw [h2] at h3
  simp only [Bool.and_eq_true, Bool.or_eq_true, decide_eq_true_eq, Bool.not_eq_true', beq_eq_false_iff_ne, ne_eq] at h3
  obtain ⟨⟨⟨⟨g1, g2⟩, g3⟩, g4⟩, -⟩ := h3
  exact ⟨g1, g2, fun hk => g3.resolve_left (by omega), fun hk => g4.resolve_left (by omega)⟩
theorem zcls_ok {M : Nat} (h : M < 168) : (zY M).cls = zcn (zK M) ∧ zL M ≤ 10 ∧ Jvm.plainName (zY M).cls = true := by
  have h1 := List.all_eq_true.mp zcls_all M (List.mem_range.mpr h)
  simp only [Bool.and_eq_true, decide_eq_true_eq] at h1
  exact ⟨h1.1.1, h1.1.2, h1.2⟩
theorem ztag_cl : ∀ k, k < 20 → zTag k ≠ 99 → (zTag k = 11 ∧ zcn k = "java/lang/String") ∨ (zTag k < 11 ∧ (vwClz[zTag k]?).map (fun q => q.1) = some (zcn k)) := by decide +kernel
theorem zK_lt : ∀ M, M < 168 → zK M < 20 := by decide +kernel
def zws (M : Nat) : List Cond := Cond.code (zY M) (zB M) (zL M) (zR M) :: zgw
theorem zGI {M : Nat} (h : M < 168) (hl : M ≠ 138) {l : List Cond} (hs : ∀ w ∈ l, w ∈ zgw) : GoodIn zgw (l ++ zws M) := by
  intro w hw
  have h1 : w ∈ zgw := by
    rcases List.mem_append.mp hw with h2 | h2
    · exact hs w h2
    · rcases List.mem_cons.mp h2 with rfl | h3
      · exact zcode_ok M h hl
      · exact h3
  exact ⟨h1, good_of_word (zgw_good w h1).2⟩
def zQ (lo : Nat) (roa : Nat → Nat) (sio : Value) (D : va_G) (rS : zSh) (rC : zC) (v : Option zV) (μ : zMem) : Array Value → State → Outcome → State → Prop := fun _ st o t =>
  o = .returned (v.map (ztv lo roa sio)) ∧ zdyn lo roa D rS rC μ t t.heap ∧ (∀ x, v = some x → zwf x) ∧ va_F (fun q => lo ≤ q) st t
def zPc (lo : Nat) (roa : Nat → Nat) (sio : Value) (D : va_G) (rS : zSh) (rC : zC) (as : List zV) (μ : zMem) : Array Value → State → Prop :=
  va_Pc (as.map (ztv lo roa sio)) (fun U => zdyn lo roa D rS rC μ U U.heap ∧ zstat lo roa sio D rS rC U U.heap ∧ lo ≤ U.heap.size)
def zRm (d : Nat) (μ μ' : zMem) : Room := { frames := d, cells := μ'.1.1 - μ.1.1, slots := μ'.1.2 - μ.1.2, locals := 38 * d + 2 }
def zSound (f : Nat) : Prop := ∀ (d M pc : Nat) (L : zLs) (st : List zV) (μ : zMem) (r : Option zV) (μ' : zMem), zgo f d M pc L st μ = some (r, μ') →
  ∀ (p : Program) (l : Launch) (e : Env) (R : Room) (s : State) (m : MethodId) (args : Array Value) (below : List Frame) (meth : Method) (c : Code) (Q : State → Prop) (lo : Nat) (roa : Nat → Nat) (sio : Value) (D : va_G) (rS : zSh) (rC : zC) (a1 a2 b1 b2 : Nat),
    zCtx p R s m args meth c lo roa sio D rS rC d M → μ'.1.1 + b1 ≤ R.cells + a1 ∧ μ'.1.2 + b2 ≤ R.slots + a2 →
    (∀ (pc' : Nat) (op : Instr) (L' : zLs) (st' : List zV), decode (zB M) pc' = .ok (op, 1) → zret M st' op 1 = some r → zGo p l e R s m args below meth c Q lo roa sio D rS rC M a1 a2 b1 b2 (pc', L', st', μ')) →
    zGo p l e R s m args below meth c Q lo roa sio D rS rC M a1 a2 b1 b2 (pc, L, st, μ)
theorem zargs_lv {tv : zV → Value} : ∀ (as : List zV) (i : Nat), (∀ v ∈ as, (tv v).category = 1) → lv_args i (as.map tv) = zlv tv i (as.map some)
  | [], _, _ => rfl
  | v :: as, i, h => by
    have h1 := h v List.mem_cons_self
    show (i, tv v) :: lv_args (if (tv v).category = 2 then i + 2 else i + 1) (as.map tv) = (i, tv v) :: zlv tv (i + 1) (as.map some)
    rw [if_neg (by omega), zargs_lv as (i + 1) (fun u hu => h u (List.mem_cons_of_mem _ hu))]
theorem zargs_sl {tv : zV → Value} : ∀ (as : List zV), (∀ v ∈ as, (tv v).category = 1) → (lg_sl (as.map tv)).length = as.length
  | [], _ => rfl
  | v :: as, h => by
    have h1 := h v List.mem_cons_self
    have h2 := zargs_sl as (fun u hu => h u (List.mem_cons_of_mem _ hu))
    unfold lg_sl at h2 ⊢
    rw [List.map_cons, List.flatMap_cons, if_neg (by omega)]
    simp only [List.length_append, List.length_cons, List.length_nil, h2]
    omega
theorem zent_get {M : Nat} {as : List zV} {i : Nat} {v : zV} (h : zgetl (zent M as) i = some v) : v ∈ as := by
  unfold zgetl zent at h
  by_cases hi : i < (as.map some).length
  · rw [List.getElem?_append_left hi, List.getElem?_map] at h
    cases h2 : as[i]? with
    | none => rw [h2] at h; cases h
    | some w =>
      rw [h2] at h
      cases h
      exact List.mem_of_getElem? h2
  · rw [List.getElem?_append_right (by omega)] at h
    cases h2 : (List.replicate (zL M - as.length) (none : Option zV))[i - (as.map some).length]? with
    | none => rw [h2] at h; cases h
    | some w =>
      rw [h2] at h
      have h3 := List.mem_of_getElem? h2
      rw [List.eq_of_mem_replicate h3] at h
      cases h
theorem zmet {f d M : Nat} (IH : zSound f) {l : Launch} {as : List zV} {μ : zMem} {v : Option zV} {μ' : zMem} (h : zgo f d M 0 (zent M as) [] μ = some (v, μ')) (hM : M < 168) (hML : M ≠ 138) (hlen : as.length ≤ zL M) (hone : ∀ x ∈ as, zcat x = 1) (hwf : ∀ x ∈ as, zwf x) {lo : Nat} {roa : Nat → Nat} {sio : Value} {D : va_G} {rS : zSh} {rC : zC} (hsio : sio.category = 1) :
    Met l (zY M) (zws M) (zRm d μ μ') (zPc lo roa sio D rS rC as μ) (zQ lo roa sio D rS rC v μ') (μ'.1.1 - μ.1.1) (μ'.1.2 - μ.1.2) (fun q => lo ≤ q) := by
  obtain ⟨c1, c2, c3⟩ := zcls_ok hM
  refine Met.ofW (cc := zB M) (maxL := zL M) (ret := zR M) c3 rfl ?_
  intro p e s m args below meth c s₁ B hml hv
  obtain ⟨rfl, hdyn, hst, hlo⟩ := hv
  have hts0 := atoms_spec (ws := zws M) B.pre
  have hts : ∀ w ∈ zgw, w.before (as.map (ztv lo roa sio)).toArray s = true := fun w hw => hts0 w (List.mem_cons_of_mem _ hw)
  have hown : s.vm.findClass (zcn (zK M)) = some m.cls := by rw [← c1]; exact findClass_of_methodNamed B.named
  have hname : meth.name = (zY M).name := (name_of_methodNamed B.named B.method).1
  have hcat : ∀ x ∈ as, (ztv lo roa sio x).category = 1 := fun x hx => (ztv_cat hsio x).trans (hone x hx)
  have hmono := zgo_mono _ _ _ _ _ _ _ _ _ h
  have hl := lv_entry (as.map (ztv lo roa sio)) (n := zL M) (by rw [zargs_sl as hcat]; exact hlen)
  rw [lg_entry_eq]
  generalize (lg_sl (as.map (ztv lo roa sio)) ++ List.replicate (zL M - (lg_sl (as.map (ztv lo roa sio))).length) Slot.unset).toArray = ls at hl ⊢
  rw [zargs_lv as 0 hcat] at hl
  have hl2 : lv_has ls (zL M) (zlv (ztv lo roa sio) 0 (zent M as)) := by
    refine zlv_less hl (fun q hq => ?_)
    obtain ⟨j, x⟩ := q
    obtain ⟨k, w, rfl, hk, rfl⟩ := (zlv_mem _ 0 j x).mp hq
    refine (zlv_mem _ 0 _ _).mpr ⟨k, w, rfl, ?_, rfl⟩
    unfold zent at hk
    by_cases hi : k < (as.map some).length
    · rw [List.getElem?_append_left hi] at hk
      exact hk
    · rw [List.getElem?_append_right (by omega)] at hk
      have h3 := List.eq_of_mem_replicate (List.mem_of_getElem? hk)
      cases h3
  have key := IH d M 0 (zent M as) [] μ v μ' h p l e (headSpec (zws M) (zRm d μ μ')).room s m (as.map (ztv lo roa sio)).toArray below meth c (MQ below (zQ lo roa sio D rS rC v μ') (as.map (ztv lo roa sio)).toArray s (μ'.1.1 - μ.1.1) (μ'.1.2 - μ.1.2) (fun q => lo ≤ q)) lo roa sio D rS rC μ.1.1 μ.1.2 0 0
    ⟨B.exec, B.bytes, hml, hown, hts, B.returns, B.notSynchronized, fun e => hname.trans e, hst, hlo, Nat.le_refl _, Nat.le_refl _⟩
    (by show μ'.1.1 + 0 ≤ μ'.1.1 - μ.1.1 + μ.1.1 ∧ μ'.1.2 + 0 ≤ μ'.1.2 - μ.1.2 + μ.1.2; omega) ?_
  · exact key s.heap [] ls 0 0 (by dsimp only; omega) (by dsimp only; omega) ⟨hdyn, va_S.rf, hl2, by
      show (zent M as).length = zL M
      unfold zent
      simp
      omega, fun i x hx => hwf x (zent_get hx), fun x hx => by cases hx⟩
  · intro pc' op L' st' hd' hr' H locs ls' cells slots h1 h2 h3
    obtain ⟨hdyn', hS', -, -, -, hws'⟩ := h3
    dsimp only at h1 h2 hdyn' hS' hws' ⊢
    have e1 : cells = μ'.1.1 - μ.1.1 := by omega
    have e2 : slots = μ'.1.2 - μ.1.2 := by omega
    subst e1
    subst e2
    have hq : ∀ (v : Option zV) (o : Option Value), o = v.map (ztv lo roa sio) → (∀ x, v = some x → zwf x) → ∀ t : State, t.heap = H → s.WarmedH t.vm → zQ lo roa sio D rS rC v μ' (as.map (ztv lo roa sio)).toArray s (.returned o) t := fun v o ho hw t ht hW => ⟨by rw [ho], by rw [ht]; exact hdyn'.moved hW.alike, hw, hS'.F ht⟩
    unfold zret at hr'
    split at hr' <;> try contradiction
    · split at hr' <;> try contradiction
      rename_i x
      split at hr' <;> try contradiction
      · rename_i e0
        cases hr'
        exact W.iret B.exec B.bytes (B.returns.trans e0) (hq (some (zI x)) _ rfl (fun y hy => by cases hy; exact hws' _ List.mem_cons_self)) hS'.2.2 hd' B.notSynchronized
      · rename_i e0
        split at hr' <;> try contradiction
        rename_i hx
        cases hr'
        exact W.zret B.exec B.bytes (B.returns.trans e0) (by rcases hx with rfl | rfl <;> rfl) (hq (some (zI x)) _ rfl (fun y hy => by cases hy; exact hws' _ List.mem_cons_self)) hS'.2.2 hd' B.notSynchronized
      · rename_i e0
        split at hr' <;> try contradiction
        rename_i hx
        cases hr'
        exact W.zret B.exec B.bytes (B.returns.trans e0) (by subst hx; rfl) (hq (some (zI x)) _ rfl (fun y hy => by cases hy; exact hws' _ List.mem_cons_self)) hS'.2.2 hd' B.notSynchronized
      · rename_i e0
        split at hr' <;> try contradiction
        rename_i hx
        cases hr'
        exact W.zret B.exec B.bytes (B.returns.trans e0) (by
          have e9 : Int32.ofInt x = nI x.toNat := by rw [← z_nat]; congr 1; omega
          rw [e9]
          exact (pk_charN (q := x.toNat) (by omega)).1) (hq (some (zI x)) _ rfl (fun y hy => by cases hy; exact hws' _ List.mem_cons_self)) hS'.2.2 hd' B.notSynchronized
    · split at hr' <;> try contradiction
      rename_i x
      split at hr' <;> try contradiction
      rename_i e0
      cases hr'
      exact W.lret B.exec B.bytes (B.returns.trans e0) (hq (some (zJ x)) _ rfl (fun y hy => by cases hy; exact hws' _ List.mem_cons_self)) hS'.2.2 hd' B.notSynchronized
    · split at hr' <;> try contradiction
      rename_i x
      split at hr' <;> try contradiction
      · rename_i nm e0
        cases hr'
        exact W.aret B.exec B.bytes (B.returns.trans e0) (Or.inl ⟨_, rfl⟩) (Or.inr ⟨_, rfl⟩) (hq (some (zA x)) _ rfl (fun y hy => by cases hy; trivial)) hS'.2.2 hd' B.notSynchronized
      · rename_i nm e0
        cases hr'
        exact W.aret B.exec B.bytes (B.returns.trans e0) (Or.inr ⟨_, rfl⟩) (Or.inr ⟨_, rfl⟩) (hq (some (zA x)) _ rfl (fun y hy => by cases hy; trivial)) hS'.2.2 hd' B.notSynchronized
    · split at hr' <;> try contradiction
      rename_i e0
      cases hr'
      obtain ⟨rfl, e0⟩ := e0
      exact W.vret B.exec B.bytes (B.returns.trans e0) (hq none _ rfl (fun y hy => by cases hy)) hS'.2.2 hd' B.notSynchronized
end
section
/-! the interpreter is right: calls, and the whole -/
section ZK
variable {p : Program} {l : Launch} {e : Env} {R : Room} {s : State} {m : MethodId} {args : Array Value} {below : List Frame} {meth : Method} {c : Code} {Q : State → Prop} {H : Heap} {locs : List Loc} {cells slots mc ms : Nat} {pc : Nat} {ls : Array Slot} {rest st0 : List Value} {lo : Nat} {roa : Nat → Nat} {sio : Value} {D : va_G} {rS : zSh} {rC : zC} {μ μ1 : zMem} {v : Option zV} {aa : Array Value}
theorem zcall_go (hr : va_Run p l e R s m args below meth c H locs cells slots mc ms (F0 m pc ls st0) rest (zQ lo roa sio D rS rC v μ1 aa) (fun q => lo ≤ q)) (hS : va_S (fun q => lo ≤ q) s.heap H locs)
    (kk : ∀ (H1 : Heap) (locs1 : List Loc), zdyn lo roa D rS rC μ1 s H1 → va_S (fun q => lo ≤ q) s.heap H1 locs1 → (∀ x, v = some x → zwf x) → W p l e R s m args below meth c H1 locs1 (cells + mc) (slots + ms) Q (F0 m (pc + 3) ls ((v.map (ztv lo roa sio)).toList ++ rest))) : W p l e R s m args below meth c H locs cells slots Q (F0 m pc ls st0) := by
  intro T hT X
  obtain ⟨v', st₀, t, T', L, h0, X', hL, e1, e2, ⟨hv, hd, hw, hz, hk⟩, st⟩ := hr T hT X
  cases hv
  rw [h0] at hz hk
  have hal : t.vm.Alike s.vm := by
    have h9 := X'.warmed.alike
    rw [e2] at h9
    exact h9.symm
  obtain ⟨t2, a1, b1⟩ := kk T'.heap (locs ++ L) (by rw [e1]; exact hd.moved hal) ⟨Nat.le_trans hS.1 (by rw [e1]; exact hz), fun q h1 h2 => by rw [e1, hk q (Nat.lt_of_lt_of_le h1 hS.1) h2]; exact hS.2.1 q h1 h2, fun q hq => by
      rcases List.mem_append.mp hq with h | h
      · exact hS.2.2 q h
      · exact hL q h⟩ hw T' rfl X'
  exact ⟨t2, st t2 a1, b1⟩
theorem zblind {as : List zV} : FrameBlind (zPc lo roa sio D rS rC as μ) := fun a U g mk h => by
  obtain ⟨h1, h2, h3, h4⟩ := h
  exact ⟨h1, h2.moved (u := U) (U := U.calling g mk a) (Vm.Alike.refl U.vm), h3.same (u := U) (U := U.calling g mk a) rfl, h4⟩
theorem zPc_at {as : List zV} (hdyn : zdyn lo roa D rS rC μ s H) (hst : zstat lo roa sio D rS rC s s.heap) (hS : va_S (fun q => lo ≤ q) s.heap H locs) (hlo : lo ≤ s.heap.size) : ∀ U : State, U.heap = H → s.WarmedH U.vm → zPc lo roa sio D rS rC as μ (as.map (ztv lo roa sio)).toArray U := fun U hU hW =>
  ⟨rfl, by rw [hU]; exact hdyn.moved hW.alike, by rw [hU]; exact (hst.warm hW).kept hS.2.1, by rw [hU]; exact Nat.le_trans hlo hS.1⟩
theorem zrecv_o {ci q : Nat} {Cn : String} (hK : va_K D vwClz [] s) (hsta : zsta lo roa sio rS rC s s.heap) (hdyn : zdyn lo roa D rS rC μ s H) (ht : (μ.2.1 q).1 = ci) (hci : ci < 11) (hc : (vwClz[ci]?).map (fun q => q.1) = some Cn) : ∃ cellB : Cell, H[zad lo roa q]? = some cellB ∧ cellB.vm.isStatics = false ∧ s.vm.findClass Cn = some cellB.cls := by
  obtain ⟨h8, hqn⟩ := zrange (q := q) hdyn hsta (by omega) (by omega) (by omega) (by omega)
  have hob := (hdyn.2.2.1 q h8 hqn).1 (by omega)
  rw [ht] at hob
  obtain ⟨cell, g1, g2, g3, -⟩ := hob
  rw [Option.map_eq_some_iff] at hc
  obtain ⟨q', hq', e1⟩ := hc
  refine ⟨cell, by rw [zaddr h8]; exact g1, by rw [g3]; rfl, ?_⟩
  rw [g2, ← e1]
  exact (hK.1 ci q' hq').2.1
theorem zrecv_s {q : Nat} (hsta : zsta lo roa sio rS rC s s.heap) (hS : va_S (fun q => lo ≤ q) s.heap H locs) (hdyn : zdyn lo roa D rS rC μ s H) (ht : (μ.2.1 q).1 = 11) : ∃ cellB : Cell, H[zad lo roa q]? = some cellB ∧ cellB.vm.isStatics = false ∧ s.vm.findClass "java/lang/String" = some cellB.cls := by
  have h8 : q < 8 := by
    refine Nat.lt_of_not_le fun h8 => ?_
    by_cases hn9 : q < μ.1.1
    · exact (hdyn.2.2.1 q h8 hn9).2.2.2.2.1 ht
    · have := hdyn.2.2.2.1 q (Nat.le_of_not_lt hn9)
      omega
  have eS := hdyn.2.2.2.2.2 q h8
  rw [eS.1] at ht
  obtain ⟨cell, g1, g2, g3, -⟩ := (((zstaH hsta hS).1 q h8).2.2.2 ht).1
  refine ⟨cell, ?_, g2, g3⟩
  unfold zad
  rw [if_pos h8]
  exact g1
end ZK
theorem zstack {tv : zV → Value} (st : List zV) (n : Nat) : st.map tv = (((st.take n).reverse).map tv).reverse ++ (st.drop n).map tv := by
  rw [← List.map_reverse, List.reverse_reverse, ← List.map_append, List.take_append_drop]
theorem ztake_one {st : List zV} {n : Nat} (h : (st.take n).all zone = true) : ∀ x ∈ (st.take n).reverse, zcat x = 1 := fun x hx => by
  have h1 := List.all_eq_true.mp h x (List.mem_reverse.mp hx)
  unfold zone at h1
  simpa using h1
section ZQ
variable {p : Program} {l : Launch} {e : Env} {R : Room} {s : State} {m : MethodId} {args : Array Value} {below : List Frame} {meth : Method} {c : Code} {Q : State → Prop} {lo : Nat} {roa : Nat → Nat} {sio : Value} {D : va_G} {rS : zSh} {rC : zC} {d M a1 a2 b1 b2 : Nat} {pc len : Nat} {L : zLs} {st : List zV} {μ μ1 : zMem} {f M1 : Nat} {as rest : List zV} {v : Option zV} {op : Instr}
set_option maxHeartbeats 4000000 in
theorem zinv_ok (IH : zSound f) (C : zCtx p R s m args meth c lo roa sio D rS rC (d + 1) M) (hd : decode (zB M) pc = .ok (op, len)) (hi : zinv M st μ op len = some (M1, as, rest)) (hc : zgo f d M1 0 (zent M1 as) [] μ = some (v, μ1)) (hrm : μ1.1.1 + b1 ≤ R.cells + a1 ∧ μ1.1.2 + b2 ≤ R.slots + a2)
    (k : zGo p l e R s m args below meth c Q lo roa sio D rS rC M a1 a2 b1 b2 (pc + 3, L, v.toList ++ rest, μ1)) : zGo p l e R s m args below meth c Q lo roa sio D rS rC M a1 a2 b1 b2 (pc, L, st, μ) := by
  intro H locs ls cells slots h1 h2 h3
  dsimp only at h1 h2 h3 ⊢
  obtain ⟨hdyn, hS, hl, hlen, hwl, hws⟩ := h3
  obtain ⟨hx, hb, hml, hown, hts, hr, hlk, hini, hst, hlo, hfr, hlc⟩ := C
  have hmono := zgo_mono _ _ _ _ _ _ _ _ _ hc
  have hfin : ∀ (H1 : Heap) (locs1 : List Loc), zdyn lo roa D rS rC μ1 s H1 → va_S (fun q => lo ≤ q) s.heap H1 locs1 → (∀ x, v = some x → zwf x) → (∀ x ∈ rest, zwf x) → W p l e R s m args below meth c H1 locs1 (cells + (μ1.1.1 - μ.1.1)) (slots + (μ1.1.2 - μ.1.2)) Q (F0 m (pc + 3) ls ((v.map (ztv lo roa sio)).toList ++ rest.map (ztv lo roa sio))) := fun H1 locs1 g1 g2 g3 g4 => by
    have h9 := k H1 locs1 ls (cells + (μ1.1.1 - μ.1.1)) (slots + (μ1.1.2 - μ.1.2)) (by dsimp only; omega) (by dsimp only; omega) ⟨g1, g2, hl, hlen, hwl, fun x hx => by
      rcases List.mem_append.mp hx with h | h
      · cases v with
        | none => cases h
        | some w =>
          have : x = w := by simpa using h
          subst this
          exact g3 x rfl
      · exact g4 x h⟩
    cases v <;> exact h9
  have hcf : cells + (μ1.1.1 - μ.1.1) ≤ R.cells ∧ slots + (μ1.1.2 - μ.1.2) ≤ R.slots := by omega
  unfold zinv at hi
  split at hi <;> try contradiction
  · -- static
    split at hi <;> try contradiction
    rename_i i M' n hC
    split at hi <;> try contradiction
    rename_i hq
    cases hi
    obtain ⟨q1, q2, q3⟩ := hq
    obtain ⟨m1, m2, m3, -⟩ := zCall_M hC
    obtain ⟨s1, s2, s3, -, -⟩ := zCall_s hC (by decide)
    have hw := zCall_g hC (by decide)
    have hz := zcls_ok m1
    have m3 := m3 (by decide)
    rw [if_pos rfl] at m3
    have hone := ztake_one q2
    have hlen2 : (st.take n).reverse.length = n := by simp; omega
    have hM := zmet (l := l) (lo := lo) (roa := roa) (D := D) (rS := rS) (rC := rC) IH hc m1 m2 (by omega) hone (fun x hx => hws x (List.mem_of_mem_take (List.mem_reverse.mp hx))) hst.2.1
    exact zcall_go (va_runS (As := (st.take n).reverse.map (ztv lo roa sio)) (rest := (st.drop n).map (ztv lo roa sio)) (g := F0 m pc ls (st.map (ztv lo roa sio))) ⟨hx, hb, hml, hown, hts⟩ hM (va_cwS n hts (zGI m1 m2 hw) rfl rfl rfl ⟨s1, s2, s3⟩ ⟨hfr, by show 8 + (zL M1 + 11) + (38 * d + 2) ≤ _; omega⟩) ⟨zblind, zPc_at hdyn hst hS hlo⟩ rfl (by rw [List.length_map]; exact hlen2) hl.1 (zstack st n) (lv_room (rest := st.map (ztv lo roa sio)) (by rw [zcats lo roa hst.2.1]; exact q3)) hd hcf) hS (fun H1 locs1 g1 g2 g3 => hfin H1 locs1 g1 g2 g3 (fun x hx => hws x (List.mem_of_mem_drop hx)))
  · -- virtual
    split at hi <;> try contradiction
    rename_i i kd M' n hC
    split at hi <;> try contradiction
    rename_i hq
    obtain ⟨q1, q2, q3⟩ := hq
    split at hi <;> try contradiction
    rename_i b r hdr
    split at hi <;> try contradiction
    rename_i hk
    cases hi
    have hkd : kd = 1 ∨ kd = 2 := hk.elim (fun h => Or.inl h.1) (fun h => Or.inr h.1)
    obtain ⟨m1, m2, m3, m4⟩ := zCall_M hC
    obtain ⟨s1, s2, s3, -, -⟩ := zCall_s hC (by omega)
    have hw := zCall_g hC (by omega)
    have hz := zcls_ok m1
    have m3 := m3 (by omega)
    rw [if_neg (by omega)] at m3
    have hone := ztake_one q2
    have hlen2 : (st.take n).reverse.length = n := by simp; omega
    have hdr2 : st.drop (n + 1) = rest := by
      rw [← List.drop_drop, hdr]
      rfl
    have hmem : ∀ x ∈ zA b :: rest, x ∈ st := fun x hx => List.mem_of_mem_drop (by rw [hdr]; exact hx)
    have hone2 : ∀ x ∈ zA b :: (st.take n).reverse, zcat x = 1 := fun x hx => (List.mem_cons.mp hx).elim (fun e => by rw [e]; rfl) (hone x)
    have hM := zmet (l := l) (lo := lo) (roa := roa) (D := D) (rS := rS) (rC := rC) IH hc m1 m2 (by simp; omega) hone2 (fun x hx => (List.mem_cons.mp hx).elim (fun e => by rw [e]; trivial) (fun h => hws x (List.mem_of_mem_take (List.mem_reverse.mp h)))) hst.2.1
    have hstk : st.map (ztv lo roa sio) = ((st.take n).reverse.map (ztv lo roa sio)).reverse ++ .ref (zad lo roa b) :: rest.map (ztv lo roa sio) := by
      rw [zstack st n, hdr]
      rfl
    have hsum : 2 * (F0 m pc ls (st.map (ztv lo roa sio))).monitorRoom + ((rest.map (ztv lo roa sio)).map fun v => v.category).sum ≤ 8 := lv_room (rest := st.map (ztv lo roa sio)) (by rw [zcats lo roa hst.2.1, ← hdr2]; exact q3)
    have hroom : d + 1 ≤ R.frames ∧ 8 + (zL M1 + 11) + (38 * d + 2) ≤ R.locals := ⟨hfr, by omega⟩
    rcases hk with ⟨rfl, htag⟩ | ⟨rfl, htag⟩
    · have hrv : ∃ cellB : Cell, H[zad lo roa b]? = some cellB ∧ cellB.vm.isStatics = false ∧ s.vm.findClass (zY M1).cls = some cellB.cls := by
        rw [hz.1]
        rcases ztag_cl (zK M1) (zK_lt M1 m1) (m4 rfl) with ⟨t1, t2⟩ | ⟨t1, t2⟩
        · rw [t2]
          exact zrecv_s hst.2.2.1 hS hdyn (by omega)
        · exact zrecv_o hst.1 hst.2.2.1 hdyn htag t1 t2
      exact zcall_go (va_runV (As := (st.take n).reverse.map (ztv lo roa sio)) (rest := rest.map (ztv lo roa sio)) (b := zad lo roa b) (C := (zY M1).cls) (g := F0 m pc ls (st.map (ztv lo roa sio))) ⟨hx, hb, hml, hown, hts⟩ hM (cwV n hts (zGI m1 m2 hw) rfl rfl rfl ⟨rfl, s1, s2, s3⟩ hroom) ⟨zblind, hrv, zPc_at hdyn hst hS hlo⟩ rfl (by rw [List.length_map]; exact hlen2) hl.1 hstk hsum hd hcf) hS (fun H1 locs1 g1 g2 g3 => hfin H1 locs1 g1 g2 g3 (fun x hx => hws x (hmem x (List.mem_cons_of_mem _ hx))))
    · have hrv : ∃ cellB : Cell, H[zad lo roa b]? = some cellB ∧ cellB.vm.isStatics = false ∧ s.vm.findClass RJ4 = some cellB.cls := zrecv_o hst.1 hst.2.2.1 hdyn htag (by decide) rfl
      exact zcall_go (va_runU (As := (st.take n).reverse.map (ztv lo roa sio)) (rest := rest.map (ztv lo roa sio)) (b := zad lo roa b) (C := RJ4) (owner := (zY M1).cls) (x := zY M1) (g := F0 m pc ls (st.map (ztv lo roa sio))) ⟨hx, hb, hml, hown, hts⟩ hM (va_cwU n hts (zGI m1 m2 hw) rfl rfl rfl rfl ⟨s1, s2, s3⟩ hroom) ⟨zblind, hrv, zPc_at hdyn hst hS hlo⟩ rfl (by rw [List.length_map]; exact hlen2) hl.1 hstk hsum hd hcf) hS (fun H1 locs1 g1 g2 g3 => hfin H1 locs1 g1 g2 g3 (fun x hx => hws x (hmem x (List.mem_cons_of_mem _ hx))))
  · -- special
    split at hi <;> try contradiction
    rename_i i kd M' n hC
    split at hi <;> try contradiction
    rename_i hq
    obtain ⟨q1, q2, q3⟩ := hq
    split at hi <;> try contradiction
    rename_i b r hdr
    split at hi <;> try contradiction
    rename_i hk
    cases hi
    have hkd : kd = 3 ∨ kd = 4 ∨ kd = 5 := by omega
    obtain ⟨m1, m2, m3, m4⟩ := zCall_M hC
    obtain ⟨s1, s2, s3, s4, s5⟩ := zCall_s hC (by omega)
    have hz := zcls_ok m1
    have m3 := m3 (by omega)
    rw [if_neg (by omega)] at m3
    have hone := ztake_one q2
    have hlen2 : (st.take n).reverse.length = n := by simp; omega
    have hdr2 : st.drop (n + 1) = rest := by
      rw [← List.drop_drop, hdr]
      rfl
    have hmem : ∀ x ∈ zA b :: rest, x ∈ st := fun x hx => List.mem_of_mem_drop (by rw [hdr]; exact hx)
    have hone2 : ∀ x ∈ zA b :: (st.take n).reverse, zcat x = 1 := fun x hx => (List.mem_cons.mp hx).elim (fun e => by rw [e]; rfl) (hone x)
    have hM := zmet (l := l) (lo := lo) (roa := roa) (D := D) (rS := rS) (rC := rC) IH hc m1 m2 (by simp; omega) hone2 (fun x hx => (List.mem_cons.mp hx).elim (fun e => by rw [e]; trivial) (fun h => hws x (List.mem_of_mem_take (List.mem_reverse.mp h)))) hst.2.1
    have hstk : st.map (ztv lo roa sio) = ((st.take n).reverse.map (ztv lo roa sio)).reverse ++ .ref (zad lo roa b) :: rest.map (ztv lo roa sio) := by
      rw [zstack st n, hdr]
      rfl
    have hsum : 2 * (F0 m pc ls (st.map (ztv lo roa sio))).monitorRoom + ((rest.map (ztv lo roa sio)).map fun v => v.category).sum ≤ 8 := lv_room (rest := st.map (ztv lo roa sio)) (by rw [zcats lo roa hst.2.1, ← hdr2]; exact q3)
    have hroom : d + 1 ≤ R.frames ∧ 8 + (zL M1 + 11) + (38 * d + 2) ≤ R.locals := ⟨hfr, by omega⟩
    rcases hkd with rfl | rfl | rfl
    · have hw := zCall_g hC (by omega)
      have hwss : zws M1 = Cond.code (zY M1) (zB M1) (zL M1) none :: zgw := by unfold zws; rw [(s4 (by omega)).2]
      exact zcall_go (va_runI (As := (st.take n).reverse.map (ztv lo roa sio)) (rest := rest.map (ztv lo roa sio)) (b := zad lo roa b) (g := F0 m pc ls (st.map (ztv lo roa sio))) ⟨hx, hb, hml, hown, hts⟩ hM (cwI n hts (zGI (l := []) m1 m2 (fun w h => by cases h)) hwss rfl rfl (hts _ (hw _ (by simp [zwords]))) (hts _ (hw _ (by simp [zwords]))) (hts _ (hw _ (by simp [zwords]))) (s4 (by omega)).1 ⟨s1, s2, s3⟩ hroom) ⟨zblind, zPc_at hdyn hst hS hlo⟩ rfl (by rw [List.length_map]; exact hlen2) hl.1 hstk hsum hd hcf) hS (fun H1 locs1 g1 g2 g3 => hfin H1 locs1 g1 g2 g3 (fun x hx => hws x (hmem x (List.mem_cons_of_mem _ hx))))
    · have hw := zCall_g4 hC
      have hw0 := zCall_m hC
      have hwss : zws M1 = Cond.code (zY M1) (zB M1) (zL M1) none :: zgw := by unfold zws; rw [(s4 (by omega)).2]
      exact zcall_go (va_runIN (As := (st.take n).reverse.map (ztv lo roa sio)) (rest := rest.map (ztv lo roa sio)) (b := zad lo roa b) (g := F0 m pc ls (st.map (ztv lo roa sio))) ⟨hx, hb, hml, hown, hts⟩ hM ⟨va_cnB n hts (zGI (l := []) m1 m2 (fun w h => by cases h)) hwss rfl rfl (hst.2.2.2.2.2.1 _ _ _ (hw0 _ (by simp [zwords]))) (hts _ (hw _ (by simp [zwords]))) ⟨s1, s2, s3⟩ hroom, (s4 (by omega)).1, hts _ (hw _ (by simp [zwords]))⟩ ⟨zblind, zPc_at hdyn hst hS hlo⟩ rfl (by rw [List.length_map]; exact hlen2) hl.1 hstk hsum hd hcf) hS (fun H1 locs1 g1 g2 g3 => hfin H1 locs1 g1 g2 g3 (fun x hx => hws x (hmem x (List.mem_cons_of_mem _ hx))))
    · have hw := zCall_g hC (by omega)
      have htag : (μ.2.1 b).1 = 0 := by omega
      have hrv : ∃ cellB : Cell, H[zad lo roa b]? = some cellB ∧ cellB.vm.isStatics = false ∧ s.vm.findClass RJ4 = some cellB.cls := zrecv_o hst.1 hst.2.2.1 hdyn htag (by decide) rfl
      exact zcall_go (va_runSU (As := (st.take n).reverse.map (ztv lo roa sio)) (rest := rest.map (ztv lo roa sio)) (b := zad lo roa b) (C := RJ4) (g := F0 m pc ls (st.map (ztv lo roa sio))) (hst.1.1 0 _ rfl).2 ⟨hx, hb, hml, hown, hts⟩ hM (va_cwSU n hts (zGI m1 m2 hw) rfl rfl rfl ⟨s5 rfl, s3⟩ hroom) ⟨zblind, hrv, zPc_at hdyn hst hS hlo⟩ rfl (by rw [List.length_map]; exact hlen2) hl.1 hstk hsum hd hcf) hS (fun H1 locs1 g1 g2 g3 => hfin H1 locs1 g1 g2 g3 (fun x hx => hws x (hmem x (List.mem_cons_of_mem _ hx))))
end ZQ
theorem zret_len {M : Nat} {st : List zV} {op : Instr} {len : Nat} {r : Option zV} (h : zret M st op len = some r) : len = 1 := by
  unfold zret at h
  split at h <;> first | contradiction | rfl
theorem zsound : ∀ f, zSound f
  | 0 => fun _ _ _ _ _ _ _ _ h => by cases h
  | f + 1 => by
    have IH := zsound f
    intro d M pc L st μ r μ' h p l e R s m args below meth c Q lo roa sio D rS rC a1 a2 b1 b2 C hrm K
    unfold zgo at h
    split at h
    · rename_i op len hdec
      split at h
      · rename_i pc1 L1 st1 μ1 hn
        have hm := zgo_mono _ _ _ _ _ _ _ _ _ h
        exact znext_ok C hdec hn (by dsimp only; omega) (IH _ _ _ _ _ _ _ _ h p l e R s m args below meth c Q lo roa sio D rS rC a1 a2 b1 b2 C hrm K)
      · split at h
        · rename_i M1 as rest hi
          split at h
          · cases h
          · rename_i d1
            split at h
            · rename_i v μ1 hc
              have hm := zgo_mono _ _ _ _ _ _ _ _ _ h
              exact zinv_ok IH C hdec hi hc (by omega) (IH _ _ _ _ _ _ _ _ h p l e R s m args below meth c Q lo roa sio D rS rC a1 a2 b1 b2 C hrm K)
            · cases h
        · split at h
          · rename_i v hret
            cases h
            have hl := zret_len hret
            subst hl
            exact K pc op L st hdec hret
          · cases h
    · cases h
end
section
/-! the law's entry: out of what the interpreter answers of the law's code -/
def R_law : String := "RadioWeekLaw"
def lw_P (b : Addr) (xs : List Int32) (args : Array Value) (s : State) : Prop := args = #[.ref b] ∧ s.IntsAt b xs ∧ xs.length ≤ 2560 ∧ (Jvm.Cond.and given_1 narrow_1).before args s = true
def lw_Q (_ : Array Value) (s : State) (o : Outcome) (t : State) : Prop := o = .returned (some (.int 1)) ∧ Framed s o t [] 600000 7302250
def lw_Z (below : List Frame) (a : Array Value) (s : State) : State → Prop := fun t => ∃ o, t.status = .running ∧ Ended t below o ∧ lw_Q a s o t
/-- the law's own end, with 1 on the stack, nothing written that was there before, its room as the claim has it -/
theorem lw_ret {p : Program} {l : Launch} {e : Env} {s : State} {m : MethodId} {below : List Frame} {meth : Method} {c : Code} {b : Nat} (hx : p.tables.exec = Jvm.exec) (hb : c.code = code) (hr : meth.sig.returnType = ret) (hlocks : meth.locks = false) {pc : Nat} {H : Heap} {ls : Array Slot} (hdg : decode code pc = .ok (.ireturn, 1)) : W p l e room_1 s m #[Value.ref b] below meth c H [] 600000 7302250 (lw_Z below #[Value.ref b] s) (F0 m pc ls [.int 1]) := by
  intro T hT X
  obtain ⟨fs, hret, hrun, hended, hW, hframe⟩ := X.leave (v := some (.int 1)) (hlocks := hlocks) (fun h => by rw [hr] at h; cases h)
  have hmeth' : T.vm.method? m = some meth := X.method'
  refine ⟨T.setFrames fs, ?_, .returned (some (.int 1)), hrun, hended, rfl, ⟨_, rfl⟩, hW, hframe⟩
  jvm_step X.here [X.here.top, hx, hb, hdg, hmeth', hr, ret, narrow_b1]
  (try refine ⟨rfl, ?_⟩); (try refine ⟨rfl, ?_⟩)
  first | (intro acts; rw [hret _ acts rfl rfl rfl]) | rw [hret _ _ rfl rfl rfl]
  exact Steps.refl _
/-- what holds at the law's entry: the machine, the code, the tables' words (any of lw_tbl by 'hts w (by decide +kernel)'), the script of L ints xs at the cell b, what the Statement gives of the start (any of its parts by flat_of_before) -/
def lw_At (p : Program) (s : State) (m : MethodId) (meth : Method) (c : Code) (b L : Nat) (xs : Nat → Int32) : Prop :=
  p.tables.exec = Jvm.exec ∧ c.code = code ∧ meth.sig.returnType = ret ∧ c.maxLocals = 4 ∧ s.vm.findClass R_law = some m.cls ∧ (∀ w ∈ lw_tbl, w.before #[Value.ref b] s = true) ∧ va_X b L xs s s.heap ∧ b < s.heap.size ∧ meth.locks = false ∧ (Jvm.Cond.and given_1 narrow_1).before #[Value.ref b] s = true
def zS0 (L : Nat) : zSh := fun r => match r with
  | 0 => (30, ((L : Int), fun _ => none))
  | 1 => (11, (0, fun k => if k = 0 then some 2 else none))
  | 2 => (31, (2, fun _ => none))
  | 3 => (11, (0, fun k => if k = 0 then some 4 else none))
  | 4 => (31, (2, fun _ => none))
  | 5 => (31, (100, fun _ => none))
  | 6 => (31, (100, fun _ => none))
  | 7 => (98, (0, fun _ => none))
  | _ => (99, (0, fun _ => none))
def zct (xs : Nat → Int32) : zC := fun r k => match r with
  | 0 => (xs k.toNat).toInt
  | 2 => if k = 0 then 32 else 43
  | 4 => if k = 0 then 32 else 80
  | 5 => 48 + k % 10
  | 6 => 48 + (k / 10) % 10
  | _ => 0
def zm0 (xs : Nat → Int32) (L : Nat) : zMem := ((8, 0), (zS0 L, zct xs))
/-- what is owed of the interpreter: on the law's code, with a script, it answers 1 within the room -/
def zLaw : Prop := ∀ (L : Nat) (xs : Nat → Int32), L ≤ 2560 → ∃ (f : Nat) (μ' : zMem), zgo f 14 138 0 (zent 138 [zA 0]) [] (zm0 xs L) = some (some (zI 1), μ') ∧ μ'.1.1 ≤ 600008 ∧ μ'.1.2 ≤ 7302250
theorem zct_in (xs : Nat → Int32) : ∀ r k, zInR (zct xs r k) := by
  intro r k
  unfold zct zInR
  split
  · have h1 := Int32.le_toInt (xs k.toNat)
    have h2 := Int32.toInt_lt (xs k.toNat)
    omega
  · split <;> omega
  · split <;> omega
  · omega
  · omega
  · omega
theorem zflat1 : ∀ j, j < 100 → Cond.eq (.elem (.static "java/lang/Integer" "DigitOnes" "[B") (.int (Int32.ofNat j))) (.int (Int32.ofInt (zct (fun _ => 0) 5 (j : Int)))) ∈ flatC (Jvm.Cond.and given_1 narrow_1) := by
  have h : ∀ j, j < 100 → (flatC (Jvm.Cond.and given_1 narrow_1))[8 + j]? = some (Cond.eq (.elem (.static "java/lang/Integer" "DigitOnes" "[B") (.int (Int32.ofNat j))) (.int (Int32.ofInt (zct (fun _ => 0) 5 (j : Int))))) := by decide +kernel
  exact fun j hj => List.mem_of_getElem? (h j hj)
theorem zflat2 : ∀ j, j < 100 → Cond.eq (.elem (.static "java/lang/Integer" "DigitTens" "[B") (.int (Int32.ofNat j))) (.int (Int32.ofInt (zct (fun _ => 0) 6 (j : Int)))) ∈ flatC (Jvm.Cond.and given_1 narrow_1) := by
  have h : ∀ j, j < 100 → (flatC (Jvm.Cond.and given_1 narrow_1))[111 + j]? = some (Cond.eq (.elem (.static "java/lang/Integer" "DigitTens" "[B") (.int (Int32.ofNat j))) (.int (Int32.ofInt (zct (fun _ => 0) 6 (j : Int))))) := by decide +kernel
  exact fun j hj => List.mem_of_getElem? (h j hj)
theorem zflat3 : (∀ i, i < 2 → ∀ j, j < [2, 2].getD i 0 → Cond.eq (.elem (.field (.string "RadioWeek" ([271, 276].getD i 0)) "java/lang/String" "value" "[B") (.int (Int32.ofNat j))) (.int ((([[32, 43], [32, 80]] : List (List Int32)).getD i []).getD j 0)) ∈ flatC (Jvm.Cond.and given_1 narrow_1)) ∧
  (∀ i, i < 2 → Cond.exactly (.string "RadioWeek" ([271, 276].getD i 0)) "java/lang/String" ∈ flatC (Jvm.Cond.and given_1 narrow_1)) ∧ (∀ i, i < 2 → Cond.eq (.field (.string "RadioWeek" ([271, 276].getD i 0)) "java/lang/String" "coder" "B") (.int 0) ∈ flatC (Jvm.Cond.and given_1 narrow_1)) ∧
  (∀ i, i < 2 → Cond.arrayOf (.field (.string "RadioWeek" ([271, 276].getD i 0)) "java/lang/String" "value" "[B") .byte ∈ flatC (Jvm.Cond.and given_1 narrow_1)) ∧ (∀ i, i < 2 → Cond.eq (.length (.field (.string "RadioWeek" ([271, 276].getD i 0)) "java/lang/String" "value" "[B")) (.int (Int32.ofNat ([2, 2].getD i 0))) ∈ flatC (Jvm.Cond.and given_1 narrow_1)) := by decide +kernel
theorem zdig (xs : Nat → Int32) (j : Nat) : zct xs 5 (j : Int) = zct (fun _ => 0) 5 (j : Int) ∧ zct xs 6 (j : Int) = zct (fun _ => 0) 6 (j : Int) := ⟨rfl, rfl⟩
theorem zsrc_ok : (∀ y ∈ zpriv, Cond.privateMethod y ∈ lw_tbl ∧ Cond.instanceMethod y ∈ lw_tbl) ∧ Cond.selects RJ4 yJ5_isLatin1_aae02 yJ5_isLatin1_aae02 ∈ lw_tbl ∧ (∀ y ∈ zpriv, yJ5_isLatin1_aae02.cls = y.cls ∧ y.cls ≠ "java/lang/invoke/MethodHandle" ∧ y.cls ≠ "java/lang/invoke/VarHandle") := by decide +kernel
theorem zlaw_cls : zcn (zK 138) = R_law ∧ zB 138 = code ∧ zL 138 = 4 ∧ zR 138 = ret ∧ (zY 138).name ≠ "<init>" := ⟨rfl, rfl, rfl, rfl, by decide⟩
theorem zvw : ∀ ci, ci < 11 → ∃ i : Nat, (vwClz[ci]?).map (fun q => Cond.instantiable q.1 q.2.2) = ztbl[i]? := by
  have h : ∀ ci, ci < 11 → (vwClz[ci]?).map (fun q => Cond.instantiable q.1 q.2.2) = ztbl[([302, 154, 270, 223, 174, 94, 126, 243, 88, 80, 869]).getD ci 0]? := by decide +kernel
  exact fun ci hci => ⟨_, h ci hci⟩
theorem zwst : Cond.stringRef RX8 271 " +" ∈ lw_tbl ∧ Cond.stringRef RX8 276 " P" ∈ lw_tbl ∧ Cond.arrayOver (.object RX7) ∈ lw_tbl ∧ Cond.laysStatic "java/lang/String" "COMPACT_STRINGS" "Z" ∈ lw_tbl ∧ Cond.laysStatic "java/lang/Integer" "DigitOnes" "[B" ∈ lw_tbl ∧ Cond.laysStatic "java/lang/Integer" "DigitTens" "[B" ∈ lw_tbl ∧ Cond.laysStatic "jdk/internal/util/Preconditions" "SIOOBE_FORMATTER" "Ljava/util/function/BiFunction;" ∈ lw_tbl ∧ Cond.initialized "java/lang/String" ∈ lw_tbl ∧ Cond.initialized "java/lang/Integer" ∈ lw_tbl ∧ Cond.initialized "jdk/internal/util/Preconditions" ∈ lw_tbl := by decide +kernel
theorem zflat4 : Cond.eq (.static "java/lang/String" "COMPACT_STRINGS" "Z") (.int 1) ∈ flatC (Jvm.Cond.and given_1 narrow_1) ∧ Cond.arrayOf (.static "java/lang/Integer" "DigitOnes" "[B") .byte ∈ flatC (Jvm.Cond.and given_1 narrow_1) ∧ Cond.arrayOf (.static "java/lang/Integer" "DigitTens" "[B") .byte ∈ flatC (Jvm.Cond.and given_1 narrow_1) ∧ Cond.eq (.length (.static "java/lang/Integer" "DigitOnes" "[B")) (.int (Int32.ofNat 100)) ∈ flatC (Jvm.Cond.and given_1 narrow_1) ∧ Cond.eq (.length (.static "java/lang/Integer" "DigitTens" "[B")) (.int (Int32.ofNat 100)) ∈ flatC (Jvm.Cond.and given_1 narrow_1) ∧ Cond.isRef (.static "jdk/internal/util/Preconditions" "SIOOBE_FORMATTER" "Ljava/util/function/BiFunction;") ∈ flatC (Jvm.Cond.and given_1 narrow_1) ∧ Cond.not (Cond.eq (.string "RadioWeek" 271) (.string "RadioWeek" 276)) ∈ flatC (Jvm.Cond.and given_1 narrow_1) := by decide +kernel
set_option maxHeartbeats 4000000 in
theorem zstart {s : State} {b L : Nat} {xs : Nat → Int32} (hL : L ≤ 2560) (hts : ∀ w ∈ lw_tbl, w.before #[Value.ref b] s = true) (hX : va_X b L xs s s.heap) (hbl : b < s.heap.size) (hgv : (Jvm.Cond.and given_1 narrow_1).before #[Value.ref b] s = true) :
    (∀ w ∈ ztbl, w.before #[Value.ref b] s = true) ∧ ∃ (D : va_G) (roa : Nat → Nat) (sio : Value), roa 0 = b ∧ zstat s.heap.size roa sio D (zS0 L) (zct xs) s s.heap := by
  have hz : ∀ w ∈ ztbl, w.before #[Value.ref b] s = true := by
    intro w hw
    rcases List.mem_append.mp hw with h | h
    · obtain ⟨y, hy, rfl⟩ := List.mem_map.mp h
      obtain ⟨g1, g2, g3⟩ := zsrc_ok
      exact zsel_priv (g3 y hy).1 (g3 y hy).2 (hts _ g2) (hts _ (g1 y hy).1) (hts _ (g1 y hy).2)
    · exact hts w h
  refine ⟨hz, ?_⟩
  have hs := flat_of_before _ hgv
  have hA : ∀ a : Nat, a < s.heap.size → ¬ (fun q => s.heap.size ≤ q) a := fun a h h2 => absurd h (Nat.not_lt.mpr h2)
  have hK0 : ∀ ci : Nat, ∃ q : ClassId × (Nat → Nat), ∀ r, vwClz[ci]? = some r → u_Kn s r.1 r.2.1 r.2.2 q.1 q.2 := by
    intro ci
    by_cases hci : ci < 11
    · obtain ⟨i, hi⟩ := zvw ci hci
      cases hc : vwClz[ci]? with
      | none => exact ⟨(0, fun _ => 0), fun r h => by cases h⟩
      | some r =>
        obtain ⟨C, T, N⟩ := r
        obtain ⟨-, -, hin, -, -⟩ := zty_ok ci C T N hc
        rw [hc] at hi
        obtain ⟨cC, iS, h1⟩ := u_known (C := C) (T := T) (N := N) (n := N) (ws := zgw) (s := s) (args := #[Value.ref b]) (fun w hw => hz w (zgw_good w hw).1) hin (hz _ (List.mem_of_getElem? hi.symm))
        exact ⟨(cC, iS), fun r h => by cases h; exact h1⟩
    · exact ⟨(0, fun _ => 0), fun r h => by
        have := (List.getElem?_eq_some_iff.mp h).1
        simp [vwClz] at this
        omega⟩
  obtain ⟨dq, hdq⟩ := Classical.axiomOfChoice hK0
  obtain ⟨f3a, f3b, f3c, f3d, f3e⟩ := zflat3
  obtain ⟨f41, f42, f43, f44, f45, f46, f47⟩ := zflat4
  obtain ⟨w1, w2, w3, w4, w5, w6, w7, w8, w9, w10⟩ := zwst
  obtain ⟨adK, adV, hvs, hte⟩ := vk_Sof (args := #[Value.ref b]) (s := s) (N := 2) (tm := fun i => .string "RadioWeek" ([271, 276].getD i 0)) (len := [2, 2]) (byt := [[32, 43], [32, 80]]) (A := fun q => s.heap.size ≤ q)
    (by decide) (fun i hi => hs _ (f3b i hi)) (fun i hi => hs _ (f3c i hi)) (fun i hi => hs _ (f3d i hi)) (fun i hi => hs _ (f3e i hi)) (fun i hi j hj => hs _ (f3a i hi j hj))
    (fun i j hi hj hne => by
      rcases (show (i = 0 ∧ j = 1) ∨ (i = 1 ∧ j = 0) by omega) with ⟨rfl, rfl⟩ | ⟨rfl, rfl⟩
      · exact Or.inl (hs _ f47)
      · exact Or.inr (hs _ f47)) hA
  obtain ⟨t5, ht5, hT5⟩ := va_Tof (tm := .static "java/lang/Integer" "DigitOnes" "[B") (N := 100) (f := fun j => .int (Int32.ofInt (zct (fun _ => 0) 5 (j : Int)))) (A := fun q => s.heap.size ≤ q) (by decide) (hs _ f42) (va_eqt (hs _ f44)) (fun j hj => va_eqt (hs _ (zflat1 j hj))) hA
  obtain ⟨t6, ht6, hT6⟩ := va_Tof (tm := .static "java/lang/Integer" "DigitTens" "[B") (N := 100) (f := fun j => .int (Int32.ofInt (zct (fun _ => 0) 6 (j : Int)))) (A := fun q => s.heap.size ≤ q) (by decide) (hs _ f43) (va_eqt (hs _ f45)) (fun j hj => va_eqt (hs _ (zflat2 j hj))) hA
  have hsio : ∃ sio : Value, sio.category = 1 ∧ va_Z "jdk/internal/util/Preconditions" "SIOOBE_FORMATTER" "Ljava/util/function/BiFunction;" sio (fun q => s.heap.size ≤ q) s s.heap := by
    rcases va_Zqof (A := fun q => s.heap.size ≤ q) (hts _ w7) (hts _ w10) (hs _ f46) hA with h | ⟨t, h⟩
    · exact ⟨.null, rfl, h⟩
    · exact ⟨.ref t, rfl, h⟩
  obtain ⟨sio, hs1, hs2⟩ := hsio
  refine ⟨(fun k => (dq k).1, fun k => (dq k).2), fun r => match r with
    | 0 => b
    | 1 => adK 0
    | 2 => adV 0
    | 3 => adK 1
    | 4 => adV 1
    | 5 => t5
    | _ => t6, sio, rfl, ⟨fun c q h => hdq c q h, fun k q h => by simp at h⟩, hs1, ⟨?_, va_Zof (hts _ w4) (hts _ w8) (va_eqt (hs _ f41)) hA, va_Zof (hts _ w5) (hts _ w9) ht5 hA, va_Zof (hts _ w6) (hts _ w9) ht6 hA, hs2⟩, ?_⟩
  · intro r hr
    obtain ⟨v0, -⟩ := hvs
    obtain ⟨a0, a1, a2, a3⟩ := v0 0 (by decide)
    obtain ⟨c0, c1, c2, c3⟩ := v0 1 (by decide)
    have hto : ∀ {t N : Nat} {f g : Nat → Value}, va_T .byte t N f (fun q => s.heap.size ≤ q) s s.heap → (∀ j, j < N → f j = g j) → va_T .byte t N g (fun q => s.heap.size ≤ q) s s.heap := fun h he => by
      obtain ⟨cell, h1, h2, h3, h4, h5, h6, h7⟩ := h
      exact ⟨cell, h1, h2, h3, h4, h5, fun j hj => by rw [← he j hj]; exact h6 j hj, h7⟩
    match r, hr with
    | 0, _ =>
      refine ⟨Or.inl rfl, fun _ => ⟨L, rfl, by omega, ?_⟩, (fun h => absurd (show (30 : Nat) = 31 from h) (by decide)), (fun h => absurd (show (30 : Nat) = 11 from h) (by decide))⟩
      obtain ⟨scr, g1, g2, g3, g4, g5⟩ := hX
      refine ⟨scr, g1, g2, g3, by omega, (by rw [g4] <;> rfl), fun j hj => ?_, hA b hbl⟩
      rw [g5 j hj]
      show _ = some (Value.int (Int32.ofInt (xs ((j : Int).toNat)).toInt))
      rw [Int32.ofInt_toInt]
      rfl
    | 1, _ => exact ⟨Or.inr (Or.inr (Or.inl rfl)), (fun h => absurd (show (11 : Nat) = 30 from h) (by decide)), (fun h => absurd (show (11 : Nat) = 31 from h) (by decide)), fun _ => ⟨a0, a1, fun q hq => by cases hq; exact a2⟩⟩
    | 2, _ =>
      refine ⟨Or.inr (Or.inl rfl), (fun h => absurd (show (31 : Nat) = 30 from h) (by decide)), fun _ => ⟨2, rfl, by decide, hto a3 (fun j hj => ?_), fun j hj => ?_⟩, (fun h => absurd (show (31 : Nat) = 11 from h) (by decide))⟩
      · rcases (show j = 0 ∨ j = 1 by have hj : j < 2 := hj; omega) with rfl | rfl <;> rfl
      · rcases (show j = 0 ∨ j = 1 by omega) with rfl | rfl
        · exact ⟨by show (-128 : Int) ≤ 32; decide, by show (32 : Int) < 128; decide⟩
        · exact ⟨by show (-128 : Int) ≤ 43; decide, by show (43 : Int) < 128; decide⟩
    | 3, _ => exact ⟨Or.inr (Or.inr (Or.inl rfl)), (fun h => absurd (show (11 : Nat) = 30 from h) (by decide)), (fun h => absurd (show (11 : Nat) = 31 from h) (by decide)), fun _ => ⟨c0, c1, fun q hq => by cases hq; exact c2⟩⟩
    | 4, _ =>
      refine ⟨Or.inr (Or.inl rfl), (fun h => absurd (show (31 : Nat) = 30 from h) (by decide)), fun _ => ⟨2, rfl, by decide, hto c3 (fun j hj => ?_), fun j hj => ?_⟩, (fun h => absurd (show (31 : Nat) = 11 from h) (by decide))⟩
      · rcases (show j = 0 ∨ j = 1 by have hj : j < 2 := hj; omega) with rfl | rfl <;> rfl
      · rcases (show j = 0 ∨ j = 1 by omega) with rfl | rfl
        · exact ⟨by show (-128 : Int) ≤ 32; decide, by show (32 : Int) < 128; decide⟩
        · exact ⟨by show (-128 : Int) ≤ 80; decide, by show (80 : Int) < 128; decide⟩
    | 5, _ => exact ⟨Or.inr (Or.inl rfl), (fun h => absurd (show (31 : Nat) = 30 from h) (by decide)), fun _ => ⟨100, rfl, by decide, hT5, fun j hj => by show -128 ≤ 48 + (j : Int) % 10 ∧ 48 + (j : Int) % 10 < 128; omega⟩, (fun h => absurd (show (31 : Nat) = 11 from h) (by decide))⟩
    | 6, _ => exact ⟨Or.inr (Or.inl rfl), (fun h => absurd (show (31 : Nat) = 30 from h) (by decide)), fun _ => ⟨100, rfl, by decide, hT6, fun j hj => by show -128 ≤ 48 + ((j : Int) / 10) % 10 ∧ 48 + ((j : Int) / 10) % 10 < 128; omega⟩, (fun h => absurd (show (31 : Nat) = 11 from h) (by decide))⟩
    | 7, _ => exact ⟨Or.inr (Or.inr (Or.inr rfl)), (fun h => absurd (show (98 : Nat) = 30 from h) (by decide)), (fun h => absurd (show (98 : Nat) = 31 from h) (by decide)), (fun h => absurd (show (98 : Nat) = 11 from h) (by decide))⟩
    | n + 8, h => exact absurd h (by omega)
  · exact ⟨vk_R.of (hts _ w1) (hte 0 (by decide)), vk_R.of (hts _ w2) (hte 1 (by decide)), fun own idx y hm => va_Nw.of rfl (hz _ hm), va_AO.of (hts _ w3)⟩
set_option maxHeartbeats 4000000 in
set_option maxRecDepth 100000 in
theorem whole_of (HL : zLaw) {p : Program} {e : Env} {s : State} {m : MethodId} {below : List Frame} {meth : Method} {c : Code} (l : Launch) {b L : Nat} {xs : Nat → Int32} (hL : L ≤ 2560) (C0 : lw_At p s m meth c b L xs) : W p l e room_1 s m #[Value.ref b] below meth c s.heap [] 0 0 (lw_Z below #[Value.ref b] s) (entryFrame m ([Value.ref b] : List Value).toArray 4) := by
  obtain ⟨hx, hb, hr, hml, hown, hts, hX, hbl, hlocks, hgv⟩ := id C0
  obtain ⟨hz, D, roa, sio, hroa, hst⟩ := zstart hL hts hX hbl hgv
  obtain ⟨f, μ', hgo, hn1, hn2⟩ := HL L xs hL
  have hl := lv_entry ([.ref b]) (n := 4) (Nat.le_of_ble_eq_true rfl)
  rw [lg_entry_eq]
  generalize (lg_sl ([.ref b]) ++ List.replicate (4 - (lg_sl ([.ref b])).length) Slot.unset).toArray = ls at hl ⊢
  have hl : lv_has ls 4 [(0, .ref b)] := hl
  have key := zsound f 14 138 0 (zent 138 [zA 0]) [] (zm0 xs L) (some (zI 1)) μ' hgo p l e room_1 s m #[Value.ref b] below meth c (lw_Z below #[Value.ref b] s) s.heap.size roa sio D (zS0 L) (zct xs) 8 0 0 0
    ⟨hx, hb, hml, hown, fun w hw => hz w (zgw_good w hw).1, hr, hlocks, fun h => absurd h zlaw_cls.2.2.2.2, hst, Nat.le_refl _, Nat.le_refl _, Nat.le_of_ble_eq_true rfl⟩
    (by show μ'.1.1 + 0 ≤ 600000 + 8 ∧ μ'.1.2 + 0 ≤ 7302250 + 0; omega) ?_
  · have h0 := key s.heap [] ls 0 0 rfl rfl ⟨⟨rfl, Nat.le_refl _, fun r h1 h2 => absurd h2 (by show ¬ r < 8; omega), fun r hr8 => ?_, zct_in xs, fun r _ => ⟨rfl, rfl⟩⟩, va_S.rf, zlv_less hl (fun q hq => ?_), rfl, fun i v hv => ?_, fun v hv => by cases hv⟩
    · exact h0
    · match r, hr8 with
      | n + 8, _ => rfl
    · have hq2 : q ∈ [(0, Value.ref (zad s.heap.size roa 0))] := hq
      rw [List.mem_singleton] at hq2
      rw [hq2]
      show ((0 : Nat), Value.ref (roa 0)) ∈ _
      rw [hroa]
      exact List.mem_cons_self
    · have := zent_get hv
      rw [List.mem_singleton] at this
      rw [this]
      trivial
  · intro pc' op L' st' hd' hr' H locs ls' cells slots h1 h2 h3
    obtain ⟨hdyn', hS', -, -, -, hws'⟩ := h3
    dsimp only at h1 h2 hdyn' hS' hws' ⊢
    unfold zret at hr'
    split at hr' <;> try contradiction
    · split at hr' <;> try contradiction
      rename_i x
      have hx1 : x = 1 := by
        replace hr' : (if x = 0 ∨ x = 1 then some (some (zI x)) else none) = some (some (zI 1)) := hr'
        split at hr' <;> cases hr'
        rfl
      subst hx1
      refine va_forget (fun q hq => hS'.2.2 q hq) ?_
      refine W.widen (k := 600000) (n := 7302250) (by omega) (by omega) ?_
      exact lw_ret hx hb hr hlocks hd'
    · split at hr' <;> try contradiction
      all_goals (split at hr' <;> cases hr')
    · split at hr' <;> try contradiction
      all_goals (split at hr' <;> cases hr')
    · split at hr' <;> cases hr'
end
section
theorem zlaw : zLaw := sorry
theorem whole_start {p : Program} {e : Env} {s : State} {m : MethodId} {below : List Frame} {meth : Method} {c : Code} (l : Launch) (hflags : l.flags = flags0) {b L : Nat} {xs : Nat → Int32} (hL : L ≤ 2560) (C0 : lw_At p s m meth c b L xs) : W p l e room_1 s m #[Value.ref b] below meth c s.heap [] 0 0 (lw_Z below #[Value.ref b] s) (entryFrame m ([Value.ref b] : List Value).toArray 4) := whole_of zlaw l hL C0
set_option maxHeartbeats 4000000 in
theorem lw_walk (l : Launch) (hflags : l.flags = flags0) (b : Addr) (xs : List Int32) : MetFree l x (headSpec (Jvm.Cond.code x code maxLocals ret :: tables_1) room_1) (lw_P b xs) (fun _ _ _ _ _ => True) lw_Q := by
  refine MetFree.of_bodyS (code := code) (maxLocals := maxLocals) (ret := ret) (by decide) ?_ ?_
  · intro args s m h hn
    obtain ⟨meth, c, h1, h2, h3, h4, h5, h6, -, -⟩ := Cond.code_spec hn (atoms_spec (ws := Jvm.Cond.code x code maxLocals ret :: tables_1) h _ List.mem_cons_self)
    exact ⟨meth, c, h1, h2, h3, h4, h5, h6⟩
  · intro p e s m args below meth c s₁ B hml0 hP _
    obtain ⟨rfl, hx, hbd, hgv⟩ := hP
    obtain ⟨scr, harrAt, hlist, hof, hsmall⟩ := hx
    obtain ⟨hcb, hkn, -, -⟩ := State.arrayAt?_spec harrAt
    have hown : s.vm.findClass R_law = some m.cls := findClass_of_methodNamed B.named
    have hts0 : ∀ c ∈ (Jvm.Cond.code x code maxLocals ret :: tables_1), c.before #[Value.ref b] s = true := atoms_spec (ws := Jvm.Cond.code x code maxLocals ret :: tables_1) B.pre
    have hts : ∀ w ∈ lw_tbl, w.before #[Value.ref b] s = true := k2_hts_sels lw_privs (fun w hw => hts0 w (List.mem_cons_of_mem _ hw)) lw_privs_ok
    have hml : c.maxLocals = 4 := B.maxLocals_eq (hts0 _ List.mem_cons_self)
    have X₀ : Stand p l e room_1 s m #[Value.ref b] below meth c s₁ [] 0 0 := Stand.of_body B
    have hh0 : s₁.heap = s.heap := by rw [B.state]; rfl
    have hsz : scr.slots.size = xs.length := by rw [← Array.length_toList, hlist, List.length_map]
    have hval : ∀ j : Nat, j < xs.length → scr.slots[j]? = some (.int (xs.getD j 0)) := fun j hj => by
      rw [← Array.getElem?_toList, hlist]
      simp [hj]
    have hbl : b < s.heap.size := (Array.getElem?_eq_some_iff.mp hcb).1
    have hX : va_X b xs.length (fun j => xs.getD j 0) s s.heap := ⟨scr, hcb, hof, hkn, hsz, hval⟩
    have K : W p l e room_1 s m #[Value.ref b] below meth c s₁.heap [] 0 0 (lw_Z below #[Value.ref b] s) (entryFrame m ([Value.ref b] : List Value).toArray 4) := by
      rw [hh0]
      exact whole_start l hflags hbd ⟨B.exec, B.bytes, B.returns, hml, hown, hts, hX, hbl, B.notSynchronized, hgv⟩
    obtain ⟨t, a1, o, b1, b2, b3⟩ := K s₁ rfl X₀
    exact ⟨t, o, a1, b1, b2, b3⟩
theorem lw_pre_spec {args : Array Value} {s : State} (h : (Jvm.Cond.and given_1 narrow_1).before args s = true) (hr : rest_1_c.before args s = true) : ∃ (b : Addr) (xs : List Int32), lw_P b xs args s := by
  have hs := flat_of_before _ h
  have hq := flat_of_before _ hr
  have hc : (Cond.count 1).before args s = true := hs _ (by decide +kernel)
  have harr : (Cond.arrayOf (.arg 0) .int).before args s = true := hs _ (by decide +kernel)
  have hle : (Cond.le (.length (.arg 0)) (.int 2560)).before args s = true := hs _ (by decide +kernel)
  have hlen : (Cond.isInt (.length (.arg 0))).before args s = true := hq _ (by decide +kernel)
  have hall : (Cond.all (.arg 0) (.isInt (.elem (.arg 0) (.index 0)))).before args s = true := hq _ (by decide +kernel)
  obtain ⟨b, xs, hb, hx⟩ := State.ints_of_pre rfl harr hlen hall
  have hsm : xs.length < 2 ^ 31 := hx.choose_spec.2.2.2
  have hev : (Term.length (.arg 0)).eval args s none [] s = some (.int xs.length.toInt32) := hx.length_eval hb
  have hv := Cond.le_ints hev (show (Term.int 2560).eval args s none [] s = some (.int 2560) from rfl)
  have hd : xs.length.toInt32 ≤ 2560 := by
    simpa [Cond.before, Cond.holds, hv] using hle
  have hN : xs.length ≤ 2560 := (Int32.ofNat_le_ofNat hsm (by decide)).mp (show Int32.ofNat xs.length ≤ Int32.ofNat 2560 from hd)
  exact ⟨b, xs, Cond.one_arg hc (show args[0]? = some (.ref b) from hb), hx, hN, h⟩
theorem lw_comes (l : Launch) (hflags : l.flags = flags0) : Comes l x (Jvm.Cond.code x code maxLocals ret :: tables_1) room_1 (fun tb e args s => Calls_1 tb e args s ∧ rest_1 tb e args s ∧ Pre_1 tb e args s)
    (fun _ _ args s o t => lw_Q args s o t) := by
  intro p e ha hc hk s m args below hf hfit hheap happ hpre
  obtain ⟨b, xs, hP⟩ := lw_pre_spec hpre.2.2 hpre.2.1
  obtain ⟨k, o, h1, h2, h3, hQ⟩ := lw_walk l hflags b xs p e ha hc hk s m args below hf ((Spec.applies_iff_loose hf).mp happ).1 hP trivial
  exact ⟨k, o, h1, h2, h3, hQ⟩
theorem lw_frame {s t : State} {o : Outcome} {args : Array Value} (h : Framed s o t [] 600000 7302250) :
    Framed s o t (fieldLocs frame_1_writes args s ++ arrayLocs frame_1_arrays args s ++ staticLocs frame_1_statics s) 600000 7302250 := h
theorem lw_limb (L : Cond) (hL : ∀ (args : Array Value) (s t : State), L.after args s (.returned (some (.int 1))) t = true) :
    ArmFor flags0 classFile x code maxLocals ret World_1 tables_1 room_1 Calls_1 rest_1 Pre_1
      (fun tb e a s o t => postC L tb e a s o t ∧ Framed s o t (fieldLocs frame_1_writes a s ++ arrayLocs frame_1_arrays a s ++ staticLocs frame_1_statics s) 600000 7302250) := by
  intro l hflags _ _ p e ha hc hk s m args below hf hfit hheap happ hpre
  obtain ⟨k, o, h1, h2, h3, rfl, hF⟩ := lw_comes l hflags p e ha hc hk s m args below hf hfit hheap happ hpre
  exact ⟨k, _, h1, h2, h3, hL args s _, lw_frame hF⟩
theorem i_vc : Claimed_1_1 ∧ Claimed_1_2 := ⟨lw_limb limb_1_1 (fun args s t => by simp [limb_1_1, Cond.after, Cond.holds, Cond.value]), lw_limb limb_1_2 (fun args s t => Cond.after_iff.mpr (by
  first | (rw [show limb_1_2 = Cond.eq .result (.int 1) from rfl, Cond.eq_ints (x := 1) (y := 1) rfl rfl]; simp; done) | (simp [limb_1_2, Cond.value, Term.eval]; done)))⟩
end
