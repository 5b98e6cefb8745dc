section
-- ===== PART A: goes FIRST, ahead of the names: the tables' words, and 'selects' of the private methods out of them =====
/-- a private method of a class that the tables say can be made, by its rows of tables_1 -/
def lw_okq (q : MethodName × Nat) : Prop := (q.1.cls ≠ "java/lang/invoke/MethodHandle" ∧ q.1.cls ≠ "java/lang/invoke/VarHandle") ∧ Cond.instantiable q.1.cls q.2 ∈ tables_1 ∧ Cond.privateMethod q.1 ∈ tables_1 ∧ Cond.instanceMethod q.1 ∈ tables_1
theorem lw_p0 : lw_okq (⟨"LeastRows$History", "stateAt", "(I)LLeastRows$State;"⟩, 3) := ⟨⟨by decide +kernel, by decide +kernel⟩, List.mem_of_getElem? (i := 181) (by decide +kernel), List.mem_of_getElem? (i := 251) (by decide +kernel), List.mem_of_getElem? (i := 252) (by decide +kernel)⟩
theorem lw_p1 : lw_okq (⟨"LeastRows$Rule", "isGreater", "(III)Z"⟩, 5) := ⟨⟨by decide +kernel, by decide +kernel⟩, List.mem_of_getElem? (i := 73) (by decide +kernel), List.mem_of_getElem? (i := 266) (by decide +kernel), List.mem_of_getElem? (i := 267) (by decide +kernel)⟩
theorem lw_p2 : lw_okq (⟨"LeastRows$Rule", "note", "(III)V"⟩, 5) := ⟨⟨by decide +kernel, by decide +kernel⟩, List.mem_of_getElem? (i := 73) (by decide +kernel), List.mem_of_getElem? (i := 274) (by decide +kernel), List.mem_of_getElem? (i := 275) (by decide +kernel)⟩
theorem lw_p3 : lw_okq (⟨"LeastRows$Text", "takes", "(I)Z"⟩, 8) := ⟨⟨by decide +kernel, by decide +kernel⟩, List.mem_of_getElem? (i := 149) (by decide +kernel), List.mem_of_getElem? (i := 306) (by decide +kernel), List.mem_of_getElem? (i := 307) (by decide +kernel)⟩
theorem lw_p4 : lw_okq (⟨"LeastRows$Text", "takesDigit", "(I)Z"⟩, 8) := ⟨⟨by decide +kernel, by decide +kernel⟩, List.mem_of_getElem? (i := 149) (by decide +kernel), List.mem_of_getElem? (i := 313) (by decide +kernel), List.mem_of_getElem? (i := 314) (by decide +kernel)⟩
theorem lw_p5 : lw_okq (⟨"LeastRows$Text", "takesComma", "()Z"⟩, 8) := ⟨⟨by decide +kernel, by decide +kernel⟩, List.mem_of_getElem? (i := 149) (by decide +kernel), List.mem_of_getElem? (i := 318) (by decide +kernel), List.mem_of_getElem? (i := 319) (by decide +kernel)⟩
theorem lw_p6 : lw_okq (⟨"LeastRows$Text", "takesSlash", "()Z"⟩, 8) := ⟨⟨by decide +kernel, by decide +kernel⟩, List.mem_of_getElem? (i := 149) (by decide +kernel), List.mem_of_getElem? (i := 322) (by decide +kernel), List.mem_of_getElem? (i := 323) (by decide +kernel)⟩
theorem lw_p7 : lw_okq (⟨"LeastRows$Text", "isRowFull", "()Z"⟩, 8) := ⟨⟨by decide +kernel, by decide +kernel⟩, List.mem_of_getElem? (i := 149) (by decide +kernel), List.mem_of_getElem? (i := 326) (by decide +kernel), List.mem_of_getElem? (i := 327) (by decide +kernel)⟩
theorem lw_p8 : lw_okq (⟨"LeastRows$Finder", "leaveAllColumns", "()V"⟩, 7) := ⟨⟨by decide +kernel, by decide +kernel⟩, List.mem_of_getElem? (i := 99) (by decide +kernel), List.mem_of_getElem? (i := 347) (by decide +kernel), List.mem_of_getElem? (i := 348) (by decide +kernel)⟩
theorem lw_p9 : lw_okq (⟨"LeastRows$Finder", "leftmostLeast", "(IIII)I"⟩, 7) := ⟨⟨by decide +kernel, by decide +kernel⟩, List.mem_of_getElem? (i := 99) (by decide +kernel), List.mem_of_getElem? (i := 355) (by decide +kernel), List.mem_of_getElem? (i := 356) (by decide +kernel)⟩
theorem lw_p10 : lw_okq (⟨"LeastRows$Finder", "columnLeft", "(II)I"⟩, 7) := ⟨⟨by decide +kernel, by decide +kernel⟩, List.mem_of_getElem? (i := 99) (by decide +kernel), List.mem_of_getElem? (i := 360) (by decide +kernel), List.mem_of_getElem? (i := 361) (by decide +kernel)⟩
theorem lw_p11 : lw_okq (⟨"LeastRows$Finder", "look", "(II)I"⟩, 7) := ⟨⟨by decide +kernel, by decide +kernel⟩, List.mem_of_getElem? (i := 99) (by decide +kernel), List.mem_of_getElem? (i := 365) (by decide +kernel), List.mem_of_getElem? (i := 366) (by decide +kernel)⟩
theorem lw_p12 : lw_okq (⟨"LeastRows$Finder", "setPlace", "(II)V"⟩, 7) := ⟨⟨by decide +kernel, by decide +kernel⟩, List.mem_of_getElem? (i := 99) (by decide +kernel), List.mem_of_getElem? (i := 370) (by decide +kernel), List.mem_of_getElem? (i := 371) (by decide +kernel)⟩
theorem lw_p13 : lw_okq (⟨"LeastRows$Finder", "pileColumns", "(I)V"⟩, 7) := ⟨⟨by decide +kernel, by decide +kernel⟩, List.mem_of_getElem? (i := 99) (by decide +kernel), List.mem_of_getElem? (i := 374) (by decide +kernel), List.mem_of_getElem? (i := 375) (by decide +kernel)⟩
theorem lw_p14 : lw_okq (⟨"LeastRows$Finder", "rowsAt", "(I)I"⟩, 7) := ⟨⟨by decide +kernel, by decide +kernel⟩, List.mem_of_getElem? (i := 99) (by decide +kernel), List.mem_of_getElem? (i := 378) (by decide +kernel), List.mem_of_getElem? (i := 379) (by decide +kernel)⟩
theorem lw_p15 : lw_okq (⟨"LeastRows$Finder", "heightAfterThrowing", "(III)I"⟩, 7) := ⟨⟨by decide +kernel, by decide +kernel⟩, List.mem_of_getElem? (i := 99) (by decide +kernel), List.mem_of_getElem? (i := 382) (by decide +kernel), List.mem_of_getElem? (i := 383) (by decide +kernel)⟩
def lw_privs_1 : List (MethodName × Nat) := [(⟨"LeastRows$History", "stateAt", "(I)LLeastRows$State;"⟩, 3), (⟨"LeastRows$Rule", "isGreater", "(III)Z"⟩, 5), (⟨"LeastRows$Rule", "note", "(III)V"⟩, 5), (⟨"LeastRows$Text", "takes", "(I)Z"⟩, 8), (⟨"LeastRows$Text", "takesDigit", "(I)Z"⟩, 8), (⟨"LeastRows$Text", "takesComma", "()Z"⟩, 8), (⟨"LeastRows$Text", "takesSlash", "()Z"⟩, 8), (⟨"LeastRows$Text", "isRowFull", "()Z"⟩, 8), (⟨"LeastRows$Finder", "leaveAllColumns", "()V"⟩, 7), (⟨"LeastRows$Finder", "leftmostLeast", "(IIII)I"⟩, 7), (⟨"LeastRows$Finder", "columnLeft", "(II)I"⟩, 7), (⟨"LeastRows$Finder", "look", "(II)I"⟩, 7), (⟨"LeastRows$Finder", "setPlace", "(II)V"⟩, 7), (⟨"LeastRows$Finder", "pileColumns", "(I)V"⟩, 7), (⟨"LeastRows$Finder", "rowsAt", "(I)I"⟩, 7), (⟨"LeastRows$Finder", "heightAfterThrowing", "(III)I"⟩, 7)]
theorem lw_r1 : ∀ q ∈ lw_privs_1, lw_okq q := List.forall_mem_cons.mpr ⟨lw_p0, List.forall_mem_cons.mpr ⟨lw_p1, List.forall_mem_cons.mpr ⟨lw_p2, List.forall_mem_cons.mpr ⟨lw_p3, List.forall_mem_cons.mpr ⟨lw_p4, List.forall_mem_cons.mpr ⟨lw_p5, List.forall_mem_cons.mpr ⟨lw_p6, List.forall_mem_cons.mpr ⟨lw_p7, List.forall_mem_cons.mpr ⟨lw_p8, List.forall_mem_cons.mpr ⟨lw_p9, List.forall_mem_cons.mpr ⟨lw_p10, List.forall_mem_cons.mpr ⟨lw_p11, List.forall_mem_cons.mpr ⟨lw_p12, List.forall_mem_cons.mpr ⟨lw_p13, List.forall_mem_cons.mpr ⟨lw_p14, List.forall_mem_cons.mpr ⟨lw_p15, fun _ h => absurd h List.not_mem_nil⟩⟩⟩⟩⟩⟩⟩⟩⟩⟩⟩⟩⟩⟩⟩⟩
theorem lw_p16 : lw_okq (⟨"LeastRows$Finder", "rowAt", "(II)I"⟩, 7) := ⟨⟨by decide +kernel, by decide +kernel⟩, List.mem_of_getElem? (i := 99) (by decide +kernel), List.mem_of_getElem? (i := 386) (by decide +kernel), List.mem_of_getElem? (i := 387) (by decide +kernel)⟩
theorem lw_p17 : lw_okq (⟨"LeastRows$Finder", "fillBetween", "(I)V"⟩, 7) := ⟨⟨by decide +kernel, by decide +kernel⟩, List.mem_of_getElem? (i := 99) (by decide +kernel), List.mem_of_getElem? (i := 390) (by decide +kernel), List.mem_of_getElem? (i := 391) (by decide +kernel)⟩
theorem lw_p18 : lw_okq (⟨"LeastRows$Finder", "lookAtAll", "()V"⟩, 7) := ⟨⟨by decide +kernel, by decide +kernel⟩, List.mem_of_getElem? (i := 99) (by decide +kernel), List.mem_of_getElem? (i := 398) (by decide +kernel), List.mem_of_getElem? (i := 399) (by decide +kernel)⟩
theorem lw_p19 : lw_okq (⟨"LeastRows", "counted", "(I)I"⟩, 8) := ⟨⟨by decide +kernel, by decide +kernel⟩, List.mem_of_getElem? (i := 19) (by decide +kernel), List.mem_of_getElem? (i := 415) (by decide +kernel), List.mem_of_getElem? (i := 416) (by decide +kernel)⟩
theorem lw_p20 : lw_okq (⟨"LeastRows", "mixedCells", "(J)J"⟩, 8) := ⟨⟨by decide +kernel, by decide +kernel⟩, List.mem_of_getElem? (i := 19) (by decide +kernel), List.mem_of_getElem? (i := 436) (by decide +kernel), List.mem_of_getElem? (i := 437) (by decide +kernel)⟩
theorem lw_p21 : lw_okq (⟨"LeastRows", "seekByAllWays", "()V"⟩, 8) := ⟨⟨by decide +kernel, by decide +kernel⟩, List.mem_of_getElem? (i := 19) (by decide +kernel), List.mem_of_getElem? (i := 440) (by decide +kernel), List.mem_of_getElem? (i := 441) (by decide +kernel)⟩
theorem lw_p22 : lw_okq (⟨"LeastRows", "mixedPlaces", "(J)J"⟩, 8) := ⟨⟨by decide +kernel, by decide +kernel⟩, List.mem_of_getElem? (i := 19) (by decide +kernel), List.mem_of_getElem? (i := 448) (by decide +kernel), List.mem_of_getElem? (i := 449) (by decide +kernel)⟩
theorem lw_p23 : lw_okq (⟨"LeastRows", "mixedWeights", "(J)J"⟩, 8) := ⟨⟨by decide +kernel, by decide +kernel⟩, List.mem_of_getElem? (i := 19) (by decide +kernel), List.mem_of_getElem? (i := 459) (by decide +kernel), List.mem_of_getElem? (i := 460) (by decide +kernel)⟩
theorem lw_p24 : lw_okq (⟨"LeastRows$Cutter", "planLastCut", "(II)V"⟩, 5) := ⟨⟨by decide +kernel, by decide +kernel⟩, List.mem_of_getElem? (i := 127) (by decide +kernel), List.mem_of_getElem? (i := 470) (by decide +kernel), List.mem_of_getElem? (i := 471) (by decide +kernel)⟩
theorem lw_p25 : lw_okq (⟨"java/lang/Throwable", "fillInStackTrace", "(I)Ljava/lang/Throwable;"⟩, 6) := ⟨⟨by decide +kernel, by decide +kernel⟩, List.mem_of_getElem? (i := 559) (by decide +kernel), List.mem_of_getElem? (i := 557) (by decide +kernel), List.mem_of_getElem? (i := 558) (by decide +kernel)⟩
theorem lw_p26 : lw_okq (⟨"LeastRows", "isOpen", "(I)Z"⟩, 8) := ⟨⟨by decide +kernel, by decide +kernel⟩, List.mem_of_getElem? (i := 19) (by decide +kernel), List.mem_of_getElem? (i := 644) (by decide +kernel), List.mem_of_getElem? (i := 645) (by decide +kernel)⟩
theorem lw_p27 : lw_okq (⟨"LeastRows", "slotAt", "(I)LLeastRows$Slot;"⟩, 8) := ⟨⟨by decide +kernel, by decide +kernel⟩, List.mem_of_getElem? (i := 19) (by decide +kernel), List.mem_of_getElem? (i := 731) (by decide +kernel), List.mem_of_getElem? (i := 732) (by decide +kernel)⟩
theorem lw_p28 : lw_okq (⟨"LeastRowsModel", "refuses", "(I)I"⟩, 21) := ⟨⟨by decide +kernel, by decide +kernel⟩, List.mem_of_getElem? (i := 832) (by decide +kernel), List.mem_of_getElem? (i := 913) (by decide +kernel), List.mem_of_getElem? (i := 914) (by decide +kernel)⟩
theorem lw_p29 : lw_okq (⟨"LeastRowsModel", "saves", "()V"⟩, 21) := ⟨⟨by decide +kernel, by decide +kernel⟩, List.mem_of_getElem? (i := 832) (by decide +kernel), List.mem_of_getElem? (i := 917) (by decide +kernel), List.mem_of_getElem? (i := 918) (by decide +kernel)⟩
theorem lw_p30 : lw_okq (⟨"LeastRowsModel", "isCell", "(II)Z"⟩, 21) := ⟨⟨by decide +kernel, by decide +kernel⟩, List.mem_of_getElem? (i := 832) (by decide +kernel), List.mem_of_getElem? (i := 928) (by decide +kernel), List.mem_of_getElem? (i := 929) (by decide +kernel)⟩
theorem lw_p31 : lw_okq (⟨"LeastRowsModel", "isRow", "(I)Z"⟩, 21) := ⟨⟨by decide +kernel, by decide +kernel⟩, List.mem_of_getElem? (i := 832) (by decide +kernel), List.mem_of_getElem? (i := 932) (by decide +kernel), List.mem_of_getElem? (i := 933) (by decide +kernel)⟩
def lw_privs_2 : List (MethodName × Nat) := [(⟨"LeastRows$Finder", "rowAt", "(II)I"⟩, 7), (⟨"LeastRows$Finder", "fillBetween", "(I)V"⟩, 7), (⟨"LeastRows$Finder", "lookAtAll", "()V"⟩, 7), (⟨"LeastRows", "counted", "(I)I"⟩, 8), (⟨"LeastRows", "mixedCells", "(J)J"⟩, 8), (⟨"LeastRows", "seekByAllWays", "()V"⟩, 8), (⟨"LeastRows", "mixedPlaces", "(J)J"⟩, 8), (⟨"LeastRows", "mixedWeights", "(J)J"⟩, 8), (⟨"LeastRows$Cutter", "planLastCut", "(II)V"⟩, 5), (⟨"java/lang/Throwable", "fillInStackTrace", "(I)Ljava/lang/Throwable;"⟩, 6), (⟨"LeastRows", "isOpen", "(I)Z"⟩, 8), (⟨"LeastRows", "slotAt", "(I)LLeastRows$Slot;"⟩, 8), (⟨"LeastRowsModel", "refuses", "(I)I"⟩, 21), (⟨"LeastRowsModel", "saves", "()V"⟩, 21), (⟨"LeastRowsModel", "isCell", "(II)Z"⟩, 21), (⟨"LeastRowsModel", "isRow", "(I)Z"⟩, 21)]
theorem lw_r2 : ∀ q ∈ lw_privs_2, lw_okq q := List.forall_mem_cons.mpr ⟨lw_p16, List.forall_mem_cons.mpr ⟨lw_p17, List.forall_mem_cons.mpr ⟨lw_p18, List.forall_mem_cons.mpr ⟨lw_p19, List.forall_mem_cons.mpr ⟨lw_p20, List.forall_mem_cons.mpr ⟨lw_p21, List.forall_mem_cons.mpr ⟨lw_p22, List.forall_mem_cons.mpr ⟨lw_p23, List.forall_mem_cons.mpr ⟨lw_p24, List.forall_mem_cons.mpr ⟨lw_p25, List.forall_mem_cons.mpr ⟨lw_p26, List.forall_mem_cons.mpr ⟨lw_p27, List.forall_mem_cons.mpr ⟨lw_p28, List.forall_mem_cons.mpr ⟨lw_p29, List.forall_mem_cons.mpr ⟨lw_p30, List.forall_mem_cons.mpr ⟨lw_p31, fun _ h => absurd h List.not_mem_nil⟩⟩⟩⟩⟩⟩⟩⟩⟩⟩⟩⟩⟩⟩⟩⟩
theorem lw_p32 : lw_okq (⟨"LeastRowsModel", "at", "(II)I"⟩, 21) := ⟨⟨by decide +kernel, by decide +kernel⟩, List.mem_of_getElem? (i := 832) (by decide +kernel), List.mem_of_getElem? (i := 936) (by decide +kernel), List.mem_of_getElem? (i := 937) (by decide +kernel)⟩
theorem lw_p33 : lw_okq (⟨"LeastRowsModel", "becomes", "(III)V"⟩, 21) := ⟨⟨by decide +kernel, by decide +kernel⟩, List.mem_of_getElem? (i := 832) (by decide +kernel), List.mem_of_getElem? (i := 940) (by decide +kernel), List.mem_of_getElem? (i := 941) (by decide +kernel)⟩
theorem lw_p34 : lw_okq (⟨"LeastRowsModel", "isKeeping", "()Z"⟩, 21) := ⟨⟨by decide +kernel, by decide +kernel⟩, List.mem_of_getElem? (i := 832) (by decide +kernel), List.mem_of_getElem? (i := 948) (by decide +kernel), List.mem_of_getElem? (i := 949) (by decide +kernel)⟩
theorem lw_p35 : lw_okq (⟨"LeastRowsModel", "first", "()I"⟩, 21) := ⟨⟨by decide +kernel, by decide +kernel⟩, List.mem_of_getElem? (i := 832) (by decide +kernel), List.mem_of_getElem? (i := 952) (by decide +kernel), List.mem_of_getElem? (i := 953) (by decide +kernel)⟩
theorem lw_p36 : lw_okq (⟨"LeastRowsModel", "isAgainst", "(III)Z"⟩, 21) := ⟨⟨by decide +kernel, by decide +kernel⟩, List.mem_of_getElem? (i := 832) (by decide +kernel), List.mem_of_getElem? (i := 956) (by decide +kernel), List.mem_of_getElem? (i := 957) (by decide +kernel)⟩
theorem lw_p37 : lw_okq (⟨"LeastRowsModel", "canGo", "(I)Z"⟩, 21) := ⟨⟨by decide +kernel, by decide +kernel⟩, List.mem_of_getElem? (i := 832) (by decide +kernel), List.mem_of_getElem? (i := 968) (by decide +kernel), List.mem_of_getElem? (i := 969) (by decide +kernel)⟩
theorem lw_p38 : lw_okq (⟨"LeastRowsModel", "finds", "(I)V"⟩, 21) := ⟨⟨by decide +kernel, by decide +kernel⟩, List.mem_of_getElem? (i := 832) (by decide +kernel), List.mem_of_getElem? (i := 972) (by decide +kernel), List.mem_of_getElem? (i := 973) (by decide +kernel)⟩
theorem lw_p39 : lw_okq (⟨"LeastRowsModel", "byAll", "()V"⟩, 21) := ⟨⟨by decide +kernel, by decide +kernel⟩, List.mem_of_getElem? (i := 832) (by decide +kernel), List.mem_of_getElem? (i := 976) (by decide +kernel), List.mem_of_getElem? (i := 977) (by decide +kernel)⟩
theorem lw_p40 : lw_okq (⟨"LeastRowsModel", "least", "(III)I"⟩, 21) := ⟨⟨by decide +kernel, by decide +kernel⟩, List.mem_of_getElem? (i := 832) (by decide +kernel), List.mem_of_getElem? (i := 980) (by decide +kernel), List.mem_of_getElem? (i := 981) (by decide +kernel)⟩
theorem lw_p41 : lw_okq (⟨"LeastRowsModel", "byHalves", "()V"⟩, 21) := ⟨⟨by decide +kernel, by decide +kernel⟩, List.mem_of_getElem? (i := 832) (by decide +kernel), List.mem_of_getElem? (i := 984) (by decide +kernel), List.mem_of_getElem? (i := 985) (by decide +kernel)⟩
theorem lw_p42 : lw_okq (⟨"LeastRowsModel", "opens", "(IIII)V"⟩, 21) := ⟨⟨by decide +kernel, by decide +kernel⟩, List.mem_of_getElem? (i := 832) (by decide +kernel), List.mem_of_getElem? (i := 988) (by decide +kernel), List.mem_of_getElem? (i := 989) (by decide +kernel)⟩
theorem lw_p43 : lw_okq (⟨"LeastRowsModel", "byThrowing", "()V"⟩, 21) := ⟨⟨by decide +kernel, by decide +kernel⟩, List.mem_of_getElem? (i := 832) (by decide +kernel), List.mem_of_getElem? (i := 992) (by decide +kernel), List.mem_of_getElem? (i := 993) (by decide +kernel)⟩
theorem lw_p44 : lw_okq (⟨"LeastRowsModel", "throwsOut", "(I)V"⟩, 21) := ⟨⟨by decide +kernel, by decide +kernel⟩, List.mem_of_getElem? (i := 832) (by decide +kernel), List.mem_of_getElem? (i := 996) (by decide +kernel), List.mem_of_getElem? (i := 997) (by decide +kernel)⟩
theorem lw_p45 : lw_okq (⟨"LeastRowsModel", "piles", "(III)I"⟩, 21) := ⟨⟨by decide +kernel, by decide +kernel⟩, List.mem_of_getElem? (i := 832) (by decide +kernel), List.mem_of_getElem? (i := 1000) (by decide +kernel), List.mem_of_getElem? (i := 1001) (by decide +kernel)⟩
theorem lw_p46 : lw_okq (⟨"LeastRowsModel", "fills", "(I)V"⟩, 21) := ⟨⟨by decide +kernel, by decide +kernel⟩, List.mem_of_getElem? (i := 832) (by decide +kernel), List.mem_of_getElem? (i := 1007) (by decide +kernel), List.mem_of_getElem? (i := 1008) (by decide +kernel)⟩
theorem lw_p47 : lw_okq (⟨"LeastRowsModel", "leastLeft", "(IIII)I"⟩, 21) := ⟨⟨by decide +kernel, by decide +kernel⟩, List.mem_of_getElem? (i := 832) (by decide +kernel), List.mem_of_getElem? (i := 1011) (by decide +kernel), List.mem_of_getElem? (i := 1012) (by decide +kernel)⟩
def lw_privs_3 : List (MethodName × Nat) := [(⟨"LeastRowsModel", "at", "(II)I"⟩, 21), (⟨"LeastRowsModel", "becomes", "(III)V"⟩, 21), (⟨"LeastRowsModel", "isKeeping", "()Z"⟩, 21), (⟨"LeastRowsModel", "first", "()I"⟩, 21), (⟨"LeastRowsModel", "isAgainst", "(III)Z"⟩, 21), (⟨"LeastRowsModel", "canGo", "(I)Z"⟩, 21), (⟨"LeastRowsModel", "finds", "(I)V"⟩, 21), (⟨"LeastRowsModel", "byAll", "()V"⟩, 21), (⟨"LeastRowsModel", "least", "(III)I"⟩, 21), (⟨"LeastRowsModel", "byHalves", "()V"⟩, 21), (⟨"LeastRowsModel", "opens", "(IIII)V"⟩, 21), (⟨"LeastRowsModel", "byThrowing", "()V"⟩, 21), (⟨"LeastRowsModel", "throwsOut", "(I)V"⟩, 21), (⟨"LeastRowsModel", "piles", "(III)I"⟩, 21), (⟨"LeastRowsModel", "fills", "(I)V"⟩, 21), (⟨"LeastRowsModel", "leastLeft", "(IIII)I"⟩, 21)]
theorem lw_r3 : ∀ q ∈ lw_privs_3, lw_okq q := List.forall_mem_cons.mpr ⟨lw_p32, List.forall_mem_cons.mpr ⟨lw_p33, List.forall_mem_cons.mpr ⟨lw_p34, List.forall_mem_cons.mpr ⟨lw_p35, List.forall_mem_cons.mpr ⟨lw_p36, List.forall_mem_cons.mpr ⟨lw_p37, List.forall_mem_cons.mpr ⟨lw_p38, List.forall_mem_cons.mpr ⟨lw_p39, List.forall_mem_cons.mpr ⟨lw_p40, List.forall_mem_cons.mpr ⟨lw_p41, List.forall_mem_cons.mpr ⟨lw_p42, List.forall_mem_cons.mpr ⟨lw_p43, List.forall_mem_cons.mpr ⟨lw_p44, List.forall_mem_cons.mpr ⟨lw_p45, List.forall_mem_cons.mpr ⟨lw_p46, List.forall_mem_cons.mpr ⟨lw_p47, fun _ h => absurd h List.not_mem_nil⟩⟩⟩⟩⟩⟩⟩⟩⟩⟩⟩⟩⟩⟩⟩⟩
theorem lw_p48 : lw_okq (⟨"LeastRowsModel", "isWhole", "()Z"⟩, 21) := ⟨⟨by decide +kernel, by decide +kernel⟩, List.mem_of_getElem? (i := 832) (by decide +kernel), List.mem_of_getElem? (i := 1035) (by decide +kernel), List.mem_of_getElem? (i := 1036) (by decide +kernel)⟩
theorem lw_p49 : lw_okq (⟨"LeastRowsModel", "isLine", "(I)I"⟩, 21) := ⟨⟨by decide +kernel, by decide +kernel⟩, List.mem_of_getElem? (i := 832) (by decide +kernel), List.mem_of_getElem? (i := 1039) (by decide +kernel), List.mem_of_getElem? (i := 1040) (by decide +kernel)⟩
theorem lw_p50 : lw_okq (⟨"LeastRowsModel", "isNumber", "(II)Z"⟩, 21) := ⟨⟨by decide +kernel, by decide +kernel⟩, List.mem_of_getElem? (i := 832) (by decide +kernel), List.mem_of_getElem? (i := 1043) (by decide +kernel), List.mem_of_getElem? (i := 1044) (by decide +kernel)⟩
theorem lw_p51 : lw_okq (⟨"LeastRowsModel", "sees", "(II)Z"⟩, 21) := ⟨⟨by decide +kernel, by decide +kernel⟩, List.mem_of_getElem? (i := 832) (by decide +kernel), List.mem_of_getElem? (i := 1047) (by decide +kernel), List.mem_of_getElem? (i := 1048) (by decide +kernel)⟩
theorem lw_p52 : lw_okq (⟨"LeastRowsModel", "takes", "(I)Z"⟩, 21) := ⟨⟨by decide +kernel, by decide +kernel⟩, List.mem_of_getElem? (i := 832) (by decide +kernel), List.mem_of_getElem? (i := 1051) (by decide +kernel), List.mem_of_getElem? (i := 1052) (by decide +kernel)⟩
theorem lw_p53 : lw_okq (⟨"LeastRowsModel", "placeBy", "(II)I"⟩, 21) := ⟨⟨by decide +kernel, by decide +kernel⟩, List.mem_of_getElem? (i := 832) (by decide +kernel), List.mem_of_getElem? (i := 1079) (by decide +kernel), List.mem_of_getElem? (i := 1080) (by decide +kernel)⟩
theorem lw_p54 : lw_okq (⟨"LeastRowsModel", "looksBy", "(I)I"⟩, 21) := ⟨⟨by decide +kernel, by decide +kernel⟩, List.mem_of_getElem? (i := 832) (by decide +kernel), List.mem_of_getElem? (i := 1087) (by decide +kernel), List.mem_of_getElem? (i := 1088) (by decide +kernel)⟩
theorem lw_p55 : lw_okq (⟨"LeastRowsModel", "bounds", "()I"⟩, 21) := ⟨⟨by decide +kernel, by decide +kernel⟩, List.mem_of_getElem? (i := 832) (by decide +kernel), List.mem_of_getElem? (i := 1095) (by decide +kernel), List.mem_of_getElem? (i := 1096) (by decide +kernel)⟩
theorem lw_p56 : lw_okq (⟨"LeastRowsModel", "testified", "(I)I"⟩, 21) := ⟨⟨by decide +kernel, by decide +kernel⟩, List.mem_of_getElem? (i := 832) (by decide +kernel), List.mem_of_getElem? (i := 1103) (by decide +kernel), List.mem_of_getElem? (i := 1104) (by decide +kernel)⟩
theorem lw_p57 : lw_okq (⟨"LeastRowsModel", "witnesses", "()I"⟩, 21) := ⟨⟨by decide +kernel, by decide +kernel⟩, List.mem_of_getElem? (i := 832) (by decide +kernel), List.mem_of_getElem? (i := 1107) (by decide +kernel), List.mem_of_getElem? (i := 1108) (by decide +kernel)⟩
theorem lw_p58 : lw_okq (⟨"LeastRowsModel", "counted", "(I)I"⟩, 21) := ⟨⟨by decide +kernel, by decide +kernel⟩, List.mem_of_getElem? (i := 832) (by decide +kernel), List.mem_of_getElem? (i := 1115) (by decide +kernel), List.mem_of_getElem? (i := 1116) (by decide +kernel)⟩
theorem lw_p59 : lw_okq (⟨"LeastRowsModel", "weighs", "(II)I"⟩, 21) := ⟨⟨by decide +kernel, by decide +kernel⟩, List.mem_of_getElem? (i := 832) (by decide +kernel), List.mem_of_getElem? (i := 1119) (by decide +kernel), List.mem_of_getElem? (i := 1120) (by decide +kernel)⟩
theorem lw_p60 : lw_okq (⟨"LeastRowsModel", "goingBack", "()I"⟩, 21) := ⟨⟨by decide +kernel, by decide +kernel⟩, List.mem_of_getElem? (i := 832) (by decide +kernel), List.mem_of_getElem? (i := 1123) (by decide +kernel), List.mem_of_getElem? (i := 1124) (by decide +kernel)⟩
theorem lw_p61 : lw_okq (⟨"LeastRowsModel", "isParts", "(I)Z"⟩, 21) := ⟨⟨by decide +kernel, by decide +kernel⟩, List.mem_of_getElem? (i := 832) (by decide +kernel), List.mem_of_getElem? (i := 1135) (by decide +kernel), List.mem_of_getElem? (i := 1136) (by decide +kernel)⟩
theorem lw_p62 : lw_okq (⟨"LeastRowsModel", "leastCost", "(I)I"⟩, 21) := ⟨⟨by decide +kernel, by decide +kernel⟩, List.mem_of_getElem? (i := 832) (by decide +kernel), List.mem_of_getElem? (i := 1139) (by decide +kernel), List.mem_of_getElem? (i := 1140) (by decide +kernel)⟩
theorem lw_p63 : lw_okq (⟨"LeastRowsModel", "cuts", "()V"⟩, 21) := ⟨⟨by decide +kernel, by decide +kernel⟩, List.mem_of_getElem? (i := 832) (by decide +kernel), List.mem_of_getElem? (i := 1143) (by decide +kernel), List.mem_of_getElem? (i := 1144) (by decide +kernel)⟩
def lw_privs_4 : List (MethodName × Nat) := [(⟨"LeastRowsModel", "isWhole", "()Z"⟩, 21), (⟨"LeastRowsModel", "isLine", "(I)I"⟩, 21), (⟨"LeastRowsModel", "isNumber", "(II)Z"⟩, 21), (⟨"LeastRowsModel", "sees", "(II)Z"⟩, 21), (⟨"LeastRowsModel", "takes", "(I)Z"⟩, 21), (⟨"LeastRowsModel", "placeBy", "(II)I"⟩, 21), (⟨"LeastRowsModel", "looksBy", "(I)I"⟩, 21), (⟨"LeastRowsModel", "bounds", "()I"⟩, 21), (⟨"LeastRowsModel", "testified", "(I)I"⟩, 21), (⟨"LeastRowsModel", "witnesses", "()I"⟩, 21), (⟨"LeastRowsModel", "counted", "(I)I"⟩, 21), (⟨"LeastRowsModel", "weighs", "(II)I"⟩, 21), (⟨"LeastRowsModel", "goingBack", "()I"⟩, 21), (⟨"LeastRowsModel", "isParts", "(I)Z"⟩, 21), (⟨"LeastRowsModel", "leastCost", "(I)I"⟩, 21), (⟨"LeastRowsModel", "cuts", "()V"⟩, 21)]
theorem lw_r4 : ∀ q ∈ lw_privs_4, lw_okq q := List.forall_mem_cons.mpr ⟨lw_p48, List.forall_mem_cons.mpr ⟨lw_p49, List.forall_mem_cons.mpr ⟨lw_p50, List.forall_mem_cons.mpr ⟨lw_p51, List.forall_mem_cons.mpr ⟨lw_p52, List.forall_mem_cons.mpr ⟨lw_p53, List.forall_mem_cons.mpr ⟨lw_p54, List.forall_mem_cons.mpr ⟨lw_p55, List.forall_mem_cons.mpr ⟨lw_p56, List.forall_mem_cons.mpr ⟨lw_p57, List.forall_mem_cons.mpr ⟨lw_p58, List.forall_mem_cons.mpr ⟨lw_p59, List.forall_mem_cons.mpr ⟨lw_p60, List.forall_mem_cons.mpr ⟨lw_p61, List.forall_mem_cons.mpr ⟨lw_p62, List.forall_mem_cons.mpr ⟨lw_p63, fun _ h => absurd h List.not_mem_nil⟩⟩⟩⟩⟩⟩⟩⟩⟩⟩⟩⟩⟩⟩⟩⟩
theorem lw_p64 : lw_okq (⟨"LeastRowsModel", "part", "(II)V"⟩, 21) := ⟨⟨by decide +kernel, by decide +kernel⟩, List.mem_of_getElem? (i := 832) (by decide +kernel), List.mem_of_getElem? (i := 1147) (by decide +kernel), List.mem_of_getElem? (i := 1148) (by decide +kernel)⟩
theorem lw_p65 : lw_okq (⟨"LeastRowsModel", "cutAt", "(II)I"⟩, 21) := ⟨⟨by decide +kernel, by decide +kernel⟩, List.mem_of_getElem? (i := 832) (by decide +kernel), List.mem_of_getElem? (i := 1155) (by decide +kernel), List.mem_of_getElem? (i := 1156) (by decide +kernel)⟩
theorem lw_p66 : lw_okq (⟨"LeastRowsModel", "fewest", "(I)I"⟩, 21) := ⟨⟨by decide +kernel, by decide +kernel⟩, List.mem_of_getElem? (i := 832) (by decide +kernel), List.mem_of_getElem? (i := 1164) (by decide +kernel), List.mem_of_getElem? (i := 1165) (by decide +kernel)⟩
theorem lw_p67 : lw_okq (⟨"LeastRowsModel", "share", "()D"⟩, 21) := ⟨⟨by decide +kernel, by decide +kernel⟩, List.mem_of_getElem? (i := 832) (by decide +kernel), List.mem_of_getElem? (i := 1172) (by decide +kernel), List.mem_of_getElem? (i := 1173) (by decide +kernel)⟩
theorem lw_p68 : lw_okq (⟨"LeastRowsModel", "mixes", "(J)V"⟩, 21) := ⟨⟨by decide +kernel, by decide +kernel⟩, List.mem_of_getElem? (i := 832) (by decide +kernel), List.mem_of_getElem? (i := 1181) (by decide +kernel), List.mem_of_getElem? (i := 1182) (by decide +kernel)⟩
theorem lw_p69 : lw_okq (⟨"LeastRowsModel", "mixesTable", "()V"⟩, 21) := ⟨⟨by decide +kernel, by decide +kernel⟩, List.mem_of_getElem? (i := 832) (by decide +kernel), List.mem_of_getElem? (i := 1186) (by decide +kernel), List.mem_of_getElem? (i := 1187) (by decide +kernel)⟩
theorem lw_p70 : lw_okq (⟨"LeastRowsModel", "mixesCuts", "(I)V"⟩, 21) := ⟨⟨by decide +kernel, by decide +kernel⟩, List.mem_of_getElem? (i := 832) (by decide +kernel), List.mem_of_getElem? (i := 1190) (by decide +kernel), List.mem_of_getElem? (i := 1191) (by decide +kernel)⟩
def lw_privs_5 : List (MethodName × Nat) := [(⟨"LeastRowsModel", "part", "(II)V"⟩, 21), (⟨"LeastRowsModel", "cutAt", "(II)I"⟩, 21), (⟨"LeastRowsModel", "fewest", "(I)I"⟩, 21), (⟨"LeastRowsModel", "share", "()D"⟩, 21), (⟨"LeastRowsModel", "mixes", "(J)V"⟩, 21), (⟨"LeastRowsModel", "mixesTable", "()V"⟩, 21), (⟨"LeastRowsModel", "mixesCuts", "(I)V"⟩, 21)]
theorem lw_r5 : ∀ q ∈ lw_privs_5, lw_okq q := List.forall_mem_cons.mpr ⟨lw_p64, List.forall_mem_cons.mpr ⟨lw_p65, List.forall_mem_cons.mpr ⟨lw_p66, List.forall_mem_cons.mpr ⟨lw_p67, List.forall_mem_cons.mpr ⟨lw_p68, List.forall_mem_cons.mpr ⟨lw_p69, List.forall_mem_cons.mpr ⟨lw_p70, fun _ h => absurd h List.not_mem_nil⟩⟩⟩⟩⟩⟩⟩
def lw_privs : List (MethodName × Nat) := lw_privs_1 ++ (lw_privs_2 ++ (lw_privs_3 ++ (lw_privs_4 ++ (lw_privs_5))))
def lw_tbl : List Cond := k2_sels lw_privs ++ tables_1
theorem lw_privs_ok : ∀ q ∈ lw_privs, lw_okq q := by
  show ∀ q ∈ lw_privs_1 ++ (lw_privs_2 ++ (lw_privs_3 ++ (lw_privs_4 ++ (lw_privs_5)))), lw_okq q
  exact List.forall_mem_append.mpr ⟨lw_r1, List.forall_mem_append.mpr ⟨lw_r2, List.forall_mem_append.mpr ⟨lw_r3, List.forall_mem_append.mpr ⟨lw_r4, lw_r5⟩⟩⟩⟩
/-- the streams that the claim lets the run draw from -/
abbrev lw_cs : List Choice := [Jvm.Choice.named "NaN.bits"]
theorem lw_bits : nanBits ∈ lw_cs := by first | decide | exact List.mem_cons_self | simp [lw_cs, nanBits]
/-! ===== BEGIN words of one list among another's, by their places ===== -/
theorem goodIn_r {big : List Cond} (ws : List Cond) (ps : List Nat) (hp : ws = ps.filterMap (fun i => big[i]?)) (h : ws.all goodWord = true) : GoodIn big ws := by
  intro w hw
  have h1 := List.all_eq_true.mp h w hw
  rw [hp] at hw
  obtain ⟨i, -, hi⟩ := List.mem_filterMap.mp hw
  have hm : w ∈ big := by first | exact List.mem_of_getElem? hi | exact List.getElem?_mem hi
  exact ⟨hm, good_of_word h1⟩
theorem goodIn_app {big a b : List Cond} (ha : GoodIn big a) (hb : GoodIn big b) : GoodIn big (a ++ b) := fun w h => (List.mem_append.mp h).elim (ha w) (hb w)
theorem goodIn_ca {big a b : List Cond} {c : Cond} (ha : GoodIn big (c :: a)) (hb : GoodIn big b) : GoodIn big (c :: (a ++ b)) := fun w h => (List.mem_cons.mp h).elim (fun e => ha w (List.mem_cons.mpr (Or.inl e))) (fun h => (List.mem_append.mp h).elim (fun h => ha w (List.mem_cons.mpr (Or.inr h))) (hb w))
theorem goodIn_sub {big ws : List Cond} (hm : ∀ w ∈ ws, w ∈ big) (h : ws.all goodWord = true) : GoodIn big ws := fun w hw => ⟨hm w hw, good_of_word (List.all_eq_true.mp h w hw)⟩
/-! ===== END ===== -/

/-! ===== BEGIN exceptions that leave a method, and their catching by the caller (launches without stack traces) ===== -/
section VXA
/-! The laws vx_back, vx_callV, vx_callS, vx_callSW, vx_throw0, vx_throwS follow proofs of the library, with one case more: JvmDerived/Free/Laws.lean (Back.of_free), Shelf42/LK1.lean (callV, callS), Shelf/KitTraced.lean (throwNew0V, throwNewS). -/
/-- where a method has thrown q: the class by its name, the cell, what was written, the world -/
def vx_T (XC : String → State → State → Prop) (st : State) (q : Addr) (t : State) (mc ms : Nat) (free : Addr → Prop) : Prop :=
  ∃ (E : String) (ce : Cell) (L : List Loc), XC E st t ∧ t.heap[q]? = some ce ∧ ce.vm = .none ∧ st.vm.findClass E = some ce.cls ∧ st.WarmedH t.vm ∧ st.sameButNew ({ t with vm := st.vm } : State) L mc ms ∧ ∀ z ∈ L, free z.base
def vx_Q (Qc : Array Value → State → Outcome → State → Prop) (XC : String → State → State → Prop) (mc ms : Nat) (free : Addr → Prop) : Array Value → State → Outcome → State → Prop := fun a st o t =>
  (Qc a st o t ∧ ∃ L, FrameEnd st o t L mc ms ∧ ∀ q ∈ L, free q.base) ∨ ∃ q, o = .threw q ∧ vx_T XC st q t mc ms free
/-- a callee that returns or throws -/
def vx_Met (l : Launch) (y : MethodName) (ws : List Cond) (rm : Room) (Pc : Array Value → State → Prop) (Qc : Array Value → State → Outcome → State → Prop) (XC : String → State → State → Prop) (mc ms : Nat) (free : Addr → Prop) : Prop :=
  MetFree l y (headSpec ws rm) Pc (fun _ _ _ _ _ => True) (vx_Q Qc XC mc ms free)
def vx_Post (XC : String → State → State → Prop) (mc ms : Nat) (free : Addr → Prop) : Pt → Array Value → Addr → Pt → Prop := fun A a q B =>
  ∃ (g : JFrame) (mk : MethodId) (t : State) (L : List Loc) (E : String) (ce : Cell), B.U.heap = t.heap ∧ B.U.vm = t.vm ∧ XC E (A.U.calling g mk a) t ∧ t.heap[q]? = some ce ∧ ce.vm = .none ∧ A.U.vm.findClass E = some ce.cls ∧ B.locs = A.locs ++ L ∧ (∀ z ∈ L, free z.base) ∧ B.cells = A.cells + mc ∧ B.slots = A.slots + ms
def vx_Back (l : Launch) (R : Room) (p : Program) (e : Env) (below : List Frame) (s : State) (sargs : Array Value) (y : MethodName) (len W9 : Nat)
    (Pre : Pt → Array Value → Prop) (Post : Pt → Array Value → Option Value → Pt → Prop) (PostX : Pt → Array Value → Addr → Pt → Prop) : Prop :=
  ∀ (m : MethodId) (meth : Method) (c : Code) (A : Pt) (g : JFrame) (ig : Instr) (mk : MethodId) (a : Array Value),
    Stand p l e R s m sargs below meth c A.U A.locs A.cells A.slots → g.method = m → g.locals.size = c.maxLocals → decode c.code g.pc = .ok (ig, len) →
    2 * g.monitorRoom + (g.stack.map fun v => v.category).sum ≤ W9 → A.U.methodNamed? y = some mk → Pre A a →
    (∃ (v : Option Value) (B : Pt), Stand p l e R s m sargs below meth c B.U B.locs B.cells B.slots ∧ Post A a v B ∧
      Steps p.tables e below (doInvoke e (A.U.setTop g) [] mk a).1 (B.U.setTop { g with pc := g.pc + len, stack := v.toList ++ g.stack })) ∨
    (∃ (q : Addr) (B : Pt), Stand p l e R s m sargs below meth c B.U B.locs B.cells B.slots ∧ PostX A a q B ∧
      Steps p.tables e below (doInvoke e (A.U.setTop g) [] mk a).1 ((B.U.setTop g).pushFrame (.throwing q)))
section Payer
variable {l : Launch} {R : Room} {p : Program} {e : Env} {below : List Frame} {s : State} {sargs : Array Value} {y : MethodName} {len W9 : Nat}
theorem vx_back {ws : List Cond} {rm : Room} {Pc : Array Value → State → Prop} {Qc : Array Value → State → Outcome → State → Prop} {XC : String → State → State → Prop} {mc ms : Nat} {free : Addr → Prop} {bytes : ByteArray} {maxL : Nat} {ret : Option FieldType}
    (hM : vx_Met l y ws rm Pc Qc XC mc ms free) (hblind : FrameBlind Pc) (hrc : rm.cells = mc) (hrs : rm.slots = ms)
    (hframes : rm.frames + 1 ≤ R.frames) (hlocals : W9 + (maxL + 11) + rm.locals ≤ R.locals)
    (hws : ∀ w ∈ ws, ∀ a' U, s.WarmedH U.vm → w.before a' U = true) (hcode : Cond.code y bytes maxL ret ∈ ws) (hinit : ∀ a' U, s.WarmedH U.vm → (Cond.initialized y.cls).before a' U = true) :
    vx_Back l R p e below s sargs y len W9 (PreOf R mc ms Pc) (PostOf Qc mc ms free) (vx_Post XC mc ms free) := by
  intro m meth c A g ig mk a X hg hsize hdg hW hn hp
  have h1 : (headSpec ws rm).pre.before a A.U = true := atoms_intro fun w hw => hws w hw _ _ X.warmed
  have h2 : (Cond.code y bytes maxL ret).before a A.U = true := hws _ hcode _ _ X.warmed
  have h3 : (Cond.initialized y.cls).before a A.U = true := hinit _ _ X.warmed
  have h4 : A.cells + (headSpec ws rm).room.cells ≤ R.cells := by rw [show (headSpec ws rm).room.cells = mc from hrc]; exact hp.1
  have h5 : A.slots + (headSpec ws rm).room.slots ≤ R.slots := by rw [show (headSpec ws rm).room.slots = ms from hrs]; exact hp.2.1
  have hPc : Pc a (A.U.calling g mk a) := hblind _ _ _ _ hp.2.2
  obtain ⟨U, Ls, c0, s0⟩ := A
  dsimp only [Pt.U, Pt.locs, Pt.cells, Pt.slots] at h1 h2 h3 h4 h5 X hn hPc ⊢
  obtain ⟨methY, cY, hmY, hcY, -, hlY, -, -, -, -⟩ := Cond.code_spec hn h2
  obtain ⟨kY, hkY, -⟩ := className_of_methodNamed hn
  have hinitY : kY.init = .initialized := Cond.initialized_spec (findClass_of_methodNamed hn) hkY h3
  have h : At U g.method c below := by rw [hg]; exact X.here
  have hlocals9 : W9 + (maxL + 11) + (headSpec ws rm).room.locals ≤ R.locals := hlocals
  have happ : (headSpec ws rm).appliesLoose y e.platform (U.calling g mk a) = true :=
    Spec.appliesLoose_calling (g := g) h hdg hn hkY hinitY
      (X.room_calling (g := g) (R' := (headSpec ws rm).room) hsize hmY hcY hframes (by rw [hlY]; omega) h4 h5) h1
  obtain ⟨mid, hmid⟩ := h.above
  have hfr : (U.setTop g).frames = (.java g :: mid) ++ below := by rw [State.frames_setTop' g h.top, hmid]; rfl
  obtain ⟨o, s₂, hsteps, -, hend, hq⟩ := Steps.callFree hM p X.admits X.cas X.clock (acts := []) hfr happ hPc trivial
  have hq' : vx_Q Qc XC mc ms free a (U.calling g mk a) o s₂ := hq
  rw [State.frames_setTop' g h.top] at hend
  obtain ⟨g₀, hg0⟩ := Option.isSome_iff_exists.mp h.top
  obtain ⟨r, hr⟩ := State.topJava?_eq_some.mp hg0
  have hr' : (({ U with heap := s₂.heap, slotsUsed := s₂.slotsUsed } : State).setVm s₂.vm).frames = .java g₀ :: r := hr
  rcases hq' with ⟨hqc, L, hfe, hL⟩ | ⟨q, rfl, E, ce, L, hx, hce, hcv, hcl, hW₂, hsm, hL⟩
  · obtain ⟨⟨v, rfl⟩, hW₂, e2, q2, q3, q4, q5, q6⟩ := id hfe
    have e3 : s₂ = ({ (U.calling g mk a).setFrames s₂.frames with heap := s₂.heap, slotsUsed := s₂.slotsUsed } : State).setVm s₂.vm := by
      have : s₂ = ({ s₂ with vm := (U.calling g mk a).vm } : State).setVm s₂.vm := rfl
      rw [e2] at this
      exact this
    obtain ⟨c₂, i₂, len₂, hc₂, hd₂, hf₂⟩ := hend
    have hW' : U.WarmedH s₂.vm := hW₂
    have hcc : c₂ = c := by
      have h1 : s₂.code? g.method = U.code? g.method := by
        rw [State.code?_eq, State.code?_eq, hW'.alike.method?]
      exact Option.some.inj (hc₂.symm.trans (h1.trans h.code))
    subst hcc
    have hlen : len₂ = len := by rw [hdg] at hd₂; cases hd₂; rfl
    subst hlen
    have hs₂ : s₂ = (({ U with heap := s₂.heap, slotsUsed := s₂.slotsUsed } : State).setVm s₂.vm).setTop { g with pc := g.pc + len₂, stack := v.toList ++ g.stack } := by
      refine e3.trans ?_
      rw [hf₂, State.calling_eq h.top, State.setFrames_setFrames, State.setTop_of_frames _ hr', hr]
      rfl
    have hsame : U.sameButNew ({ U with heap := s₂.heap, slotsUsed := s₂.slotsUsed } : State) L mc ms := by
      refine ⟨?_, q2, q3, q4, q5, q6⟩
      obtain ⟨t, ht, -⟩ := State.frames_cons hr
      show ({ U with heap := s₂.heap, slotsUsed := s₂.slotsUsed } : State) = { U.setFrames U.frames with heap := s₂.heap, slotsUsed := s₂.slotsUsed }
      rw [State.setFrames_self ht]
    subst hg
    refine Or.inl ⟨v, ⟨(({ U with heap := s₂.heap, slotsUsed := s₂.slotsUsed } : State).setVm s₂.vm), Ls ++ L, c0 + mc, s0 + ms⟩,
      ⟨X.admits, X.cas, X.clock, X.frames, X.room, X.hears, X.method, X.code, (X.here.setHeapUsed s₂.heap s₂.slotsUsed).setVm hW'.alike, X.tail, State.WarmedH.trans X.warmed hW', X.limits, X.bytes, X.same.trans (hsame.setVm s.vm)⟩,
      ⟨g, mk, s₂, L, rfl, rfl, hqc, rfl, hL, rfl, rfl⟩, ?_⟩
    show Steps p.tables e below _ ((({ U with heap := s₂.heap, slotsUsed := s₂.slotsUsed } : State).setVm s₂.vm).setTop { g with pc := g.pc + len₂, stack := v.toList ++ g.stack })
    rw [← hs₂]
    exact hsteps
  · obtain ⟨e2, q2, q3, q4, q5, q6⟩ := id hsm
    have e3 : s₂ = ({ (U.calling g mk a).setFrames s₂.frames with heap := s₂.heap, slotsUsed := s₂.slotsUsed } : State).setVm s₂.vm := by
      have : s₂ = ({ s₂ with vm := (U.calling g mk a).vm } : State).setVm s₂.vm := rfl
      rw [e2] at this
      exact this
    have hf₂ : s₂.frames = .throwing q :: .java g :: U.frames.tail := hend
    have hW' : U.WarmedH s₂.vm := hW₂
    have hs₂ : s₂ = ((({ U with heap := s₂.heap, slotsUsed := s₂.slotsUsed } : State).setVm s₂.vm).setTop g).pushFrame (.throwing q) := by
      refine e3.trans ?_
      rw [hf₂, State.calling_eq h.top, State.setFrames_setFrames, State.pushFrame, State.frames_setTop _ hr', State.setTop_of_frames _ hr', State.setFrames_setFrames, hr]
      rfl
    have hsame : U.sameButNew ({ U with heap := s₂.heap, slotsUsed := s₂.slotsUsed } : State) L mc ms := by
      refine ⟨?_, q2, q3, q4, q5, q6⟩
      obtain ⟨t, ht, -⟩ := State.frames_cons hr
      show ({ U with heap := s₂.heap, slotsUsed := s₂.slotsUsed } : State) = { U.setFrames U.frames with heap := s₂.heap, slotsUsed := s₂.slotsUsed }
      rw [State.setFrames_self ht]
    subst hg
    refine Or.inr ⟨q, ⟨(({ U with heap := s₂.heap, slotsUsed := s₂.slotsUsed } : State).setVm s₂.vm), Ls ++ L, c0 + mc, s0 + ms⟩,
      ⟨X.admits, X.cas, X.clock, X.frames, X.room, X.hears, X.method, X.code, (X.here.setHeapUsed s₂.heap s₂.slotsUsed).setVm hW'.alike, X.tail, State.WarmedH.trans X.warmed hW', X.limits, X.bytes, X.same.trans (hsame.setVm s.vm)⟩,
      ⟨g, mk, s₂, L, E, ce, rfl, rfl, hx, hce, hcv, hcl, rfl, hL, rfl, rfl⟩, ?_⟩
    show Steps p.tables e below _ (((({ U with heap := s₂.heap, slotsUsed := s₂.slotsUsed } : State).setVm s₂.vm).setTop g).pushFrame (.throwing q))
    rw [← hs₂]
    exact hsteps
end Payer
section Calls
variable {p : Program} {l : Launch} {e : Env} {R : Room} {s : State} {m : MethodId} {args : Array Value} {below : List Frame} {meth : Method} {c : Code} {T : State} {locs : List Loc} {cells slots : Nat}
theorem vx_callV (X : Stand p l e R s m args below meth c T locs cells slots) (hexec : p.tables.exec = Jvm.exec) {own C : String} {index : Nat} {y : MethodName} {bytes : ByteArray} {maxL : Nat} {ret : Option FieldType}
    (hown : s.vm.findClass own = some m.cls) (hlink : (Cond.methodLink own index y).before args s = true) (hinst : (Cond.instanceMethod y).before args s = true) (hsel : (Cond.selects C y y).before args s = true)
    (hcode : (Cond.code y bytes maxL ret).before args s = true) (hy : y.cls ≠ "java/lang/invoke/MethodHandle" ∧ y.cls ≠ "java/lang/invoke/VarHandle")
    {W9 : Nat} {Pre : Pt → Array Value → Prop} {Post : Pt → Array Value → Option Value → Pt → Prop} {PostX : Pt → Array Value → Addr → Pt → Prop} (hK : vx_Back l R p e below s args y 3 W9 Pre Post PostX)
    {b : Addr} {cellB : Cell} (hcell : T.heap[b]? = some cellB) (hobj : cellB.vm.isStatics = false) (hcls : s.vm.findClass C = some cellB.cls)
    {g : JFrame} (hg : g.method = m) (hsize : g.locals.size = c.maxLocals) {argsL rest : List Value} (hlen : ∀ sig, parseMethodDescriptor y.desc = some sig → argsL.length = sig.parameters.length)
    (hstack : g.stack = argsL.reverse ++ .ref b :: rest) (hW : 2 * g.monitorRoom + (rest.map fun v => v.category).sum ≤ W9) (hdg : decode c.code g.pc = .ok (.invokevirtual index, 3))
    (hpre : ∀ vm₁, s.WarmedH vm₁ → Pre ⟨T.setVm vm₁, locs, cells, slots⟩ (Value.ref b :: argsL).toArray) :
    (∃ (v : Option Value) (vm₁ : Vm) (B : Pt), s.WarmedH vm₁ ∧ Stand p l e R s m args below meth c B.U B.locs B.cells B.slots ∧ Post ⟨T.setVm vm₁, locs, cells, slots⟩ (Value.ref b :: argsL).toArray v B ∧
      ∀ target, Steps p.tables e below (B.U.setTop { g with pc := g.pc + 3, stack := v.toList ++ rest }) target → Steps p.tables e below (T.setTop g) target) ∨
    (∃ (q : Addr) (vm₁ : Vm) (B : Pt), s.WarmedH vm₁ ∧ Stand p l e R s m args below meth c B.U B.locs B.cells B.slots ∧ PostX ⟨T.setVm vm₁, locs, cells, slots⟩ (Value.ref b :: argsL).toArray q B ∧
      Steps p.tables e below (T.setTop g) ((B.U.setTop { g with stack := rest }).pushFrame (.throwing q))) := by
  obtain ⟨mk, methM, hnamed, hmethM, hstM, habM⟩ := Cond.instanceMethod_spec hinst
  obtain ⟨methM', cM, hmethM', -, -, -, -, -, -, hsigM⟩ := Cond.code_spec hnamed hcode
  cases hmethM.symm.trans hmethM'
  obtain ⟨c2, r2, m2, q1, q2, q3, q4, kP, hkP, hkPi⟩ := Cond.selects_spec hsel
  cases hcls.symm.trans q1
  cases (State.methodFound?_of_named hnamed hy).symm.trans q2
  cases hnamed.symm.trans q3
  have hselP : selectMethod e.platform s.vm cellB.cls mk = .method mk := by rw [Launch.admits_selectMethod X.admits]; exact q4
  obtain ⟨vm₁, X₁, hstep₁⟩ := X.invokevirtual hexec hown hlink hnamed hmethM hstM hkP hkPi hy (a := b) (cell := cellB) hcell
    (fun z h => by rw [h] at hobj; cases hobj) hselP hmethM habM hkP hkPi (g := g) hg (argsL := argsL) (rest := rest) (hlen _ hsigM) hstack hdg
  rcases hK m meth c ⟨T.setVm vm₁, locs, cells, slots⟩ { g with stack := rest } (.invokevirtual index) mk (Value.ref b :: argsL).toArray X₁ hg hsize hdg hW (X₁.named hnamed) (hpre vm₁ X₁.warmed) with ⟨v, B, X', hpost, hsteps⟩ | ⟨q, B, X', hpost, hsteps⟩
  · exact Or.inl ⟨v, vm₁, B, X₁.warmed, X', hpost, fun target h => hstep₁ _ fun acts => by rw [doInvoke_state]; exact hsteps.trans h⟩
  · exact Or.inr ⟨q, vm₁, B, X₁.warmed, X', hpost, hstep₁ _ fun acts => by rw [doInvoke_state]; exact hsteps⟩
theorem vx_callS (X : Stand p l e R s m args below meth c T locs cells slots) (hexec : p.tables.exec = Jvm.exec) {own : String} {index : Nat} {y : MethodName} {bytes : ByteArray} {maxL : Nat} {ret : Option FieldType}
    (hown : s.vm.findClass own = some m.cls) (hlink : (Cond.methodLink own index y).before args s = true) (hstat : (Cond.static y).before args s = true) (hinit : (Cond.initialized y.cls).before args s = true)
    (hcode : (Cond.code y bytes maxL ret).before args s = true) (hy : y.cls ≠ "java/lang/invoke/MethodHandle" ∧ y.cls ≠ "java/lang/invoke/VarHandle")
    {W9 : Nat} {Pre : Pt → Array Value → Prop} {Post : Pt → Array Value → Option Value → Pt → Prop} {PostX : Pt → Array Value → Addr → Pt → Prop} (hK : vx_Back l R p e below s args y 3 W9 Pre Post PostX)
    {g : JFrame} (hg : g.method = m) (hsize : g.locals.size = c.maxLocals) {argsL rest : List Value} (hlen : ∀ sig, parseMethodDescriptor y.desc = some sig → argsL.length = sig.parameters.length)
    (hstack : g.stack = argsL.reverse ++ rest) (hW : 2 * g.monitorRoom + (rest.map fun v => v.category).sum ≤ W9) (hdg : decode c.code g.pc = .ok (.invokestatic index, 3))
    (hpre : ∀ vm₁, s.WarmedH vm₁ → Pre ⟨T.setVm vm₁, locs, cells, slots⟩ argsL.toArray) :
    (∃ (v : Option Value) (vm₁ : Vm) (B : Pt), s.WarmedH vm₁ ∧ Stand p l e R s m args below meth c B.U B.locs B.cells B.slots ∧ Post ⟨T.setVm vm₁, locs, cells, slots⟩ argsL.toArray v B ∧
      ∀ target, Steps p.tables e below (B.U.setTop { g with pc := g.pc + 3, stack := v.toList ++ rest }) target → Steps p.tables e below (T.setTop g) target) ∨
    (∃ (q : Addr) (vm₁ : Vm) (B : Pt), s.WarmedH vm₁ ∧ Stand p l e R s m args below meth c B.U B.locs B.cells B.slots ∧ PostX ⟨T.setVm vm₁, locs, cells, slots⟩ argsL.toArray q B ∧
      Steps p.tables e below (T.setTop g) ((B.U.setTop { g with stack := rest }).pushFrame (.throwing q))) := by
  obtain ⟨mk, hnamed⟩ := Cond.code_named hcode
  obtain ⟨methM, cM, hmethM, -, -, -, -, -, -, hsigM⟩ := Cond.code_spec hnamed hcode
  have hstatic : methM.isStatic = true := Cond.static_spec hnamed hmethM hstat
  obtain ⟨kP, hkP, -⟩ := className_of_methodNamed hnamed
  have hinitP : kP.init = .initialized := Cond.initialized_spec (findClass_of_methodNamed hnamed) hkP hinit
  obtain ⟨vm₁, X₁, hstep₁⟩ := X.invokestatic hexec hown hlink hnamed hmethM hstatic hkP hinitP hy (g := g) hg (argsL := argsL) (rest := rest) (hlen _ hsigM) hstack hdg
  rcases hK m meth c ⟨T.setVm vm₁, locs, cells, slots⟩ { g with stack := rest } (.invokestatic index) mk argsL.toArray X₁ hg hsize hdg hW (X₁.named hnamed) (hpre vm₁ X₁.warmed) with ⟨v, B, X', hpost, hsteps⟩ | ⟨q, B, X', hpost, hsteps⟩
  · exact Or.inl ⟨v, vm₁, B, X₁.warmed, X', hpost, fun target h => hstep₁ _ fun acts => by rw [doInvoke_state]; exact hsteps.trans h⟩
  · exact Or.inr ⟨q, vm₁, B, X₁.warmed, X', hpost, hstep₁ _ fun acts => by rw [doInvoke_state]; exact hsteps⟩
end Calls
theorem vx_cls {s : State} {T : State} {vm₁ : Vm} {E : String} {k : ClassId} (hW : s.WarmedH vm₁) (h : (T.setVm vm₁).vm.findClass E = some k) : s.vm.findClass E = some k := by
  have h1 : vm₁.findClass E = some k := h
  rw [hW.alike.findClass] at h1
  exact h1
/-- the method's frame g, with q thrown over it -/
def vx_W (p : Program) (l : Launch) (e : Env) (R : Room) (s : State) (m : MethodId) (args : Array Value) (below : List Frame) (meth : Method) (c : Code) (H : Heap) (locs : List Loc) (cells slots : Nat) (Q : State → Prop) (g : JFrame) (q : Addr) : Prop :=
  ∀ T : State, T.heap = H → Stand p l e R s m args below meth c T locs cells slots → ∃ t, Steps p.tables e below ((T.setTop g).pushFrame (.throwing q)) t ∧ Q t
def vx_Run (p : Program) (l : Launch) (e : Env) (R : Room) (s : State) (m : MethodId) (args : Array Value) (below : List Frame) (meth : Method) (c : Code) (H : Heap) (locs : List Loc) (cells slots mc ms : Nat) (g : JFrame) (rest : List Value) (Qa : State → Outcome → State → Prop) (XC : String → State → State → Prop) (free : Addr → Prop) : Prop :=
  ∀ T : State, T.heap = H → Stand p l e R s m args below meth c T locs cells slots →
    (∃ (v : Option Value) (st₀ t T' : State) (L : List Loc), st₀.heap = H ∧ Stand p l e R s m args below meth c T' (locs ++ L) (cells + mc) (slots + ms) ∧ (∀ q ∈ L, free q.base) ∧ T'.heap = t.heap ∧ T'.vm = t.vm ∧ Qa st₀ (.returned v) t ∧
      Goes p e below T g T' { g with pc := g.pc + 3, stack := v.toList ++ rest }) ∨
    (∃ (q : Addr) (st₀ t T' : State) (L : List Loc) (E : String) (ce : Cell), st₀.heap = H ∧ Stand p l e R s m args below meth c T' (locs ++ L) (cells + mc) (slots + ms) ∧ (∀ z ∈ L, free z.base) ∧ T'.heap = t.heap ∧ T'.vm = t.vm ∧ XC E st₀ t ∧ t.heap[q]? = some ce ∧ ce.vm = .none ∧ s.vm.findClass E = some ce.cls ∧
      Steps p.tables e below (T.setTop g) ((T'.setTop { g with stack := rest }).pushFrame (.throwing q)))
def vx_X {S : Type} (px : S → Prop) (B : String → S → State → Prop) (A : Nat → Prop) : String → State → State → Prop := fun E st t => ∃ u : S, px u ∧ B E u t ∧ va_F A st t
section Runs
variable {p : Program} {l : Launch} {e : Env} {R : Room} {s : State} {m : MethodId} {args : Array Value} {below : List Frame} {meth : Method} {c : Code} {H : Heap} {locs : List Loc} {cells slots : Nat}
variable {y : MethodName} {bytes cc : ByteArray} {maxL nL mc ms n index : Nat} {ret : Option FieldType} {ws : List Cond} {rm : Room} {Pc : Array Value → State → Prop} {Qc : Array Value → State → Outcome → State → Prop} {XC : String → State → State → Prop} {free : Addr → Prop} {Ts : List Cond} {own C : String} {b : Addr} {As rest : List Value} {g : JFrame}
theorem vx_callBack (cb : CallB R s args own index y bytes maxL ret ws rm mc ms n) (hM : vx_Met l y ws rm Pc Qc XC mc ms free) (hbl : FrameBlind Pc) : vx_Back l R p e below s args y 3 8 (PreOf R mc ms Pc) (PostOf Qc mc ms free) (vx_Post XC mc ms free) := by
  obtain ⟨hrc, hrs, hfr, hlo, hws, hcw, -, hini, -⟩ := cb
  exact vx_back (bytes := bytes) (maxL := maxL) (ret := ret) hM hbl hrc hrs hfr hlo hws hcw (fun a' U hW => word_at hW (Or.inl (by first | rfl | simp [Cond.onTables, Cond.keeps, Cond.steady])) hini)
theorem vx_runV (S : CallFix p m c cc nL s args Ts own) (hM : vx_Met l y ws rm Pc Qc XC mc ms free) (cw : CallW R s args own C index y bytes maxL ret ws rm mc ms n) (hp : PreV s H C b Pc As)
    (hg : g.method = m) (hn : As.length = n) (hsize : g.locals.size = nL) (hstack : g.stack = As.reverse ++ .ref b :: rest) (hW : 2 * g.monitorRoom + (rest.map fun v => v.category).sum ≤ 8) (hdg : decode cc g.pc = .ok (.invokevirtual index, 3)) (hf : cells + mc ≤ R.cells ∧ slots + ms ≤ R.slots) :
    vx_Run p l e R s m args below meth c H locs cells slots mc ms g rest (Qc (Value.ref b :: As).toArray) XC free := by
  have hK : vx_Back l R p e below s args y 3 8 (PreOf R mc ms Pc) (PostOf Qc mc ms free) (vx_Post XC mc ms free) := vx_callBack cw.1 hM hp.1
  obtain ⟨⟨-, -, -, -, -, -, hcode, -, hy, hlen, hl⟩, hin, hse⟩ := cw
  obtain ⟨hx, hb, hml, ho, -⟩ := S
  obtain ⟨-, ⟨cellB, hcB, hoB, hclB⟩, hPc⟩ := hp
  intro T hT X
  rcases vx_callV X hx (C := C) (bytes := bytes) (maxL := maxL) (ret := ret) ho hl hin hse hcode hy hK (by rw [hT]; exact hcB) hoB hclB hg (hsize.trans hml.symm) (argsL := As) (rest := rest) (fun sig h => hn.trans (hlen sig h)) hstack hW (by rw [hb]; exact hdg)
    (fun vm₁ hW₁ => ⟨hf.1, hf.2, hPc (T.setVm vm₁) hT hW₁⟩) with ⟨v, vm₁, ⟨U', l2, c2, s2⟩, hW₁, X', ⟨g', mk, t, L, e1, e2, hq, h1, hL, h2, h3⟩, st⟩ | ⟨q, vm₁, ⟨U', l2, c2, s2⟩, hW₁, X', ⟨g', mk, t, L, E, ce, e1, e2, hq, hce, hcv, hcl, h1, hL, h2, h3⟩, st⟩
  · dsimp only [Pt.U, Pt.locs, Pt.cells, Pt.slots] at X' e1 e2 h1 h2 h3 st
    subst h1; subst h2; subst h3
    exact Or.inl ⟨v, (T.setVm vm₁).calling g' mk (Value.ref b :: As).toArray, t, U', L, hT, X', hL, e1, e2, hq, st⟩
  · dsimp only [Pt.U, Pt.locs, Pt.cells, Pt.slots] at X' e1 e2 h1 h2 h3 st hcl
    subst h1; subst h2; subst h3
    exact Or.inr ⟨q, (T.setVm vm₁).calling g' mk (Value.ref b :: As).toArray, t, U', L, E, ce, hT, X', hL, e1, e2, hq, hce, hcv, vx_cls hW₁ hcl, st⟩
theorem vx_runS (S : CallFix p m c cc nL s args Ts own) (hM : vx_Met l y ws rm Pc Qc XC mc ms free) (cw : CallB R s args own index y bytes maxL ret ws rm mc ms n ∧ (Cond.static y).before args s = true) (hp : PreS s H Pc As)
    (hg : g.method = m) (hn : As.length = n) (hsize : g.locals.size = nL) (hstack : g.stack = As.reverse ++ rest) (hW : 2 * g.monitorRoom + (rest.map fun v => v.category).sum ≤ 8) (hdg : decode cc g.pc = .ok (.invokestatic index, 3)) (hf : cells + mc ≤ R.cells ∧ slots + ms ≤ R.slots) :
    vx_Run p l e R s m args below meth c H locs cells slots mc ms g rest (Qc As.toArray) XC free := by
  have hK : vx_Back l R p e below s args y 3 8 (PreOf R mc ms Pc) (PostOf Qc mc ms free) (vx_Post XC mc ms free) := vx_callBack cw.1 hM hp.1
  obtain ⟨⟨-, -, -, -, -, -, hcode, hini, hy, hlen, hl⟩, hstt⟩ := cw
  obtain ⟨hx, hb, hml, ho, -⟩ := S
  intro T hT X
  rcases vx_callS X hx (bytes := bytes) (maxL := maxL) (ret := ret) ho hl hstt hini hcode hy hK hg (hsize.trans hml.symm) (argsL := As) (rest := rest) (fun sig h => hn.trans (hlen sig h)) hstack hW (by rw [hb]; exact hdg)
    (fun vm₁ hW₁ => ⟨hf.1, hf.2, hp.2 (T.setVm vm₁) hT hW₁⟩) with ⟨v, vm₁, ⟨U', l2, c2, s2⟩, hW₁, X', ⟨g', mk, t, L, e1, e2, hq, h1, hL, h2, h3⟩, st⟩ | ⟨q, vm₁, ⟨U', l2, c2, s2⟩, hW₁, X', ⟨g', mk, t, L, E, ce, e1, e2, hq, hce, hcv, hcl, h1, hL, h2, h3⟩, st⟩
  · dsimp only [Pt.U, Pt.locs, Pt.cells, Pt.slots] at X' e1 e2 h1 h2 h3 st
    subst h1; subst h2; subst h3
    exact Or.inl ⟨v, (T.setVm vm₁).calling g' mk As.toArray, t, U', L, hT, X', hL, e1, e2, hq, st⟩
  · dsimp only [Pt.U, Pt.locs, Pt.cells, Pt.slots] at X' e1 e2 h1 h2 h3 st hcl
    subst h1; subst h2; subst h3
    exact Or.inr ⟨q, (T.setVm vm₁).calling g' mk As.toArray, t, U', L, E, ce, hT, X', hL, e1, e2, hq, hce, hcv, vx_cls hW₁ hcl, st⟩
end Runs
section Rows
variable {p : Program} {l : Launch} {e : Env} {R : Room} {s : State} {m : MethodId} {args : Array Value} {below : List Frame} {meth : Method} {c : Code} {H : Heap} {locs : List Loc} {cells slots : Nat} {Q : State → Prop}
variable {mc ms : Nat} {free : Addr → Prop} {A0 A1 : Nat → Prop} {H0 : Heap} {a : Array Value} {pc : Nat} {ls : Array Slot} {st0 rest : List Value}
theorem vx_keep {st₀ t T' : State} {L : List Loc} (h0 : st₀.heap = H) (e1 : T'.heap = t.heap) (hS : va_S A0 H0 H locs) (hA : ∀ q, q < H.size → A1 q → A0 q) (hf : ∀ q, free q → A0 q) (hL : ∀ q ∈ L, free q.base) (hF : va_F A1 st₀ t) :
    H.size ≤ T'.heap.size ∧ (∀ q : Nat, q < H.size → ¬ A1 q → T'.heap[q]? = H[q]?) ∧ va_S A0 H0 T'.heap (locs ++ L) := by
  obtain ⟨hz, hk⟩ := hF
  rw [h0] at hz hk
  exact ⟨by rw [e1]; exact hz, fun q h1 h2 => by rw [e1]; exact hk q h1 h2,
    ⟨Nat.le_trans hS.1 (by rw [e1]; exact hz), fun q h1 h2 => by rw [e1, hk q (Nat.lt_of_lt_of_le h1 hS.1) (fun z => h2 (hA q (Nat.lt_of_lt_of_le h1 hS.1) z))]; exact hS.2.1 q h1 h2, fun q hq => by
      rcases List.mem_append.mp hq with h | h
      · exact hS.2.2 q h
      · exact hf _ (hL q h)⟩⟩
theorem vx_calli {S SX : Type} {post : Int32 → S → Prop} {px : SX → Prop} {B : S → State → Prop} {BX : String → SX → State → Prop} {AX : Nat → Prop} (hr : vx_Run p l e R s m args below meth c H locs cells slots mc ms (F0 m pc ls st0) rest (va_Qi post B A1 a) (vx_X px BX AX) free) (hS : va_S A0 H0 H locs) (hA : ∀ q, q < H.size → A1 q → A0 q) (hf : ∀ q, free q → A0 q) (hAX : ∀ q, q < H.size → AX q → A0 q)
    (kx : ∀ (E : String) (ce : Cell) (q9 : Addr) (u : SX) (t : State) (H1 : Heap) (locs1 : List Loc), t.heap = H1 → s.vm.Alike t.vm → px u → BX E u t → H.size ≤ H1.size → (∀ q : Nat, q < H.size → ¬ AX q → H1[q]? = H[q]?) → va_S A0 H0 H1 locs1 → H1[q9]? = some ce → ce.vm = .none → s.vm.findClass E = some ce.cls → vx_W p l e R s m args below meth c H1 locs1 (cells + mc) (slots + ms) Q (F0 m pc ls rest) q9)
    (kk : ∀ (r : Int32) (u : S) (t : State) (H1 : Heap) (locs1 : List Loc), t.heap = H1 → s.vm.Alike t.vm → post r u → B u t → H.size ≤ H1.size → (∀ q : Nat, q < H.size → ¬ A1 q → H1[q]? = H[q]?) → va_S A0 H0 H1 locs1 → W p l e R s m args below meth c H1 locs1 (cells + mc) (slots + ms) Q (F0 m (pc + 3) ls (.int r :: rest))) : W p l e R s m args below meth c H locs cells slots Q (F0 m pc ls st0) := by
  intro T hT X
  rcases hr T hT X with ⟨v, st₀, t, T', L, h0, X', hL, e1, e2, ⟨⟨r, u, hv, hp, hb⟩, hF⟩, st⟩ | ⟨q, st₀, t, T', L, E, ce, h0, X', hL, e1, e2, ⟨u, hp, hb, hF⟩, hce, hcv, hcl, st⟩
  · cases hv
    obtain ⟨k1, k2, k3⟩ := vx_keep h0 e1 hS hA hf hL hF
    obtain ⟨t2, a1, b1⟩ := kk r u t T'.heap (locs ++ L) e1.symm (by rw [← e2]; exact X'.warmed.alike) hp hb k1 k2 k3 T' rfl X'
    exact ⟨t2, st t2 a1, b1⟩
  · obtain ⟨k1, k2, k3⟩ := vx_keep h0 e1 hS hAX hf hL hF
    obtain ⟨t2, a1, b1⟩ := kx E ce q u t T'.heap (locs ++ L) e1.symm (by rw [← e2]; exact X'.warmed.alike) hp hb k1 k2 k3 (by rw [e1]; exact hce) hcv hcl T' rfl X'
    exact ⟨t2, st.trans a1, b1⟩
theorem vx_calll {S SX : Type} {post : Int64 → S → Prop} {px : SX → Prop} {B : S → State → Prop} {BX : String → SX → State → Prop} {AX : Nat → Prop} (hr : vx_Run p l e R s m args below meth c H locs cells slots mc ms (F0 m pc ls st0) rest (va_Ql post B A1 a) (vx_X px BX AX) free) (hS : va_S A0 H0 H locs) (hA : ∀ q, q < H.size → A1 q → A0 q) (hf : ∀ q, free q → A0 q) (hAX : ∀ q, q < H.size → AX q → A0 q)
    (kx : ∀ (E : String) (ce : Cell) (q9 : Addr) (u : SX) (t : State) (H1 : Heap) (locs1 : List Loc), t.heap = H1 → s.vm.Alike t.vm → px u → BX E u t → H.size ≤ H1.size → (∀ q : Nat, q < H.size → ¬ AX q → H1[q]? = H[q]?) → va_S A0 H0 H1 locs1 → H1[q9]? = some ce → ce.vm = .none → s.vm.findClass E = some ce.cls → vx_W p l e R s m args below meth c H1 locs1 (cells + mc) (slots + ms) Q (F0 m pc ls rest) q9)
    (kk : ∀ (r : Int64) (u : S) (t : State) (H1 : Heap) (locs1 : List Loc), t.heap = H1 → s.vm.Alike t.vm → post r u → B u t → H.size ≤ H1.size → (∀ q : Nat, q < H.size → ¬ A1 q → H1[q]? = H[q]?) → va_S A0 H0 H1 locs1 → W p l e R s m args below meth c H1 locs1 (cells + mc) (slots + ms) Q (F0 m (pc + 3) ls (.long r :: rest))) : W p l e R s m args below meth c H locs cells slots Q (F0 m pc ls st0) := by
  intro T hT X
  rcases hr T hT X with ⟨v, st₀, t, T', L, h0, X', hL, e1, e2, ⟨⟨r, u, hv, hp, hb⟩, hF⟩, st⟩ | ⟨q, st₀, t, T', L, E, ce, h0, X', hL, e1, e2, ⟨u, hp, hb, hF⟩, hce, hcv, hcl, st⟩
  · cases hv
    obtain ⟨k1, k2, k3⟩ := vx_keep h0 e1 hS hA hf hL hF
    obtain ⟨t2, a1, b1⟩ := kk r u t T'.heap (locs ++ L) e1.symm (by rw [← e2]; exact X'.warmed.alike) hp hb k1 k2 k3 T' rfl X'
    exact ⟨t2, st t2 a1, b1⟩
  · obtain ⟨k1, k2, k3⟩ := vx_keep h0 e1 hS hAX hf hL hF
    obtain ⟨t2, a1, b1⟩ := kx E ce q u t T'.heap (locs ++ L) e1.symm (by rw [← e2]; exact X'.warmed.alike) hp hb k1 k2 k3 (by rw [e1]; exact hce) hcv hcl T' rfl X'
    exact ⟨t2, st.trans a1, b1⟩
theorem vx_callf {S SX : Type} {post : UInt32 → S → Prop} {px : SX → Prop} {B : S → State → Prop} {BX : String → SX → State → Prop} {AX : Nat → Prop} (hr : vx_Run p l e R s m args below meth c H locs cells slots mc ms (F0 m pc ls st0) rest (va_Qf post B A1 a) (vx_X px BX AX) free) (hS : va_S A0 H0 H locs) (hA : ∀ q, q < H.size → A1 q → A0 q) (hf : ∀ q, free q → A0 q) (hAX : ∀ q, q < H.size → AX q → A0 q)
    (kx : ∀ (E : String) (ce : Cell) (q9 : Addr) (u : SX) (t : State) (H1 : Heap) (locs1 : List Loc), t.heap = H1 → s.vm.Alike t.vm → px u → BX E u t → H.size ≤ H1.size → (∀ q : Nat, q < H.size → ¬ AX q → H1[q]? = H[q]?) → va_S A0 H0 H1 locs1 → H1[q9]? = some ce → ce.vm = .none → s.vm.findClass E = some ce.cls → vx_W p l e R s m args below meth c H1 locs1 (cells + mc) (slots + ms) Q (F0 m pc ls rest) q9)
    (kk : ∀ (r : UInt32) (u : S) (t : State) (H1 : Heap) (locs1 : List Loc), t.heap = H1 → s.vm.Alike t.vm → post r u → B u t → H.size ≤ H1.size → (∀ q : Nat, q < H.size → ¬ A1 q → H1[q]? = H[q]?) → va_S A0 H0 H1 locs1 → W p l e R s m args below meth c H1 locs1 (cells + mc) (slots + ms) Q (F0 m (pc + 3) ls (.float r :: rest))) : W p l e R s m args below meth c H locs cells slots Q (F0 m pc ls st0) := by
  intro T hT X
  rcases hr T hT X with ⟨v, st₀, t, T', L, h0, X', hL, e1, e2, ⟨⟨r, u, hv, hp, hb⟩, hF⟩, st⟩ | ⟨q, st₀, t, T', L, E, ce, h0, X', hL, e1, e2, ⟨u, hp, hb, hF⟩, hce, hcv, hcl, st⟩
  · cases hv
    obtain ⟨k1, k2, k3⟩ := vx_keep h0 e1 hS hA hf hL hF
    obtain ⟨t2, a1, b1⟩ := kk r u t T'.heap (locs ++ L) e1.symm (by rw [← e2]; exact X'.warmed.alike) hp hb k1 k2 k3 T' rfl X'
    exact ⟨t2, st t2 a1, b1⟩
  · obtain ⟨k1, k2, k3⟩ := vx_keep h0 e1 hS hAX hf hL hF
    obtain ⟨t2, a1, b1⟩ := kx E ce q u t T'.heap (locs ++ L) e1.symm (by rw [← e2]; exact X'.warmed.alike) hp hb k1 k2 k3 (by rw [e1]; exact hce) hcv hcl T' rfl X'
    exact ⟨t2, st.trans a1, b1⟩
theorem vx_calld {S SX : Type} {post : UInt64 → S → Prop} {px : SX → Prop} {B : S → State → Prop} {BX : String → SX → State → Prop} {AX : Nat → Prop} (hr : vx_Run p l e R s m args below meth c H locs cells slots mc ms (F0 m pc ls st0) rest (va_Qd post B A1 a) (vx_X px BX AX) free) (hS : va_S A0 H0 H locs) (hA : ∀ q, q < H.size → A1 q → A0 q) (hf : ∀ q, free q → A0 q) (hAX : ∀ q, q < H.size → AX q → A0 q)
    (kx : ∀ (E : String) (ce : Cell) (q9 : Addr) (u : SX) (t : State) (H1 : Heap) (locs1 : List Loc), t.heap = H1 → s.vm.Alike t.vm → px u → BX E u t → H.size ≤ H1.size → (∀ q : Nat, q < H.size → ¬ AX q → H1[q]? = H[q]?) → va_S A0 H0 H1 locs1 → H1[q9]? = some ce → ce.vm = .none → s.vm.findClass E = some ce.cls → vx_W p l e R s m args below meth c H1 locs1 (cells + mc) (slots + ms) Q (F0 m pc ls rest) q9)
    (kk : ∀ (r : UInt64) (u : S) (t : State) (H1 : Heap) (locs1 : List Loc), t.heap = H1 → s.vm.Alike t.vm → post r u → B u t → H.size ≤ H1.size → (∀ q : Nat, q < H.size → ¬ A1 q → H1[q]? = H[q]?) → va_S A0 H0 H1 locs1 → W p l e R s m args below meth c H1 locs1 (cells + mc) (slots + ms) Q (F0 m (pc + 3) ls (.double r :: rest))) : W p l e R s m args below meth c H locs cells slots Q (F0 m pc ls st0) := by
  intro T hT X
  rcases hr T hT X with ⟨v, st₀, t, T', L, h0, X', hL, e1, e2, ⟨⟨r, u, hv, hp, hb⟩, hF⟩, st⟩ | ⟨q, st₀, t, T', L, E, ce, h0, X', hL, e1, e2, ⟨u, hp, hb, hF⟩, hce, hcv, hcl, st⟩
  · cases hv
    obtain ⟨k1, k2, k3⟩ := vx_keep h0 e1 hS hA hf hL hF
    obtain ⟨t2, a1, b1⟩ := kk r u t T'.heap (locs ++ L) e1.symm (by rw [← e2]; exact X'.warmed.alike) hp hb k1 k2 k3 T' rfl X'
    exact ⟨t2, st t2 a1, b1⟩
  · obtain ⟨k1, k2, k3⟩ := vx_keep h0 e1 hS hAX hf hL hF
    obtain ⟨t2, a1, b1⟩ := kx E ce q u t T'.heap (locs ++ L) e1.symm (by rw [← e2]; exact X'.warmed.alike) hp hb k1 k2 k3 (by rw [e1]; exact hce) hcv hcl T' rfl X'
    exact ⟨t2, st.trans a1, b1⟩
theorem vx_callv {S SX : Type} {post : S → Prop} {px : SX → Prop} {B : S → State → Prop} {BX : String → SX → State → Prop} {AX : Nat → Prop} (hr : vx_Run p l e R s m args below meth c H locs cells slots mc ms (F0 m pc ls st0) rest (va_Qv post B A1 a) (vx_X px BX AX) free) (hS : va_S A0 H0 H locs) (hA : ∀ q, q < H.size → A1 q → A0 q) (hf : ∀ q, free q → A0 q) (hAX : ∀ q, q < H.size → AX q → A0 q)
    (kx : ∀ (E : String) (ce : Cell) (q9 : Addr) (u : SX) (t : State) (H1 : Heap) (locs1 : List Loc), t.heap = H1 → s.vm.Alike t.vm → px u → BX E u t → H.size ≤ H1.size → (∀ q : Nat, q < H.size → ¬ AX q → H1[q]? = H[q]?) → va_S A0 H0 H1 locs1 → H1[q9]? = some ce → ce.vm = .none → s.vm.findClass E = some ce.cls → vx_W p l e R s m args below meth c H1 locs1 (cells + mc) (slots + ms) Q (F0 m pc ls rest) q9)
    (kk : ∀ (u : S) (t : State) (H1 : Heap) (locs1 : List Loc), t.heap = H1 → s.vm.Alike t.vm → post u → B u t → H.size ≤ H1.size → (∀ q : Nat, q < H.size → ¬ A1 q → H1[q]? = H[q]?) → va_S A0 H0 H1 locs1 → W p l e R s m args below meth c H1 locs1 (cells + mc) (slots + ms) Q (F0 m (pc + 3) ls (rest))) : W p l e R s m args below meth c H locs cells slots Q (F0 m pc ls st0) := by
  intro T hT X
  rcases hr T hT X with ⟨v, st₀, t, T', L, h0, X', hL, e1, e2, ⟨⟨u, hv, hp, hb⟩, hF⟩, st⟩ | ⟨q, st₀, t, T', L, E, ce, h0, X', hL, e1, e2, ⟨u, hp, hb, hF⟩, hce, hcv, hcl, st⟩
  · cases hv
    obtain ⟨k1, k2, k3⟩ := vx_keep h0 e1 hS hA hf hL hF
    obtain ⟨t2, a1, b1⟩ := kk u t T'.heap (locs ++ L) e1.symm (by rw [← e2]; exact X'.warmed.alike) hp hb k1 k2 k3 T' rfl X'
    exact ⟨t2, st t2 a1, b1⟩
  · obtain ⟨k1, k2, k3⟩ := vx_keep h0 e1 hS hAX hf hL hF
    obtain ⟨t2, a1, b1⟩ := kx E ce q u t T'.heap (locs ++ L) e1.symm (by rw [← e2]; exact X'.warmed.alike) hp hb k1 k2 k3 (by rw [e1]; exact hce) hcv hcl T' rfl X'
    exact ⟨t2, st.trans a1, b1⟩
/-- caught by the row x of this method's table; the rows ahead don't take it -/
theorem vx_catch {own name : String} {E : String} {ce : Cell} {q : Addr} (hown : s.vm.findClass own = some m.cls) (pre : List ExceptionTableEntry) (x : ExceptionTableEntry) (suf : List ExceptionTableEntry) (hsplit : c.exceptionTable.toList = pre ++ x :: suf)
    (hpass : ∀ z ∈ pre, covers z pc = false ∨ (z.catchType ≠ 0 ∧ ∃ nm : String, (Cond.classLink own z.catchType nm).before args s = true ∧ va_Nc E nm s)) (hx : covers x pc = true) (h0 : x.catchType ≠ 0)
    (hlink : (Cond.classLink own x.catchType name).before args s = true) (hcast : (Cond.castable E name).before args s = true) (hcell : H[q]? = some ce) (hv : ce.vm = .none) (hcl : s.vm.findClass E = some ce.cls)
    (kk : W p l e R s m args below meth c H locs cells slots Q (F0 m x.handlerPc ls [.ref q])) : vx_W p l e R s m args below meth c H locs cells slots Q (F0 m pc ls rest) q := by
  intro T hT X
  have hpl : e.platform.magicAccessors = ({} : Platform).magicAccessors := by rw [X.admits.platform]
  obtain ⟨c3, c4, hc3, hc4, hasg⟩ := Cond.castable_spec hcast
  cases Option.some.inj (hc3.symm.trans hcl)
  obtain ⟨c5, hc5, hcl5⟩ := Cond.classLink_spec hown hlink e.platform hpl
  cases Option.some.inj (hc4.symm.trans hc5)
  obtain ⟨vm', X', st⟩ := X.thenCaughtThrough q (g := F0 m pc ls rest) rfl (Steps.refl _) (by rw [hT]; exact hcell) (by rw [hv]; rfl) (by obtain ⟨k9, h9, -⟩ := Vm.findClass_spec hcl; exact ⟨k9, h9⟩) pre x suf hsplit
    (fun z hz => by
      rcases hpass z hz with h | ⟨hz0, nm, hl1, hn1⟩
      · exact Or.inl h
      · obtain ⟨c6, hc6, hcl6⟩ := Cond.classLink_spec hown hl1 e.platform hpl
        obtain ⟨a8, b8, h1, h2, h3⟩ := hn1
        cases Option.some.inj (h1.symm.trans hcl)
        cases Option.some.inj (h2.symm.trans hc6)
        exact Or.inr ⟨hz0, _, hcl6, h3⟩) hx (Or.inr ⟨h0, c4, hcl5, hasg⟩)
  obtain ⟨t, a1, b1⟩ := kk (T.setVm vm') hT X'
  exact ⟨t, st.trans a1, b1⟩
end Rows
section Ends
variable {p : Program} {l : Launch} {e : Env} {R : Room} {s : State} {m : MethodId} {args : Array Value} {below : List Frame} {meth : Method} {c : Code} {H : Heap} {locs : List Loc} {cells slots : Nat} {Q : State → Prop}
variable {mc ms : Nat} {free : Addr → Prop} {A0 A1 : Nat → Prop} {H0 : Heap} {a : Array Value} {ls : Array Slot} {st0 rest : List Value}
variable {Qc : Array Value → State → Outcome → State → Prop} {XC : String → State → State → Prop}
/-- what a body that may throw owes at its end -/
def vx_MQ (below : List Frame) (Qc : Array Value → State → Outcome → State → Prop) (XC : String → State → State → Prop) (a : Array Value) (s : State) (mc ms : Nat) (free : Addr → Prop) : State → Prop := fun t =>
  ∃ o, t.status = .running ∧ Ended t below o ∧ vx_Q Qc XC mc ms free a s o t
theorem vx_ret {g : JFrame} {mc ms : Nat} (k : W p l e R s m args below meth c H locs cells slots (MQ below Qc args s mc ms free) g) : W p l e R s m args below meth c H locs cells slots (vx_MQ below Qc XC args s mc ms free) g := by
  intro T hT X
  obtain ⟨t, a1, o, b1, b2, b3, b4⟩ := k T hT X
  exact ⟨t, a1, o, b1, b2, Or.inl ⟨b3, b4⟩⟩
/-- not caught here: it goes on to the caller -/
theorem vx_widen {g : JFrame} {q : Addr} {k n : Nat} (h1 : cells ≤ k) (h2 : slots ≤ n) (kk : vx_W p l e R s m args below meth c H locs k n Q g q) : vx_W p l e R s m args below meth c H locs cells slots Q g q := fun T hT X => kk T hT (stand_widen X h1 h2)
theorem vx_out {pc : Nat} {E : String} {ce : Cell} {q : Addr} {mc ms : Nat} (hout : ∀ x ∈ c.exceptionTable.toList, covers x pc = false) (hlocks : meth.locks = false) (hcell : H[q]? = some ce) (hv : ce.vm = .none) (hcl : s.vm.findClass E = some ce.cls)
    (hx : ∀ t : State, t.heap = H → s.vm.Alike t.vm → XC E s t) (hf : ∀ z ∈ locs, free z.base) (hc : cells ≤ mc) (hs : slots ≤ ms) :
    vx_W p l e R s m args below meth c H locs cells slots (vx_MQ below Qc XC args s mc ms free) (F0 m pc ls rest) q := by
  intro T hT X
  obtain ⟨st1, hrun, hend, hW, hsm⟩ := X.leaveThrown q (g := F0 m pc ls rest) rfl rfl rfl hout hlocks
  have hcell9 : (T.setFrames (.throwing q :: below)).heap[q]? = some ce := by
    show T.heap[q]? = some ce
    rw [hT]; exact hcell
  exact ⟨_, st1, .threw q, hrun, hend, Or.inr ⟨q, rfl, E, ce, locs, hx _ hT hW.alike, hcell9, hv, hcl, hW, hsm.mono hc hs, hf⟩⟩
theorem vx_frame {U : State} {k n : Nat} (h : s.sameButNew ({ U with vm := s.vm } : State) locs k n) : s.heap.size ≤ U.heap.size ∧ ∀ q : Nat, q < s.heap.size → (∀ z ∈ locs, z.base ≠ q) → U.heap[q]? = s.heap[q]? := by
  obtain ⟨-, h2, -, -, -, h6⟩ := h
  refine ⟨h2, fun q hq hz => ?_⟩
  obtain ⟨c9, e1, e2, e3, e4⟩ := h6 q _ (Array.getElem?_eq_getElem hq)
  have hs : c9.slots = (s.heap[q]).slots := Array.ext_getElem? fun i => e4 i fun hm => hz _ hm rfl
  have h9 : c9 = s.heap[q] := by
    rw [hs] at e2
    exact e2
  have e5 : U.heap[q]? = some c9 := e1
  rw [e5, h9, Array.getElem?_eq_getElem hq]
/-- the words of a throw but the four that speak of the heap -/
def vx_no (w : Cond) : Bool := decide (w ≠ .isRef (.static Bundle.tN "UNASSIGNED_STACK" Bundle.steD)) && decide (w ≠ .isRef (.static Bundle.tN "SUPPRESSED_SENTINEL" Bundle.listD)) && decide (w ≠ .laysStatic Bundle.tN "UNASSIGNED_STACK" Bundle.steD) && decide (w ≠ .laysStatic Bundle.tN "SUPPRESSED_SENTINEL" Bundle.listD)
def vx_at0 (own : String) (ic : Nat) (X : String) (names : List String) : List Cond := (Bundle.ownAtoms0 own ic X names).filter vx_no
def vx_atS (own : String) (ic : Nat) (X : String) (names : List String) : List Cond := (Bundle.ownAtoms own ic X names).filter vx_no
/-- a word that the tables alone decide, or a good one -/
def vx_ot (w : Cond) : Bool := w.onTables || goodWord w
theorem vx_ot_at {args a' : Array Value} {s U : State} {w : Cond} (hW : s.WarmedH U.vm) (hvm : s.vm = U.vm) (hg : vx_ot w = true) (h : w.before args s = true) : w.before a' U = true := by
  simp only [vx_ot, Bool.or_eq_true] at hg
  rcases hg with hg | hg
  · exact va_tabs hg hvm h
  · exact word_at hW (good_of_word hg) h
/-- a list's words: the good ones out of the method's own list, the others by premises of their own -/
theorem vx_hat {args : Array Value} {s : State} {L B : List Cond} (h1 : ∀ w ∈ L.filter goodWord, w.before args s = true) (h2 : ∀ w ∈ L.filter (fun w => !goodWord w), w ∈ B) (h3 : ∀ w ∈ B, w.before args s = true) : ∀ w ∈ L, w.before args s = true := by
  intro w hw
  by_cases g : goodWord w = true
  · exact h1 w (List.mem_filter.mpr ⟨hw, g⟩)
  · refine h3 w (h2 w (List.mem_filter.mpr ⟨hw, ?_⟩))
    show (!goodWord w) = true
    cases hgw : goodWord w
    · rfl
    · exact absurd hgw g
theorem vx_c {args : Array Value} {s : State} {w : Cond} {B : List Cond} (h : w.before args s = true) (t : ∀ w ∈ B, w.before args s = true) : ∀ w' ∈ w :: B, w'.before args s = true := fun w' h' => (List.mem_cons.mp h').elim (fun e => by rw [e]; exact h) (t w')
theorem vx_n {args : Array Value} {s : State} : ∀ w ∈ ([] : List Cond), w.before args s = true := fun _ h => nomatch h
theorem vx_own {args : Array Value} {s : State} {L : List Cond} (h1 : ∀ w ∈ L.filter vx_no, w.before args s = true)
    (hU : (Cond.isRef (.static Bundle.tN "UNASSIGNED_STACK" Bundle.steD)).before args s = true) (hN : (Cond.isRef (.static Bundle.tN "SUPPRESSED_SENTINEL" Bundle.listD)).before args s = true)
    (lU : (Cond.laysStatic Bundle.tN "UNASSIGNED_STACK" Bundle.steD).before args s = true) (lN : (Cond.laysStatic Bundle.tN "SUPPRESSED_SENTINEL" Bundle.listD).before args s = true) : ∀ w ∈ L, w.before args s = true := by
  intro w hw
  by_cases e1 : w = .isRef (.static Bundle.tN "UNASSIGNED_STACK" Bundle.steD)
  · rw [e1]; exact hU
  · by_cases e2 : w = .isRef (.static Bundle.tN "SUPPRESSED_SENTINEL" Bundle.listD)
    · rw [e2]; exact hN
    · by_cases e3 : w = .laysStatic Bundle.tN "UNASSIGNED_STACK" Bundle.steD
      · rw [e3]; exact lU
      · by_cases e4 : w = .laysStatic Bundle.tN "SUPPRESSED_SENTINEL" Bundle.listD
        · rw [e4]; exact lN
        · exact h1 w (List.mem_filter.mpr ⟨hw, by unfold vx_no; rw [decide_eq_true e1, decide_eq_true e2, decide_eq_true e3, decide_eq_true e4]; rfl⟩)
/-- where a static field lies, its class's statics cell in H -/
def vx_L (C n d : String) (A : Nat → Prop) (U : State) (H : Heap) : Prop := ∃ (c : ClassId) (k : Class) (i : Nat) (f : Field) (a : Nat) (cell : Cell), U.vm.findClass C = some c ∧ U.fieldFound? C n d = some (c, k, i, f) ∧ f.isStatic = true ∧ k.statics = some a ∧ H[a]? = some cell ∧ cell.vm.isStatics = true ∧ cell.cls = c ∧ f.slot < cell.slots.size ∧ k.staticTypes[f.slot]? = some f.type ∧ ¬ A a
theorem vx_L.moved {C n d : String} {A : Nat → Prop} {u U : State} {H : Heap} (hvm : u.vm.Alike U.vm) (h : vx_L C n d A u H) : vx_L C n d A U H := by
  obtain ⟨c, k, i, f, a, cell, h1, h2, h3, h4, h5, h6, h7, h8, h9, h10⟩ := h
  obtain ⟨k', hi', he⟩ := State.fieldFound?_setVm hvm h2
  exact ⟨c, k', i, f, a, cell, by rw [hvm.findClass]; exact h1, hi', h3, by rw [he]; exact h4, h5, h6, h7, h8, by rw [he]; exact h9, h10⟩
theorem vx_L.kept {C n d : String} {A : Nat → Prop} {U : State} {H H1 : Heap} (h : vx_L C n d A U H) (hq : ∀ a : Nat, a < H.size → ¬ A a → H1[a]? = H[a]?) : vx_L C n d A U H1 := by
  obtain ⟨c, k, i, f, a, cell, h1, h2, h3, h4, h5, h6, h7, h8, h9, h10⟩ := h
  exact ⟨c, k, i, f, a, cell, h1, h2, h3, h4, by rw [hq a (Array.getElem?_eq_some_iff.mp h5).1 h10]; exact h5, h6, h7, h8, h9, h10⟩
theorem vx_L.narrow {C n d : String} {A B : Nat → Prop} {U : State} {H : Heap} (h : vx_L C n d A U H) (hAB : ∀ q, B q → A q) : vx_L C n d B U H := by
  obtain ⟨c, k, i, f, a, cell, h1, h2, h3, h4, h5, h6, h7, h8, h9, h10⟩ := h
  exact ⟨c, k, i, f, a, cell, h1, h2, h3, h4, h5, h6, h7, h8, h9, fun z => h10 (hAB _ z)⟩
theorem vx_L.word {C n d : String} {A : Nat → Prop} {s : State} {args : Array Value} (h : vx_L C n d A s s.heap) : (Cond.laysStatic C n d).before args s = true := by
  obtain ⟨c, k, i, f, a, cell, h1, h2, h3, h4, h5, h6, h7, h8, h9, -⟩ := h
  show (Cond.laysStatic C n d).holds args s none s [] = true
  exact Cond.laysStatic_of h1 h2 h3 h4 h5 h6 h7 h8 h9
/-- .. and what it holds: null or some reference -/
def vx_Zq (C n d : String) (A : Nat → Prop) (U : State) (H : Heap) : Prop := va_Zq C n d A U H ∧ vx_L C n d A U H
theorem vx_Zq.moved {C n d : String} {A : Nat → Prop} {u U : State} {H : Heap} (hvm : u.vm.Alike U.vm) (h : vx_Zq C n d A u H) : vx_Zq C n d A U H := ⟨va_Zq.moved hvm h.1, vx_L.moved hvm h.2⟩
theorem vx_Zq.kept {C n d : String} {A : Nat → Prop} {U : State} {H H1 : Heap} (h : vx_Zq C n d A U H) (hq : ∀ a : Nat, a < H.size → ¬ A a → H1[a]? = H[a]?) : vx_Zq C n d A U H1 := ⟨va_Zq.kept h.1 hq, vx_L.kept h.2 hq⟩
theorem vx_Zq.narrow {C n d : String} {A B : Nat → Prop} {U : State} {H : Heap} (h : vx_Zq C n d A U H) (hAB : ∀ q, B q → A q) : vx_Zq C n d B U H := ⟨va_Zq.narrow h.1 hAB, vx_L.narrow h.2 hAB⟩
theorem vx_Zqof {args : Array Value} {s : State} {C n d : String} {A : Nat → Prop} (hl : (Cond.laysStatic C n d).before args s = true) (hini : (Cond.initialized C).before args s = true) (h : (Cond.isRef (.static C n d)).before args s = true) (hA : ∀ a : Nat, a < s.heap.size → ¬ A a) : vx_Zq C n d A s s.heap := by
  refine ⟨va_Zqof hl hini h hA, ?_⟩
  obtain ⟨c, k, i, f, a, cell, h1, h2, h3, h4, h5, h6, h7, h8, h9⟩ := Cond.laysStatic_spec hl
  exact ⟨c, k, i, f, a, cell, h1, h2, h3, h4, h5, h6, h7, h8, h9, hA a (Array.getElem?_eq_some_iff.mp h5).1⟩
theorem vx_isRef {C n d : String} {v : Value} {A : Nat → Prop} {s : State} {args : Array Value} (h : va_Z C n d v A s s.heap) (hv : v.isRef = true) : (Cond.isRef (.static C n d)).before args s = true := by
  obtain ⟨cf, kf, fi, f, a, cell, h1, h2, h3, h4, h5, h6, h7, -⟩ := h
  have he : (Term.static C n d).eval args s none [] s = some v := by
    simp [Term.eval, State.fieldNamed?, h1, h2, h4, h5, h6, h7]
  simp only [Cond.before, Cond.holds, Cond.value, he]
  cases v <;> simp_all [Value.isRef]
theorem vx_isRefq {C n d : String} {A : Nat → Prop} {s : State} {args : Array Value} (h : va_Zq C n d A s s.heap) : (Cond.isRef (.static C n d)).before args s = true := by
  rcases h with h | ⟨t, h⟩
  · exact vx_isRef h rfl
  · exact vx_isRef h rfl
/-- the same frame, seen from here: as if the method were called anew in this heap -/
theorem vx_rebase {T : State} (X : Stand p l e R s m args below meth c T locs cells slots) {R' : Room} (hf : R'.frames ≤ R.frames) (hl : R'.locals ≤ R.locals) (hc : cells + R'.cells ≤ R.cells) (hs : slots + R'.slots ≤ R.slots) :
    Stand p l e R' ((T.setVm s.vm).setFrames (.invoking m args :: below)) m args below meth c T [] 0 0 := by
  have htop : (T.setVm s.vm).topJava?.isSome := X.here.top
  have hF : ((T.setVm s.vm).setFrames (.invoking m args :: below)).frames = .invoking m args :: below := State.frames_setFrames _ (State.cur_lt_of_top htop)
  obtain ⟨g₀, hg0⟩ := Option.isSome_iff_exists.mp htop
  obtain ⟨r, hr⟩ := State.topJava?_eq_some.mp hg0
  have hl9 : e.platform.stackLimits (T.setVm s.vm).me = e.platform.stackLimits s.me := X.limits
  have hb9 : (T.setVm s.vm).me.stackBytes = s.me.stackBytes := X.bytes
  refine ⟨X.admits, X.cas, X.clock, hF, ?_, X.hears, X.method, X.code, X.here, X.tail, X.warmed, ?_, ?_, ?_⟩
  · have h := X.room
    have hU : ((T.setVm s.vm).setFrames (.invoking m args :: below)).localsInUse = s.localsInUse := by
      rw [State.localsInUse_invoking hF (meth := meth) (c := c) X.method X.code, State.localsInUse_invoking X.frames X.method X.code]
    simp only [State.hasRoom, Bool.and_eq_true, decide_eq_true_eq] at h ⊢
    obtain ⟨⟨⟨⟨h1, h2, h3, h4, h5, h6⟩, h7⟩, h8⟩, h9⟩ := h
    rw [X.frames, List.length_cons] at h2 h3
    have q1 := X.heapSize
    have q2 := X.used
    simp only [hF, hU, List.length_cons, State.stackLimits_setFrames, State.stackBytes_setFrames, hl9, hb9]
    refine ⟨⟨⟨⟨by omega, by omega, by omega, by omega, by omega, h6⟩, ?_⟩, ?_⟩, X.book⟩
    · show T.heap.size + R'.cells ≤ e.platform.maxCells
      omega
    · show T.slotsUsed + R'.slots ≤ e.platform.maxSlots
      omega
  · rw [State.stackLimits_setFrames]; rfl
  · rw [State.stackBytes_setFrames]; rfl
  · refine ⟨?_, Nat.le_refl _, Nat.le_refl _, ?_, ?_, fun a c9 h9 => ⟨c9, h9, rfl, rfl, fun _ _ => rfl⟩⟩
    · obtain ⟨t, ht, -⟩ := State.frames_cons hr
      show T.setVm s.vm = { ((T.setVm s.vm).setFrames (.invoking m args :: below)).setFrames (T.setVm s.vm).frames with heap := T.heap, slotsUsed := T.slotsUsed }
      rw [State.setFrames_setFrames, State.setFrames_self ht]
      rfl
    · show T.slotsUsed = T.slotsUsed + ((T.heap.toList.drop T.heap.size).map (·.slots.size)).sum
      rw [List.drop_eq_nil_of_le (Nat.le_of_eq Array.length_toList)]
      rfl
    · show ((T.heap.toList.drop T.heap.size).map (·.slots.size)).sum ≤ 0
      rw [List.drop_eq_nil_of_le (Nat.le_of_eq Array.length_toList)]
      exact Nat.le_refl _
/-- 'throw new E()': new; dup; invokespecial; athrow -/
theorem vx_throw0 {cc : ByteArray} {pc : Nat} (hexec : p.tables.exec = Jvm.exec) (hb : c.code = cc) (hl : l.stackTraces = false) {own cls : String} {names : List String} {ik ic mc ms : Nat} {A : Nat → Prop}
    (hown : s.vm.findClass own = some m.cls) (hcls : Bundle.fit cls = true) (hnames : ∀ n ∈ names, Bundle.fit n = true)
    (hk : (Cond.classLink own ik cls).before args s = true) (hini : (Cond.initialized cls).before args s = true) (hat : ∀ w ∈ vx_at0 own ic cls names, w.before args s = true)
    (hgood : ∀ w ∈ Cond.classLink own ik cls :: Cond.initialized cls :: vx_at0 own ic cls names, vx_ot w = true)
    (hU : vx_Zq Bundle.tN "UNASSIGNED_STACK" Bundle.steD A s s.heap) (hN : vx_Zq Bundle.tN "SUPPRESSED_SENTINEL" Bundle.listD A s s.heap) (hS : va_S A s.heap H locs) (hsize : ls.size = c.maxLocals)
    (d0 : decode cc pc = .ok (.new ik, 3)) (d3 : decode cc (pc + 3) = .ok (.dup, 1)) (d4 : decode cc (pc + 4) = .ok (.invokespecial ic, 3)) (d7 : decode cc (pc + 7) = .ok (.athrow, 1))
    (hout : ∀ x ∈ c.exceptionTable.toList, covers x (pc + 7) = false)
    (hRframes : names.length + 3 < R.frames) (hRlocals : (rest.map fun v => v.category).sum + (13 * (names.length + 1) + 42) ≤ R.locals) (hRcells : cells + 1 ≤ R.cells) (hRslots : slots + 6 ≤ R.slots) (hlocks : meth.locks = false)
    (hx : ∀ t : State, s.vm.Alike t.vm → H.size ≤ t.heap.size → (∀ q : Nat, q < H.size → t.heap[q]? = H[q]?) → XC cls s t)
    (hf : ∀ z ∈ locs, free z.base) (hc : cells + 1 ≤ mc) (hs : slots + 6 ≤ ms) :
    W p l e R s m args below meth c H locs cells slots (vx_MQ below Qc XC args s mc ms free) (F0 m pc ls rest) := by
  intro T hT X
  have htr : e.platform.stackTraces = false := (show e.platform.stackTraces = l.stackTraces by rw [X.admits.platform]).trans hl
  have Y := vx_rebase X (R' := { frames := R.frames, locals := R.locals, cells := 1, slots := 6 }) (Nat.le_refl _) (Nat.le_refl _) hRcells hRslots
  obtain ⟨s', hA⟩ : ∃ z, z = (T.setVm s.vm).setFrames (.invoking m args :: below) := ⟨_, rfl⟩
  rw [← hA] at Y
  have hvm : s'.vm = s.vm := by rw [hA]; rfl
  have hhp : s'.heap = H := by rw [hA]; exact hT
  have hW0 : s.WarmedH s'.vm := by rw [hvm]; exact State.WarmedH.refl s
  have hat' : ∀ w ∈ vx_at0 own ic cls names, w.before args s' = true := fun w hw => vx_ot_at hW0 hvm.symm (hgood w (List.mem_cons_of_mem _ (List.mem_cons_of_mem _ hw))) (hat w hw)
  have hk' : (Cond.classLink own ik cls).before args s' = true := vx_ot_at hW0 hvm.symm (hgood _ List.mem_cons_self) hk
  have hini' : (Cond.initialized cls).before args s' = true := vx_ot_at hW0 hvm.symm (hgood _ (List.mem_cons_of_mem _ List.mem_cons_self)) hini
  have hU' : vx_Zq Bundle.tN "UNASSIGNED_STACK" Bundle.steD A s' s'.heap := by rw [hhp]; exact vx_Zq.moved hW0.alike (hU.kept hS.2.1)
  have hN' : vx_Zq Bundle.tN "SUPPRESSED_SENTINEL" Bundle.listD A s' s'.heap := by rw [hhp]; exact vx_Zq.moved hW0.alike (hN.kept hS.2.1)
  have h : ∀ w ∈ Bundle.ownAtoms0 own ic cls names, w.before args s' = true := vx_own hat' (vx_isRefq hU'.1) (vx_isRefq hN'.1) hU'.2.word hN'.2.word
  have hown' : s'.vm.findClass own = some m.cls := by rw [hvm]; exact hown
  have hins : (Cond.instantiable cls 6).before args s' = true := h _ (by simp [Bundle.ownAtoms0])
  obtain ⟨vm₁, cX, kX, hfX, hkX, -, -, X₁, st1⟩ := Y.newCold hexec (own := own) (C := cls) (index := ik) (n := 6) hown' hk' hins hini'
    (g := F0 m pc ls rest) rfl (by rw [hb]; exact d0) (Nat.le_refl _) (Nat.le_refl _)
  generalize hT1 : (T.setVm vm₁).pushCell { cls := cX, slots := kX.instanceTypes.map defaultValue, vm := .none } = T1 at X₁ st1
  have hcat : (Value.ref T.heap.size).category = 1 := rfl
  have hcellA : T1.heap[T.heap.size]? = some (freshCell cX kX) := by rw [← hT1]; exact State.heap_pushCell_size _ _
  have d3' : decode c.code (pc + 3) = .ok (.dup, 1) := by rw [hb]; exact d3
  obtain ⟨U, hsteps, hrun, hend, hW, hsame, ce, hce, hO⟩ := X₁.ctorThrow0 hexec htr (own := own) (cls := cls) (names := names) (ic := ic) hown' hcls hnames h (fun x hx => nomatch hx) hfX hkX hcellA (by rw [hhp, hT]; exact Nat.le_refl _)
    (g := { method := m, pc := pc + 4, locals := ls, stack := .ref T.heap.size :: .ref T.heap.size :: rest, locked := none }) rfl hsize rfl rfl (rest := rest) rfl
    (by rw [hb]; exact d4) (by rw [hb]; exact d7) hout hRframes (by simp only [List.map_cons, List.sum_cons, hcat]; omega) hlocks
  obtain ⟨f1, f2⟩ := vx_frame hsame
  rw [hhp] at f1 f2
  have hWs : s.WarmedH U.vm := State.WarmedH.trans hW0 hW
  have hcl : s.vm.findClass cls = some ce.cls := by
    have h9 := hO.cls
    rw [hvm] at h9
    exact h9
  have hall : s.sameButNew ({ U with vm := s.vm } : State) locs mc ms := by
    subst hA
    obtain ⟨e1, e2⟩ := hsame
    rw [State.setFrames_setFrames] at e1
    have h2 : (T.setVm s.vm).sameButNew ({ U with vm := s.vm } : State) [] (0 + 1) (0 + 6) := ⟨e1, e2⟩
    have h3 := X.same.trans h2
    rw [List.append_nil] at h3
    exact h3.mono hc hs
  refine ⟨U, ?_, .threw T.heap.size, hrun, hend, Or.inr ⟨T.heap.size, rfl, cls, ce, locs, hx U hWs.alike f1 (fun q hq => f2 q hq (fun z hz => nomatch hz)), hce, hO.vm, hcl, hWs, hall, hf⟩⟩
  refine st1 _ ?_
  show Steps p.tables e below (T1.setTop { method := m, pc := pc + 3, locals := ls, stack := .ref T.heap.size :: rest, locked := none }) _
  jvm_step X₁.here [X₁.here.top, hexec, d3', Value.category]
  exact hsteps
/-- 'throw new E("text")': new; dup; ldc; invokespecial; athrow -/
theorem vx_throwS {cc : ByteArray} {pc : Nat} (hexec : p.tables.exec = Jvm.exec) (hb : c.code = cc) (hl : l.stackTraces = false) {own cls text : String} {names : List String} {ik is ic mc ms sa : Nat} {A : Nat → Prop}
    (hown : s.vm.findClass own = some m.cls) (hcls : Bundle.fit cls = true) (hnames : ∀ n ∈ names, Bundle.fit n = true)
    (hk : (Cond.classLink own ik cls).before args s = true) (hini : (Cond.initialized cls).before args s = true) (hstr : vk_R own is text sa s) (hat : ∀ w ∈ vx_atS own ic cls names, w.before args s = true)
    (hgood : ∀ w ∈ Cond.classLink own ik cls :: Cond.initialized cls :: vx_atS own ic cls names, vx_ot w = true)
    (hU : vx_Zq Bundle.tN "UNASSIGNED_STACK" Bundle.steD A s s.heap) (hN : vx_Zq Bundle.tN "SUPPRESSED_SENTINEL" Bundle.listD A s s.heap) (hS : va_S A s.heap H locs) (hsize : ls.size = c.maxLocals)
    (d0 : decode cc pc = .ok (.new ik, 3)) (d3 : decode cc (pc + 3) = .ok (.dup, 1)) (d4 : decode cc (pc + 4) = .ok (.ldc is, 2)) (d6 : decode cc (pc + 6) = .ok (.invokespecial ic, 3)) (d9 : decode cc (pc + 9) = .ok (.athrow, 1))
    (hout : ∀ x ∈ c.exceptionTable.toList, covers x (pc + 9) = false)
    (hRframes : names.length + 3 < R.frames) (hRlocals : (rest.map fun v => v.category).sum + (13 * (names.length + 1) + 43) ≤ R.locals) (hRcells : cells + 1 ≤ R.cells) (hRslots : slots + 6 ≤ R.slots) (hlocks : meth.locks = false)
    (hx : ∀ t : State, s.vm.Alike t.vm → H.size ≤ t.heap.size → (∀ q : Nat, q < H.size → t.heap[q]? = H[q]?) → XC cls s t)
    (hf : ∀ z ∈ locs, free z.base) (hc : cells + 1 ≤ mc) (hs : slots + 6 ≤ ms) :
    W p l e R s m args below meth c H locs cells slots (vx_MQ below Qc XC args s mc ms free) (F0 m pc ls rest) := by
  intro T hT X
  have htr : e.platform.stackTraces = false := (show e.platform.stackTraces = l.stackTraces by rw [X.admits.platform]).trans hl
  have Y := vx_rebase X (R' := { frames := R.frames, locals := R.locals, cells := 1, slots := 6 }) (Nat.le_refl _) (Nat.le_refl _) hRcells hRslots
  obtain ⟨s', hA⟩ : ∃ z, z = (T.setVm s.vm).setFrames (.invoking m args :: below) := ⟨_, rfl⟩
  rw [← hA] at Y
  have hvm : s'.vm = s.vm := by rw [hA]; rfl
  have hhp : s'.heap = H := by rw [hA]; exact hT
  have hW0 : s.WarmedH s'.vm := by rw [hvm]; exact State.WarmedH.refl s
  have hat' : ∀ w ∈ vx_atS own ic cls names, w.before args s' = true := fun w hw => vx_ot_at hW0 hvm.symm (hgood w (List.mem_cons_of_mem _ (List.mem_cons_of_mem _ hw))) (hat w hw)
  have hk' : (Cond.classLink own ik cls).before args s' = true := vx_ot_at hW0 hvm.symm (hgood _ List.mem_cons_self) hk
  have hini' : (Cond.initialized cls).before args s' = true := vx_ot_at hW0 hvm.symm (hgood _ (List.mem_cons_of_mem _ List.mem_cons_self)) hini
  have hU' : vx_Zq Bundle.tN "UNASSIGNED_STACK" Bundle.steD A s' s'.heap := by rw [hhp]; exact vx_Zq.moved hW0.alike (hU.kept hS.2.1)
  have hN' : vx_Zq Bundle.tN "SUPPRESSED_SENTINEL" Bundle.listD A s' s'.heap := by rw [hhp]; exact vx_Zq.moved hW0.alike (hN.kept hS.2.1)
  have h : ∀ w ∈ Bundle.ownAtoms own ic cls names, w.before args s' = true := vx_own hat' (vx_isRefq hU'.1) (vx_isRefq hN'.1) hU'.2.word hN'.2.word
  have hown' : s'.vm.findClass own = some m.cls := by rw [hvm]; exact hown
  have hins : (Cond.instantiable cls 6).before args s' = true := h _ (by simp [Bundle.ownAtoms])
  obtain ⟨vm₁, cX, kX, hfX, hkX, -, -, X₁, st1⟩ := Y.newCold hexec (own := own) (C := cls) (index := ik) (n := 6) hown' hk' hins hini'
    (g := F0 m pc ls rest) rfl (by rw [hb]; exact d0) (Nat.le_refl _) (Nat.le_refl _)
  generalize hT1 : (T.setVm vm₁).pushCell { cls := cX, slots := kX.instanceTypes.map defaultValue, vm := .none } = T1 at X₁ st1
  have hcat : (Value.ref T.heap.size).category = 1 := rfl
  have hcellA : T1.heap[T.heap.size]? = some (freshCell cX kX) := by rw [← hT1]; exact State.heap_pushCell_size _ _
  have d3' : decode c.code (pc + 3) = .ok (.dup, 1) := by rw [hb]; exact d3
  have d4' : decode c.code (pc + 4) = .ok (.ldc is, 2) := by rw [hb]; exact d4
  have hstr' : vk_R own is text sa s' := vk_R.warm hW0 hstr
  obtain ⟨U, hsteps, hrun, hend, hW, hsame, ce, hce, hO⟩ := X₁.ctorThrowS hexec htr (own := own) (cls := cls) (names := names) (ic := ic) hown' hcls hnames h (fun x hx => nomatch hx) hfX hkX hcellA (by rw [hhp, hT]; exact Nat.le_refl _) (msg := .ref sa) rfl
    (g := { method := m, pc := pc + 6, locals := ls, stack := .ref sa :: .ref T.heap.size :: .ref T.heap.size :: rest, locked := none }) rfl hsize rfl rfl (rest := rest) rfl
    (by rw [hb]; exact d6) (by rw [hb]; exact d9) hout hRframes (by simp only [List.map_cons, List.sum_cons, hcat]; omega) hlocks
  obtain ⟨f1, f2⟩ := vx_frame hsame
  rw [hhp] at f1 f2
  have hWs : s.WarmedH U.vm := State.WarmedH.trans hW0 hW
  have hcl : s.vm.findClass cls = some ce.cls := by
    have h9 := hO.cls
    rw [hvm] at h9
    exact h9
  have hall : s.sameButNew ({ U with vm := s.vm } : State) locs mc ms := by
    subst hA
    obtain ⟨e1, e2⟩ := hsame
    rw [State.setFrames_setFrames] at e1
    have h2 : (T.setVm s.vm).sameButNew ({ U with vm := s.vm } : State) [] (0 + 1) (0 + 6) := ⟨e1, e2⟩
    have h3 := X.same.trans h2
    rw [List.append_nil] at h3
    exact h3.mono hc hs
  refine ⟨U, ?_, .threw T.heap.size, hrun, hend, Or.inr ⟨T.heap.size, rfl, cls, ce, locs, hx U hWs.alike f1 (fun q hq => f2 q hq (fun z hz => nomatch hz)), hce, hO.vm, hcl, hWs, hall, hf⟩⟩
  refine st1 _ ?_
  show Steps p.tables e below (T1.setTop { method := m, pc := pc + 3, locals := ls, stack := .ref T.heap.size :: rest, locked := none }) _
  jvm_step X₁.here [X₁.here.top, hexec, d3', Value.category]
  exact X₁.ldcString hexec (own := own) (text := text) (index := is) (a := sa) hown' hstr'.1 hstr'.2
    (g := { method := m, pc := pc + 4, locals := ls, stack := .ref T.heap.size :: .ref T.heap.size :: rest, locked := none }) rfl d4' _ hsteps
/-- 'throw new E("text")', the text by a wide index -/
theorem vx_throwSW {cc : ByteArray} {pc : Nat} (hexec : p.tables.exec = Jvm.exec) (hb : c.code = cc) (hl : l.stackTraces = false) {own cls text : String} {names : List String} {ik is ic mc ms sa : Nat} {A : Nat → Prop}
    (hown : s.vm.findClass own = some m.cls) (hcls : Bundle.fit cls = true) (hnames : ∀ n ∈ names, Bundle.fit n = true)
    (hk : (Cond.classLink own ik cls).before args s = true) (hini : (Cond.initialized cls).before args s = true) (hstr : vk_R own is text sa s) (hat : ∀ w ∈ vx_atS own ic cls names, w.before args s = true)
    (hgood : ∀ w ∈ Cond.classLink own ik cls :: Cond.initialized cls :: vx_atS own ic cls names, vx_ot w = true)
    (hU : vx_Zq Bundle.tN "UNASSIGNED_STACK" Bundle.steD A s s.heap) (hN : vx_Zq Bundle.tN "SUPPRESSED_SENTINEL" Bundle.listD A s s.heap) (hS : va_S A s.heap H locs) (hsize : ls.size = c.maxLocals)
    (d0 : decode cc pc = .ok (.new ik, 3)) (d3 : decode cc (pc + 3) = .ok (.dup, 1)) (d4 : decode cc (pc + 4) = .ok (.ldc_w is, 3)) (d7 : decode cc (pc + 7) = .ok (.invokespecial ic, 3)) (d10 : decode cc (pc + 10) = .ok (.athrow, 1))
    (hout : ∀ x ∈ c.exceptionTable.toList, covers x (pc + 10) = false)
    (hRframes : names.length + 3 < R.frames) (hRlocals : (rest.map fun v => v.category).sum + (13 * (names.length + 1) + 43) ≤ R.locals) (hRcells : cells + 1 ≤ R.cells) (hRslots : slots + 6 ≤ R.slots) (hlocks : meth.locks = false)
    (hx : ∀ t : State, s.vm.Alike t.vm → H.size ≤ t.heap.size → (∀ q : Nat, q < H.size → t.heap[q]? = H[q]?) → XC cls s t)
    (hf : ∀ z ∈ locs, free z.base) (hc : cells + 1 ≤ mc) (hs : slots + 6 ≤ ms) :
    W p l e R s m args below meth c H locs cells slots (vx_MQ below Qc XC args s mc ms free) (F0 m pc ls rest) := by
  intro T hT X
  have htr : e.platform.stackTraces = false := (show e.platform.stackTraces = l.stackTraces by rw [X.admits.platform]).trans hl
  have Y := vx_rebase X (R' := { frames := R.frames, locals := R.locals, cells := 1, slots := 6 }) (Nat.le_refl _) (Nat.le_refl _) hRcells hRslots
  obtain ⟨s', hA⟩ : ∃ z, z = (T.setVm s.vm).setFrames (.invoking m args :: below) := ⟨_, rfl⟩
  rw [← hA] at Y
  have hvm : s'.vm = s.vm := by rw [hA]; rfl
  have hhp : s'.heap = H := by rw [hA]; exact hT
  have hW0 : s.WarmedH s'.vm := by rw [hvm]; exact State.WarmedH.refl s
  have hat' : ∀ w ∈ vx_atS own ic cls names, w.before args s' = true := fun w hw => vx_ot_at hW0 hvm.symm (hgood w (List.mem_cons_of_mem _ (List.mem_cons_of_mem _ hw))) (hat w hw)
  have hk' : (Cond.classLink own ik cls).before args s' = true := vx_ot_at hW0 hvm.symm (hgood _ List.mem_cons_self) hk
  have hini' : (Cond.initialized cls).before args s' = true := vx_ot_at hW0 hvm.symm (hgood _ (List.mem_cons_of_mem _ List.mem_cons_self)) hini
  have hU' : vx_Zq Bundle.tN "UNASSIGNED_STACK" Bundle.steD A s' s'.heap := by rw [hhp]; exact vx_Zq.moved hW0.alike (hU.kept hS.2.1)
  have hN' : vx_Zq Bundle.tN "SUPPRESSED_SENTINEL" Bundle.listD A s' s'.heap := by rw [hhp]; exact vx_Zq.moved hW0.alike (hN.kept hS.2.1)
  have h : ∀ w ∈ Bundle.ownAtoms own ic cls names, w.before args s' = true := vx_own hat' (vx_isRefq hU'.1) (vx_isRefq hN'.1) hU'.2.word hN'.2.word
  have hown' : s'.vm.findClass own = some m.cls := by rw [hvm]; exact hown
  have hins : (Cond.instantiable cls 6).before args s' = true := h _ (by simp [Bundle.ownAtoms])
  obtain ⟨vm₁, cX, kX, hfX, hkX, -, -, X₁, st1⟩ := Y.newCold hexec (own := own) (C := cls) (index := ik) (n := 6) hown' hk' hins hini'
    (g := F0 m pc ls rest) rfl (by rw [hb]; exact d0) (Nat.le_refl _) (Nat.le_refl _)
  generalize hT1 : (T.setVm vm₁).pushCell { cls := cX, slots := kX.instanceTypes.map defaultValue, vm := .none } = T1 at X₁ st1
  have hcat : (Value.ref T.heap.size).category = 1 := rfl
  have hcellA : T1.heap[T.heap.size]? = some (freshCell cX kX) := by rw [← hT1]; exact State.heap_pushCell_size _ _
  have d3' : decode c.code (pc + 3) = .ok (.dup, 1) := by rw [hb]; exact d3
  have d4' : decode c.code (pc + 4) = .ok (.ldc_w is, 3) := by rw [hb]; exact d4
  have hstr' : vk_R own is text sa s' := vk_R.warm hW0 hstr
  obtain ⟨U, hsteps, hrun, hend, hW, hsame, ce, hce, hO⟩ := X₁.ctorThrowS hexec htr (own := own) (cls := cls) (names := names) (ic := ic) hown' hcls hnames h (fun x hx => nomatch hx) hfX hkX hcellA (by rw [hhp, hT]; exact Nat.le_refl _) (msg := .ref sa) rfl
    (g := { method := m, pc := pc + 7, locals := ls, stack := .ref sa :: .ref T.heap.size :: .ref T.heap.size :: rest, locked := none }) rfl hsize rfl rfl (rest := rest) rfl
    (by rw [hb]; exact d7) (by rw [hb]; exact d10) hout hRframes (by simp only [List.map_cons, List.sum_cons, hcat]; omega) hlocks
  obtain ⟨f1, f2⟩ := vx_frame hsame
  rw [hhp] at f1 f2
  have hWs : s.WarmedH U.vm := State.WarmedH.trans hW0 hW
  have hcl : s.vm.findClass cls = some ce.cls := by
    have h9 := hO.cls
    rw [hvm] at h9
    exact h9
  have hall : s.sameButNew ({ U with vm := s.vm } : State) locs mc ms := by
    subst hA
    obtain ⟨e1, e2⟩ := hsame
    rw [State.setFrames_setFrames] at e1
    have h2 : (T.setVm s.vm).sameButNew ({ U with vm := s.vm } : State) [] (0 + 1) (0 + 6) := ⟨e1, e2⟩
    have h3 := X.same.trans h2
    rw [List.append_nil] at h3
    exact h3.mono hc hs
  refine ⟨U, ?_, .threw T.heap.size, hrun, hend, Or.inr ⟨T.heap.size, rfl, cls, ce, locs, hx U hWs.alike f1 (fun q hq => f2 q hq (fun z hz => nomatch hz)), hce, hO.vm, hcl, hWs, hall, hf⟩⟩
  refine st1 _ ?_
  show Steps p.tables e below (T1.setTop { method := m, pc := pc + 3, locals := ls, stack := .ref T.heap.size :: rest, locked := none }) _
  jvm_step X₁.here [X₁.here.top, hexec, d3', Value.category]
  exact X₁.ldcStringW hexec (own := own) (text := text) (index := is) (a := sa) hown' hstr'.1 hstr'.2
    (g := { method := m, pc := pc + 4, locals := ls, stack := .ref T.heap.size :: .ref T.heap.size :: rest, locked := none }) rfl d4' _ hsteps
end Ends
section Bodies
variable {l : Launch}
theorem vx_ofW {y : MethodName} {ws ws' : List Cond} {rm : Room} {Pc : Array Value → State → Prop} {Qc : Array Value → State → Outcome → State → Prop} {XC : String → State → State → Prop} {mc ms : Nat} {free : Addr → Prop} {cc : ByteArray} {maxL : Nat} {ret : Option FieldType}
    (hy : plainName y.cls = true) (hw : ws = Cond.code y cc maxL ret :: ws')
    (body : ∀ p e s m args below meth c s₁, BodyLoose p l y (headSpec ws rm) cc maxL ret e s m args below meth c s₁ → c.maxLocals = maxL → (∀ x ∈ c.exceptionTable.toList, False) → Pc args s →
      W p l e (headSpec ws rm).room s m args below meth c s.heap [] 0 0 (vx_MQ below Qc XC args s mc ms free) (entryFrame m args maxL)) : vx_Met l y ws rm Pc Qc XC mc ms free := by
  refine MetFree.of_bodyS (code := cc) (maxLocals := maxL) (ret := ret) hy ?_ ?_
  · intro args s m h hn
    obtain ⟨meth, c, h1, h2, h3, h4, h5, h6, -, -⟩ := Cond.code_spec hn (atoms_spec (ws := ws) h _ (by rw [hw]; exact List.mem_cons_self))
    exact ⟨meth, c, h1, h2, h3, h4, h5, h6⟩
  · intro p e s m args below meth c s₁ B hml hP _
    have hh0 : s₁.heap = s.heap := by rw [B.state]; rfl
    have ht : ∀ x ∈ c.exceptionTable.toList, False := by
      obtain ⟨meth9, c9, h1, h2, -, -, -, -, h7, -⟩ := Cond.code_spec B.named (atoms_spec (ws := ws) B.pre _ (by rw [hw]; exact List.mem_cons_self))
      cases Option.some.inj (h1.symm.trans B.method)
      cases Option.some.inj (h2.symm.trans (Stand.of_body B).code)
      intro x hx
      rw [Array.isEmpty_iff.mp h7] at hx
      cases hx
    obtain ⟨t, a1, o, b1, b2, b3⟩ := body p e s m args below meth c s₁ B hml ht hP s₁ hh0 (Stand.of_body B)
    exact ⟨t, o, a1, b1, b2, b3⟩
/-- the table of a body with handlers -/
theorem vx_table {p : Program} {x y : MethodName} {S : Spec} {cc bytes : ByteArray} {maxL maxL' : Nat} {ret ret' : Option FieldType} {e : Env} {s s₁ : State} {m : MethodId} {args : Array Value} {below : List Frame} {meth : Method} {c : Code} {hh : List (Nat × Nat × Nat × Nat)}
    (B : BodyLoose p l y S cc maxL ret e s m args below meth c s₁) (h : (Cond.codeWith y bytes maxL' ret' hh).before args s = true) : c.exceptionTable.toList = tableOf hh := by
  obtain ⟨m9, meth9, c9, hn9, h1, h2, -, -, h6, -⟩ := Cond.codeWith_spec h
  cases Option.some.inj (hn9.symm.trans B.named)
  cases Option.some.inj (h1.symm.trans B.method)
  cases Option.some.inj (h2.symm.trans (Stand.of_body B).code)
  rw [← h6, table_eq]
end Bodies
end VXA
/-! ===== END ===== -/
/-! ===== BEGIN a static call of a method with an exception table ===== -/
section VXS
variable {p : Program} {l : Launch} {e : Env} {R : Room} {s : State} {m : MethodId} {args : Array Value} {below : List Frame} {meth : Method} {c : Code} {T : State} {H : Heap} {locs : List Loc} {cells slots : Nat}
abbrev vx_CSW (R : Room) (s : State) (args : Array Value) (own : String) (index : Nat) (y : MethodName) (bytes : ByteArray) (maxL : Nat) (ret : Option FieldType) (hh : List (Nat × Nat × Nat × Nat)) (ws : List Cond) (rm : Room) (mc ms n : Nat) : Prop :=
  (rm.cells = mc ∧ rm.slots = ms ∧ rm.frames + 1 ≤ R.frames ∧ 8 + (maxL + 11) + rm.locals ≤ R.locals ∧ (∀ w ∈ ws, ∀ (a' : Array Value) (U : State), s.WarmedH U.vm → w.before a' U = true) ∧ Cond.codeWith y bytes maxL ret hh ∈ ws) ∧
  (Cond.codeWith y bytes maxL ret hh).before args s = true ∧ (Cond.initialized y.cls).before args s = true ∧ (y.cls ≠ "java/lang/invoke/MethodHandle" ∧ y.cls ≠ "java/lang/invoke/VarHandle") ∧
  (∀ sig, parseMethodDescriptor y.desc = some sig → n = sig.parameters.length) ∧ (Cond.methodLink own index y).before args s = true ∧ (Cond.static y).before args s = true
theorem vx_cwSW {own : String} {index maxL mc ms : Nat} {y : MethodName} {bytes : ByteArray} {ret : Option FieldType} {hh : List (Nat × Nat × Nat × Nat)} {Ts ws ws' : List Cond} {rm : Room} (n : Nat) (ht : ∀ w ∈ Ts, w.before args s = true) (hT : GoodIn Ts (va_wsS own index y ws)) (hw : ws = Cond.codeWith y bytes maxL ret hh :: ws') (hrc : rm.cells = mc) (hrs : rm.slots = ms)
    (hd : y.cls ≠ "java/lang/invoke/MethodHandle" ∧ y.cls ≠ "java/lang/invoke/VarHandle" ∧ (parseMethodDescriptor y.desc).map (fun d => d.parameters.length) = some n) (hR : rm.frames + 1 ≤ R.frames ∧ 8 + (maxL + 11) + rm.locals ≤ R.locals) :
    vx_CSW R s args own index y bytes maxL ret hh ws rm mc ms n := by
  have ok : ∀ w ∈ va_wsS own index y ws, w.before args s = true := fun w h => ht w (hT w h).1
  have hG : GoodIn Ts ws := fun w h => hT w (by unfold va_wsS; exact List.mem_append_right _ h)
  have hc : Cond.codeWith y bytes maxL ret hh ∈ ws := by rw [hw]; exact List.mem_cons_self
  refine ⟨⟨hrc, hrs, hR.1, hR.2, pay_in ht hG, hc⟩, ht _ (hG _ hc).1, ok _ (by simp [va_wsS]), ⟨hd.1, hd.2.1⟩, fun sig h => ?_, ok _ (by simp [va_wsS]), ok _ (by simp [va_wsS])⟩
  have h2 := hd.2.2
  rw [h] at h2
  exact (Option.some.inj h2).symm
theorem vx_callSW (X : Stand p l e R s m args below meth c T locs cells slots) (hexec : p.tables.exec = Jvm.exec) {own : String} {index : Nat} {y : MethodName} {bytes : ByteArray} {maxL : Nat} {ret : Option FieldType} {hh : List (Nat × Nat × Nat × Nat)}
    (hown : s.vm.findClass own = some m.cls) (hlink : (Cond.methodLink own index y).before args s = true) (hstat : (Cond.static y).before args s = true) (hinit : (Cond.initialized y.cls).before args s = true)
    (hcode : (Cond.codeWith y bytes maxL ret hh).before args s = true) (hy : y.cls ≠ "java/lang/invoke/MethodHandle" ∧ y.cls ≠ "java/lang/invoke/VarHandle")
    {W9 : Nat} {Pre : Pt → Array Value → Prop} {Post : Pt → Array Value → Option Value → Pt → Prop} (hK : Back l R p e below s args y 3 W9 Pre Post)
    {g : JFrame} (hg : g.method = m) (hsize : g.locals.size = c.maxLocals) {argsL rest : List Value} (hlen : ∀ sig, parseMethodDescriptor y.desc = some sig → argsL.length = sig.parameters.length)
    (hstack : g.stack = argsL.reverse ++ rest) (hW : 2 * g.monitorRoom + (rest.map fun v => v.category).sum ≤ W9) (hdg : decode c.code g.pc = .ok (.invokestatic index, 3))
    (hpre : ∀ vm₁, s.WarmedH vm₁ → Pre ⟨T.setVm vm₁, locs, cells, slots⟩ argsL.toArray) :
    ∃ (v : Option Value) (vm₁ : Vm) (B : Pt), s.WarmedH vm₁ ∧ Stand p l e R s m args below meth c B.U B.locs B.cells B.slots ∧ Post ⟨T.setVm vm₁, locs, cells, slots⟩ argsL.toArray v B ∧
      ∀ target, Steps p.tables e below (B.U.setTop { g with pc := g.pc + 3, stack := v.toList ++ rest }) target → Steps p.tables e below (T.setTop g) target := by
  obtain ⟨mk, methM, cM, hnamed, hmethM, -, -, -, -, -, -, hsigM⟩ := Cond.codeWith_spec hcode
  have hstatic : methM.isStatic = true := Cond.static_spec hnamed hmethM hstat
  obtain ⟨kP, hkP, -⟩ := className_of_methodNamed hnamed
  have hinitP : kP.init = .initialized := Cond.initialized_spec (findClass_of_methodNamed hnamed) hkP hinit
  obtain ⟨vm₁, X₁, hstep₁⟩ := X.invokestatic hexec hown hlink hnamed hmethM hstatic hkP hinitP hy (g := g) hg (argsL := argsL) (rest := rest) (hlen _ hsigM) hstack hdg
  obtain ⟨v, B, X', hpost, hsteps⟩ := hK m meth c ⟨T.setVm vm₁, locs, cells, slots⟩ { g with stack := rest } (.invokestatic index) mk argsL.toArray X₁ hg hsize hdg hW (X₁.named hnamed) (hpre vm₁ X₁.warmed)
  exact ⟨v, vm₁, B, X₁.warmed, X', hpost, fun target h => hstep₁ _ fun acts => by rw [doInvoke_state]; exact hsteps.trans h⟩
theorem vx_runSW {y : MethodName} {bytes cc : ByteArray} {maxL nL mc ms n index : Nat} {ret : Option FieldType} {hh : List (Nat × Nat × Nat × Nat)} {ws : List Cond} {rm : Room} {Pc : Array Value → State → Prop} {Qc : Array Value → State → Outcome → State → Prop} {free : Addr → Prop} {Ts : List Cond} {own : String} {As rest : List Value} {g : JFrame}
    (S : CallFix p m c cc nL s args Ts own) (hM : Met l y ws rm Pc Qc mc ms free) (cw : vx_CSW R s args own index y bytes maxL ret hh ws rm mc ms n) (hp : PreS s H Pc As)
    (hg : g.method = m) (hn : As.length = n) (hsize : g.locals.size = nL) (hstack : g.stack = As.reverse ++ rest) (hW : 2 * g.monitorRoom + (rest.map fun v => v.category).sum ≤ 8) (hdg : decode cc g.pc = .ok (.invokestatic index, 3)) (hf : cells + mc ≤ R.cells ∧ slots + ms ≤ R.slots) :
    va_Run p l e R s m args below meth c H locs cells slots mc ms g rest (Qc As.toArray) (free) := by
  obtain ⟨⟨hrc, hrs, hfr, hlo, hws, hcw⟩, hcode, hini, hy, hlen, hl, hstt⟩ := cw
  have hK : Back l R p e below s args y 3 8 (PreOf R mc ms Pc) (PostOf Qc mc ms free) := va_backW (hh := hh) (bytes := bytes) (maxL := maxL) (ret := ret) hM hp.1 hrc hrs hfr hlo hws hcw (fun a' U hW => word_at hW (Or.inl (by first | rfl | simp [Cond.onTables, Cond.keeps, Cond.steady])) hini)
  obtain ⟨hx, hb, hml, ho, -⟩ := S
  intro T hT X
  obtain ⟨v, vm₁, ⟨U', l2, c2, s2⟩, hW₁, X', ⟨g', mk, t, L, e1, e2, hq, h1, hL, h2, h3⟩, st⟩ := vx_callSW X hx (hh := hh) (bytes := bytes) (maxL := maxL) (ret := ret) ho hl hstt hini hcode hy hK hg (hsize.trans hml.symm) (argsL := As) (rest := rest) (fun sig h => hn.trans (hlen sig h)) hstack hW (by rw [hb]; exact hdg)
    (fun vm₁ hW₁ => ⟨hf.1, hf.2, hp.2 (T.setVm vm₁) hT hW₁⟩)
  dsimp only [Pt.U, Pt.locs, Pt.cells, Pt.slots] at X' e1 e2 h1 h2 h3 st
  subst h1; subst h2; subst h3
  exact ⟨v, (T.setVm vm₁).calling g' mk As.toArray, t, U', L, hT, X', hL, e1, e2, hq, st⟩
/-- not caught here, past rows that name other classes: it goes on to the caller -/
theorem vx_outP {p : Program} {l : Launch} {e : Env} {R : Room} {s : State} {m : MethodId} {args : Array Value} {below : List Frame} {meth : Method} {c : Code} {H : Heap} {locs : List Loc} {cells slots : Nat} {free : Addr → Prop} {ls : Array Slot} {rest : List Value} {Qc : Array Value → State → Outcome → State → Prop} {XC : String → State → State → Prop}
    {pc : Nat} {own E : String} {ce : Cell} {q : Addr} {mc ms : Nat} (hown : s.vm.findClass own = some m.cls) (hlocks : meth.locks = false)
    (hpass : ∀ z ∈ c.exceptionTable.toList, covers z pc = false ∨ (z.catchType ≠ 0 ∧ ∃ nm : String, (Cond.classLink own z.catchType nm).before args s = true ∧ va_Nc E nm s)) (hcell : H[q]? = some ce) (hv : ce.vm = .none) (hcl : s.vm.findClass E = some ce.cls)
    (hx : ∀ t : State, t.heap = H → s.vm.Alike t.vm → XC E s t) (hf : ∀ z ∈ locs, free z.base) (hc : cells ≤ mc) (hs : slots ≤ ms) :
    vx_W p l e R s m args below meth c H locs cells slots (vx_MQ below Qc XC args s mc ms free) (F0 m pc ls rest) q := by
  intro T hT X
  have hpl : e.platform.magicAccessors = ({} : Platform).magicAccessors := by rw [X.admits.platform]
  obtain ⟨vm', hW', X', st⟩ := X.outThrough hlocks q (g := F0 m pc ls rest) rfl rfl rfl (cell := ce) (by rw [hT]; exact hcell) (by rw [hv]; rfl)
    (by obtain ⟨k9, h9, -⟩ := Vm.findClass_spec hcl; exact ⟨k9, h9⟩) (fun z hz => by
      rcases hpass z hz with h | ⟨hz0, nm, hl1, hn1⟩
      · exact Or.inl h
      · obtain ⟨c6, hc6, hcl6⟩ := Cond.classLink_spec hown hl1 e.platform hpl
        obtain ⟨a8, b8, h1, h2, h3⟩ := hn1
        cases Option.some.inj (h1.symm.trans hcl)
        cases Option.some.inj (h2.symm.trans hc6)
        exact Or.inr ⟨hz0, _, hcl6, h3⟩)
  obtain ⟨g₀, hfr⟩ := X'.frames_eq
  have hcell9 : ((T.setVm vm').setFrames (.throwing q :: below)).heap[q]? = some ce := by
    show T.heap[q]? = some ce
    rw [hT]; exact hcell
  have hend : Ended ((T.setVm vm').setFrames (.throwing q :: below)) below (.threw q) := State.frames_setFrames _ (State.cur_lt_of_frames hfr)
  refine ⟨(T.setVm vm').setFrames (.throwing q :: below), ?_, .threw q, X'.here.running, hend, Or.inr ⟨q, rfl, E, ce, locs, hx _ hT (X'.ends _).1.alike, hcell9, hv, hcl, (X'.ends _).1, (X'.ends _).2.mono hc hs, hf⟩⟩
  rw [X.pushThrowing_eq]
  exact st
/-- a thing of a world lies in the heap -/
theorem vx_lt {D : va_G} {cl : List vw_C} {ws : va_W} {H1 : Heap} (h : va_P D cl ws H1) {k : Nat} {q : Nat × va_E} (hk : ws[k]? = some q) : q.1 < H1.size := (h k q hk).lt
end VXS
/-! ===== END ===== -/
/-! ===== BEGIN methods with a table of their own: called by a name, returning or throwing ===== -/
section VXH
/-! vx_backW, vx_callVX, vx_callSX, vx_callVW, vx_runVW, vx_runVX, vx_runSX, vx_ofWH follow the same proofs as their sisters above (Free/Laws.lean, Shelf42/LK1.lean); vx_outP calls Shelf42/NT130.lean (outThrough). -/
section
variable {l : Launch} {R : Room} {p : Program} {e : Env} {below : List Frame} {s : State} {sargs : Array Value} {y : MethodName} {len W9 : Nat}
theorem vx_backW {ws : List Cond} {rm : Room} {Pc : Array Value → State → Prop} {Qc : Array Value → State → Outcome → State → Prop} {XC : String → State → State → Prop} {mc ms : Nat} {free : Addr → Prop} {bytes : ByteArray} {maxL : Nat} {ret : Option FieldType} {hh : List (Nat × Nat × Nat × Nat)}
    (hM : vx_Met l y ws rm Pc Qc XC mc ms free) (hblind : FrameBlind Pc) (hrc : rm.cells = mc) (hrs : rm.slots = ms)
    (hframes : rm.frames + 1 ≤ R.frames) (hlocals : W9 + (maxL + 11) + rm.locals ≤ R.locals)
    (hws : ∀ w ∈ ws, ∀ a' U, s.WarmedH U.vm → w.before a' U = true) (hcode : Cond.codeWith y bytes maxL ret hh ∈ ws) (hinit : ∀ a' U, s.WarmedH U.vm → (Cond.initialized y.cls).before a' U = true) :
    vx_Back l R p e below s sargs y len W9 (PreOf R mc ms Pc) (PostOf Qc mc ms free) (vx_Post XC mc ms free) := by
  intro m meth c A g ig mk a X hg hsize hdg hW hn hp
  have h1 : (headSpec ws rm).pre.before a A.U = true := atoms_intro fun w hw => hws w hw _ _ X.warmed
  have h2 : (Cond.codeWith y bytes maxL ret hh).before a A.U = true := hws _ hcode _ _ X.warmed
  have h3 : (Cond.initialized y.cls).before a A.U = true := hinit _ _ X.warmed
  have h4 : A.cells + (headSpec ws rm).room.cells ≤ R.cells := by rw [show (headSpec ws rm).room.cells = mc from hrc]; exact hp.1
  have h5 : A.slots + (headSpec ws rm).room.slots ≤ R.slots := by rw [show (headSpec ws rm).room.slots = ms from hrs]; exact hp.2.1
  have hPc : Pc a (A.U.calling g mk a) := hblind _ _ _ _ hp.2.2
  obtain ⟨U, Ls, c0, s0⟩ := A
  dsimp only [Pt.U, Pt.locs, Pt.cells, Pt.slots] at h1 h2 h3 h4 h5 X hn hPc ⊢
  obtain ⟨m9, methY, cY, hn9, hmY, hcY, -, hlY, -⟩ := Cond.codeWith_spec h2
  cases Option.some.inj (hn9.symm.trans hn)
  obtain ⟨kY, hkY, -⟩ := className_of_methodNamed hn
  have hinitY : kY.init = .initialized := Cond.initialized_spec (findClass_of_methodNamed hn) hkY h3
  have h : At U g.method c below := by rw [hg]; exact X.here
  have hlocals9 : W9 + (maxL + 11) + (headSpec ws rm).room.locals ≤ R.locals := hlocals
  have happ : (headSpec ws rm).appliesLoose y e.platform (U.calling g mk a) = true :=
    Spec.appliesLoose_calling (g := g) h hdg hn hkY hinitY
      (X.room_calling (g := g) (R' := (headSpec ws rm).room) hsize hmY hcY hframes (by rw [hlY]; omega) h4 h5) h1
  obtain ⟨mid, hmid⟩ := h.above
  have hfr : (U.setTop g).frames = (.java g :: mid) ++ below := by rw [State.frames_setTop' g h.top, hmid]; rfl
  obtain ⟨o, s₂, hsteps, -, hend, hq⟩ := Steps.callFree hM p X.admits X.cas X.clock (acts := []) hfr happ hPc trivial
  have hq' : vx_Q Qc XC mc ms free a (U.calling g mk a) o s₂ := hq
  rw [State.frames_setTop' g h.top] at hend
  obtain ⟨g₀, hg0⟩ := Option.isSome_iff_exists.mp h.top
  obtain ⟨r, hr⟩ := State.topJava?_eq_some.mp hg0
  have hr' : (({ U with heap := s₂.heap, slotsUsed := s₂.slotsUsed } : State).setVm s₂.vm).frames = .java g₀ :: r := hr
  rcases hq' with ⟨hqc, L, hfe, hL⟩ | ⟨q, rfl, E, ce, L, hx, hce, hcv, hcl, hW₂, hsm, hL⟩
  · obtain ⟨⟨v, rfl⟩, hW₂, e2, q2, q3, q4, q5, q6⟩ := id hfe
    have e3 : s₂ = ({ (U.calling g mk a).setFrames s₂.frames with heap := s₂.heap, slotsUsed := s₂.slotsUsed } : State).setVm s₂.vm := by
      have : s₂ = ({ s₂ with vm := (U.calling g mk a).vm } : State).setVm s₂.vm := rfl
      rw [e2] at this
      exact this
    obtain ⟨c₂, i₂, len₂, hc₂, hd₂, hf₂⟩ := hend
    have hW' : U.WarmedH s₂.vm := hW₂
    have hcc : c₂ = c := by
      have h1 : s₂.code? g.method = U.code? g.method := by
        rw [State.code?_eq, State.code?_eq, hW'.alike.method?]
      exact Option.some.inj (hc₂.symm.trans (h1.trans h.code))
    subst hcc
    have hlen : len₂ = len := by rw [hdg] at hd₂; cases hd₂; rfl
    subst hlen
    have hs₂ : s₂ = (({ U with heap := s₂.heap, slotsUsed := s₂.slotsUsed } : State).setVm s₂.vm).setTop { g with pc := g.pc + len₂, stack := v.toList ++ g.stack } := by
      refine e3.trans ?_
      rw [hf₂, State.calling_eq h.top, State.setFrames_setFrames, State.setTop_of_frames _ hr', hr]
      rfl
    have hsame : U.sameButNew ({ U with heap := s₂.heap, slotsUsed := s₂.slotsUsed } : State) L mc ms := by
      refine ⟨?_, q2, q3, q4, q5, q6⟩
      obtain ⟨t, ht, -⟩ := State.frames_cons hr
      show ({ U with heap := s₂.heap, slotsUsed := s₂.slotsUsed } : State) = { U.setFrames U.frames with heap := s₂.heap, slotsUsed := s₂.slotsUsed }
      rw [State.setFrames_self ht]
    subst hg
    refine Or.inl ⟨v, ⟨(({ U with heap := s₂.heap, slotsUsed := s₂.slotsUsed } : State).setVm s₂.vm), Ls ++ L, c0 + mc, s0 + ms⟩,
      ⟨X.admits, X.cas, X.clock, X.frames, X.room, X.hears, X.method, X.code, (X.here.setHeapUsed s₂.heap s₂.slotsUsed).setVm hW'.alike, X.tail, State.WarmedH.trans X.warmed hW', X.limits, X.bytes, X.same.trans (hsame.setVm s.vm)⟩,
      ⟨g, mk, s₂, L, rfl, rfl, hqc, rfl, hL, rfl, rfl⟩, ?_⟩
    show Steps p.tables e below _ ((({ U with heap := s₂.heap, slotsUsed := s₂.slotsUsed } : State).setVm s₂.vm).setTop { g with pc := g.pc + len₂, stack := v.toList ++ g.stack })
    rw [← hs₂]
    exact hsteps
  · obtain ⟨e2, q2, q3, q4, q5, q6⟩ := id hsm
    have e3 : s₂ = ({ (U.calling g mk a).setFrames s₂.frames with heap := s₂.heap, slotsUsed := s₂.slotsUsed } : State).setVm s₂.vm := by
      have : s₂ = ({ s₂ with vm := (U.calling g mk a).vm } : State).setVm s₂.vm := rfl
      rw [e2] at this
      exact this
    have hf₂ : s₂.frames = .throwing q :: .java g :: U.frames.tail := hend
    have hW' : U.WarmedH s₂.vm := hW₂
    have hs₂ : s₂ = ((({ U with heap := s₂.heap, slotsUsed := s₂.slotsUsed } : State).setVm s₂.vm).setTop g).pushFrame (.throwing q) := by
      refine e3.trans ?_
      rw [hf₂, State.calling_eq h.top, State.setFrames_setFrames, State.pushFrame, State.frames_setTop _ hr', State.setTop_of_frames _ hr', State.setFrames_setFrames, hr]
      rfl
    have hsame : U.sameButNew ({ U with heap := s₂.heap, slotsUsed := s₂.slotsUsed } : State) L mc ms := by
      refine ⟨?_, q2, q3, q4, q5, q6⟩
      obtain ⟨t, ht, -⟩ := State.frames_cons hr
      show ({ U with heap := s₂.heap, slotsUsed := s₂.slotsUsed } : State) = { U.setFrames U.frames with heap := s₂.heap, slotsUsed := s₂.slotsUsed }
      rw [State.setFrames_self ht]
    subst hg
    refine Or.inr ⟨q, ⟨(({ U with heap := s₂.heap, slotsUsed := s₂.slotsUsed } : State).setVm s₂.vm), Ls ++ L, c0 + mc, s0 + ms⟩,
      ⟨X.admits, X.cas, X.clock, X.frames, X.room, X.hears, X.method, X.code, (X.here.setHeapUsed s₂.heap s₂.slotsUsed).setVm hW'.alike, X.tail, State.WarmedH.trans X.warmed hW', X.limits, X.bytes, X.same.trans (hsame.setVm s.vm)⟩,
      ⟨g, mk, s₂, L, E, ce, rfl, rfl, hx, hce, hcv, hcl, rfl, hL, rfl, rfl⟩, ?_⟩
    show Steps p.tables e below _ (((({ U with heap := s₂.heap, slotsUsed := s₂.slotsUsed } : State).setVm s₂.vm).setTop g).pushFrame (.throwing q))
    rw [← hs₂]
    exact hsteps
end
variable {p : Program} {l : Launch} {e : Env} {R : Room} {s : State} {m : MethodId} {args : Array Value} {below : List Frame} {meth : Method} {c : Code} {T : State} {H : Heap} {locs : List Loc} {cells slots : Nat}
theorem vx_callVX (X : Stand p l e R s m args below meth c T locs cells slots) (hexec : p.tables.exec = Jvm.exec) {own C : String} {index : Nat} {y : MethodName} {bytes : ByteArray} {maxL : Nat} {ret : Option FieldType} {hh : List (Nat × Nat × Nat × Nat)}
    (hown : s.vm.findClass own = some m.cls) (hlink : (Cond.methodLink own index y).before args s = true) (hinst : (Cond.instanceMethod y).before args s = true) (hsel : (Cond.selects C y y).before args s = true)
    (hcode : (Cond.codeWith y bytes maxL ret hh).before args s = true) (hy : y.cls ≠ "java/lang/invoke/MethodHandle" ∧ y.cls ≠ "java/lang/invoke/VarHandle")
    {W9 : Nat} {Pre : Pt → Array Value → Prop} {Post : Pt → Array Value → Option Value → Pt → Prop} {PostX : Pt → Array Value → Addr → Pt → Prop} (hK : vx_Back l R p e below s args y 3 W9 Pre Post PostX)
    {b : Addr} {cellB : Cell} (hcell : T.heap[b]? = some cellB) (hobj : cellB.vm.isStatics = false) (hcls : s.vm.findClass C = some cellB.cls)
    {g : JFrame} (hg : g.method = m) (hsize : g.locals.size = c.maxLocals) {argsL rest : List Value} (hlen : ∀ sig, parseMethodDescriptor y.desc = some sig → argsL.length = sig.parameters.length)
    (hstack : g.stack = argsL.reverse ++ .ref b :: rest) (hW : 2 * g.monitorRoom + (rest.map fun v => v.category).sum ≤ W9) (hdg : decode c.code g.pc = .ok (.invokevirtual index, 3))
    (hpre : ∀ vm₁, s.WarmedH vm₁ → Pre ⟨T.setVm vm₁, locs, cells, slots⟩ (Value.ref b :: argsL).toArray) :
    (∃ (v : Option Value) (vm₁ : Vm) (B : Pt), s.WarmedH vm₁ ∧ Stand p l e R s m args below meth c B.U B.locs B.cells B.slots ∧ Post ⟨T.setVm vm₁, locs, cells, slots⟩ (Value.ref b :: argsL).toArray v B ∧
      ∀ target, Steps p.tables e below (B.U.setTop { g with pc := g.pc + 3, stack := v.toList ++ rest }) target → Steps p.tables e below (T.setTop g) target) ∨
    (∃ (q : Addr) (vm₁ : Vm) (B : Pt), s.WarmedH vm₁ ∧ Stand p l e R s m args below meth c B.U B.locs B.cells B.slots ∧ PostX ⟨T.setVm vm₁, locs, cells, slots⟩ (Value.ref b :: argsL).toArray q B ∧
      Steps p.tables e below (T.setTop g) ((B.U.setTop { g with stack := rest }).pushFrame (.throwing q))) := by
  obtain ⟨mk, methM, hnamed, hmethM, hstM, habM⟩ := Cond.instanceMethod_spec hinst
  obtain ⟨m8, methM', cM, hn8, hmethM', -, -, -, -, -, -, hsigM⟩ := Cond.codeWith_spec hcode
  cases Option.some.inj (hn8.symm.trans hnamed)
  cases hmethM.symm.trans hmethM'
  obtain ⟨c2, r2, m2, q1, q2, q3, q4, kP, hkP, hkPi⟩ := Cond.selects_spec hsel
  cases hcls.symm.trans q1
  cases (State.methodFound?_of_named hnamed hy).symm.trans q2
  cases hnamed.symm.trans q3
  have hselP : selectMethod e.platform s.vm cellB.cls mk = .method mk := by rw [Launch.admits_selectMethod X.admits]; exact q4
  obtain ⟨vm₁, X₁, hstep₁⟩ := X.invokevirtual hexec hown hlink hnamed hmethM hstM hkP hkPi hy (a := b) (cell := cellB) hcell
    (fun z h => by rw [h] at hobj; cases hobj) hselP hmethM habM hkP hkPi (g := g) hg (argsL := argsL) (rest := rest) (hlen _ hsigM) hstack hdg
  rcases hK m meth c ⟨T.setVm vm₁, locs, cells, slots⟩ { g with stack := rest } (.invokevirtual index) mk (Value.ref b :: argsL).toArray X₁ hg hsize hdg hW (X₁.named hnamed) (hpre vm₁ X₁.warmed) with ⟨v, B, X', hpost, hsteps⟩ | ⟨q, B, X', hpost, hsteps⟩
  · exact Or.inl ⟨v, vm₁, B, X₁.warmed, X', hpost, fun target h => hstep₁ _ fun acts => by rw [doInvoke_state]; exact hsteps.trans h⟩
  · exact Or.inr ⟨q, vm₁, B, X₁.warmed, X', hpost, hstep₁ _ fun acts => by rw [doInvoke_state]; exact hsteps⟩
theorem vx_callSX (X : Stand p l e R s m args below meth c T locs cells slots) (hexec : p.tables.exec = Jvm.exec) {own : String} {index : Nat} {y : MethodName} {bytes : ByteArray} {maxL : Nat} {ret : Option FieldType} {hh : List (Nat × Nat × Nat × Nat)}
    (hown : s.vm.findClass own = some m.cls) (hlink : (Cond.methodLink own index y).before args s = true) (hstat : (Cond.static y).before args s = true) (hinit : (Cond.initialized y.cls).before args s = true)
    (hcode : (Cond.codeWith y bytes maxL ret hh).before args s = true) (hy : y.cls ≠ "java/lang/invoke/MethodHandle" ∧ y.cls ≠ "java/lang/invoke/VarHandle")
    {W9 : Nat} {Pre : Pt → Array Value → Prop} {Post : Pt → Array Value → Option Value → Pt → Prop} {PostX : Pt → Array Value → Addr → Pt → Prop} (hK : vx_Back l R p e below s args y 3 W9 Pre Post PostX)
    {g : JFrame} (hg : g.method = m) (hsize : g.locals.size = c.maxLocals) {argsL rest : List Value} (hlen : ∀ sig, parseMethodDescriptor y.desc = some sig → argsL.length = sig.parameters.length)
    (hstack : g.stack = argsL.reverse ++ rest) (hW : 2 * g.monitorRoom + (rest.map fun v => v.category).sum ≤ W9) (hdg : decode c.code g.pc = .ok (.invokestatic index, 3))
    (hpre : ∀ vm₁, s.WarmedH vm₁ → Pre ⟨T.setVm vm₁, locs, cells, slots⟩ argsL.toArray) :
    (∃ (v : Option Value) (vm₁ : Vm) (B : Pt), s.WarmedH vm₁ ∧ Stand p l e R s m args below meth c B.U B.locs B.cells B.slots ∧ Post ⟨T.setVm vm₁, locs, cells, slots⟩ argsL.toArray v B ∧
      ∀ target, Steps p.tables e below (B.U.setTop { g with pc := g.pc + 3, stack := v.toList ++ rest }) target → Steps p.tables e below (T.setTop g) target) ∨
    (∃ (q : Addr) (vm₁ : Vm) (B : Pt), s.WarmedH vm₁ ∧ Stand p l e R s m args below meth c B.U B.locs B.cells B.slots ∧ PostX ⟨T.setVm vm₁, locs, cells, slots⟩ argsL.toArray q B ∧
      Steps p.tables e below (T.setTop g) ((B.U.setTop { g with stack := rest }).pushFrame (.throwing q))) := by
  obtain ⟨mk, methM, cM, hnamed, hmethM, -, -, -, -, -, -, hsigM⟩ := Cond.codeWith_spec hcode
  have hstatic : methM.isStatic = true := Cond.static_spec hnamed hmethM hstat
  obtain ⟨kP, hkP, -⟩ := className_of_methodNamed hnamed
  have hinitP : kP.init = .initialized := Cond.initialized_spec (findClass_of_methodNamed hnamed) hkP hinit
  obtain ⟨vm₁, X₁, hstep₁⟩ := X.invokestatic hexec hown hlink hnamed hmethM hstatic hkP hinitP hy (g := g) hg (argsL := argsL) (rest := rest) (hlen _ hsigM) hstack hdg
  rcases hK m meth c ⟨T.setVm vm₁, locs, cells, slots⟩ { g with stack := rest } (.invokestatic index) mk argsL.toArray X₁ hg hsize hdg hW (X₁.named hnamed) (hpre vm₁ X₁.warmed) with ⟨v, B, X', hpost, hsteps⟩ | ⟨q, B, X', hpost, hsteps⟩
  · exact Or.inl ⟨v, vm₁, B, X₁.warmed, X', hpost, fun target h => hstep₁ _ fun acts => by rw [doInvoke_state]; exact hsteps.trans h⟩
  · exact Or.inr ⟨q, vm₁, B, X₁.warmed, X', hpost, hstep₁ _ fun acts => by rw [doInvoke_state]; exact hsteps⟩
theorem vx_callVW (X : Stand p l e R s m args below meth c T locs cells slots) (hexec : p.tables.exec = Jvm.exec) {own C : String} {index : Nat} {y : MethodName} {bytes : ByteArray} {maxL : Nat} {ret : Option FieldType} {hh : List (Nat × Nat × Nat × Nat)}
    (hown : s.vm.findClass own = some m.cls) (hlink : (Cond.methodLink own index y).before args s = true) (hinst : (Cond.instanceMethod y).before args s = true) (hsel : (Cond.selects C y y).before args s = true)
    (hcode : (Cond.codeWith y bytes maxL ret hh).before args s = true) (hy : y.cls ≠ "java/lang/invoke/MethodHandle" ∧ y.cls ≠ "java/lang/invoke/VarHandle")
    {W9 : Nat} {Pre : Pt → Array Value → Prop} {Post : Pt → Array Value → Option Value → Pt → Prop} (hK : Back l R p e below s args y 3 W9 Pre Post)
    {b : Addr} {cellB : Cell} (hcell : T.heap[b]? = some cellB) (hobj : cellB.vm.isStatics = false) (hcls : s.vm.findClass C = some cellB.cls)
    {g : JFrame} (hg : g.method = m) (hsize : g.locals.size = c.maxLocals) {argsL rest : List Value} (hlen : ∀ sig, parseMethodDescriptor y.desc = some sig → argsL.length = sig.parameters.length)
    (hstack : g.stack = argsL.reverse ++ .ref b :: rest) (hW : 2 * g.monitorRoom + (rest.map fun v => v.category).sum ≤ W9) (hdg : decode c.code g.pc = .ok (.invokevirtual index, 3))
    (hpre : ∀ vm₁, s.WarmedH vm₁ → Pre ⟨T.setVm vm₁, locs, cells, slots⟩ (Value.ref b :: argsL).toArray) :
    ∃ (v : Option Value) (vm₁ : Vm) (B : Pt), s.WarmedH vm₁ ∧ Stand p l e R s m args below meth c B.U B.locs B.cells B.slots ∧ Post ⟨T.setVm vm₁, locs, cells, slots⟩ (Value.ref b :: argsL).toArray v B ∧
      ∀ target, Steps p.tables e below (B.U.setTop { g with pc := g.pc + 3, stack := v.toList ++ rest }) target → Steps p.tables e below (T.setTop g) target := by
  obtain ⟨mk, methM, hnamed, hmethM, hstM, habM⟩ := Cond.instanceMethod_spec hinst
  obtain ⟨m8, methM', cM, hn8, hmethM', -, -, -, -, -, -, hsigM⟩ := Cond.codeWith_spec hcode
  cases Option.some.inj (hn8.symm.trans hnamed)
  cases hmethM.symm.trans hmethM'
  obtain ⟨c2, r2, m2, q1, q2, q3, q4, kP, hkP, hkPi⟩ := Cond.selects_spec hsel
  cases hcls.symm.trans q1
  cases (State.methodFound?_of_named hnamed hy).symm.trans q2
  cases hnamed.symm.trans q3
  have hselP : selectMethod e.platform s.vm cellB.cls mk = .method mk := by rw [Launch.admits_selectMethod X.admits]; exact q4
  obtain ⟨vm₁, X₁, hstep₁⟩ := X.invokevirtual hexec hown hlink hnamed hmethM hstM hkP hkPi hy (a := b) (cell := cellB) hcell
    (fun z h => by rw [h] at hobj; cases hobj) hselP hmethM habM hkP hkPi (g := g) hg (argsL := argsL) (rest := rest) (hlen _ hsigM) hstack hdg
  obtain ⟨v, B, X', hpost, hsteps⟩ := hK m meth c ⟨T.setVm vm₁, locs, cells, slots⟩ { g with stack := rest } (.invokevirtual index) mk (Value.ref b :: argsL).toArray X₁ hg hsize hdg hW (X₁.named hnamed) (hpre vm₁ X₁.warmed)
  exact ⟨v, vm₁, B, X₁.warmed, X', hpost, fun target h => hstep₁ _ fun acts => by rw [doInvoke_state]; exact hsteps.trans h⟩
abbrev vx_CVW (R : Room) (s : State) (args : Array Value) (own C : String) (index : Nat) (y : MethodName) (bytes : ByteArray) (maxL : Nat) (ret : Option FieldType) (hh : List (Nat × Nat × Nat × Nat)) (ws : List Cond) (rm : Room) (mc ms n : Nat) : Prop :=
  (rm.cells = mc ∧ rm.slots = ms ∧ rm.frames + 1 ≤ R.frames ∧ 8 + (maxL + 11) + rm.locals ≤ R.locals ∧ (∀ w ∈ ws, ∀ (a' : Array Value) (U : State), s.WarmedH U.vm → w.before a' U = true) ∧ Cond.codeWith y bytes maxL ret hh ∈ ws) ∧
  (Cond.codeWith y bytes maxL ret hh).before args s = true ∧ (Cond.initialized y.cls).before args s = true ∧ (y.cls ≠ "java/lang/invoke/MethodHandle" ∧ y.cls ≠ "java/lang/invoke/VarHandle") ∧
  (∀ sig, parseMethodDescriptor y.desc = some sig → n = sig.parameters.length) ∧ (Cond.methodLink own index y).before args s = true ∧ (Cond.instanceMethod y).before args s = true ∧ (Cond.selects C y y).before args s = true
theorem vx_cwVW {own C : String} {index maxL mc ms : Nat} {y : MethodName} {bytes : ByteArray} {ret : Option FieldType} {hh : List (Nat × Nat × Nat × Nat)} {Ts ws ws' : List Cond} {rm : Room} (n : Nat) (ht : ∀ w ∈ Ts, w.before args s = true) (hT : GoodIn Ts (wsV own index C y ws)) (hw : ws = Cond.codeWith y bytes maxL ret hh :: ws') (hrc : rm.cells = mc) (hrs : rm.slots = ms)
    (hd : y.cls = C ∧ y.cls ≠ "java/lang/invoke/MethodHandle" ∧ y.cls ≠ "java/lang/invoke/VarHandle" ∧ (parseMethodDescriptor y.desc).map (fun d => d.parameters.length) = some n) (hR : rm.frames + 1 ≤ R.frames ∧ 8 + (maxL + 11) + rm.locals ≤ R.locals) :
    vx_CVW R s args own C index y bytes maxL ret hh ws rm mc ms n := by
  obtain ⟨hC, hd⟩ := hd
  subst hC
  have ok : ∀ w ∈ wsV own index y.cls y ws, w.before args s = true := fun w h => ht w (hT w h).1
  have hG : GoodIn Ts ws := fun w h => hT w (by unfold wsV; exact List.mem_append_right _ h)
  have hc : Cond.codeWith y bytes maxL ret hh ∈ ws := by rw [hw]; exact List.mem_cons_self
  refine ⟨⟨hrc, hrs, hR.1, hR.2, pay_in ht hG, hc⟩, ht _ (hG _ hc).1, ok _ (by simp [wsV]), ⟨hd.1, hd.2.1⟩, fun sig h => ?_, ok _ (by simp [wsV]), ok _ (by simp [wsV]), ok _ (by simp [wsV])⟩
  have h2 := hd.2.2
  rw [h] at h2
  exact (Option.some.inj h2).symm
theorem vx_runVW {y : MethodName} {bytes cc : ByteArray} {maxL nL mc ms n index : Nat} {ret : Option FieldType} {hh : List (Nat × Nat × Nat × Nat)} {ws : List Cond} {rm : Room} {Pc : Array Value → State → Prop} {Qc : Array Value → State → Outcome → State → Prop} {free : Addr → Prop} {Ts : List Cond} {own C : String} {b : Addr} {As rest : List Value} {g : JFrame}
    (S : CallFix p m c cc nL s args Ts own) (hM : Met l y ws rm Pc Qc mc ms free) (cw : vx_CVW R s args own C index y bytes maxL ret hh ws rm mc ms n) (hp : PreV s H C b Pc As)
    (hg : g.method = m) (hn : As.length = n) (hsize : g.locals.size = nL) (hstack : g.stack = As.reverse ++ .ref b :: rest) (hW : 2 * g.monitorRoom + (rest.map fun v => v.category).sum ≤ 8) (hdg : decode cc g.pc = .ok (.invokevirtual index, 3)) (hf : cells + mc ≤ R.cells ∧ slots + ms ≤ R.slots) :
    va_Run p l e R s m args below meth c H locs cells slots mc ms g rest (Qc (Value.ref b :: As).toArray) free := by
  obtain ⟨⟨hrc, hrs, hfr, hlo, hws, hcw⟩, hcode, hini, hy, hlen, hl, hin, hse⟩ := cw
  have hK : Back l R p e below s args y 3 8 (PreOf R mc ms Pc) (PostOf Qc mc ms free) := va_backW (hh := hh) (bytes := bytes) (maxL := maxL) (ret := ret) hM hp.1 hrc hrs hfr hlo hws hcw (fun a' U hW => word_at hW (Or.inl (by first | rfl | simp [Cond.onTables, Cond.keeps, Cond.steady])) hini)
  obtain ⟨hx, hb, hml, ho, -⟩ := S
  obtain ⟨-, ⟨cellB, hcB, hoB, hclB⟩, hPc⟩ := hp
  intro T hT X
  obtain ⟨v, vm₁, ⟨U', l2, c2, s2⟩, hW₁, X', ⟨g', mk, t, L, e1, e2, hq, h1, hL, h2, h3⟩, st⟩ := vx_callVW X hx (C := C) (hh := hh) (bytes := bytes) (maxL := maxL) (ret := ret) ho hl hin hse hcode hy hK (by rw [hT]; exact hcB) hoB hclB hg (hsize.trans hml.symm) (argsL := As) (rest := rest) (fun sig h => hn.trans (hlen sig h)) hstack hW (by rw [hb]; exact hdg)
    (fun vm₁ hW₁ => ⟨hf.1, hf.2, hPc (T.setVm vm₁) hT hW₁⟩)
  dsimp only [Pt.U, Pt.locs, Pt.cells, Pt.slots] at X' e1 e2 h1 h2 h3 st
  subst h1; subst h2; subst h3
  exact ⟨v, (T.setVm vm₁).calling g' mk (Value.ref b :: As).toArray, t, U', L, hT, X', hL, e1, e2, hq, st⟩
section
variable {y : MethodName} {bytes cc : ByteArray} {maxL nL mc ms n index : Nat} {ret : Option FieldType} {ws : List Cond} {rm : Room} {Pc : Array Value → State → Prop} {Qc : Array Value → State → Outcome → State → Prop} {XC : String → State → State → Prop} {free : Addr → Prop} {Ts : List Cond} {own C : String} {b : Addr} {As rest : List Value} {g : JFrame}
theorem vx_runVX {hh : List (Nat × Nat × Nat × Nat)} (S : CallFix p m c cc nL s args Ts own) (hM : vx_Met l y ws rm Pc Qc XC mc ms free) (cw : vx_CVW R s args own C index y bytes maxL ret hh ws rm mc ms n) (hp : PreV s H C b Pc As)
    (hg : g.method = m) (hn : As.length = n) (hsize : g.locals.size = nL) (hstack : g.stack = As.reverse ++ .ref b :: rest) (hW : 2 * g.monitorRoom + (rest.map fun v => v.category).sum ≤ 8) (hdg : decode cc g.pc = .ok (.invokevirtual index, 3)) (hf : cells + mc ≤ R.cells ∧ slots + ms ≤ R.slots) :
    vx_Run p l e R s m args below meth c H locs cells slots mc ms g rest (Qc (Value.ref b :: As).toArray) XC free := by
  obtain ⟨⟨hrc, hrs, hfr, hlo, hws, hcw⟩, hcode, hini, hy, hlen, hl, hin, hse⟩ := cw
  have hK : vx_Back l R p e below s args y 3 8 (PreOf R mc ms Pc) (PostOf Qc mc ms free) (vx_Post XC mc ms free) := vx_backW (hh := hh) (bytes := bytes) (maxL := maxL) (ret := ret) hM hp.1 hrc hrs hfr hlo hws hcw (fun a' U hW => word_at hW (Or.inl (by first | rfl | simp [Cond.onTables, Cond.keeps, Cond.steady])) hini)
  obtain ⟨hx, hb, hml, ho, -⟩ := S
  obtain ⟨-, ⟨cellB, hcB, hoB, hclB⟩, hPc⟩ := hp
  intro T hT X
  rcases vx_callVX X hx (C := C) (hh := hh) (bytes := bytes) (maxL := maxL) (ret := ret) ho hl hin hse hcode hy hK (by rw [hT]; exact hcB) hoB hclB hg (hsize.trans hml.symm) (argsL := As) (rest := rest) (fun sig h => hn.trans (hlen sig h)) hstack hW (by rw [hb]; exact hdg)
    (fun vm₁ hW₁ => ⟨hf.1, hf.2, hPc (T.setVm vm₁) hT hW₁⟩) with ⟨v, vm₁, ⟨U', l2, c2, s2⟩, hW₁, X', ⟨g', mk, t, L, e1, e2, hq, h1, hL, h2, h3⟩, st⟩ | ⟨q, vm₁, ⟨U', l2, c2, s2⟩, hW₁, X', ⟨g', mk, t, L, E, ce, e1, e2, hq, hce, hcv, hcl, h1, hL, h2, h3⟩, st⟩
  · dsimp only [Pt.U, Pt.locs, Pt.cells, Pt.slots] at X' e1 e2 h1 h2 h3 st
    subst h1; subst h2; subst h3
    exact Or.inl ⟨v, (T.setVm vm₁).calling g' mk (Value.ref b :: As).toArray, t, U', L, hT, X', hL, e1, e2, hq, st⟩
  · dsimp only [Pt.U, Pt.locs, Pt.cells, Pt.slots] at X' e1 e2 h1 h2 h3 st hcl
    subst h1; subst h2; subst h3
    exact Or.inr ⟨q, (T.setVm vm₁).calling g' mk (Value.ref b :: As).toArray, t, U', L, E, ce, hT, X', hL, e1, e2, hq, hce, hcv, vx_cls hW₁ hcl, st⟩
theorem vx_runSX {hh : List (Nat × Nat × Nat × Nat)} (S : CallFix p m c cc nL s args Ts own) (hM : vx_Met l y ws rm Pc Qc XC mc ms free) (cw : vx_CSW R s args own index y bytes maxL ret hh ws rm mc ms n) (hp : PreS s H Pc As)
    (hg : g.method = m) (hn : As.length = n) (hsize : g.locals.size = nL) (hstack : g.stack = As.reverse ++ rest) (hW : 2 * g.monitorRoom + (rest.map fun v => v.category).sum ≤ 8) (hdg : decode cc g.pc = .ok (.invokestatic index, 3)) (hf : cells + mc ≤ R.cells ∧ slots + ms ≤ R.slots) :
    vx_Run p l e R s m args below meth c H locs cells slots mc ms g rest (Qc As.toArray) XC free := by
  obtain ⟨⟨hrc, hrs, hfr, hlo, hws, hcw⟩, hcode, hini, hy, hlen, hl, hstt⟩ := cw
  have hK : vx_Back l R p e below s args y 3 8 (PreOf R mc ms Pc) (PostOf Qc mc ms free) (vx_Post XC mc ms free) := vx_backW (hh := hh) (bytes := bytes) (maxL := maxL) (ret := ret) hM hp.1 hrc hrs hfr hlo hws hcw (fun a' U hW => word_at hW (Or.inl (by first | rfl | simp [Cond.onTables, Cond.keeps, Cond.steady])) hini)
  obtain ⟨hx, hb, hml, ho, -⟩ := S
  intro T hT X
  rcases vx_callSX X hx (hh := hh) (bytes := bytes) (maxL := maxL) (ret := ret) ho hl hstt hini hcode hy hK hg (hsize.trans hml.symm) (argsL := As) (rest := rest) (fun sig h => hn.trans (hlen sig h)) hstack hW (by rw [hb]; exact hdg)
    (fun vm₁ hW₁ => ⟨hf.1, hf.2, hp.2 (T.setVm vm₁) hT hW₁⟩) with ⟨v, vm₁, ⟨U', l2, c2, s2⟩, hW₁, X', ⟨g', mk, t, L, e1, e2, hq, h1, hL, h2, h3⟩, st⟩ | ⟨q, vm₁, ⟨U', l2, c2, s2⟩, hW₁, X', ⟨g', mk, t, L, E, ce, e1, e2, hq, hce, hcv, hcl, h1, hL, h2, h3⟩, st⟩
  · dsimp only [Pt.U, Pt.locs, Pt.cells, Pt.slots] at X' e1 e2 h1 h2 h3 st
    subst h1; subst h2; subst h3
    exact Or.inl ⟨v, (T.setVm vm₁).calling g' mk As.toArray, t, U', L, hT, X', hL, e1, e2, hq, st⟩
  · dsimp only [Pt.U, Pt.locs, Pt.cells, Pt.slots] at X' e1 e2 h1 h2 h3 st hcl
    subst h1; subst h2; subst h3
    exact Or.inr ⟨q, (T.setVm vm₁).calling g' mk As.toArray, t, U', L, E, ce, hT, X', hL, e1, e2, hq, hce, hcv, vx_cls hW₁ hcl, st⟩
end
end VXH
theorem vx_ofWH {l : Launch} {y : MethodName} {ws ws' : List Cond} {rm : Room} {Pc : Array Value → State → Prop} {Qc : Array Value → State → Outcome → State → Prop} {XC : String → State → State → Prop} {mc ms : Nat} {free : Addr → Prop} {cc : ByteArray} {maxL : Nat} {ret : Option FieldType} {hh : List (Nat × Nat × Nat × Nat)}
    (hy : plainName y.cls = true) (hw : ws = Cond.codeWith y cc maxL ret hh :: ws')
    (body : ∀ p e s m args below meth c s₁, BodyLoose p l y (headSpec ws rm) cc maxL ret e s m args below meth c s₁ → c.maxLocals = maxL → Pc args s →
      W p l e (headSpec ws rm).room s m args below meth c s.heap [] 0 0 (vx_MQ below Qc XC args s mc ms free) (entryFrame m args maxL)) : vx_Met l y ws rm Pc Qc XC mc ms free := by
  refine MetFree.of_bodyS (code := cc) (maxLocals := maxL) (ret := ret) hy ?_ ?_
  · intro args s m h hn
    obtain ⟨m9, meth, c, hn9, h1, h2, h3, h4, -, h5, h6, -⟩ := Cond.codeWith_spec (atoms_spec (ws := ws) h _ (by rw [hw]; exact List.mem_cons_self))
    cases hn.symm.trans hn9
    exact ⟨meth, c, h1, h2, h3, h4, h5, h6⟩
  · intro p e s m args below meth c s₁ B hml hP _
    have hh0 : s₁.heap = s.heap := by rw [B.state]; rfl
    obtain ⟨t, a1, o, b1, b2, b3⟩ := body p e s m args below meth c s₁ B hml hP s₁ hh0 (Stand.of_body B)
    exact ⟨t, o, a1, b1, b2, b3⟩
/-! ===== END ===== -/
end
section
def RX0 : String := "LeastRows$Cutter"
def TX0 : u_T := fun k => match k with
  | 0 => ("LeastRows$Cutter", "state", "LLeastRows$State;", true)
  | 1 => ("LeastRows$Cutter", "least", "[I", true)
  | 2 => ("LeastRows$Cutter", "lastCut", "[I", true)
  | 3 => ("LeastRows$Cutter", "firstTogether", "[I", true)
  | _ => ("LeastRows$Cutter", "tried", "[I", true)
def tyX0 : Nat → FieldType := fun k => match k with
  | 0 => .object "LeastRows$State"
  | 1 => .array .int
  | 2 => .array .int
  | 3 => .array .int
  | _ => .array .int
abbrev wsX00 : List Cond := u_ws RX0 TX0 5
theorem nmX0 : ∀ a, a < 5 → ∀ b, b < 5 → a ≠ b → (TX0 a).2.1 ≠ (TX0 b).2.1 := by decide +kernel
theorem tyX0_ok : ∀ k, k < 5 → parseFieldDescriptor (TX0 k).2.2.1 = some (tyX0 k) := by decide +kernel
abbrev cX0_init : ByteArray := prog_2_method_1_code
def yX0_init : MethodName := ⟨RX0, "<init>", "(LLeastRows$State;)V"⟩
abbrev cX0_planCuts : ByteArray := prog_2_method_2_code
def yX0_planCuts : MethodName := ⟨RX0, "planCuts", "()V"⟩
abbrev cX0_plannedCost : ByteArray := prog_2_method_3_code
def yX0_plannedCost : MethodName := ⟨RX0, "plannedCost", "(I)I"⟩
abbrev cX0_plannedCut : ByteArray := prog_2_method_4_code
def yX0_plannedCut : MethodName := ⟨RX0, "plannedCut", "(II)I"⟩
abbrev cX0_fewestPartsFor : ByteArray := prog_2_method_5_code
def yX0_fewestPartsFor : MethodName := ⟨RX0, "fewestPartsFor", "(I)I"⟩
abbrev cX0_tryAllCuts : ByteArray := prog_2_method_6_code
def yX0_tryAllCuts : MethodName := ⟨RX0, "tryAllCuts", "()V"⟩
abbrev cX0_triedCost : ByteArray := prog_2_method_7_code
def yX0_triedCost : MethodName := ⟨RX0, "triedCost", "(I)I"⟩
abbrev cX0_planLastCut : ByteArray := prog_2_method_8_code
def yX0_planLastCut : MethodName := ⟨RX0, "planLastCut", "(II)V"⟩
abbrev cX0_tryNextPart : ByteArray := prog_2_method_9_code
def yX0_tryNextPart : MethodName := ⟨RX0, "tryNextPart", "(LLeastRows$Cutter;III)V"⟩
def RX1 : String := "LeastRows$Finder"
def TX1 : u_T := fun k => match k with
  | 0 => ("LeastRows$Finder", "table", "LLeastRows$State;", true)
  | 1 => ("LeastRows$Finder", "places", "[I", true)
  | 2 => ("LeastRows$Finder", "looksMade", "[I", true)
  | 3 => ("LeastRows$Finder", "left", "[I", true)
  | 4 => ("LeastRows$Finder", "leftCount", "[I", true)
  | 5 => ("LeastRows$Finder", "way", "I", false)
  | _ => ("LeastRows$Finder", "looksNow", "I", false)
def tyX1 : Nat → FieldType := fun k => match k with
  | 0 => .object "LeastRows$State"
  | 1 => .array .int
  | 2 => .array .int
  | 3 => .array .int
  | 4 => .array .int
  | 5 => .int
  | _ => .int
abbrev wsX10 : List Cond := u_ws RX1 TX1 7
theorem nmX1 : ∀ a, a < 7 → ∀ b, b < 7 → a ≠ b → (TX1 a).2.1 ≠ (TX1 b).2.1 := by decide +kernel
theorem tyX1_ok : ∀ k, k < 7 → parseFieldDescriptor (TX1 k).2.2.1 = some (tyX1 k) := by decide +kernel
abbrev cX1_init : ByteArray := prog_3_method_1_code
def yX1_init : MethodName := ⟨RX1, "<init>", "(LLeastRows$State;)V"⟩
abbrev cX1_seek : ByteArray := prog_3_method_2_code
def yX1_seek : MethodName := ⟨RX1, "seek", "(I)V"⟩
abbrev cX1_tellNothing : ByteArray := prog_3_method_3_code
def yX1_tellNothing : MethodName := ⟨RX1, "tellNothing", "(I)V"⟩
abbrev cX1_looksBy : ByteArray := prog_3_method_4_code
def yX1_looksBy : MethodName := ⟨RX1, "looksBy", "(I)I"⟩
abbrev cX1_placeBy : ByteArray := prog_3_method_5_code
def yX1_placeBy : MethodName := ⟨RX1, "placeBy", "(II)I"⟩
abbrev cX1_placesGoneBack : ByteArray := prog_3_method_6_code
def yX1_placesGoneBack : MethodName := ⟨RX1, "placesGoneBack", "()I"⟩
abbrev cX1_shareOfHalves : ByteArray := prog_3_method_7_code
def yX1_shareOfHalves : MethodName := ⟨RX1, "shareOfHalves", "()D"⟩
abbrev cX1_leaveAllColumns : ByteArray := prog_3_method_8_code
def yX1_leaveAllColumns : MethodName := ⟨RX1, "leaveAllColumns", "()V"⟩
abbrev cX1_lookAtAll : ByteArray := prog_3_method_9_code
def yX1_lookAtAll : MethodName := ⟨RX1, "lookAtAll", "()V"⟩
abbrev cX1_halve : ByteArray := prog_3_method_10_code
def yX1_halve : MethodName := ⟨RX1, "halve", "(LLeastRows$Finder;IIIII)V"⟩
abbrev cX1_rowsAt : ByteArray := prog_3_method_11_code
def yX1_rowsAt : MethodName := ⟨RX1, "rowsAt", "(I)I"⟩
abbrev cX1_rowAt : ByteArray := prog_3_method_12_code
def yX1_rowAt : MethodName := ⟨RX1, "rowAt", "(II)I"⟩
abbrev cX1_columnLeft : ByteArray := prog_3_method_13_code
def yX1_columnLeft : MethodName := ⟨RX1, "columnLeft", "(II)I"⟩
abbrev cX1_pileColumns : ByteArray := prog_3_method_14_code
def yX1_pileColumns : MethodName := ⟨RX1, "pileColumns", "(I)V"⟩
abbrev cX1_heightAfterThrowing : ByteArray := prog_3_method_15_code
def yX1_heightAfterThrowing : MethodName := ⟨RX1, "heightAfterThrowing", "(III)I"⟩
abbrev cX1_fillBetween : ByteArray := prog_3_method_16_code
def yX1_fillBetween : MethodName := ⟨RX1, "fillBetween", "(I)V"⟩
abbrev cX1_leftmostLeast : ByteArray := prog_3_method_17_code
def yX1_leftmostLeast : MethodName := ⟨RX1, "leftmostLeast", "(IIII)I"⟩
abbrev cX1_look : ByteArray := prog_3_method_18_code
def yX1_look : MethodName := ⟨RX1, "look", "(II)I"⟩
abbrev cX1_setPlace : ByteArray := prog_3_method_19_code
def yX1_setPlace : MethodName := ⟨RX1, "setPlace", "(II)V"⟩
def RX2 : String := "LeastRows$History"
def TX2 : u_T := fun k => match k with
  | 0 => ("LeastRows$History", "count", "I", false)
  | 1 => ("LeastRows$History", "oldest", "I", false)
  | _ => ("LeastRows$History", "saved", "[LLeastRows$State;", true)
def tyX2 : Nat → FieldType := fun k => match k with
  | 0 => .int
  | 1 => .int
  | _ => .array (.object "LeastRows$State")
abbrev wsX20 : List Cond := u_ws RX2 TX2 3
theorem nmX2 : ∀ a, a < 3 → ∀ b, b < 3 → a ≠ b → (TX2 a).2.1 ≠ (TX2 b).2.1 := by decide +kernel
theorem tyX2_ok : ∀ k, k < 3 → parseFieldDescriptor (TX2 k).2.2.1 = some (tyX2 k) := by decide +kernel
abbrev cX2_init : ByteArray := prog_4_method_1_code
def yX2_init : MethodName := ⟨RX2, "<init>", "()V"⟩
abbrev cX2_save : ByteArray := prog_4_method_2_code
def yX2_save : MethodName := ⟨RX2, "save", "(LLeastRows$State;)V"⟩
abbrev cX2_latest : ByteArray := prog_4_method_3_code
def yX2_latest : MethodName := ⟨RX2, "latest", "()LLeastRows$State;"⟩
abbrev cX2_stateAt : ByteArray := prog_4_method_4_code
def yX2_stateAt : MethodName := ⟨RX2, "stateAt", "(I)LLeastRows$State;"⟩
def RX3 : String := "LeastRows$Rule"
def TX3 : u_T := fun k => match k with
  | 0 => ("LeastRows$Rule", "row", "I", false)
  | 1 => ("LeastRows$Rule", "left", "I", false)
  | 2 => ("LeastRows$Rule", "right", "I", false)
  | 3 => ("LeastRows$Rule", "witnesses", "I", false)
  | _ => ("LeastRows$Rule", "table", "LLeastRows$State;", true)
def tyX3 : Nat → FieldType := fun k => match k with
  | 0 => .int
  | 1 => .int
  | 2 => .int
  | 3 => .int
  | _ => .object "LeastRows$State"
abbrev wsX30 : List Cond := u_ws RX3 TX3 5
theorem nmX3 : ∀ a, a < 5 → ∀ b, b < 5 → a ≠ b → (TX3 a).2.1 ≠ (TX3 b).2.1 := by decide +kernel
theorem tyX3_ok : ∀ k, k < 5 → parseFieldDescriptor (TX3 k).2.2.1 = some (tyX3 k) := by decide +kernel
abbrev cX3_init : ByteArray := prog_5_method_1_code
def yX3_init : MethodName := ⟨RX3, "<init>", "(LLeastRows$State;)V"⟩
abbrev cX3_isKept : ByteArray := prog_5_method_2_code
def yX3_isKept : MethodName := ⟨RX3, "isKept", "()Z"⟩
abbrev cX3_examine : ByteArray := prog_5_method_3_code
def yX3_examine : MethodName := ⟨RX3, "examine", "()V"⟩
abbrev cX3_told : ByteArray := prog_5_method_4_code
def yX3_told : MethodName := ⟨RX3, "told", "(I)I"⟩
abbrev cX3_isGreater : ByteArray := prog_5_method_5_code
def yX3_isGreater : MethodName := ⟨RX3, "isGreater", "(III)Z"⟩
abbrev cX3_note : ByteArray := prog_5_method_6_code
def yX3_note : MethodName := ⟨RX3, "note", "(III)V"⟩
def RX4 : String := "LeastRows$Slot"
def TX4 : u_T := fun k => match k with
  | 0 => ("LeastRows$Slot", "isFilled", "Z", false)
  | _ => ("LeastRows$Slot", "snapshot", "LLeastRows$State;", true)
def tyX4 : Nat → FieldType := fun k => match k with
  | 0 => .boolean
  | _ => .object "LeastRows$State"
abbrev wsX40 : List Cond := u_ws RX4 TX4 2
theorem nmX4 : ∀ a, a < 2 → ∀ b, b < 2 → a ≠ b → (TX4 a).2.1 ≠ (TX4 b).2.1 := by decide +kernel
theorem tyX4_ok : ∀ k, k < 2 → parseFieldDescriptor (TX4 k).2.2.1 = some (tyX4 k) := by decide +kernel
abbrev cX4_init : ByteArray := prog_6_method_1_code
def yX4_init : MethodName := ⟨RX4, "<init>", "()V"⟩
abbrev cX4_fillFrom : ByteArray := prog_6_method_2_code
def yX4_fillFrom : MethodName := ⟨RX4, "fillFrom", "(LLeastRows$State;)V"⟩
def RX5 : String := "LeastRows$State"
def TX5 : u_T := fun k => match k with
  | 0 => ("LeastRows$State", "rows", "I", false)
  | 1 => ("LeastRows$State", "columns", "I", false)
  | 2 => ("LeastRows$State", "weightCount", "I", false)
  | 3 => ("LeastRows$State", "looksCounted", "I", false)
  | 4 => ("LeastRows$State", "timesFound", "I", false)
  | 5 => ("LeastRows$State", "timesMended", "I", false)
  | 6 => ("LeastRows$State", "cells", "[I", true)
  | _ => ("LeastRows$State", "weights", "[I", true)
def tyX5 : Nat → FieldType := fun k => match k with
  | 0 => .int
  | 1 => .int
  | 2 => .int
  | 3 => .int
  | 4 => .int
  | 5 => .int
  | 6 => .array .int
  | _ => .array .int
abbrev wsX50 : List Cond := u_ws RX5 TX5 8
theorem nmX5 : ∀ a, a < 8 → ∀ b, b < 8 → a ≠ b → (TX5 a).2.1 ≠ (TX5 b).2.1 := by decide +kernel
theorem tyX5_ok : ∀ k, k < 8 → parseFieldDescriptor (TX5 k).2.2.1 = some (tyX5 k) := by decide +kernel
abbrev cX5_init : ByteArray := prog_7_method_1_code
def yX5_init : MethodName := ⟨RX5, "<init>", "()V"⟩
abbrev cX5_hasCell : ByteArray := prog_7_method_2_code
def yX5_hasCell : MethodName := ⟨RX5, "hasCell", "(II)Z"⟩
abbrev cX5_sizeCode : ByteArray := prog_7_method_3_code
def yX5_sizeCode : MethodName := ⟨RX5, "sizeCode", "()I"⟩
abbrev cX5_numberAt : ByteArray := prog_7_method_4_code
def yX5_numberAt : MethodName := ⟨RX5, "numberAt", "(II)I"⟩
abbrev cX5_setNumber : ByteArray := prog_7_method_5_code
def yX5_setNumber : MethodName := ⟨RX5, "setNumber", "(III)V"⟩
abbrev cX5_weightAt : ByteArray := prog_7_method_6_code
def yX5_weightAt : MethodName := ⟨RX5, "weightAt", "(I)I"⟩
abbrev cX5_addWeight : ByteArray := prog_7_method_7_code
def yX5_addWeight : MethodName := ⟨RX5, "addWeight", "(I)V"⟩
abbrev cX5_weightsTogether : ByteArray := prog_7_method_8_code
def yX5_weightsTogether : MethodName := ⟨RX5, "weightsTogether", "()I"⟩
abbrev cX5_copyFrom : ByteArray := prog_7_method_9_code
def yX5_copyFrom : MethodName := ⟨RX5, "copyFrom", "(LLeastRows$State;)V"⟩
def RX6 : String := "LeastRows$Text"
def TX6 : u_T := fun k => match k with
  | 0 => ("LeastRows$Text", "length", "I", false)
  | 1 => ("LeastRows$Text", "codes", "[I", true)
  | 2 => ("LeastRows$Text", "numbers", "[I", true)
  | 3 => ("LeastRows$Text", "row", "I", false)
  | 4 => ("LeastRows$Text", "column", "I", false)
  | 5 => ("LeastRows$Text", "columnsOfFirst", "I", false)
  | 6 => ("LeastRows$Text", "digits", "I", false)
  | _ => ("LeastRows$Text", "number", "I", false)
def tyX6 : Nat → FieldType := fun k => match k with
  | 0 => .int
  | 1 => .array .int
  | 2 => .array .int
  | 3 => .int
  | 4 => .int
  | 5 => .int
  | 6 => .int
  | _ => .int
abbrev wsX60 : List Cond := u_ws RX6 TX6 8
theorem nmX6 : ∀ a, a < 8 → ∀ b, b < 8 → a ≠ b → (TX6 a).2.1 ≠ (TX6 b).2.1 := by decide +kernel
theorem tyX6_ok : ∀ k, k < 8 → parseFieldDescriptor (TX6 k).2.2.1 = some (tyX6 k) := by decide +kernel
abbrev cX6_init : ByteArray := prog_8_method_1_code
def yX6_init : MethodName := ⟨RX6, "<init>", "()V"⟩
abbrev cX6_add : ByteArray := prog_8_method_2_code
def yX6_add : MethodName := ⟨RX6, "add", "(I)V"⟩
abbrev cX6_clear : ByteArray := prog_8_method_3_code
def yX6_clear : MethodName := ⟨RX6, "clear", "()V"⟩
abbrev cX6_codeAt : ByteArray := prog_8_method_4_code
def yX6_codeAt : MethodName := ⟨RX6, "codeAt", "(I)I"⟩
abbrev cX6_readToError : ByteArray := prog_8_method_5_code
def yX6_readToError : MethodName := ⟨RX6, "readToError", "()I"⟩
abbrev cX6_tellsTable : ByteArray := prog_8_method_6_code
def yX6_tellsTable : MethodName := ⟨RX6, "tellsTable", "()Z"⟩
abbrev cX6_rowsTold : ByteArray := prog_8_method_7_code
def yX6_rowsTold : MethodName := ⟨RX6, "rowsTold", "()I"⟩
abbrev cX6_columnsTold : ByteArray := prog_8_method_8_code
def yX6_columnsTold : MethodName := ⟨RX6, "columnsTold", "()I"⟩
abbrev cX6_numberTold : ByteArray := prog_8_method_9_code
def yX6_numberTold : MethodName := ⟨RX6, "numberTold", "(II)I"⟩
abbrev cX6_takes : ByteArray := prog_8_method_10_code
def yX6_takes : MethodName := ⟨RX6, "takes", "(I)Z"⟩
abbrev cX6_takesDigit : ByteArray := prog_8_method_11_code
def yX6_takesDigit : MethodName := ⟨RX6, "takesDigit", "(I)Z"⟩
abbrev cX6_takesComma : ByteArray := prog_8_method_12_code
def yX6_takesComma : MethodName := ⟨RX6, "takesComma", "()Z"⟩
abbrev cX6_takesSlash : ByteArray := prog_8_method_13_code
def yX6_takesSlash : MethodName := ⟨RX6, "takesSlash", "()Z"⟩
abbrev cX6_isRowFull : ByteArray := prog_8_method_14_code
def yX6_isRowFull : MethodName := ⟨RX6, "isRowFull", "()Z"⟩
def RX7 : String := "LeastRows"
def TX7 : u_T := fun k => match k with
  | 0 => ("LeastRows", "now", "LLeastRows$State;", true)
  | 1 => ("LeastRows", "rule", "LLeastRows$Rule;", true)
  | 2 => ("LeastRows", "finder", "LLeastRows$Finder;", true)
  | 3 => ("LeastRows", "cutter", "LLeastRows$Cutter;", true)
  | 4 => ("LeastRows", "text", "LLeastRows$Text;", true)
  | 5 => ("LeastRows", "history", "LLeastRows$History;", true)
  | 6 => ("LeastRows", "slotZero", "LLeastRows$Slot;", true)
  | _ => ("LeastRows", "slotOne", "LLeastRows$Slot;", true)
def tyX7 : Nat → FieldType := fun k => match k with
  | 0 => .object "LeastRows$State"
  | 1 => .object "LeastRows$Rule"
  | 2 => .object "LeastRows$Finder"
  | 3 => .object "LeastRows$Cutter"
  | 4 => .object "LeastRows$Text"
  | 5 => .object "LeastRows$History"
  | 6 => .object "LeastRows$Slot"
  | _ => .object "LeastRows$Slot"
abbrev wsX70 : List Cond := u_ws RX7 TX7 8
theorem nmX7 : ∀ a, a < 8 → ∀ b, b < 8 → a ≠ b → (TX7 a).2.1 ≠ (TX7 b).2.1 := by decide +kernel
theorem tyX7_ok : ∀ k, k < 8 → parseFieldDescriptor (TX7 k).2.2.1 = some (tyX7 k) := by decide +kernel
abbrev cX7_init : ByteArray := prog_1_method_1_code
def yX7_init : MethodName := ⟨RX7, "<init>", "()V"⟩
abbrev cX7_size : ByteArray := prog_1_method_2_code
def yX7_size : MethodName := ⟨RX7, "size", "(II)I"⟩
abbrev cX7_put : ByteArray := prog_1_method_3_code
def yX7_put : MethodName := ⟨RX7, "put", "(III)I"⟩
abbrev cX7_points : ByteArray := prog_1_method_4_code
def yX7_points : MethodName := ⟨RX7, "points", "(IIII)I"⟩
abbrev cX7_mend : ByteArray := prog_1_method_5_code
def yX7_mend : MethodName := ⟨RX7, "mend", "()I"⟩
abbrev cX7_find : ByteArray := prog_1_method_6_code
def yX7_find : MethodName := ⟨RX7, "find", "(I)I"⟩
abbrev cX7_weigh : ByteArray := prog_1_method_7_code
def yX7_weigh : MethodName := ⟨RX7, "weigh", "(I)I"⟩
abbrev cX7_unweigh : ByteArray := prog_1_method_8_code
def yX7_unweigh : MethodName := ⟨RX7, "unweigh", "()I"⟩
abbrev cX7_append : ByteArray := prog_1_method_9_code
def yX7_append : MethodName := ⟨RX7, "append", "(I)I"⟩
abbrev cX7_clearBuffer : ByteArray := prog_1_method_10_code
def yX7_clearBuffer : MethodName := ⟨RX7, "clearBuffer", "()I"⟩
abbrev cX7_firstError : ByteArray := prog_1_method_11_code
def yX7_firstError : MethodName := ⟨RX7, "firstError", "()I"⟩
abbrev cX7_load : ByteArray := prog_1_method_12_code
def yX7_load : MethodName := ⟨RX7, "load", "()I"⟩
abbrev cX7_keep : ByteArray := prog_1_method_13_code
def yX7_keep : MethodName := ⟨RX7, "keep", "(I)I"⟩
abbrev cX7_goBack : ByteArray := prog_1_method_14_code
def yX7_goBack : MethodName := ⟨RX7, "goBack", "(I)I"⟩
abbrev cX7_undo : ByteArray := prog_1_method_15_code
def yX7_undo : MethodName := ⟨RX7, "undo", "()I"⟩
abbrev cX7_cell : ByteArray := prog_1_method_16_code
def yX7_cell : MethodName := ⟨RX7, "cell", "(II)I"⟩
abbrev cX7_place : ByteArray := prog_1_method_17_code
def yX7_place : MethodName := ⟨RX7, "place", "(II)I"⟩
abbrev cX7_looks : ByteArray := prog_1_method_18_code
def yX7_looks : MethodName := ⟨RX7, "looks", "(I)I"⟩
abbrev cX7_bound : ByteArray := prog_1_method_19_code
def yX7_bound : MethodName := ⟨RX7, "bound", "()I"⟩
abbrev cX7_witness : ByteArray := prog_1_method_20_code
def yX7_witness : MethodName := ⟨RX7, "witness", "(I)I"⟩
abbrev cX7_count : ByteArray := prog_1_method_21_code
def yX7_count : MethodName := ⟨RX7, "count", "(I)I"⟩
abbrev cX7_weight : ByteArray := prog_1_method_22_code
def yX7_weight : MethodName := ⟨RX7, "weight", "(I)I"⟩
abbrev cX7_cost : ByteArray := prog_1_method_23_code
def yX7_cost : MethodName := ⟨RX7, "cost", "(II)I"⟩
abbrev cX7_cut : ByteArray := prog_1_method_24_code
def yX7_cut : MethodName := ⟨RX7, "cut", "(II)I"⟩
abbrev cX7_fewestParts : ByteArray := prog_1_method_25_code
def yX7_fewestParts : MethodName := ⟨RX7, "fewestParts", "(I)I"⟩
abbrev cX7_halfShare : ByteArray := prog_1_method_26_code
def yX7_halfShare : MethodName := ⟨RX7, "halfShare", "()D"⟩
abbrev cX7_digest : ByteArray := prog_1_method_27_code
def yX7_digest : MethodName := ⟨RX7, "digest", "()J"⟩
abbrev cX7_isFromTo : ByteArray := prog_1_method_28_code
def yX7_isFromTo : MethodName := ⟨RX7, "isFromTo", "(III)Z"⟩
abbrev cX7_isWay : ByteArray := prog_1_method_29_code
def yX7_isWay : MethodName := ⟨RX7, "isWay", "(I)Z"⟩
abbrev cX7_isOpen : ByteArray := prog_1_method_30_code
def yX7_isOpen : MethodName := ⟨RX7, "isOpen", "(I)Z"⟩
abbrev cX7_slotAt : ByteArray := prog_1_method_31_code
def yX7_slotAt : MethodName := ⟨RX7, "slotAt", "(I)LLeastRows$Slot;"⟩
abbrev cX7_counted : ByteArray := prog_1_method_32_code
def yX7_counted : MethodName := ⟨RX7, "counted", "(I)I"⟩
abbrev cX7_mixed : ByteArray := prog_1_method_33_code
def yX7_mixed : MethodName := ⟨RX7, "mixed", "(JJ)J"⟩
abbrev cX7_mixedCells : ByteArray := prog_1_method_34_code
def yX7_mixedCells : MethodName := ⟨RX7, "mixedCells", "(J)J"⟩
abbrev cX7_seekByAllWays : ByteArray := prog_1_method_35_code
def yX7_seekByAllWays : MethodName := ⟨RX7, "seekByAllWays", "()V"⟩
abbrev cX7_mixedPlaces : ByteArray := prog_1_method_36_code
def yX7_mixedPlaces : MethodName := ⟨RX7, "mixedPlaces", "(J)J"⟩
abbrev cX7_mixedWeights : ByteArray := prog_1_method_37_code
def yX7_mixedWeights : MethodName := ⟨RX7, "mixedWeights", "(J)J"⟩
abbrev cX7_bitsOf : ByteArray := prog_1_method_38_code
def yX7_bitsOf : MethodName := ⟨RX7, "bitsOf", "(D)J"⟩
abbrev cX7_numberIn : ByteArray := prog_1_method_39_code
def yX7_numberIn : MethodName := ⟨RX7, "numberIn", "([II)I"⟩
abbrev cX7_setIn : ByteArray := prog_1_method_40_code
def yX7_setIn : MethodName := ⟨RX7, "setIn", "([III)V"⟩
abbrev cX7_copyAll : ByteArray := prog_1_method_41_code
def yX7_copyAll : MethodName := ⟨RX7, "copyAll", "([I[I)V"⟩
def RX8 : String := "LeastRowsModel"
def TX8 : u_T := fun k => match k with
  | 0 => ("LeastRowsModel", "now", "[I", true)
  | 1 => ("LeastRowsModel", "past", "[I", true)
  | 2 => ("LeastRowsModel", "states", "I", false)
  | 3 => ("LeastRowsModel", "kept", "[I", true)
  | 4 => ("LeastRowsModel", "isKept", "[I", true)
  | 5 => ("LeastRowsModel", "text", "[I", true)
  | 6 => ("LeastRowsModel", "length", "I", false)
  | 7 => ("LeastRowsModel", "thrown", "I", false)
  | 8 => ("LeastRowsModel", "places", "[I", true)
  | 9 => ("LeastRowsModel", "looked", "I", false)
  | 10 => ("LeastRowsModel", "open", "[I", true)
  | 11 => ("LeastRowsModel", "opened", "I", false)
  | 12 => ("LeastRowsModel", "left", "[I", true)
  | 13 => ("LeastRowsModel", "lefts", "[I", true)
  | 14 => ("LeastRowsModel", "spot", "I", false)
  | 15 => ("LeastRowsModel", "told", "[I", true)
  | 16 => ("LeastRowsModel", "toldRows", "I", false)
  | 17 => ("LeastRowsModel", "toldColumns", "I", false)
  | 18 => ("LeastRowsModel", "costs", "[I", true)
  | 19 => ("LeastRowsModel", "lasts", "[I", true)
  | _ => ("LeastRowsModel", "hash", "J", false)
def tyX8 : Nat → FieldType := fun k => match k with
  | 0 => .array .int
  | 1 => .array .int
  | 2 => .int
  | 3 => .array .int
  | 4 => .array .int
  | 5 => .array .int
  | 6 => .int
  | 7 => .int
  | 8 => .array .int
  | 9 => .int
  | 10 => .array .int
  | 11 => .int
  | 12 => .array .int
  | 13 => .array .int
  | 14 => .int
  | 15 => .array .int
  | 16 => .int
  | 17 => .int
  | 18 => .array .int
  | 19 => .array .int
  | _ => .long
abbrev wsX80 : List Cond := u_ws RX8 TX8 21
theorem nmX8 : ∀ a, a < 21 → ∀ b, b < 21 → a ≠ b → (TX8 a).2.1 ≠ (TX8 b).2.1 := by decide +kernel
theorem tyX8_ok : ∀ k, k < 21 → parseFieldDescriptor (TX8 k).2.2.1 = some (tyX8 k) := by decide +kernel
abbrev cX8_init : ByteArray := prog_10_method_1_code
def yX8_init : MethodName := ⟨RX8, "<init>", "()V"⟩
abbrev cX8_thrown : ByteArray := prog_10_method_2_code
def yX8_thrown : MethodName := ⟨RX8, "thrown", "()I"⟩
abbrev cX8_refuses : ByteArray := prog_10_method_3_code
def yX8_refuses : MethodName := ⟨RX8, "refuses", "(I)I"⟩
abbrev cX8_in : ByteArray := prog_10_method_4_code
def yX8_in : MethodName := ⟨RX8, "in", "(III)Z"⟩
abbrev cX8_lays : ByteArray := prog_10_method_5_code
def yX8_lays : MethodName := ⟨RX8, "lays", "([II[II)V"⟩
abbrev cX8_saves : ByteArray := prog_10_method_6_code
def yX8_saves : MethodName := ⟨RX8, "saves", "()V"⟩
abbrev cX8_at : ByteArray := prog_10_method_7_code
def yX8_at : MethodName := ⟨RX8, "at", "(II)I"⟩
abbrev cX8_becomes : ByteArray := prog_10_method_8_code
def yX8_becomes : MethodName := ⟨RX8, "becomes", "(III)V"⟩
abbrev cX8_isAgainst : ByteArray := prog_10_method_9_code
def yX8_isAgainst : MethodName := ⟨RX8, "isAgainst", "(III)Z"⟩
abbrev cX8_witnesses : ByteArray := prog_10_method_10_code
def yX8_witnesses : MethodName := ⟨RX8, "witnesses", "()I"⟩
abbrev cX8_first : ByteArray := prog_10_method_11_code
def yX8_first : MethodName := ⟨RX8, "first", "()I"⟩
abbrev cX8_isKeeping : ByteArray := prog_10_method_12_code
def yX8_isKeeping : MethodName := ⟨RX8, "isKeeping", "()Z"⟩
abbrev cX8_least : ByteArray := prog_10_method_13_code
def yX8_least : MethodName := ⟨RX8, "least", "(III)I"⟩
abbrev cX8_byAll : ByteArray := prog_10_method_14_code
def yX8_byAll : MethodName := ⟨RX8, "byAll", "()V"⟩
abbrev cX8_opens : ByteArray := prog_10_method_15_code
def yX8_opens : MethodName := ⟨RX8, "opens", "(IIII)V"⟩
abbrev cX8_byHalves : ByteArray := prog_10_method_16_code
def yX8_byHalves : MethodName := ⟨RX8, "byHalves", "()V"⟩
abbrev cX8_rowAt : ByteArray := prog_10_method_17_code
def yX8_rowAt : MethodName := ⟨RX8, "rowAt", "(II)I"⟩
abbrev cX8_piles : ByteArray := prog_10_method_18_code
def yX8_piles : MethodName := ⟨RX8, "piles", "(III)I"⟩
abbrev cX8_throwsOut : ByteArray := prog_10_method_19_code
def yX8_throwsOut : MethodName := ⟨RX8, "throwsOut", "(I)V"⟩
abbrev cX8_leastLeft : ByteArray := prog_10_method_20_code
def yX8_leastLeft : MethodName := ⟨RX8, "leastLeft", "(IIII)I"⟩
abbrev cX8_fills : ByteArray := prog_10_method_21_code
def yX8_fills : MethodName := ⟨RX8, "fills", "(I)V"⟩
abbrev cX8_byThrowing : ByteArray := prog_10_method_22_code
def yX8_byThrowing : MethodName := ⟨RX8, "byThrowing", "()V"⟩
abbrev cX8_finds : ByteArray := prog_10_method_23_code
def yX8_finds : MethodName := ⟨RX8, "finds", "(I)V"⟩
abbrev cX8_canGo : ByteArray := prog_10_method_24_code
def yX8_canGo : MethodName := ⟨RX8, "canGo", "(I)Z"⟩
abbrev cX8_looksBy : ByteArray := prog_10_method_25_code
def yX8_looksBy : MethodName := ⟨RX8, "looksBy", "(I)I"⟩
abbrev cX8_placeBy : ByteArray := prog_10_method_26_code
def yX8_placeBy : MethodName := ⟨RX8, "placeBy", "(II)I"⟩
abbrev cX8_isRow : ByteArray := prog_10_method_27_code
def yX8_isRow : MethodName := ⟨RX8, "isRow", "(I)Z"⟩
abbrev cX8_isCell : ByteArray := prog_10_method_28_code
def yX8_isCell : MethodName := ⟨RX8, "isCell", "(II)Z"⟩
abbrev cX8_size : ByteArray := prog_10_method_29_code
def yX8_size : MethodName := ⟨RX8, "size", "(II)I"⟩
abbrev cX8_put : ByteArray := prog_10_method_30_code
def yX8_put : MethodName := ⟨RX8, "put", "(III)I"⟩
abbrev cX8_points : ByteArray := prog_10_method_31_code
def yX8_points : MethodName := ⟨RX8, "points", "(IIII)I"⟩
abbrev cX8_mend : ByteArray := prog_10_method_32_code
def yX8_mend : MethodName := ⟨RX8, "mend", "()I"⟩
abbrev cX8_find : ByteArray := prog_10_method_33_code
def yX8_find : MethodName := ⟨RX8, "find", "(I)I"⟩
abbrev cX8_weigh : ByteArray := prog_10_method_34_code
def yX8_weigh : MethodName := ⟨RX8, "weigh", "(I)I"⟩
abbrev cX8_unweigh : ByteArray := prog_10_method_35_code
def yX8_unweigh : MethodName := ⟨RX8, "unweigh", "()I"⟩
abbrev cX8_append : ByteArray := prog_10_method_36_code
def yX8_append : MethodName := ⟨RX8, "append", "(I)I"⟩
abbrev cX8_clearBuffer : ByteArray := prog_10_method_37_code
def yX8_clearBuffer : MethodName := ⟨RX8, "clearBuffer", "()I"⟩
abbrev cX8_sees : ByteArray := prog_10_method_38_code
def yX8_sees : MethodName := ⟨RX8, "sees", "(II)Z"⟩
abbrev cX8_takes : ByteArray := prog_10_method_39_code
def yX8_takes : MethodName := ⟨RX8, "takes", "(I)Z"⟩
abbrev cX8_isNumber : ByteArray := prog_10_method_40_code
def yX8_isNumber : MethodName := ⟨RX8, "isNumber", "(II)Z"⟩
abbrev cX8_isLine : ByteArray := prog_10_method_41_code
def yX8_isLine : MethodName := ⟨RX8, "isLine", "(I)I"⟩
abbrev cX8_isWhole : ByteArray := prog_10_method_42_code
def yX8_isWhole : MethodName := ⟨RX8, "isWhole", "()Z"⟩
abbrev cX8_firstError : ByteArray := prog_10_method_43_code
def yX8_firstError : MethodName := ⟨RX8, "firstError", "()I"⟩
abbrev cX8_load : ByteArray := prog_10_method_44_code
def yX8_load : MethodName := ⟨RX8, "load", "()I"⟩
abbrev cX8_keep : ByteArray := prog_10_method_45_code
def yX8_keep : MethodName := ⟨RX8, "keep", "(I)I"⟩
abbrev cX8_goBack : ByteArray := prog_10_method_46_code
def yX8_goBack : MethodName := ⟨RX8, "goBack", "(I)I"⟩
abbrev cX8_undo : ByteArray := prog_10_method_47_code
def yX8_undo : MethodName := ⟨RX8, "undo", "()I"⟩
abbrev cX8_cell : ByteArray := prog_10_method_48_code
def yX8_cell : MethodName := ⟨RX8, "cell", "(II)I"⟩
abbrev cX8_place : ByteArray := prog_10_method_49_code
def yX8_place : MethodName := ⟨RX8, "place", "(II)I"⟩
abbrev cX8_looks : ByteArray := prog_10_method_50_code
def yX8_looks : MethodName := ⟨RX8, "looks", "(I)I"⟩
abbrev cX8_bounds : ByteArray := prog_10_method_51_code
def yX8_bounds : MethodName := ⟨RX8, "bounds", "()I"⟩
abbrev cX8_bound : ByteArray := prog_10_method_52_code
def yX8_bound : MethodName := ⟨RX8, "bound", "()I"⟩
abbrev cX8_testified : ByteArray := prog_10_method_53_code
def yX8_testified : MethodName := ⟨RX8, "testified", "(I)I"⟩
abbrev cX8_witness : ByteArray := prog_10_method_54_code
def yX8_witness : MethodName := ⟨RX8, "witness", "(I)I"⟩
abbrev cX8_weighs : ByteArray := prog_10_method_55_code
def yX8_weighs : MethodName := ⟨RX8, "weighs", "(II)I"⟩
abbrev cX8_goingBack : ByteArray := prog_10_method_56_code
def yX8_goingBack : MethodName := ⟨RX8, "goingBack", "()I"⟩
abbrev cX8_counted : ByteArray := prog_10_method_57_code
def yX8_counted : MethodName := ⟨RX8, "counted", "(I)I"⟩
abbrev cX8_count : ByteArray := prog_10_method_58_code
def yX8_count : MethodName := ⟨RX8, "count", "(I)I"⟩
abbrev cX8_weight : ByteArray := prog_10_method_59_code
def yX8_weight : MethodName := ⟨RX8, "weight", "(I)I"⟩
abbrev cX8_part : ByteArray := prog_10_method_60_code
def yX8_part : MethodName := ⟨RX8, "part", "(II)V"⟩
abbrev cX8_cuts : ByteArray := prog_10_method_61_code
def yX8_cuts : MethodName := ⟨RX8, "cuts", "()V"⟩
abbrev cX8_leastCost : ByteArray := prog_10_method_62_code
def yX8_leastCost : MethodName := ⟨RX8, "leastCost", "(I)I"⟩
abbrev cX8_isParts : ByteArray := prog_10_method_63_code
def yX8_isParts : MethodName := ⟨RX8, "isParts", "(I)Z"⟩
abbrev cX8_cost : ByteArray := prog_10_method_64_code
def yX8_cost : MethodName := ⟨RX8, "cost", "(II)I"⟩
abbrev cX8_cutAt : ByteArray := prog_10_method_65_code
def yX8_cutAt : MethodName := ⟨RX8, "cutAt", "(II)I"⟩
abbrev cX8_cut : ByteArray := prog_10_method_66_code
def yX8_cut : MethodName := ⟨RX8, "cut", "(II)I"⟩
abbrev cX8_fewest : ByteArray := prog_10_method_67_code
def yX8_fewest : MethodName := ⟨RX8, "fewest", "(I)I"⟩
abbrev cX8_fewestParts : ByteArray := prog_10_method_68_code
def yX8_fewestParts : MethodName := ⟨RX8, "fewestParts", "(I)I"⟩
abbrev cX8_share : ByteArray := prog_10_method_69_code
def yX8_share : MethodName := ⟨RX8, "share", "()D"⟩
abbrev cX8_halfShare : ByteArray := prog_10_method_70_code
def yX8_halfShare : MethodName := ⟨RX8, "halfShare", "()D"⟩
abbrev cX8_mixes : ByteArray := prog_10_method_71_code
def yX8_mixes : MethodName := ⟨RX8, "mixes", "(J)V"⟩
abbrev cX8_mixesTable : ByteArray := prog_10_method_72_code
def yX8_mixesTable : MethodName := ⟨RX8, "mixesTable", "()V"⟩
abbrev cX8_mixesCuts : ByteArray := prog_10_method_73_code
def yX8_mixesCuts : MethodName := ⟨RX8, "mixesCuts", "(I)V"⟩
abbrev cX8_digest : ByteArray := prog_10_method_74_code
def yX8_digest : MethodName := ⟨RX8, "digest", "()J"⟩
def RJxe99ae : String := "java/lang/Double"
def TJxe99ae : u_T := fun k => match k with
  | _ => ("", "", "", false)
def tyJxe99ae : Nat → FieldType := fun k => match k with
  | _ => .int
abbrev wsJxe99ae0 : List Cond := u_ws RJxe99ae TJxe99ae 0
theorem nmJxe99ae : ∀ a, a < 0 → ∀ b, b < 0 → a ≠ b → (TJxe99ae a).2.1 ≠ (TJxe99ae b).2.1 := by decide +kernel
theorem tyJxe99ae_ok : ∀ k, k < 0 → parseFieldDescriptor (TJxe99ae k).2.2.1 = some (tyJxe99ae k) := by decide +kernel
abbrev cJxe99ae_isNaN_b9ae7 : ByteArray := prog_11_method_6_code
def yJxe99ae_isNaN_b9ae7 : MethodName := ⟨RJxe99ae, "isNaN", "(D)Z"⟩
abbrev cJxe99ae_doubleToLongBits_ccdee : ByteArray := prog_11_method_23_code
def yJxe99ae_doubleToLongBits_ccdee : MethodName := ⟨RJxe99ae, "doubleToLongBits", "(D)J"⟩
def RJ9 : String := "java/lang/Math"
def TJ9 : u_T := fun k => match k with
  | _ => ("", "", "", false)
def tyJ9 : Nat → FieldType := fun k => match k with
  | _ => .int
abbrev wsJ90 : List Cond := u_ws RJ9 TJ9 0
theorem nmJ9 : ∀ a, a < 0 → ∀ b, b < 0 → a ≠ b → (TJ9 a).2.1 ≠ (TJ9 b).2.1 := by decide +kernel
theorem tyJ9_ok : ∀ k, k < 0 → parseFieldDescriptor (TJ9 k).2.2.1 = some (tyJ9 k) := by decide +kernel
abbrev cJ9_min_7cf53 : ByteArray := prog_16_method_69_code
def yJ9_min_7cf53 : MethodName := ⟨RJ9, "min", "(II)I"⟩
def RJ0 : String := "java/lang/String"
def TJ0 : u_T := fun k => match k with
  | _ => ("", "", "", false)
def tyJ0 : Nat → FieldType := fun k => match k with
  | _ => .int
abbrev wsJ00 : List Cond := u_ws RJ0 TJ0 0
theorem nmJ0 : ∀ a, a < 0 → ∀ b, b < 0 → a ≠ b → (TJ0 a).2.1 ≠ (TJ0 b).2.1 := by decide +kernel
theorem tyJ0_ok : ∀ k, k < 0 → parseFieldDescriptor (TJ0 k).2.2.1 = some (tyJ0 k) := by decide +kernel
def RL : String := "LeastRowsLaw"
abbrev cL_size : ByteArray := method_3_code
def yL_size : MethodName := ⟨RL, "size", "(LLeastRows;II[J)I"⟩
abbrev cL_put : ByteArray := method_4_code
def yL_put : MethodName := ⟨RL, "put", "(LLeastRows;III[J)I"⟩
abbrev cL_points : ByteArray := method_5_code
def yL_points : MethodName := ⟨RL, "points", "(LLeastRows;IIII[J)I"⟩
abbrev cL_find : ByteArray := method_6_code
def yL_find : MethodName := ⟨RL, "find", "(LLeastRows;I[J)I"⟩
abbrev cL_weigh : ByteArray := method_7_code
def yL_weigh : MethodName := ⟨RL, "weigh", "(LLeastRows;I[J)I"⟩
abbrev cL_unweigh : ByteArray := method_8_code
def yL_unweigh : MethodName := ⟨RL, "unweigh", "(LLeastRows;[J)I"⟩
abbrev cL_append : ByteArray := method_9_code
def yL_append : MethodName := ⟨RL, "append", "(LLeastRows;I[J)I"⟩
abbrev cL_load : ByteArray := method_10_code
def yL_load : MethodName := ⟨RL, "load", "(LLeastRows;[J)I"⟩
abbrev cL_keep : ByteArray := method_11_code
def yL_keep : MethodName := ⟨RL, "keep", "(LLeastRows;I[J)I"⟩
abbrev cL_goBack : ByteArray := method_12_code
def yL_goBack : MethodName := ⟨RL, "goBack", "(LLeastRows;I[J)I"⟩
abbrev cL_undo : ByteArray := method_13_code
def yL_undo : MethodName := ⟨RL, "undo", "(LLeastRows;[J)I"⟩
abbrev cL_cell : ByteArray := method_14_code
def yL_cell : MethodName := ⟨RL, "cell", "(LLeastRows;II[J)I"⟩
abbrev cL_place : ByteArray := method_15_code
def yL_place : MethodName := ⟨RL, "place", "(LLeastRows;II[J)I"⟩
abbrev cL_looks : ByteArray := method_16_code
def yL_looks : MethodName := ⟨RL, "looks", "(LLeastRows;I[J)I"⟩
abbrev cL_witness : ByteArray := method_17_code
def yL_witness : MethodName := ⟨RL, "witness", "(LLeastRows;I[J)I"⟩
abbrev cL_count : ByteArray := method_18_code
def yL_count : MethodName := ⟨RL, "count", "(LLeastRows;I[J)I"⟩
abbrev cL_weight : ByteArray := method_19_code
def yL_weight : MethodName := ⟨RL, "weight", "(LLeastRows;I[J)I"⟩
abbrev cL_cost : ByteArray := method_20_code
def yL_cost : MethodName := ⟨RL, "cost", "(LLeastRows;II[J)I"⟩
abbrev cL_cut : ByteArray := method_21_code
def yL_cut : MethodName := ⟨RL, "cut", "(LLeastRows;II[J)I"⟩
abbrev cL_fewestParts : ByteArray := method_22_code
def yL_fewestParts : MethodName := ⟨RL, "fewestParts", "(LLeastRows;I[J)I"⟩
abbrev cL_law : ByteArray := code
def yL_law : MethodName := ⟨RL, "law", "([I)Z"⟩
abbrev vwCl : List vw_C := [(RX0, TX0, 5), (RX1, TX1, 7), (RX2, TX2, 3), (RX3, TX3, 5), (RX4, TX4, 2), (RX5, TX5, 8), (RX6, TX6, 8), (RX7, TX7, 8), (RX8, TX8, 21)]
end
section
def TBG : List Cond := lw_tbl.filter goodWord
theorem TBG_in : ∀ w ∈ TBG, w ∈ lw_tbl := fun w h => (List.mem_filter.mp h).1
theorem TBG_gd {w : Cond} (h : w ∈ TBG) : (w.onTables && w.keeps) = true ∨ ∃ ty, w = .arrayClass ty := good_of_word (List.mem_filter.mp h).2
theorem tbq {w : Cond} (h : w ∈ tables_1) (g : goodWord w = true) : w ∈ TBG := List.mem_filter.mpr ⟨List.mem_append_right _ h, g⟩
theorem tbs {w : Cond} (h : w ∈ k2_sels lw_privs) (g : goodWord w = true) : w ∈ TBG := List.mem_filter.mpr ⟨List.mem_append_left _ h, g⟩
theorem tbt_1 {w : Cond} (h : w ∈ tables_1_1) (g : goodWord w = true) : w ∈ TBG := tbq (List.mem_append_left _ h) g
theorem tbl_1 {w : Cond} (h : w ∈ tables_1_1) : w ∈ lw_tbl := List.mem_append_right _ (List.mem_append_left _ h)
theorem tbt_2 {w : Cond} (h : w ∈ tables_1_2) (g : goodWord w = true) : w ∈ TBG := tbq (List.mem_append_right _ (List.mem_append_left _ h)) g
theorem tbl_2 {w : Cond} (h : w ∈ tables_1_2) : w ∈ lw_tbl := List.mem_append_right _ (List.mem_append_right _ (List.mem_append_left _ h))
theorem tbt_3 {w : Cond} (h : w ∈ tables_1_3) (g : goodWord w = true) : w ∈ TBG := tbq (List.mem_append_right _ (List.mem_append_right _ (List.mem_append_left _ h))) g
theorem tbl_3 {w : Cond} (h : w ∈ tables_1_3) : w ∈ lw_tbl := List.mem_append_right _ (List.mem_append_right _ (List.mem_append_right _ (List.mem_append_left _ h)))
theorem tbt_4 {w : Cond} (h : w ∈ tables_1_4) (g : goodWord w = true) : w ∈ TBG := tbq (List.mem_append_right _ (List.mem_append_right _ (List.mem_append_right _ (List.mem_append_left _ h)))) g
theorem tbl_4 {w : Cond} (h : w ∈ tables_1_4) : w ∈ lw_tbl := List.mem_append_right _ (List.mem_append_right _ (List.mem_append_right _ (List.mem_append_right _ (List.mem_append_left _ h))))
theorem tbt_5 {w : Cond} (h : w ∈ tables_1_5) (g : goodWord w = true) : w ∈ TBG := tbq (List.mem_append_right _ (List.mem_append_right _ (List.mem_append_right _ (List.mem_append_right _ (List.mem_append_left _ h))))) g
theorem tbl_5 {w : Cond} (h : w ∈ tables_1_5) : w ∈ lw_tbl := List.mem_append_right _ (List.mem_append_right _ (List.mem_append_right _ (List.mem_append_right _ (List.mem_append_right _ (List.mem_append_left _ h)))))
theorem tbt_6 {w : Cond} (h : w ∈ tables_1_6) (g : goodWord w = true) : w ∈ TBG := tbq (List.mem_append_right _ (List.mem_append_right _ (List.mem_append_right _ (List.mem_append_right _ (List.mem_append_right _ (h)))))) g
theorem tbl_6 {w : Cond} (h : w ∈ tables_1_6) : w ∈ lw_tbl := List.mem_append_right _ (List.mem_append_right _ (List.mem_append_right _ (List.mem_append_right _ (List.mem_append_right _ (List.mem_append_right _ (h))))))
theorem q0 : (.initialized RL : Cond) ∈ TBG := tbt_1 (List.mem_of_getElem? (i := 0) rfl) rfl
theorem q1 : (.initialized RX7 : Cond) ∈ TBG := tbt_1 (List.mem_of_getElem? (i := 1) rfl) rfl
theorem q2 : (.initialized RX5 : Cond) ∈ TBG := tbt_1 (List.mem_of_getElem? (i := 2) rfl) rfl
theorem q3 : (.initialized RX3 : Cond) ∈ TBG := tbt_1 (List.mem_of_getElem? (i := 3) rfl) rfl
theorem q4 : (.initialized RX1 : Cond) ∈ TBG := tbt_1 (List.mem_of_getElem? (i := 4) rfl) rfl
theorem q5 : (.initialized RX0 : Cond) ∈ TBG := tbt_1 (List.mem_of_getElem? (i := 5) rfl) rfl
theorem q6 : (.initialized RX6 : Cond) ∈ TBG := tbt_1 (List.mem_of_getElem? (i := 6) rfl) rfl
theorem q7 : (.initialized RX2 : Cond) ∈ TBG := tbt_1 (List.mem_of_getElem? (i := 7) rfl) rfl
theorem q8 : (.initialized RX4 : Cond) ∈ TBG := tbt_1 (List.mem_of_getElem? (i := 8) rfl) rfl
theorem q9 : (.initialized RX8 : Cond) ∈ TBG := tbt_1 (List.mem_of_getElem? (i := 9) rfl) rfl
theorem q10 : (.initialized "java/lang/Throwable" : Cond) ∈ TBG := tbt_1 (List.mem_of_getElem? (i := 10) rfl) rfl
theorem q11 : (.initialized "java/lang/Exception" : Cond) ∈ TBG := tbt_1 (List.mem_of_getElem? (i := 11) rfl) rfl
theorem q12 : (.initialized "java/lang/RuntimeException" : Cond) ∈ TBG := tbt_1 (List.mem_of_getElem? (i := 12) rfl) rfl
theorem q13 : (.initialized "java/lang/IllegalArgumentException" : Cond) ∈ TBG := tbt_1 (List.mem_of_getElem? (i := 13) rfl) rfl
theorem q14 : (.initialized "java/lang/IndexOutOfBoundsException" : Cond) ∈ TBG := tbt_1 (List.mem_of_getElem? (i := 14) rfl) rfl
theorem q15 : (.initialized RJ9 : Cond) ∈ TBG := tbt_1 (List.mem_of_getElem? (i := 15) rfl) rfl
theorem q16 : (.initialized "java/lang/IllegalStateException" : Cond) ∈ TBG := tbt_1 (List.mem_of_getElem? (i := 16) rfl) rfl
theorem q17 : (.initialized RJxe99ae : Cond) ∈ TBG := tbt_1 (List.mem_of_getElem? (i := 17) rfl) rfl
theorem q18 : (.classLink RL 8 RX7 : Cond) ∈ TBG := tbt_1 (List.mem_of_getElem? (i := 18) rfl) rfl
theorem q19 : (.instantiable RX7 8 : Cond) ∈ TBG := tbt_1 (List.mem_of_getElem? (i := 19) rfl) rfl
theorem q20 : (.methodLink RL 80 yX7_init : Cond) ∈ TBG := tbt_1 (List.mem_of_getElem? (i := 20) rfl) rfl
theorem q21 : (.instanceMethod yX7_init : Cond) ∈ TBG := tbt_1 (List.mem_of_getElem? (i := 21) rfl) rfl
theorem q22 : (.code yX7_init cX7_init 1 none : Cond) ∈ TBG := tbt_1 (List.mem_of_getElem? (i := 22) rfl) rfl
theorem q23 : (.methodLink RX7 1 objectInit : Cond) ∈ TBG := tbt_1 (List.mem_of_getElem? (i := 23) rfl) rfl
theorem q24 : (.instanceMethod objectInit : Cond) ∈ TBG := tbt_1 (List.mem_of_getElem? (i := 24) rfl) rfl
theorem q25 : (.code objectInit object_method_1_code 1 none : Cond) ∈ TBG := tbt_1 (List.mem_of_getElem? (i := 25) rfl) rfl
theorem q26 : (.classLink RX7 7 RX5 : Cond) ∈ TBG := tbt_1 (List.mem_of_getElem? (i := 26) rfl) rfl
theorem q27 : (.instantiable RX5 8 : Cond) ∈ TBG := tbt_1 (List.mem_of_getElem? (i := 27) rfl) rfl
theorem q28 : (.methodLink RX7 9 yX5_init : Cond) ∈ TBG := tbt_1 (List.mem_of_getElem? (i := 28) rfl) rfl
theorem q29 : (.instanceMethod yX5_init : Cond) ∈ TBG := tbt_1 (List.mem_of_getElem? (i := 29) rfl) rfl
theorem q30 : (.code yX5_init cX5_init 1 none : Cond) ∈ TBG := tbt_1 (List.mem_of_getElem? (i := 30) rfl) rfl
theorem q31 : (.methodLink RX5 3 objectInit : Cond) ∈ TBG := tbt_1 (List.mem_of_getElem? (i := 31) rfl) rfl
theorem q32 : (.methodLinkNest RX5 37 yX7_setIn RX7 : Cond) ∈ lw_tbl := tbl_1 (List.mem_of_getElem? (i := 32) rfl)
theorem q33 : (.static yX7_setIn : Cond) ∈ TBG := tbt_1 (List.mem_of_getElem? (i := 33) rfl) rfl
theorem q34 : (.code yX7_setIn cX7_setIn 3 none : Cond) ∈ TBG := tbt_1 (List.mem_of_getElem? (i := 34) rfl) rfl
theorem q35 : (.fieldLink RX5 9 "LeastRows$State" "rows" "I" : Cond) ∈ TBG := tbt_1 (List.mem_of_getElem? (i := 35) rfl) rfl
theorem q36 : (.fieldLink RX1 38 "LeastRows$State" "rows" "I" : Cond) ∈ TBG := tbt_1 (List.mem_of_getElem? (i := 36) rfl) rfl
theorem q37 : (.fieldLink RX7 81 "LeastRows$State" "rows" "I" : Cond) ∈ TBG := tbt_1 (List.mem_of_getElem? (i := 37) rfl) rfl
theorem q38 : (.fieldLink RX3 31 "LeastRows$State" "rows" "I" : Cond) ∈ TBG := tbt_1 (List.mem_of_getElem? (i := 38) rfl) rfl
theorem q39 : (.fieldLink RX5 15 "LeastRows$State" "columns" "I" : Cond) ∈ TBG := tbt_1 (List.mem_of_getElem? (i := 39) rfl) rfl
theorem q40 : (.fieldLink RX1 43 "LeastRows$State" "columns" "I" : Cond) ∈ TBG := tbt_1 (List.mem_of_getElem? (i := 40) rfl) rfl
theorem q41 : (.fieldLink RX7 85 "LeastRows$State" "columns" "I" : Cond) ∈ TBG := tbt_1 (List.mem_of_getElem? (i := 41) rfl) rfl
theorem q42 : (.fieldLink RX3 36 "LeastRows$State" "columns" "I" : Cond) ∈ TBG := tbt_1 (List.mem_of_getElem? (i := 42) rfl) rfl
theorem q43 : (.fieldLink RX5 18 "LeastRows$State" "weightCount" "I" : Cond) ∈ TBG := tbt_1 (List.mem_of_getElem? (i := 43) rfl) rfl
theorem q44 : (.fieldLink RX0 28 "LeastRows$State" "weightCount" "I" : Cond) ∈ TBG := tbt_1 (List.mem_of_getElem? (i := 44) rfl) rfl
theorem q45 : (.fieldLink RX7 166 "LeastRows$State" "weightCount" "I" : Cond) ∈ TBG := tbt_1 (List.mem_of_getElem? (i := 45) rfl) rfl
theorem q46 : (.fieldLink RX5 21 "LeastRows$State" "looksCounted" "I" : Cond) ∈ TBG := tbt_1 (List.mem_of_getElem? (i := 46) rfl) rfl
theorem q47 : (.fieldLink RX7 158 "LeastRows$State" "looksCounted" "I" : Cond) ∈ TBG := tbt_1 (List.mem_of_getElem? (i := 47) rfl) rfl
theorem q48 : (.fieldLink RX5 24 "LeastRows$State" "timesFound" "I" : Cond) ∈ TBG := tbt_1 (List.mem_of_getElem? (i := 48) rfl) rfl
theorem q49 : (.fieldLink RX7 161 "LeastRows$State" "timesFound" "I" : Cond) ∈ TBG := tbt_1 (List.mem_of_getElem? (i := 49) rfl) rfl
theorem q50 : (.fieldLink RX5 27 "LeastRows$State" "timesMended" "I" : Cond) ∈ TBG := tbt_1 (List.mem_of_getElem? (i := 50) rfl) rfl
theorem q51 : (.fieldLink RX7 133 "LeastRows$State" "timesMended" "I" : Cond) ∈ TBG := tbt_1 (List.mem_of_getElem? (i := 51) rfl) rfl
theorem q52 : (.fieldLink RX5 30 "LeastRows$State" "cells" "[I" : Cond) ∈ TBG := tbt_1 (List.mem_of_getElem? (i := 52) rfl) rfl
theorem q53 : (.fieldLink RX5 34 "LeastRows$State" "weights" "[I" : Cond) ∈ TBG := tbt_1 (List.mem_of_getElem? (i := 53) rfl) rfl
theorem q54 : (.arrayClass .int : Cond) ∈ TBG := tbt_1 (List.mem_of_getElem? (i := 71) rfl) rfl
theorem q55 : (.classLink RX7 16 RX3 : Cond) ∈ TBG := tbt_1 (List.mem_of_getElem? (i := 72) rfl) rfl
theorem q56 : (.instantiable RX3 5 : Cond) ∈ TBG := tbt_1 (List.mem_of_getElem? (i := 73) rfl) rfl
theorem q57 : (.methodLink RX7 18 yX3_init : Cond) ∈ TBG := tbt_1 (List.mem_of_getElem? (i := 74) rfl) rfl
theorem q58 : (.instanceMethod yX3_init : Cond) ∈ TBG := tbt_1 (List.mem_of_getElem? (i := 75) rfl) rfl
theorem q59 : (.code yX3_init cX3_init 2 none : Cond) ∈ TBG := tbt_1 (List.mem_of_getElem? (i := 76) rfl) rfl
theorem q60 : (.methodLink RX3 3 objectInit : Cond) ∈ TBG := tbt_1 (List.mem_of_getElem? (i := 77) rfl) rfl
theorem q61 : (.fieldLink RX3 9 "LeastRows$Rule" "row" "I" : Cond) ∈ TBG := tbt_1 (List.mem_of_getElem? (i := 78) rfl) rfl
theorem q62 : (.fieldLink RX7 124 "LeastRows$Rule" "row" "I" : Cond) ∈ TBG := tbt_1 (List.mem_of_getElem? (i := 79) rfl) rfl
theorem q63 : (.fieldLink RX3 15 "LeastRows$Rule" "left" "I" : Cond) ∈ TBG := tbt_1 (List.mem_of_getElem? (i := 80) rfl) rfl
theorem q64 : (.fieldLink RX7 130 "LeastRows$Rule" "left" "I" : Cond) ∈ TBG := tbt_1 (List.mem_of_getElem? (i := 81) rfl) rfl
theorem q65 : (.fieldLink RX3 18 "LeastRows$Rule" "right" "I" : Cond) ∈ TBG := tbt_1 (List.mem_of_getElem? (i := 82) rfl) rfl
theorem q66 : (.fieldLink RX7 127 "LeastRows$Rule" "right" "I" : Cond) ∈ TBG := tbt_1 (List.mem_of_getElem? (i := 83) rfl) rfl
theorem q67 : (.fieldLink RX3 21 "LeastRows$Rule" "witnesses" "I" : Cond) ∈ TBG := tbt_1 (List.mem_of_getElem? (i := 84) rfl) rfl
theorem q68 : (.fieldLink RX7 121 "LeastRows$Rule" "witnesses" "I" : Cond) ∈ TBG := tbt_1 (List.mem_of_getElem? (i := 85) rfl) rfl
theorem q69 : (.fieldLink RX3 24 "LeastRows$Rule" "table" "LLeastRows$State;" : Cond) ∈ TBG := tbt_1 (List.mem_of_getElem? (i := 86) rfl) rfl
theorem q70 : (.classLink RX7 25 RX1 : Cond) ∈ TBG := tbt_1 (List.mem_of_getElem? (i := 98) rfl) rfl
theorem q71 : (.instantiable RX1 7 : Cond) ∈ TBG := tbt_1 (List.mem_of_getElem? (i := 99) rfl) rfl
theorem q72 : (.methodLink RX7 27 yX1_init : Cond) ∈ TBG := tbt_1 (List.mem_of_getElem? (i := 100) rfl) rfl
theorem q73 : (.instanceMethod yX1_init : Cond) ∈ TBG := tbt_1 (List.mem_of_getElem? (i := 101) rfl) rfl
theorem q74 : (.code yX1_init cX1_init 2 none : Cond) ∈ TBG := tbt_1 (List.mem_of_getElem? (i := 102) rfl) rfl
theorem q75 : (.methodLink RX1 3 objectInit : Cond) ∈ TBG := tbt_1 (List.mem_of_getElem? (i := 103) rfl) rfl
theorem q76 : (.fieldLink RX1 31 "LeastRows$Finder" "table" "LLeastRows$State;" : Cond) ∈ TBG := tbt_1 (List.mem_of_getElem? (i := 104) rfl) rfl
theorem q77 : (.fieldLink RX1 9 "LeastRows$Finder" "places" "[I" : Cond) ∈ TBG := tbt_1 (List.mem_of_getElem? (i := 105) rfl) rfl
theorem q78 : (.fieldLink RX1 15 "LeastRows$Finder" "looksMade" "[I" : Cond) ∈ TBG := tbt_1 (List.mem_of_getElem? (i := 106) rfl) rfl
theorem q79 : (.fieldLink RX1 18 "LeastRows$Finder" "left" "[I" : Cond) ∈ TBG := tbt_1 (List.mem_of_getElem? (i := 107) rfl) rfl
theorem q80 : (.fieldLink RX1 21 "LeastRows$Finder" "leftCount" "[I" : Cond) ∈ TBG := tbt_1 (List.mem_of_getElem? (i := 108) rfl) rfl
theorem q81 : (.fieldLink RX1 24 "LeastRows$Finder" "way" "I" : Cond) ∈ TBG := tbt_1 (List.mem_of_getElem? (i := 109) rfl) rfl
theorem q82 : (.fieldLink RX1 28 "LeastRows$Finder" "looksNow" "I" : Cond) ∈ TBG := tbt_1 (List.mem_of_getElem? (i := 110) rfl) rfl
theorem q83 : (.classLink RX7 32 RX0 : Cond) ∈ TBG := tbt_1 (List.mem_of_getElem? (i := 126) rfl) rfl
theorem q84 : (.instantiable RX0 5 : Cond) ∈ TBG := tbt_1 (List.mem_of_getElem? (i := 127) rfl) rfl
theorem q85 : (.methodLink RX7 34 yX0_init : Cond) ∈ TBG := tbt_1 (List.mem_of_getElem? (i := 128) rfl) rfl
theorem q86 : (.instanceMethod yX0_init : Cond) ∈ TBG := tbt_1 (List.mem_of_getElem? (i := 129) rfl) rfl
theorem q87 : (.code yX0_init cX0_init 2 none : Cond) ∈ TBG := tbt_1 (List.mem_of_getElem? (i := 130) rfl) rfl
theorem q88 : (.methodLink RX0 3 objectInit : Cond) ∈ TBG := tbt_1 (List.mem_of_getElem? (i := 131) rfl) rfl
theorem q89 : (.fieldLink RX0 24 "LeastRows$Cutter" "state" "LLeastRows$State;" : Cond) ∈ TBG := tbt_1 (List.mem_of_getElem? (i := 132) rfl) rfl
theorem q90 : (.fieldLink RX0 11 "LeastRows$Cutter" "least" "[I" : Cond) ∈ TBG := tbt_1 (List.mem_of_getElem? (i := 133) rfl) rfl
theorem q91 : (.fieldLink RX0 15 "LeastRows$Cutter" "lastCut" "[I" : Cond) ∈ TBG := tbt_1 (List.mem_of_getElem? (i := 134) rfl) rfl
theorem q92 : (.fieldLink RX0 18 "LeastRows$Cutter" "firstTogether" "[I" : Cond) ∈ TBG := tbt_1 (List.mem_of_getElem? (i := 135) rfl) rfl
theorem q93 : (.fieldLink RX0 21 "LeastRows$Cutter" "tried" "[I" : Cond) ∈ TBG := tbt_1 (List.mem_of_getElem? (i := 136) rfl) rfl
theorem q94 : (.classLink RX7 39 RX6 : Cond) ∈ TBG := tbt_1 (List.mem_of_getElem? (i := 148) rfl) rfl
theorem q95 : (.instantiable RX6 8 : Cond) ∈ TBG := tbt_1 (List.mem_of_getElem? (i := 149) rfl) rfl
theorem q96 : (.methodLinkNest RX7 41 yX6_init RX7 : Cond) ∈ lw_tbl := tbl_1 (List.mem_of_getElem? (i := 150) rfl)
theorem q97 : (.instanceMethod yX6_init : Cond) ∈ TBG := tbt_1 (List.mem_of_getElem? (i := 151) rfl) rfl
theorem q98 : (.code yX6_init cX6_init 1 none : Cond) ∈ TBG := tbt_1 (List.mem_of_getElem? (i := 152) rfl) rfl
theorem q99 : (.methodLink RX6 3 objectInit : Cond) ∈ TBG := tbt_1 (List.mem_of_getElem? (i := 153) rfl) rfl
theorem q100 : (.fieldLink RX6 9 "LeastRows$Text" "length" "I" : Cond) ∈ TBG := tbt_1 (List.mem_of_getElem? (i := 154) rfl) rfl
theorem q101 : (.fieldLink RX7 181 "LeastRows$Text" "length" "I" : Cond) ∈ TBG := tbt_1 (List.mem_of_getElem? (i := 155) rfl) rfl
theorem q102 : (.fieldLink RX6 15 "LeastRows$Text" "codes" "[I" : Cond) ∈ TBG := tbt_1 (List.mem_of_getElem? (i := 156) rfl) rfl
theorem q103 : (.fieldLink RX6 19 "LeastRows$Text" "numbers" "[I" : Cond) ∈ TBG := tbt_1 (List.mem_of_getElem? (i := 157) rfl) rfl
theorem q104 : (.fieldLink RX6 22 "LeastRows$Text" "row" "I" : Cond) ∈ TBG := tbt_1 (List.mem_of_getElem? (i := 158) rfl) rfl
theorem q105 : (.fieldLink RX6 25 "LeastRows$Text" "column" "I" : Cond) ∈ TBG := tbt_1 (List.mem_of_getElem? (i := 159) rfl) rfl
theorem q106 : (.fieldLink RX6 28 "LeastRows$Text" "columnsOfFirst" "I" : Cond) ∈ TBG := tbt_1 (List.mem_of_getElem? (i := 160) rfl) rfl
theorem q107 : (.fieldLink RX6 31 "LeastRows$Text" "digits" "I" : Cond) ∈ TBG := tbt_1 (List.mem_of_getElem? (i := 161) rfl) rfl
theorem q108 : (.fieldLink RX6 34 "LeastRows$Text" "number" "I" : Cond) ∈ TBG := tbt_1 (List.mem_of_getElem? (i := 162) rfl) rfl
theorem q109 : (.classLink RX7 46 RX2 : Cond) ∈ TBG := tbt_1 (List.mem_of_getElem? (i := 180) rfl) rfl
theorem q110 : (.instantiable RX2 3 : Cond) ∈ TBG := tbt_1 (List.mem_of_getElem? (i := 181) rfl) rfl
theorem q111 : (.methodLink RX7 48 yX2_init : Cond) ∈ TBG := tbt_1 (List.mem_of_getElem? (i := 182) rfl) rfl
theorem q112 : (.instanceMethod yX2_init : Cond) ∈ TBG := tbt_1 (List.mem_of_getElem? (i := 183) rfl) rfl
theorem q113 : (.code yX2_init cX2_init 2 none : Cond) ∈ TBG := tbt_1 (List.mem_of_getElem? (i := 184) rfl) rfl
theorem q114 : (.methodLink RX2 3 objectInit : Cond) ∈ TBG := tbt_1 (List.mem_of_getElem? (i := 185) rfl) rfl
theorem q115 : (.classLink RX2 18 RX5 : Cond) ∈ TBG := tbt_1 (List.mem_of_getElem? (i := 186) rfl) rfl
theorem q116 : (.methodLink RX2 24 yX5_init : Cond) ∈ TBG := tbt_1 (List.mem_of_getElem? (i := 188) rfl) rfl
theorem q117 : (.fieldLink RX2 9 "LeastRows$History" "count" "I" : Cond) ∈ TBG := tbt_1 (List.mem_of_getElem? (i := 189) rfl) rfl
theorem q118 : (.fieldLink RX7 230 "LeastRows$History" "count" "I" : Cond) ∈ TBG := tbt_1 (List.mem_of_getElem? (i := 190) rfl) rfl
theorem q119 : (.fieldLink RX2 15 "LeastRows$History" "oldest" "I" : Cond) ∈ TBG := tbt_1 (List.mem_of_getElem? (i := 191) rfl) rfl
theorem q120 : (.fieldLink RX2 20 "LeastRows$History" "saved" "[LLeastRows$State;" : Cond) ∈ TBG := tbt_1 (List.mem_of_getElem? (i := 192) rfl) rfl
theorem q121 : (.classLink RX7 53 RX4 : Cond) ∈ TBG := tbt_1 (List.mem_of_getElem? (i := 200) rfl) rfl
theorem q122 : (.instantiable RX4 2 : Cond) ∈ TBG := tbt_1 (List.mem_of_getElem? (i := 201) rfl) rfl
theorem q123 : (.methodLinkNest RX7 55 yX4_init RX7 : Cond) ∈ lw_tbl := tbl_1 (List.mem_of_getElem? (i := 202) rfl)
theorem q124 : (.instanceMethod yX4_init : Cond) ∈ TBG := tbt_1 (List.mem_of_getElem? (i := 203) rfl) rfl
theorem q125 : (.code yX4_init cX4_init 1 none : Cond) ∈ TBG := tbt_1 (List.mem_of_getElem? (i := 204) rfl) rfl
theorem q126 : (.methodLink RX4 1 objectInit : Cond) ∈ TBG := tbt_1 (List.mem_of_getElem? (i := 205) rfl) rfl
theorem q127 : (.classLink RX4 13 RX5 : Cond) ∈ TBG := tbt_1 (List.mem_of_getElem? (i := 206) rfl) rfl
theorem q128 : (.methodLink RX4 15 yX5_init : Cond) ∈ TBG := tbt_1 (List.mem_of_getElem? (i := 207) rfl) rfl
theorem q129 : (.fieldLink RX4 7 "LeastRows$Slot" "isFilled" "Z" : Cond) ∈ TBG := tbt_1 (List.mem_of_getElem? (i := 208) rfl) rfl
theorem q130 : (.fieldLink RX7 218 "LeastRows$Slot" "isFilled" "Z" : Cond) ∈ TBG := tbt_1 (List.mem_of_getElem? (i := 209) rfl) rfl
theorem q131 : (.fieldLink RX4 16 "LeastRows$Slot" "snapshot" "LLeastRows$State;" : Cond) ∈ TBG := tbt_1 (List.mem_of_getElem? (i := 210) rfl) rfl
theorem q132 : (.fieldLink RX7 224 "LeastRows$Slot" "snapshot" "LLeastRows$State;" : Cond) ∈ TBG := tbt_1 (List.mem_of_getElem? (i := 211) rfl) rfl
theorem q133 : (.fieldLink RX7 10 "LeastRows" "now" "LLeastRows$State;" : Cond) ∈ TBG := tbt_1 (List.mem_of_getElem? (i := 217) rfl) rfl
theorem q134 : (.fieldLink RX7 21 "LeastRows" "rule" "LLeastRows$Rule;" : Cond) ∈ TBG := tbt_1 (List.mem_of_getElem? (i := 218) rfl) rfl
theorem q135 : (.fieldLink RX7 28 "LeastRows" "finder" "LLeastRows$Finder;" : Cond) ∈ TBG := tbt_1 (List.mem_of_getElem? (i := 219) rfl) rfl
theorem q136 : (.fieldLink RX7 35 "LeastRows" "cutter" "LLeastRows$Cutter;" : Cond) ∈ TBG := tbt_1 (List.mem_of_getElem? (i := 220) rfl) rfl
theorem q137 : (.fieldLink RX7 42 "LeastRows" "text" "LLeastRows$Text;" : Cond) ∈ TBG := tbt_1 (List.mem_of_getElem? (i := 221) rfl) rfl
theorem q138 : (.fieldLink RX7 49 "LeastRows" "history" "LLeastRows$History;" : Cond) ∈ TBG := tbt_1 (List.mem_of_getElem? (i := 222) rfl) rfl
theorem q139 : (.fieldLink RX7 56 "LeastRows" "slotZero" "LLeastRows$Slot;" : Cond) ∈ TBG := tbt_1 (List.mem_of_getElem? (i := 223) rfl) rfl
theorem q140 : (.fieldLink RX7 60 "LeastRows" "slotOne" "LLeastRows$Slot;" : Cond) ∈ TBG := tbt_1 (List.mem_of_getElem? (i := 224) rfl) rfl
theorem q141 : (.methodLink RL 101 yX7_mend : Cond) ∈ TBG := tbt_2 (List.mem_of_getElem? (i := 2) rfl) rfl
theorem q142 : (.instanceMethod yX7_mend : Cond) ∈ TBG := tbt_2 (List.mem_of_getElem? (i := 3) rfl) rfl
theorem q143 : (.selects RX7 yX7_mend yX7_mend : Cond) ∈ TBG := tbt_2 (List.mem_of_getElem? (i := 4) rfl) rfl
theorem q144 : (.code yX7_mend cX7_mend 2 (some .int) : Cond) ∈ TBG := tbt_2 (List.mem_of_getElem? (i := 5) rfl) rfl
theorem q145 : (.methodLink RX7 74 yX2_save : Cond) ∈ TBG := tbt_2 (List.mem_of_getElem? (i := 6) rfl) rfl
theorem q146 : (.instanceMethod yX2_save : Cond) ∈ TBG := tbt_2 (List.mem_of_getElem? (i := 7) rfl) rfl
theorem q147 : (.selects RX2 yX2_save yX2_save : Cond) ∈ TBG := tbt_2 (List.mem_of_getElem? (i := 8) rfl) rfl
theorem q148 : (.code yX2_save cX2_save 3 none : Cond) ∈ TBG := tbt_2 (List.mem_of_getElem? (i := 9) rfl) rfl
theorem q149 : (.methodLink RX2 25 yX2_stateAt : Cond) ∈ TBG := tbt_2 (List.mem_of_getElem? (i := 10) rfl) rfl
theorem q150 : (.instanceMethod yX2_stateAt : Cond) ∈ TBG := tbt_2 (List.mem_of_getElem? (i := 12) rfl) rfl
theorem q151 : (.code yX2_stateAt cX2_stateAt 3 (some (.object "LeastRows$State")) : Cond) ∈ TBG := tbt_2 (List.mem_of_getElem? (i := 13) rfl) rfl
theorem q152 : (.methodLink RX2 29 yX5_copyFrom : Cond) ∈ TBG := tbt_2 (List.mem_of_getElem? (i := 14) rfl) rfl
theorem q153 : (.instanceMethod yX5_copyFrom : Cond) ∈ TBG := tbt_2 (List.mem_of_getElem? (i := 15) rfl) rfl
theorem q154 : (.selects RX5 yX5_copyFrom yX5_copyFrom : Cond) ∈ TBG := tbt_2 (List.mem_of_getElem? (i := 16) rfl) rfl
theorem q155 : (.code yX5_copyFrom cX5_copyFrom 2 none : Cond) ∈ TBG := tbt_2 (List.mem_of_getElem? (i := 17) rfl) rfl
theorem q156 : (.methodLinkNest RX5 53 yX7_copyAll RX7 : Cond) ∈ lw_tbl := tbl_2 (List.mem_of_getElem? (i := 18) rfl)
theorem q157 : (.static yX7_copyAll : Cond) ∈ TBG := tbt_2 (List.mem_of_getElem? (i := 19) rfl) rfl
theorem q158 : (.code yX7_copyAll cX7_copyAll 3 none : Cond) ∈ TBG := tbt_2 (List.mem_of_getElem? (i := 20) rfl) rfl
theorem q159 : (.methodLink RX7 118 yX3_examine : Cond) ∈ TBG := tbt_2 (List.mem_of_getElem? (i := 21) rfl) rfl
theorem q160 : (.instanceMethod yX3_examine : Cond) ∈ TBG := tbt_2 (List.mem_of_getElem? (i := 22) rfl) rfl
theorem q161 : (.selects RX3 yX3_examine yX3_examine : Cond) ∈ TBG := tbt_2 (List.mem_of_getElem? (i := 23) rfl) rfl
theorem q162 : (.code yX3_examine cX3_examine 4 none : Cond) ∈ TBG := tbt_2 (List.mem_of_getElem? (i := 24) rfl) rfl
theorem q163 : (.methodLink RX3 39 yX3_isGreater : Cond) ∈ TBG := tbt_2 (List.mem_of_getElem? (i := 25) rfl) rfl
theorem q164 : (.instanceMethod yX3_isGreater : Cond) ∈ TBG := tbt_2 (List.mem_of_getElem? (i := 27) rfl) rfl
theorem q165 : (.code yX3_isGreater cX3_isGreater 4 (some .boolean) : Cond) ∈ TBG := tbt_2 (List.mem_of_getElem? (i := 28) rfl) rfl
theorem q166 : (.methodLink RX3 47 yX5_numberAt : Cond) ∈ TBG := tbt_2 (List.mem_of_getElem? (i := 29) rfl) rfl
theorem q167 : (.instanceMethod yX5_numberAt : Cond) ∈ TBG := tbt_2 (List.mem_of_getElem? (i := 30) rfl) rfl
theorem q168 : (.selects RX5 yX5_numberAt yX5_numberAt : Cond) ∈ TBG := tbt_2 (List.mem_of_getElem? (i := 31) rfl) rfl
theorem q169 : (.code yX5_numberAt cX5_numberAt 4 (some .int) : Cond) ∈ TBG := tbt_2 (List.mem_of_getElem? (i := 32) rfl) rfl
theorem q170 : (.methodLink RX3 43 yX3_note : Cond) ∈ TBG := tbt_2 (List.mem_of_getElem? (i := 33) rfl) rfl
theorem q171 : (.instanceMethod yX3_note : Cond) ∈ TBG := tbt_2 (List.mem_of_getElem? (i := 35) rfl) rfl
theorem q172 : (.code yX3_note cX3_note 4 none : Cond) ∈ TBG := tbt_2 (List.mem_of_getElem? (i := 36) rfl) rfl
theorem q173 : (.methodLink RX7 99 yX5_numberAt : Cond) ∈ TBG := tbt_2 (List.mem_of_getElem? (i := 37) rfl) rfl
theorem q174 : (.methodLink RX7 103 yX5_setNumber : Cond) ∈ TBG := tbt_2 (List.mem_of_getElem? (i := 38) rfl) rfl
theorem q175 : (.instanceMethod yX5_setNumber : Cond) ∈ TBG := tbt_2 (List.mem_of_getElem? (i := 39) rfl) rfl
theorem q176 : (.selects RX5 yX5_setNumber yX5_setNumber : Cond) ∈ TBG := tbt_2 (List.mem_of_getElem? (i := 40) rfl) rfl
theorem q177 : (.code yX5_setNumber cX5_setNumber 4 none : Cond) ∈ TBG := tbt_2 (List.mem_of_getElem? (i := 41) rfl) rfl
theorem q178 : (.methodLink RL 119 yX7_clearBuffer : Cond) ∈ TBG := tbt_2 (List.mem_of_getElem? (i := 42) rfl) rfl
theorem q179 : (.instanceMethod yX7_clearBuffer : Cond) ∈ TBG := tbt_2 (List.mem_of_getElem? (i := 43) rfl) rfl
theorem q180 : (.selects RX7 yX7_clearBuffer yX7_clearBuffer : Cond) ∈ TBG := tbt_2 (List.mem_of_getElem? (i := 44) rfl) rfl
theorem q181 : (.code yX7_clearBuffer cX7_clearBuffer 2 (some .int) : Cond) ∈ TBG := tbt_2 (List.mem_of_getElem? (i := 45) rfl) rfl
theorem q182 : (.methodLink RX7 189 yX6_clear : Cond) ∈ TBG := tbt_2 (List.mem_of_getElem? (i := 46) rfl) rfl
theorem q183 : (.instanceMethod yX6_clear : Cond) ∈ TBG := tbt_2 (List.mem_of_getElem? (i := 47) rfl) rfl
theorem q184 : (.selects RX6 yX6_clear yX6_clear : Cond) ∈ TBG := tbt_2 (List.mem_of_getElem? (i := 48) rfl) rfl
theorem q185 : (.code yX6_clear cX6_clear 1 none : Cond) ∈ TBG := tbt_2 (List.mem_of_getElem? (i := 49) rfl) rfl
theorem q186 : (.methodLink RL 123 yX7_firstError : Cond) ∈ TBG := tbt_2 (List.mem_of_getElem? (i := 50) rfl) rfl
theorem q187 : (.instanceMethod yX7_firstError : Cond) ∈ TBG := tbt_2 (List.mem_of_getElem? (i := 51) rfl) rfl
theorem q188 : (.selects RX7 yX7_firstError yX7_firstError : Cond) ∈ TBG := tbt_2 (List.mem_of_getElem? (i := 52) rfl) rfl
theorem q189 : (.code yX7_firstError cX7_firstError 1 (some .int) : Cond) ∈ TBG := tbt_2 (List.mem_of_getElem? (i := 53) rfl) rfl
theorem q190 : (.methodLink RX7 192 yX6_readToError : Cond) ∈ TBG := tbt_2 (List.mem_of_getElem? (i := 54) rfl) rfl
theorem q191 : (.instanceMethod yX6_readToError : Cond) ∈ TBG := tbt_2 (List.mem_of_getElem? (i := 55) rfl) rfl
theorem q192 : (.selects RX6 yX6_readToError yX6_readToError : Cond) ∈ TBG := tbt_2 (List.mem_of_getElem? (i := 56) rfl) rfl
theorem q193 : (.code yX6_readToError cX6_readToError 2 (some .int) : Cond) ∈ TBG := tbt_2 (List.mem_of_getElem? (i := 57) rfl) rfl
theorem q194 : (.methodLink RX6 45 yX6_codeAt : Cond) ∈ TBG := tbt_2 (List.mem_of_getElem? (i := 58) rfl) rfl
theorem q195 : (.instanceMethod yX6_codeAt : Cond) ∈ TBG := tbt_2 (List.mem_of_getElem? (i := 59) rfl) rfl
theorem q196 : (.selects RX6 yX6_codeAt yX6_codeAt : Cond) ∈ TBG := tbt_2 (List.mem_of_getElem? (i := 60) rfl) rfl
theorem q197 : (.code yX6_codeAt cX6_codeAt 2 (some .int) : Cond) ∈ TBG := tbt_2 (List.mem_of_getElem? (i := 61) rfl) rfl
theorem q198 : (.methodLinkNest RX6 41 yX7_numberIn RX7 : Cond) ∈ lw_tbl := tbl_2 (List.mem_of_getElem? (i := 62) rfl)
theorem q199 : (.static yX7_numberIn : Cond) ∈ TBG := tbt_2 (List.mem_of_getElem? (i := 63) rfl) rfl
theorem q200 : (.code yX7_numberIn cX7_numberIn 2 (some .int) : Cond) ∈ TBG := tbt_2 (List.mem_of_getElem? (i := 64) rfl) rfl
theorem q201 : (.methodLink RX6 49 yX6_takes : Cond) ∈ TBG := tbt_2 (List.mem_of_getElem? (i := 65) rfl) rfl
theorem q202 : (.instanceMethod yX6_takes : Cond) ∈ TBG := tbt_2 (List.mem_of_getElem? (i := 67) rfl) rfl
theorem q203 : (.code yX6_takes cX6_takes 2 (some .boolean) : Cond) ∈ TBG := tbt_2 (List.mem_of_getElem? (i := 68) rfl) rfl
theorem q204 : (.methodLinkNest RX6 61 yX7_isFromTo RX7 : Cond) ∈ lw_tbl := tbl_2 (List.mem_of_getElem? (i := 69) rfl)
theorem q205 : (.static yX7_isFromTo : Cond) ∈ TBG := tbt_2 (List.mem_of_getElem? (i := 70) rfl) rfl
theorem q206 : (.code yX7_isFromTo cX7_isFromTo 3 (some .boolean) : Cond) ∈ TBG := tbt_2 (List.mem_of_getElem? (i := 71) rfl) rfl
theorem q207 : (.methodLink RX6 65 yX6_takesDigit : Cond) ∈ TBG := tbt_2 (List.mem_of_getElem? (i := 72) rfl) rfl
theorem q208 : (.instanceMethod yX6_takesDigit : Cond) ∈ TBG := tbt_2 (List.mem_of_getElem? (i := 74) rfl) rfl
theorem q209 : (.code yX6_takesDigit cX6_takesDigit 3 (some .boolean) : Cond) ∈ TBG := tbt_2 (List.mem_of_getElem? (i := 75) rfl) rfl
theorem q210 : (.methodLinkNest RX6 37 yX7_setIn RX7 : Cond) ∈ lw_tbl := tbl_2 (List.mem_of_getElem? (i := 76) rfl)
theorem q211 : (.methodLink RX6 68 yX6_takesComma : Cond) ∈ TBG := tbt_2 (List.mem_of_getElem? (i := 77) rfl) rfl
theorem q212 : (.instanceMethod yX6_takesComma : Cond) ∈ TBG := tbt_2 (List.mem_of_getElem? (i := 79) rfl) rfl
theorem q213 : (.code yX6_takesComma cX6_takesComma 1 (some .boolean) : Cond) ∈ TBG := tbt_2 (List.mem_of_getElem? (i := 80) rfl) rfl
theorem q214 : (.methodLink RX6 71 yX6_takesSlash : Cond) ∈ TBG := tbt_2 (List.mem_of_getElem? (i := 81) rfl) rfl
theorem q215 : (.instanceMethod yX6_takesSlash : Cond) ∈ TBG := tbt_2 (List.mem_of_getElem? (i := 83) rfl) rfl
theorem q216 : (.code yX6_takesSlash cX6_takesSlash 1 (some .boolean) : Cond) ∈ TBG := tbt_2 (List.mem_of_getElem? (i := 84) rfl) rfl
theorem q217 : (.methodLink RX6 57 yX6_isRowFull : Cond) ∈ TBG := tbt_2 (List.mem_of_getElem? (i := 85) rfl) rfl
theorem q218 : (.instanceMethod yX6_isRowFull : Cond) ∈ TBG := tbt_2 (List.mem_of_getElem? (i := 87) rfl) rfl
theorem q219 : (.code yX6_isRowFull cX6_isRowFull 1 (some .boolean) : Cond) ∈ TBG := tbt_2 (List.mem_of_getElem? (i := 88) rfl) rfl
theorem q220 : (.methodLink RL 148 yX7_bound : Cond) ∈ TBG := tbt_2 (List.mem_of_getElem? (i := 89) rfl) rfl
theorem q221 : (.instanceMethod yX7_bound : Cond) ∈ TBG := tbt_2 (List.mem_of_getElem? (i := 90) rfl) rfl
theorem q222 : (.selects RX7 yX7_bound yX7_bound : Cond) ∈ TBG := tbt_2 (List.mem_of_getElem? (i := 91) rfl) rfl
theorem q223 : (.code yX7_bound cX7_bound 3 (some .int) : Cond) ∈ TBG := tbt_2 (List.mem_of_getElem? (i := 92) rfl) rfl
theorem q224 : (.methodLink RL 170 yX7_halfShare : Cond) ∈ TBG := tbt_2 (List.mem_of_getElem? (i := 93) rfl) rfl
theorem q225 : (.instanceMethod yX7_halfShare : Cond) ∈ TBG := tbt_2 (List.mem_of_getElem? (i := 94) rfl) rfl
theorem q226 : (.selects RX7 yX7_halfShare yX7_halfShare : Cond) ∈ TBG := tbt_2 (List.mem_of_getElem? (i := 95) rfl) rfl
theorem q227 : (.code yX7_halfShare cX7_halfShare 1 (some .double) : Cond) ∈ TBG := tbt_2 (List.mem_of_getElem? (i := 96) rfl) rfl
theorem q228 : (.methodLink RX7 114 yX3_isKept : Cond) ∈ TBG := tbt_2 (List.mem_of_getElem? (i := 97) rfl) rfl
theorem q229 : (.instanceMethod yX3_isKept : Cond) ∈ TBG := tbt_2 (List.mem_of_getElem? (i := 98) rfl) rfl
theorem q230 : (.selects RX3 yX3_isKept yX3_isKept : Cond) ∈ TBG := tbt_2 (List.mem_of_getElem? (i := 99) rfl) rfl
theorem q231 : (.code yX3_isKept cX3_isKept 1 (some .boolean) : Cond) ∈ TBG := tbt_2 (List.mem_of_getElem? (i := 100) rfl) rfl
theorem q232 : (.methodLink RX3 28 yX3_examine : Cond) ∈ TBG := tbt_2 (List.mem_of_getElem? (i := 101) rfl) rfl
theorem q233 : (.methodLink RX7 150 yX1_seek : Cond) ∈ TBG := tbt_2 (List.mem_of_getElem? (i := 102) rfl) rfl
theorem q234 : (.instanceMethod yX1_seek : Cond) ∈ TBG := tbt_2 (List.mem_of_getElem? (i := 103) rfl) rfl
theorem q235 : (.selects RX1 yX1_seek yX1_seek : Cond) ∈ TBG := tbt_2 (List.mem_of_getElem? (i := 104) rfl) rfl
theorem q236 : (.code yX1_seek cX1_seek 3 none : Cond) ∈ TBG := tbt_2 (List.mem_of_getElem? (i := 105) rfl) rfl
theorem q237 : (.methodLink RX1 35 yX1_leaveAllColumns : Cond) ∈ TBG := tbt_2 (List.mem_of_getElem? (i := 106) rfl) rfl
theorem q238 : (.instanceMethod yX1_leaveAllColumns : Cond) ∈ TBG := tbt_2 (List.mem_of_getElem? (i := 108) rfl) rfl
theorem q239 : (.code yX1_leaveAllColumns cX1_leaveAllColumns 2 none : Cond) ∈ TBG := tbt_2 (List.mem_of_getElem? (i := 109) rfl) rfl
theorem q240 : (.methodLinkNest RX1 60 yX7_setIn RX7 : Cond) ∈ lw_tbl := tbl_2 (List.mem_of_getElem? (i := 110) rfl)
theorem q241 : (.methodLink RX1 46 yX1_halve : Cond) ∈ TBG := tbt_2 (List.mem_of_getElem? (i := 111) rfl) rfl
theorem q242 : (.static yX1_halve : Cond) ∈ TBG := tbt_2 (List.mem_of_getElem? (i := 112) rfl) rfl
theorem q243 : (.code yX1_halve cX1_halve 8 none : Cond) ∈ TBG := tbt_2 (List.mem_of_getElem? (i := 113) rfl) rfl
theorem q244 : (.methodLink RX1 76 yX1_leftmostLeast : Cond) ∈ TBG := tbt_2 (List.mem_of_getElem? (i := 114) rfl) rfl
theorem q245 : (.instanceMethod yX1_leftmostLeast : Cond) ∈ TBG := tbt_2 (List.mem_of_getElem? (i := 116) rfl) rfl
theorem q246 : (.code yX1_leftmostLeast cX1_leftmostLeast 11 (some .int) : Cond) ∈ TBG := tbt_2 (List.mem_of_getElem? (i := 117) rfl) rfl
theorem q247 : (.methodLinkNest RX1 64 yX7_numberIn RX7 : Cond) ∈ lw_tbl := tbl_2 (List.mem_of_getElem? (i := 118) rfl)
theorem q248 : (.methodLink RX1 87 yX1_columnLeft : Cond) ∈ TBG := tbt_2 (List.mem_of_getElem? (i := 119) rfl) rfl
theorem q249 : (.instanceMethod yX1_columnLeft : Cond) ∈ TBG := tbt_2 (List.mem_of_getElem? (i := 121) rfl) rfl
theorem q250 : (.code yX1_columnLeft cX1_columnLeft 3 (some .int) : Cond) ∈ TBG := tbt_2 (List.mem_of_getElem? (i := 122) rfl) rfl
theorem q251 : (.methodLinkNest RX1 100 yX7_isFromTo RX7 : Cond) ∈ lw_tbl := tbl_2 (List.mem_of_getElem? (i := 123) rfl)
theorem q252 : (.methodLink RX1 97 yX1_look : Cond) ∈ TBG := tbt_2 (List.mem_of_getElem? (i := 124) rfl) rfl
theorem q253 : (.instanceMethod yX1_look : Cond) ∈ TBG := tbt_2 (List.mem_of_getElem? (i := 126) rfl) rfl
theorem q254 : (.code yX1_look cX1_look 3 (some .int) : Cond) ∈ TBG := tbt_2 (List.mem_of_getElem? (i := 127) rfl) rfl
theorem q255 : (.methodLink RX1 104 yX5_numberAt : Cond) ∈ TBG := tbt_2 (List.mem_of_getElem? (i := 128) rfl) rfl
theorem q256 : (.methodLink RX1 80 yX1_setPlace : Cond) ∈ TBG := tbt_2 (List.mem_of_getElem? (i := 129) rfl) rfl
theorem q257 : (.instanceMethod yX1_setPlace : Cond) ∈ TBG := tbt_2 (List.mem_of_getElem? (i := 131) rfl) rfl
theorem q258 : (.code yX1_setPlace cX1_setPlace 3 none : Cond) ∈ TBG := tbt_2 (List.mem_of_getElem? (i := 132) rfl) rfl
theorem q259 : (.methodLink RX1 50 yX1_pileColumns : Cond) ∈ TBG := tbt_2 (List.mem_of_getElem? (i := 133) rfl) rfl
theorem q260 : (.instanceMethod yX1_pileColumns : Cond) ∈ TBG := tbt_2 (List.mem_of_getElem? (i := 135) rfl) rfl
theorem q261 : (.code yX1_pileColumns cX1_pileColumns 7 none : Cond) ∈ TBG := tbt_2 (List.mem_of_getElem? (i := 136) rfl) rfl
theorem q262 : (.methodLink RX1 84 yX1_rowsAt : Cond) ∈ TBG := tbt_2 (List.mem_of_getElem? (i := 137) rfl) rfl
theorem q263 : (.instanceMethod yX1_rowsAt : Cond) ∈ TBG := tbt_2 (List.mem_of_getElem? (i := 139) rfl) rfl
theorem q264 : (.code yX1_rowsAt cX1_rowsAt 2 (some .int) : Cond) ∈ TBG := tbt_2 (List.mem_of_getElem? (i := 140) rfl) rfl
theorem q265 : (.methodLink RX1 90 yX1_heightAfterThrowing : Cond) ∈ TBG := tbt_2 (List.mem_of_getElem? (i := 141) rfl) rfl
theorem q266 : (.instanceMethod yX1_heightAfterThrowing : Cond) ∈ TBG := tbt_2 (List.mem_of_getElem? (i := 143) rfl) rfl
theorem q267 : (.code yX1_heightAfterThrowing cX1_heightAfterThrowing 8 (some .int) : Cond) ∈ TBG := tbt_2 (List.mem_of_getElem? (i := 144) rfl) rfl
theorem q268 : (.methodLink RX1 94 yX1_rowAt : Cond) ∈ TBG := tbt_2 (List.mem_of_getElem? (i := 145) rfl) rfl
theorem q269 : (.instanceMethod yX1_rowAt : Cond) ∈ TBG := tbt_2 (List.mem_of_getElem? (i := 147) rfl) rfl
theorem q270 : (.code yX1_rowAt cX1_rowAt 3 (some .int) : Cond) ∈ TBG := tbt_2 (List.mem_of_getElem? (i := 148) rfl) rfl
theorem q271 : (.methodLink RX1 54 yX1_fillBetween : Cond) ∈ TBG := tbt_2 (List.mem_of_getElem? (i := 149) rfl) rfl
theorem q272 : (.instanceMethod yX1_fillBetween : Cond) ∈ TBG := tbt_2 (List.mem_of_getElem? (i := 151) rfl) rfl
theorem q273 : (.code yX1_fillBetween cX1_fillBetween 7 none : Cond) ∈ TBG := tbt_2 (List.mem_of_getElem? (i := 152) rfl) rfl
theorem q274 : (.methodLink RX1 68 yX1_placeBy : Cond) ∈ TBG := tbt_2 (List.mem_of_getElem? (i := 153) rfl) rfl
theorem q275 : (.instanceMethod yX1_placeBy : Cond) ∈ TBG := tbt_2 (List.mem_of_getElem? (i := 154) rfl) rfl
theorem q276 : (.selects RX1 yX1_placeBy yX1_placeBy : Cond) ∈ TBG := tbt_2 (List.mem_of_getElem? (i := 155) rfl) rfl
theorem q277 : (.code yX1_placeBy cX1_placeBy 3 (some .int) : Cond) ∈ TBG := tbt_2 (List.mem_of_getElem? (i := 156) rfl) rfl
theorem q278 : (.methodLink RX1 57 yX1_lookAtAll : Cond) ∈ TBG := tbt_2 (List.mem_of_getElem? (i := 157) rfl) rfl
theorem q279 : (.instanceMethod yX1_lookAtAll : Cond) ∈ TBG := tbt_2 (List.mem_of_getElem? (i := 159) rfl) rfl
theorem q280 : (.code yX1_lookAtAll cX1_lookAtAll 2 none : Cond) ∈ TBG := tbt_2 (List.mem_of_getElem? (i := 160) rfl) rfl
theorem q281 : (.methodLink RX7 281 yX1_shareOfHalves : Cond) ∈ TBG := tbt_2 (List.mem_of_getElem? (i := 161) rfl) rfl
theorem q282 : (.instanceMethod yX1_shareOfHalves : Cond) ∈ TBG := tbt_2 (List.mem_of_getElem? (i := 162) rfl) rfl
theorem q283 : (.selects RX1 yX1_shareOfHalves yX1_shareOfHalves : Cond) ∈ TBG := tbt_2 (List.mem_of_getElem? (i := 163) rfl) rfl
theorem q284 : (.code yX1_shareOfHalves cX1_shareOfHalves 2 (some .double) : Cond) ∈ TBG := tbt_2 (List.mem_of_getElem? (i := 164) rfl) rfl
theorem q285 : (.methodLink RX1 72 yX1_looksBy : Cond) ∈ TBG := tbt_2 (List.mem_of_getElem? (i := 165) rfl) rfl
theorem q286 : (.instanceMethod yX1_looksBy : Cond) ∈ TBG := tbt_2 (List.mem_of_getElem? (i := 166) rfl) rfl
theorem q287 : (.selects RX1 yX1_looksBy yX1_looksBy : Cond) ∈ TBG := tbt_2 (List.mem_of_getElem? (i := 167) rfl) rfl
theorem q288 : (.code yX1_looksBy cX1_looksBy 2 (some .int) : Cond) ∈ TBG := tbt_2 (List.mem_of_getElem? (i := 168) rfl) rfl
theorem q289 : (.methodLink RL 175 yX7_digest : Cond) ∈ TBG := tbt_2 (List.mem_of_getElem? (i := 169) rfl) rfl
theorem q290 : (.instanceMethod yX7_digest : Cond) ∈ TBG := tbt_2 (List.mem_of_getElem? (i := 170) rfl) rfl
theorem q291 : (.selects RX7 yX7_digest yX7_digest : Cond) ∈ TBG := tbt_2 (List.mem_of_getElem? (i := 171) rfl) rfl
theorem q292 : (.code yX7_digest cX7_digest 4 (some .long) : Cond) ∈ TBG := tbt_2 (List.mem_of_getElem? (i := 172) rfl) rfl
theorem q293 : (.constantLong RX7 285 (3613) : Cond) ∈ TBG := tbt_2 (List.mem_of_getElem? (i := 173) rfl) rfl
theorem q294 : (.methodLink RX7 251 yX7_counted : Cond) ∈ TBG := tbt_2 (List.mem_of_getElem? (i := 174) rfl) rfl
theorem q295 : (.instanceMethod yX7_counted : Cond) ∈ TBG := tbt_2 (List.mem_of_getElem? (i := 176) rfl) rfl
theorem q296 : (.code yX7_counted cX7_counted 2 (some .int) : Cond) ∈ TBG := tbt_2 (List.mem_of_getElem? (i := 177) rfl) rfl
theorem q297 : (.methodLink RX7 314 yX5_weightsTogether : Cond) ∈ TBG := tbt_2 (List.mem_of_getElem? (i := 178) rfl) rfl
theorem q298 : (.instanceMethod yX5_weightsTogether : Cond) ∈ TBG := tbt_2 (List.mem_of_getElem? (i := 179) rfl) rfl
theorem q299 : (.selects RX5 yX5_weightsTogether yX5_weightsTogether : Cond) ∈ TBG := tbt_2 (List.mem_of_getElem? (i := 180) rfl) rfl
theorem q300 : (.code yX5_weightsTogether cX5_weightsTogether 3 (some .int) : Cond) ∈ TBG := tbt_2 (List.mem_of_getElem? (i := 181) rfl) rfl
theorem q301 : (.methodLink RX5 49 yX5_weightAt : Cond) ∈ TBG := tbt_2 (List.mem_of_getElem? (i := 182) rfl) rfl
theorem q302 : (.instanceMethod yX5_weightAt : Cond) ∈ TBG := tbt_2 (List.mem_of_getElem? (i := 183) rfl) rfl
theorem q303 : (.selects RX5 yX5_weightAt yX5_weightAt : Cond) ∈ TBG := tbt_2 (List.mem_of_getElem? (i := 184) rfl) rfl
theorem q304 : (.code yX5_weightAt cX5_weightAt 2 (some .int) : Cond) ∈ TBG := tbt_2 (List.mem_of_getElem? (i := 185) rfl) rfl
theorem q305 : (.methodLinkNest RX5 45 yX7_numberIn RX7 : Cond) ∈ lw_tbl := tbl_2 (List.mem_of_getElem? (i := 186) rfl)
theorem q306 : (.methodLink RX7 317 yX1_placesGoneBack : Cond) ∈ TBG := tbt_2 (List.mem_of_getElem? (i := 187) rfl) rfl
theorem q307 : (.instanceMethod yX1_placesGoneBack : Cond) ∈ TBG := tbt_2 (List.mem_of_getElem? (i := 188) rfl) rfl
theorem q308 : (.selects RX1 yX1_placesGoneBack yX1_placesGoneBack : Cond) ∈ TBG := tbt_2 (List.mem_of_getElem? (i := 189) rfl) rfl
theorem q309 : (.code yX1_placesGoneBack cX1_placesGoneBack 3 (some .int) : Cond) ∈ TBG := tbt_2 (List.mem_of_getElem? (i := 190) rfl) rfl
theorem q310 : (.methodLink RX7 287 yX7_mixed : Cond) ∈ TBG := tbt_2 (List.mem_of_getElem? (i := 191) rfl) rfl
theorem q311 : (.static yX7_mixed : Cond) ∈ TBG := tbt_2 (List.mem_of_getElem? (i := 192) rfl) rfl
theorem q312 : (.code yX7_mixed cX7_mixed 4 (some .long) : Cond) ∈ TBG := tbt_2 (List.mem_of_getElem? (i := 193) rfl) rfl
theorem q313 : (.constantLong RX7 320 (31) : Cond) ∈ TBG := tbt_2 (List.mem_of_getElem? (i := 194) rfl) rfl
theorem q314 : (.methodLink RX7 291 yX7_mixedCells : Cond) ∈ TBG := tbt_2 (List.mem_of_getElem? (i := 195) rfl) rfl
theorem q315 : (.instanceMethod yX7_mixedCells : Cond) ∈ TBG := tbt_2 (List.mem_of_getElem? (i := 197) rfl) rfl
theorem q316 : (.code yX7_mixedCells cX7_mixedCells 7 (some .long) : Cond) ∈ TBG := tbt_2 (List.mem_of_getElem? (i := 198) rfl) rfl
theorem q317 : (.methodLink RX7 295 yX7_seekByAllWays : Cond) ∈ TBG := tbt_2 (List.mem_of_getElem? (i := 199) rfl) rfl
theorem q318 : (.instanceMethod yX7_seekByAllWays : Cond) ∈ TBG := tbt_2 (List.mem_of_getElem? (i := 201) rfl) rfl
theorem q319 : (.code yX7_seekByAllWays cX7_seekByAllWays 2 none : Cond) ∈ TBG := tbt_2 (List.mem_of_getElem? (i := 202) rfl) rfl
theorem q320 : (.methodLink RX7 322 yX1_tellNothing : Cond) ∈ TBG := tbt_2 (List.mem_of_getElem? (i := 203) rfl) rfl
theorem q321 : (.instanceMethod yX1_tellNothing : Cond) ∈ TBG := tbt_2 (List.mem_of_getElem? (i := 204) rfl) rfl
theorem q322 : (.selects RX1 yX1_tellNothing yX1_tellNothing : Cond) ∈ TBG := tbt_2 (List.mem_of_getElem? (i := 205) rfl) rfl
theorem q323 : (.code yX1_tellNothing cX1_tellNothing 3 none : Cond) ∈ TBG := tbt_2 (List.mem_of_getElem? (i := 206) rfl) rfl
theorem q324 : (.methodLink RX7 298 yX7_mixedPlaces : Cond) ∈ TBG := tbt_2 (List.mem_of_getElem? (i := 207) rfl) rfl
theorem q325 : (.instanceMethod yX7_mixedPlaces : Cond) ∈ TBG := tbt_2 (List.mem_of_getElem? (i := 209) rfl) rfl
theorem q326 : (.code yX7_mixedPlaces cX7_mixedPlaces 7 (some .long) : Cond) ∈ TBG := tbt_2 (List.mem_of_getElem? (i := 210) rfl) rfl
theorem q327 : (.methodLink RX7 241 yX1_placeBy : Cond) ∈ TBG := tbt_2 (List.mem_of_getElem? (i := 211) rfl) rfl
theorem q328 : (.methodLink RX7 154 yX1_looksBy : Cond) ∈ TBG := tbt_2 (List.mem_of_getElem? (i := 212) rfl) rfl
theorem q329 : (.methodLink RX7 325 yX7_bound : Cond) ∈ TBG := tbt_2 (List.mem_of_getElem? (i := 213) rfl) rfl
theorem q330 : (.methodLink RX7 246 yX3_told : Cond) ∈ TBG := tbt_2 (List.mem_of_getElem? (i := 214) rfl) rfl
theorem q331 : (.instanceMethod yX3_told : Cond) ∈ TBG := tbt_2 (List.mem_of_getElem? (i := 215) rfl) rfl
theorem q332 : (.selects RX3 yX3_told yX3_told : Cond) ∈ TBG := tbt_2 (List.mem_of_getElem? (i := 216) rfl) rfl
theorem q333 : (.code yX3_told cX3_told 2 (some .int) : Cond) ∈ TBG := tbt_2 (List.mem_of_getElem? (i := 217) rfl) rfl
theorem q334 : (.methodLink RX7 301 yX7_mixedWeights : Cond) ∈ TBG := tbt_2 (List.mem_of_getElem? (i := 218) rfl) rfl
theorem q335 : (.instanceMethod yX7_mixedWeights : Cond) ∈ TBG := tbt_2 (List.mem_of_getElem? (i := 220) rfl) rfl
theorem q336 : (.code yX7_mixedWeights cX7_mixedWeights 7 (some .long) : Cond) ∈ TBG := tbt_2 (List.mem_of_getElem? (i := 221) rfl) rfl
theorem q337 : (.methodLink RX7 176 yX5_weightAt : Cond) ∈ TBG := tbt_2 (List.mem_of_getElem? (i := 222) rfl) rfl
theorem q338 : (.methodLink RX7 258 yX0_planCuts : Cond) ∈ TBG := tbt_2 (List.mem_of_getElem? (i := 223) rfl) rfl
theorem q339 : (.instanceMethod yX0_planCuts : Cond) ∈ TBG := tbt_2 (List.mem_of_getElem? (i := 224) rfl) rfl
theorem q340 : (.selects RX0 yX0_planCuts yX0_planCuts : Cond) ∈ TBG := tbt_2 (List.mem_of_getElem? (i := 225) rfl) rfl
theorem q341 : (.code yX0_planCuts cX0_planCuts 4 none : Cond) ∈ TBG := tbt_2 (List.mem_of_getElem? (i := 226) rfl) rfl
theorem q342 : (.methodLink RX0 34 yX5_weightAt : Cond) ∈ TBG := tbt_2 (List.mem_of_getElem? (i := 227) rfl) rfl
theorem q343 : (.methodLinkNest RX0 38 yX7_setIn RX7 : Cond) ∈ lw_tbl := tbl_2 (List.mem_of_getElem? (i := 228) rfl)
theorem q344 : (.methodLink RX0 42 yX0_planLastCut : Cond) ∈ TBG := tbt_2 (List.mem_of_getElem? (i := 229) rfl) rfl
theorem q345 : (.instanceMethod yX0_planLastCut : Cond) ∈ TBG := tbt_2 (List.mem_of_getElem? (i := 231) rfl) rfl
theorem q346 : (.code yX0_planLastCut cX0_planLastCut 9 none : Cond) ∈ TBG := tbt_2 (List.mem_of_getElem? (i := 232) rfl) rfl
theorem q347 : (.constant RX0 53 (1000000000) : Cond) ∈ TBG := tbt_2 (List.mem_of_getElem? (i := 233) rfl) rfl
theorem q348 : (.methodLinkNest RX0 46 yX7_numberIn RX7 : Cond) ∈ lw_tbl := tbl_2 (List.mem_of_getElem? (i := 234) rfl)
theorem q349 : (.methodLink RX7 264 yX0_tryAllCuts : Cond) ∈ TBG := tbt_2 (List.mem_of_getElem? (i := 235) rfl) rfl
theorem q350 : (.instanceMethod yX0_tryAllCuts : Cond) ∈ TBG := tbt_2 (List.mem_of_getElem? (i := 236) rfl) rfl
theorem q351 : (.selects RX0 yX0_tryAllCuts yX0_tryAllCuts : Cond) ∈ TBG := tbt_2 (List.mem_of_getElem? (i := 237) rfl) rfl
theorem q352 : (.code yX0_tryAllCuts cX0_tryAllCuts 2 none : Cond) ∈ TBG := tbt_2 (List.mem_of_getElem? (i := 238) rfl) rfl
theorem q353 : (.methodLink RX0 54 yX0_tryNextPart : Cond) ∈ TBG := tbt_2 (List.mem_of_getElem? (i := 239) rfl) rfl
theorem q354 : (.static yX0_tryNextPart : Cond) ∈ TBG := tbt_3 (List.mem_of_getElem? (i := 0) rfl) rfl
theorem q355 : (.code yX0_tryNextPart cX0_tryNextPart 7 none : Cond) ∈ TBG := tbt_3 (List.mem_of_getElem? (i := 1) rfl) rfl
theorem q356 : (.methodLink RX0 58 yX0_triedCost : Cond) ∈ TBG := tbt_3 (List.mem_of_getElem? (i := 2) rfl) rfl
theorem q357 : (.instanceMethod yX0_triedCost : Cond) ∈ TBG := tbt_3 (List.mem_of_getElem? (i := 3) rfl) rfl
theorem q358 : (.selects RX0 yX0_triedCost yX0_triedCost : Cond) ∈ TBG := tbt_3 (List.mem_of_getElem? (i := 4) rfl) rfl
theorem q359 : (.code yX0_triedCost cX0_triedCost 2 (some .int) : Cond) ∈ TBG := tbt_3 (List.mem_of_getElem? (i := 5) rfl) rfl
theorem q360 : (.methodLink RX0 61 yJ9_min_7cf53 : Cond) ∈ TBG := tbt_3 (List.mem_of_getElem? (i := 6) rfl) rfl
theorem q361 : (.static yJ9_min_7cf53 : Cond) ∈ TBG := tbt_3 (List.mem_of_getElem? (i := 7) rfl) rfl
theorem q362 : (.code yJ9_min_7cf53 cJ9_min_7cf53 2 (some .int) : Cond) ∈ TBG := tbt_3 (List.mem_of_getElem? (i := 8) rfl) rfl
theorem q363 : (.methodLink RX7 261 yX0_plannedCost : Cond) ∈ TBG := tbt_3 (List.mem_of_getElem? (i := 9) rfl) rfl
theorem q364 : (.instanceMethod yX0_plannedCost : Cond) ∈ TBG := tbt_3 (List.mem_of_getElem? (i := 10) rfl) rfl
theorem q365 : (.selects RX0 yX0_plannedCost yX0_plannedCost : Cond) ∈ TBG := tbt_3 (List.mem_of_getElem? (i := 11) rfl) rfl
theorem q366 : (.code yX0_plannedCost cX0_plannedCost 2 (some .int) : Cond) ∈ TBG := tbt_3 (List.mem_of_getElem? (i := 12) rfl) rfl
theorem q367 : (.methodLink RX7 267 yX0_triedCost : Cond) ∈ TBG := tbt_3 (List.mem_of_getElem? (i := 13) rfl) rfl
theorem q368 : (.methodLink RX7 272 yX0_plannedCut : Cond) ∈ TBG := tbt_3 (List.mem_of_getElem? (i := 14) rfl) rfl
theorem q369 : (.instanceMethod yX0_plannedCut : Cond) ∈ TBG := tbt_3 (List.mem_of_getElem? (i := 15) rfl) rfl
theorem q370 : (.selects RX0 yX0_plannedCut yX0_plannedCut : Cond) ∈ TBG := tbt_3 (List.mem_of_getElem? (i := 16) rfl) rfl
theorem q371 : (.code yX0_plannedCut cX0_plannedCut 5 (some .int) : Cond) ∈ TBG := tbt_3 (List.mem_of_getElem? (i := 17) rfl) rfl
theorem q372 : (.methodLink RX7 278 yX0_fewestPartsFor : Cond) ∈ TBG := tbt_3 (List.mem_of_getElem? (i := 18) rfl) rfl
theorem q373 : (.instanceMethod yX0_fewestPartsFor : Cond) ∈ TBG := tbt_3 (List.mem_of_getElem? (i := 19) rfl) rfl
theorem q374 : (.selects RX0 yX0_fewestPartsFor yX0_fewestPartsFor : Cond) ∈ TBG := tbt_3 (List.mem_of_getElem? (i := 20) rfl) rfl
theorem q375 : (.code yX0_fewestPartsFor cX0_fewestPartsFor 3 (some .int) : Cond) ∈ TBG := tbt_3 (List.mem_of_getElem? (i := 21) rfl) rfl
theorem q376 : (.methodLink RX0 50 yX0_plannedCost : Cond) ∈ TBG := tbt_3 (List.mem_of_getElem? (i := 22) rfl) rfl
theorem q377 : (.methodLink RX7 304 yX7_halfShare : Cond) ∈ TBG := tbt_3 (List.mem_of_getElem? (i := 23) rfl) rfl
theorem q378 : (.methodLink RX7 307 yX7_bitsOf : Cond) ∈ TBG := tbt_3 (List.mem_of_getElem? (i := 24) rfl) rfl
theorem q379 : (.static yX7_bitsOf : Cond) ∈ TBG := tbt_3 (List.mem_of_getElem? (i := 25) rfl) rfl
theorem q380 : (.code yX7_bitsOf cX7_bitsOf 8 (some .long) : Cond) ∈ TBG := tbt_3 (List.mem_of_getElem? (i := 26) rfl) rfl
theorem q381 : (.constantLong RX7 328 (1023) : Cond) ∈ TBG := tbt_3 (List.mem_of_getElem? (i := 27) rfl) rfl
theorem q382 : (.constantDouble RX7 330 (4611686018427387904) : Cond) ∈ TBG := tbt_3 (List.mem_of_getElem? (i := 28) rfl) rfl
theorem q383 : (.constantDouble RX7 332 (4841369599423283200) : Cond) ∈ TBG := tbt_3 (List.mem_of_getElem? (i := 29) rfl) rfl
theorem q384 : (.methodLink RX7 311 yX6_codeAt : Cond) ∈ TBG := tbt_3 (List.mem_of_getElem? (i := 30) rfl) rfl
theorem q385 : (.methodLink RL 84 yL_size : Cond) ∈ TBG := tbt_3 (List.mem_of_getElem? (i := 31) rfl) rfl
theorem q386 : (.static yL_size : Cond) ∈ TBG := tbt_3 (List.mem_of_getElem? (i := 32) rfl) rfl
theorem q387 : (.codeWith yL_size cL_size 5 (some .int) [((0), (10), (13), (13))] : Cond) ∈ TBG := tbt_3 (List.mem_of_getElem? (i := 33) rfl) rfl
theorem q388 : (.classLink RL 13 "java/lang/IllegalArgumentException" : Cond) ∈ TBG := tbt_3 (List.mem_of_getElem? (i := 34) rfl) rfl
theorem q389 : (.methodLink RL 7 yX7_size : Cond) ∈ TBG := tbt_3 (List.mem_of_getElem? (i := 35) rfl) rfl
theorem q390 : (.instanceMethod yX7_size : Cond) ∈ TBG := tbt_3 (List.mem_of_getElem? (i := 36) rfl) rfl
theorem q391 : (.selects RX7 yX7_size yX7_size : Cond) ∈ TBG := tbt_3 (List.mem_of_getElem? (i := 37) rfl) rfl
theorem q392 : (.code yX7_size cX7_size 4 (some .int) : Cond) ∈ TBG := tbt_3 (List.mem_of_getElem? (i := 38) rfl) rfl
theorem q393 : (.methodLink RX7 63 yX7_isFromTo : Cond) ∈ TBG := tbt_3 (List.mem_of_getElem? (i := 39) rfl) rfl
theorem q394 : (.classLink RX7 67 "java/lang/IllegalArgumentException" : Cond) ∈ TBG := tbt_3 (List.mem_of_getElem? (i := 40) rfl) rfl
theorem q395 : (.instantiable "java/lang/IllegalArgumentException" 6 : Cond) ∈ TBG := tbt_3 (List.mem_of_getElem? (i := 41) rfl) rfl
theorem q396 : (.castable "java/lang/IllegalArgumentException" "java/lang/IllegalArgumentException" : Cond) ∈ lw_tbl := tbl_3 (List.mem_of_getElem? (i := 42) rfl)
theorem q397 : (.selects "java/lang/IllegalArgumentException" (⟨"java/lang/Throwable", "fillInStackTrace", "(I)Ljava/lang/Throwable;"⟩ : MethodName) (⟨"java/lang/Throwable", "fillInStackTrace", "(I)Ljava/lang/Throwable;"⟩ : MethodName) : Cond) ∈ TBG := tbt_3 (List.mem_of_getElem? (i := 49) rfl) rfl
theorem q398 : (.selects "java/lang/IllegalArgumentException" (⟨"java/lang/Throwable", "fillInStackTrace", "()Ljava/lang/Throwable;"⟩ : MethodName) (⟨"java/lang/Throwable", "fillInStackTrace", "()Ljava/lang/Throwable;"⟩ : MethodName) : Cond) ∈ TBG := tbt_3 (List.mem_of_getElem? (i := 50) rfl) rfl
theorem q399 : (.fieldLink "java/lang/Throwable" 198 "java/lang/Throwable" "backtrace" "Ljava/lang/Object;" : Cond) ∈ TBG := tbt_3 (List.mem_of_getElem? (i := 61) rfl) rfl
theorem q400 : (.instanceMethod (⟨"java/lang/Throwable", "<init>", "()V"⟩ : MethodName) : Cond) ∈ TBG := tbt_3 (List.mem_of_getElem? (i := 63) rfl) rfl
theorem q401 : (.code (⟨"java/lang/Throwable", "<init>", "()V"⟩ : MethodName) prog_19_method_1_code 1 none : Cond) ∈ TBG := tbt_3 (List.mem_of_getElem? (i := 64) rfl) rfl
theorem q402 : (.methodLink "java/lang/Throwable" 1 objectInit : Cond) ∈ TBG := tbt_3 (List.mem_of_getElem? (i := 65) rfl) rfl
theorem q403 : (.fieldLink "java/lang/Throwable" 13 "java/lang/Throwable" "UNASSIGNED_STACK" "[Ljava/lang/StackTraceElement;" : Cond) ∈ TBG := tbt_3 (List.mem_of_getElem? (i := 66) rfl) rfl
theorem q404 : (.fieldLink "java/lang/Throwable" 20 "java/lang/Throwable" "SUPPRESSED_SENTINEL" "Ljava/util/List;" : Cond) ∈ TBG := tbt_3 (List.mem_of_getElem? (i := 68) rfl) rfl
theorem q405 : (.methodLink "java/lang/Throwable" 27 (⟨"java/lang/Throwable", "fillInStackTrace", "()Ljava/lang/Throwable;"⟩ : MethodName) : Cond) ∈ TBG := tbt_3 (List.mem_of_getElem? (i := 70) rfl) rfl
theorem q406 : (.instanceMethod (⟨"java/lang/Throwable", "fillInStackTrace", "()Ljava/lang/Throwable;"⟩ : MethodName) : Cond) ∈ TBG := tbt_3 (List.mem_of_getElem? (i := 71) rfl) rfl
theorem q407 : (.selects "java/lang/IllegalStateException" (⟨"java/lang/Throwable", "fillInStackTrace", "()Ljava/lang/Throwable;"⟩ : MethodName) (⟨"java/lang/Throwable", "fillInStackTrace", "()Ljava/lang/Throwable;"⟩ : MethodName) : Cond) ∈ TBG := tbt_3 (List.mem_of_getElem? (i := 73) rfl) rfl
theorem q408 : (.selects "java/lang/IndexOutOfBoundsException" (⟨"java/lang/Throwable", "fillInStackTrace", "()Ljava/lang/Throwable;"⟩ : MethodName) (⟨"java/lang/Throwable", "fillInStackTrace", "()Ljava/lang/Throwable;"⟩ : MethodName) : Cond) ∈ TBG := tbt_3 (List.mem_of_getElem? (i := 74) rfl) rfl
theorem q409 : (.methodLink "java/lang/Throwable" 202 (⟨"java/lang/Throwable", "fillInStackTrace", "(I)Ljava/lang/Throwable;"⟩ : MethodName) : Cond) ∈ TBG := tbt_3 (List.mem_of_getElem? (i := 76) rfl) rfl
theorem q410 : (.instanceMethod (⟨"java/lang/Throwable", "fillInStackTrace", "(I)Ljava/lang/Throwable;"⟩ : MethodName) : Cond) ∈ TBG := tbt_3 (List.mem_of_getElem? (i := 78) rfl) rfl
theorem q411 : (.instantiable "java/lang/Throwable" 6 : Cond) ∈ TBG := tbt_3 (List.mem_of_getElem? (i := 79) rfl) rfl
theorem q412 : (.methodLink RX7 71 (⟨"java/lang/IllegalArgumentException", "<init>", "(Ljava/lang/String;)V"⟩ : MethodName) : Cond) ∈ TBG := tbt_3 (List.mem_of_getElem? (i := 82) rfl) rfl
theorem q413 : (.instanceMethod (⟨"java/lang/IllegalArgumentException", "<init>", "(Ljava/lang/String;)V"⟩ : MethodName) : Cond) ∈ TBG := tbt_3 (List.mem_of_getElem? (i := 83) rfl) rfl
theorem q414 : (.code (⟨"java/lang/IllegalArgumentException", "<init>", "(Ljava/lang/String;)V"⟩ : MethodName) prog_13_method_2_code 2 none : Cond) ∈ TBG := tbt_3 (List.mem_of_getElem? (i := 84) rfl) rfl
theorem q415 : (.methodLink "java/lang/IllegalArgumentException" 7 (⟨"java/lang/RuntimeException", "<init>", "(Ljava/lang/String;)V"⟩ : MethodName) : Cond) ∈ TBG := tbt_3 (List.mem_of_getElem? (i := 85) rfl) rfl
theorem q416 : (.instanceMethod (⟨"java/lang/RuntimeException", "<init>", "(Ljava/lang/String;)V"⟩ : MethodName) : Cond) ∈ TBG := tbt_3 (List.mem_of_getElem? (i := 86) rfl) rfl
theorem q417 : (.code (⟨"java/lang/RuntimeException", "<init>", "(Ljava/lang/String;)V"⟩ : MethodName) prog_17_method_2_code 2 none : Cond) ∈ TBG := tbt_3 (List.mem_of_getElem? (i := 87) rfl) rfl
theorem q418 : (.methodLink "java/lang/RuntimeException" 7 (⟨"java/lang/Exception", "<init>", "(Ljava/lang/String;)V"⟩ : MethodName) : Cond) ∈ TBG := tbt_3 (List.mem_of_getElem? (i := 88) rfl) rfl
theorem q419 : (.instanceMethod (⟨"java/lang/Exception", "<init>", "(Ljava/lang/String;)V"⟩ : MethodName) : Cond) ∈ TBG := tbt_3 (List.mem_of_getElem? (i := 89) rfl) rfl
theorem q420 : (.code (⟨"java/lang/Exception", "<init>", "(Ljava/lang/String;)V"⟩ : MethodName) prog_12_method_2_code 2 none : Cond) ∈ TBG := tbt_3 (List.mem_of_getElem? (i := 90) rfl) rfl
theorem q421 : (.methodLink "java/lang/Exception" 7 (⟨"java/lang/Throwable", "<init>", "(Ljava/lang/String;)V"⟩ : MethodName) : Cond) ∈ TBG := tbt_3 (List.mem_of_getElem? (i := 91) rfl) rfl
theorem q422 : (.instanceMethod (⟨"java/lang/Throwable", "<init>", "(Ljava/lang/String;)V"⟩ : MethodName) : Cond) ∈ TBG := tbt_3 (List.mem_of_getElem? (i := 92) rfl) rfl
theorem q423 : (.code (⟨"java/lang/Throwable", "<init>", "(Ljava/lang/String;)V"⟩ : MethodName) prog_19_method_2_code 2 none : Cond) ∈ TBG := tbt_3 (List.mem_of_getElem? (i := 93) rfl) rfl
theorem q424 : (.fieldLink "java/lang/Throwable" 198 "java/lang/Throwable" "backtrace" "Ljava/lang/Object;" : Cond) ∈ TBG := tbt_3 (List.mem_of_getElem? (i := 94) rfl) rfl
theorem q425 : (.fieldLink "java/lang/Throwable" 31 "java/lang/Throwable" "detailMessage" "Ljava/lang/String;" : Cond) ∈ TBG := tbt_3 (List.mem_of_getElem? (i := 95) rfl) rfl
theorem q426 : (.fieldLink "java/lang/Throwable" 7 "java/lang/Throwable" "cause" "Ljava/lang/Throwable;" : Cond) ∈ TBG := tbt_3 (List.mem_of_getElem? (i := 96) rfl) rfl
theorem q427 : (.fieldLink "java/lang/Throwable" 17 "java/lang/Throwable" "stackTrace" "[Ljava/lang/StackTraceElement;" : Cond) ∈ TBG := tbt_3 (List.mem_of_getElem? (i := 97) rfl) rfl
theorem q428 : (.fieldLink "java/lang/Throwable" 24 "java/lang/Throwable" "suppressedExceptions" "Ljava/util/List;" : Cond) ∈ TBG := tbt_3 (List.mem_of_getElem? (i := 98) rfl) rfl
theorem q429 : (.arrayClass .byte : Cond) ∈ TBG := tbt_3 (List.mem_of_getElem? (i := 107) rfl) rfl
theorem q430 : (.methodLink RX7 77 yX5_sizeCode : Cond) ∈ TBG := tbt_3 (List.mem_of_getElem? (i := 108) rfl) rfl
theorem q431 : (.instanceMethod yX5_sizeCode : Cond) ∈ TBG := tbt_3 (List.mem_of_getElem? (i := 109) rfl) rfl
theorem q432 : (.selects RX5 yX5_sizeCode yX5_sizeCode : Cond) ∈ TBG := tbt_3 (List.mem_of_getElem? (i := 110) rfl) rfl
theorem q433 : (.code yX5_sizeCode cX5_sizeCode 1 (some .int) : Cond) ∈ TBG := tbt_3 (List.mem_of_getElem? (i := 111) rfl) rfl
theorem q434 : (.methodLink RL 93 yL_put : Cond) ∈ TBG := tbt_3 (List.mem_of_getElem? (i := 112) rfl) rfl
theorem q435 : (.static yL_put : Cond) ∈ TBG := tbt_3 (List.mem_of_getElem? (i := 113) rfl) rfl
theorem q436 : (.codeWith yL_put cL_put 6 (some .int) [((0), (12), (15), (19)), ((0), (12), (19), (13))] : Cond) ∈ TBG := tbt_3 (List.mem_of_getElem? (i := 114) rfl) rfl
theorem q437 : (.classLink RL 19 "java/lang/IndexOutOfBoundsException" : Cond) ∈ TBG := tbt_3 (List.mem_of_getElem? (i := 115) rfl) rfl
theorem q438 : (.methodLink RL 15 yX7_put : Cond) ∈ TBG := tbt_3 (List.mem_of_getElem? (i := 116) rfl) rfl
theorem q439 : (.instanceMethod yX7_put : Cond) ∈ TBG := tbt_3 (List.mem_of_getElem? (i := 117) rfl) rfl
theorem q440 : (.selects RX7 yX7_put yX7_put : Cond) ∈ TBG := tbt_3 (List.mem_of_getElem? (i := 118) rfl) rfl
theorem q441 : (.code yX7_put cX7_put 5 (some .int) : Cond) ∈ TBG := tbt_3 (List.mem_of_getElem? (i := 119) rfl) rfl
theorem q442 : (.methodLink RX7 88 yX5_hasCell : Cond) ∈ TBG := tbt_3 (List.mem_of_getElem? (i := 120) rfl) rfl
theorem q443 : (.instanceMethod yX5_hasCell : Cond) ∈ TBG := tbt_3 (List.mem_of_getElem? (i := 121) rfl) rfl
theorem q444 : (.selects RX5 yX5_hasCell yX5_hasCell : Cond) ∈ TBG := tbt_3 (List.mem_of_getElem? (i := 122) rfl) rfl
theorem q445 : (.code yX5_hasCell cX5_hasCell 3 (some .boolean) : Cond) ∈ TBG := tbt_3 (List.mem_of_getElem? (i := 123) rfl) rfl
theorem q446 : (.methodLinkNest RX5 41 yX7_isFromTo RX7 : Cond) ∈ lw_tbl := tbl_3 (List.mem_of_getElem? (i := 124) rfl)
theorem q447 : (.classLink RX7 92 "java/lang/IndexOutOfBoundsException" : Cond) ∈ TBG := tbt_3 (List.mem_of_getElem? (i := 125) rfl) rfl
theorem q448 : (.instantiable "java/lang/IndexOutOfBoundsException" 6 : Cond) ∈ TBG := tbt_3 (List.mem_of_getElem? (i := 126) rfl) rfl
theorem q449 : (.castable "java/lang/IndexOutOfBoundsException" "java/lang/IndexOutOfBoundsException" : Cond) ∈ lw_tbl := tbl_3 (List.mem_of_getElem? (i := 127) rfl)
theorem q450 : (.selects "java/lang/IndexOutOfBoundsException" (⟨"java/lang/Throwable", "fillInStackTrace", "(I)Ljava/lang/Throwable;"⟩ : MethodName) (⟨"java/lang/Throwable", "fillInStackTrace", "(I)Ljava/lang/Throwable;"⟩ : MethodName) : Cond) ∈ TBG := tbt_3 (List.mem_of_getElem? (i := 128) rfl) rfl
theorem q451 : (.methodLink RX7 96 (⟨"java/lang/IndexOutOfBoundsException", "<init>", "(Ljava/lang/String;)V"⟩ : MethodName) : Cond) ∈ TBG := tbt_3 (List.mem_of_getElem? (i := 135) rfl) rfl
theorem q452 : (.instanceMethod (⟨"java/lang/IndexOutOfBoundsException", "<init>", "(Ljava/lang/String;)V"⟩ : MethodName) : Cond) ∈ TBG := tbt_3 (List.mem_of_getElem? (i := 136) rfl) rfl
theorem q453 : (.code (⟨"java/lang/IndexOutOfBoundsException", "<init>", "(Ljava/lang/String;)V"⟩ : MethodName) prog_15_method_2_code 2 none : Cond) ∈ TBG := tbt_3 (List.mem_of_getElem? (i := 137) rfl) rfl
theorem q454 : (.methodLink "java/lang/IndexOutOfBoundsException" 7 (⟨"java/lang/RuntimeException", "<init>", "(Ljava/lang/String;)V"⟩ : MethodName) : Cond) ∈ TBG := tbt_3 (List.mem_of_getElem? (i := 138) rfl) rfl
theorem q455 : (.methodLink RL 97 yL_points : Cond) ∈ TBG := tbt_3 (List.mem_of_getElem? (i := 142) rfl) rfl
theorem q456 : (.static yL_points : Cond) ∈ TBG := tbt_3 (List.mem_of_getElem? (i := 143) rfl) rfl
theorem q457 : (.codeWith yL_points cL_points 7 (some .int) [((0), (14), (17), (13))] : Cond) ∈ TBG := tbt_3 (List.mem_of_getElem? (i := 144) rfl) rfl
theorem q458 : (.methodLink RL 21 yX7_points : Cond) ∈ TBG := tbt_3 (List.mem_of_getElem? (i := 145) rfl) rfl
theorem q459 : (.instanceMethod yX7_points : Cond) ∈ TBG := tbt_3 (List.mem_of_getElem? (i := 146) rfl) rfl
theorem q460 : (.selects RX7 yX7_points yX7_points : Cond) ∈ TBG := tbt_3 (List.mem_of_getElem? (i := 147) rfl) rfl
theorem q461 : (.code yX7_points cX7_points 8 (some .int) : Cond) ∈ TBG := tbt_3 (List.mem_of_getElem? (i := 148) rfl) rfl
theorem q462 : (.methodLink RX7 109 yJ9_min_7cf53 : Cond) ∈ TBG := tbt_3 (List.mem_of_getElem? (i := 150) rfl) rfl
theorem q463 : (.methodLink RL 105 yL_find : Cond) ∈ TBG := tbt_3 (List.mem_of_getElem? (i := 151) rfl) rfl
theorem q464 : (.static yL_find : Cond) ∈ TBG := tbt_3 (List.mem_of_getElem? (i := 152) rfl) rfl
theorem q465 : (.codeWith yL_find cL_find 4 (some .int) [((0), (9), (12), (13)), ((0), (9), (15), (29))] : Cond) ∈ TBG := tbt_3 (List.mem_of_getElem? (i := 153) rfl) rfl
theorem q466 : (.classLink RL 29 "java/lang/IllegalStateException" : Cond) ∈ TBG := tbt_3 (List.mem_of_getElem? (i := 154) rfl) rfl
theorem q467 : (.methodLink RL 25 yX7_find : Cond) ∈ TBG := tbt_3 (List.mem_of_getElem? (i := 155) rfl) rfl
theorem q468 : (.instanceMethod yX7_find : Cond) ∈ TBG := tbt_3 (List.mem_of_getElem? (i := 156) rfl) rfl
theorem q469 : (.selects RX7 yX7_find yX7_find : Cond) ∈ TBG := tbt_3 (List.mem_of_getElem? (i := 157) rfl) rfl
theorem q470 : (.code yX7_find cX7_find 3 (some .int) : Cond) ∈ TBG := tbt_3 (List.mem_of_getElem? (i := 158) rfl) rfl
theorem q471 : (.methodLink RX7 136 yX7_isWay : Cond) ∈ TBG := tbt_3 (List.mem_of_getElem? (i := 159) rfl) rfl
theorem q472 : (.static yX7_isWay : Cond) ∈ TBG := tbt_3 (List.mem_of_getElem? (i := 160) rfl) rfl
theorem q473 : (.code yX7_isWay cX7_isWay 1 (some .boolean) : Cond) ∈ TBG := tbt_3 (List.mem_of_getElem? (i := 161) rfl) rfl
theorem q474 : (.methodLink RX7 142 yX7_isOpen : Cond) ∈ TBG := tbt_3 (List.mem_of_getElem? (i := 163) rfl) rfl
theorem q475 : (.instanceMethod yX7_isOpen : Cond) ∈ TBG := tbt_3 (List.mem_of_getElem? (i := 165) rfl) rfl
theorem q476 : (.code yX7_isOpen cX7_isOpen 2 (some .boolean) : Cond) ∈ TBG := tbt_3 (List.mem_of_getElem? (i := 166) rfl) rfl
theorem q477 : (.classLink RX7 145 "java/lang/IllegalStateException" : Cond) ∈ TBG := tbt_3 (List.mem_of_getElem? (i := 167) rfl) rfl
theorem q478 : (.instantiable "java/lang/IllegalStateException" 6 : Cond) ∈ TBG := tbt_3 (List.mem_of_getElem? (i := 168) rfl) rfl
theorem q479 : (.castable "java/lang/IllegalStateException" "java/lang/IllegalStateException" : Cond) ∈ lw_tbl := tbl_3 (List.mem_of_getElem? (i := 169) rfl)
theorem q480 : (.selects "java/lang/IllegalStateException" (⟨"java/lang/Throwable", "fillInStackTrace", "(I)Ljava/lang/Throwable;"⟩ : MethodName) (⟨"java/lang/Throwable", "fillInStackTrace", "(I)Ljava/lang/Throwable;"⟩ : MethodName) : Cond) ∈ TBG := tbt_3 (List.mem_of_getElem? (i := 170) rfl) rfl
theorem q481 : (.methodLink RX7 149 (⟨"java/lang/IllegalStateException", "<init>", "(Ljava/lang/String;)V"⟩ : MethodName) : Cond) ∈ TBG := tbt_3 (List.mem_of_getElem? (i := 177) rfl) rfl
theorem q482 : (.instanceMethod (⟨"java/lang/IllegalStateException", "<init>", "(Ljava/lang/String;)V"⟩ : MethodName) : Cond) ∈ TBG := tbt_3 (List.mem_of_getElem? (i := 178) rfl) rfl
theorem q483 : (.code (⟨"java/lang/IllegalStateException", "<init>", "(Ljava/lang/String;)V"⟩ : MethodName) prog_14_method_2_code 2 none : Cond) ∈ TBG := tbt_3 (List.mem_of_getElem? (i := 179) rfl) rfl
theorem q484 : (.methodLink "java/lang/IllegalStateException" 7 (⟨"java/lang/RuntimeException", "<init>", "(Ljava/lang/String;)V"⟩ : MethodName) : Cond) ∈ TBG := tbt_3 (List.mem_of_getElem? (i := 180) rfl) rfl
theorem q485 : (.methodLink RL 109 yL_weigh : Cond) ∈ TBG := tbt_3 (List.mem_of_getElem? (i := 183) rfl) rfl
theorem q486 : (.static yL_weigh : Cond) ∈ TBG := tbt_3 (List.mem_of_getElem? (i := 184) rfl) rfl
theorem q487 : (.codeWith yL_weigh cL_weigh 4 (some .int) [((0), (9), (12), (13)), ((0), (9), (15), (29))] : Cond) ∈ TBG := tbt_3 (List.mem_of_getElem? (i := 185) rfl) rfl
theorem q488 : (.methodLink RL 31 yX7_weigh : Cond) ∈ TBG := tbt_3 (List.mem_of_getElem? (i := 186) rfl) rfl
theorem q489 : (.instanceMethod yX7_weigh : Cond) ∈ TBG := tbt_3 (List.mem_of_getElem? (i := 187) rfl) rfl
theorem q490 : (.selects RX7 yX7_weigh yX7_weigh : Cond) ∈ TBG := tbt_3 (List.mem_of_getElem? (i := 188) rfl) rfl
theorem q491 : (.code yX7_weigh cX7_weigh 2 (some .int) : Cond) ∈ TBG := tbt_3 (List.mem_of_getElem? (i := 189) rfl) rfl
theorem q492 : (.methodLink RX7 171 yX5_addWeight : Cond) ∈ TBG := tbt_3 (List.mem_of_getElem? (i := 192) rfl) rfl
theorem q493 : (.instanceMethod yX5_addWeight : Cond) ∈ TBG := tbt_3 (List.mem_of_getElem? (i := 193) rfl) rfl
theorem q494 : (.selects RX5 yX5_addWeight yX5_addWeight : Cond) ∈ TBG := tbt_3 (List.mem_of_getElem? (i := 194) rfl) rfl
theorem q495 : (.code yX5_addWeight cX5_addWeight 2 none : Cond) ∈ TBG := tbt_3 (List.mem_of_getElem? (i := 195) rfl) rfl
theorem q496 : (.methodLink RL 112 yL_unweigh : Cond) ∈ TBG := tbt_3 (List.mem_of_getElem? (i := 196) rfl) rfl
theorem q497 : (.static yL_unweigh : Cond) ∈ TBG := tbt_3 (List.mem_of_getElem? (i := 197) rfl) rfl
theorem q498 : (.codeWith yL_unweigh cL_unweigh 3 (some .int) [((0), (8), (11), (29))] : Cond) ∈ TBG := tbt_3 (List.mem_of_getElem? (i := 198) rfl) rfl
theorem q499 : (.methodLink RL 34 yX7_unweigh : Cond) ∈ TBG := tbt_3 (List.mem_of_getElem? (i := 199) rfl) rfl
theorem q500 : (.instanceMethod yX7_unweigh : Cond) ∈ TBG := tbt_3 (List.mem_of_getElem? (i := 200) rfl) rfl
theorem q501 : (.selects RX7 yX7_unweigh yX7_unweigh : Cond) ∈ TBG := tbt_3 (List.mem_of_getElem? (i := 201) rfl) rfl
theorem q502 : (.code yX7_unweigh cX7_unweigh 1 (some .int) : Cond) ∈ TBG := tbt_3 (List.mem_of_getElem? (i := 202) rfl) rfl
theorem q503 : (.methodLink RL 116 yL_append : Cond) ∈ TBG := tbt_3 (List.mem_of_getElem? (i := 204) rfl) rfl
theorem q504 : (.static yL_append : Cond) ∈ TBG := tbt_3 (List.mem_of_getElem? (i := 205) rfl) rfl
theorem q505 : (.codeWith yL_append cL_append 4 (some .int) [((0), (9), (12), (13)), ((0), (9), (15), (29))] : Cond) ∈ TBG := tbt_3 (List.mem_of_getElem? (i := 206) rfl) rfl
theorem q506 : (.methodLink RL 38 yX7_append : Cond) ∈ TBG := tbt_3 (List.mem_of_getElem? (i := 207) rfl) rfl
theorem q507 : (.instanceMethod yX7_append : Cond) ∈ TBG := tbt_3 (List.mem_of_getElem? (i := 208) rfl) rfl
theorem q508 : (.selects RX7 yX7_append yX7_append : Cond) ∈ TBG := tbt_3 (List.mem_of_getElem? (i := 209) rfl) rfl
theorem q509 : (.code yX7_append cX7_append 2 (some .int) : Cond) ∈ TBG := tbt_3 (List.mem_of_getElem? (i := 210) rfl) rfl
theorem q510 : (.methodLink RX7 186 yX6_add : Cond) ∈ TBG := tbt_3 (List.mem_of_getElem? (i := 213) rfl) rfl
theorem q511 : (.instanceMethod yX6_add : Cond) ∈ TBG := tbt_3 (List.mem_of_getElem? (i := 214) rfl) rfl
theorem q512 : (.selects RX6 yX6_add yX6_add : Cond) ∈ TBG := tbt_3 (List.mem_of_getElem? (i := 215) rfl) rfl
theorem q513 : (.code yX6_add cX6_add 2 none : Cond) ∈ TBG := tbt_3 (List.mem_of_getElem? (i := 216) rfl) rfl
theorem q514 : (.methodLink RL 127 yL_load : Cond) ∈ TBG := tbt_3 (List.mem_of_getElem? (i := 217) rfl) rfl
theorem q515 : (.static yL_load : Cond) ∈ TBG := tbt_3 (List.mem_of_getElem? (i := 218) rfl) rfl
theorem q516 : (.codeWith yL_load cL_load 3 (some .int) [((0), (8), (11), (13))] : Cond) ∈ TBG := tbt_3 (List.mem_of_getElem? (i := 219) rfl) rfl
theorem q517 : (.methodLink RL 41 yX7_load : Cond) ∈ TBG := tbt_3 (List.mem_of_getElem? (i := 220) rfl) rfl
theorem q518 : (.instanceMethod yX7_load : Cond) ∈ TBG := tbt_3 (List.mem_of_getElem? (i := 221) rfl) rfl
theorem q519 : (.selects RX7 yX7_load yX7_load : Cond) ∈ TBG := tbt_3 (List.mem_of_getElem? (i := 222) rfl) rfl
theorem q520 : (.code yX7_load cX7_load 3 (some .int) : Cond) ∈ TBG := tbt_3 (List.mem_of_getElem? (i := 223) rfl) rfl
theorem q521 : (.methodLink RX7 195 yX6_tellsTable : Cond) ∈ TBG := tbt_3 (List.mem_of_getElem? (i := 224) rfl) rfl
theorem q522 : (.instanceMethod yX6_tellsTable : Cond) ∈ TBG := tbt_3 (List.mem_of_getElem? (i := 225) rfl) rfl
theorem q523 : (.selects RX6 yX6_tellsTable yX6_tellsTable : Cond) ∈ TBG := tbt_3 (List.mem_of_getElem? (i := 226) rfl) rfl
theorem q524 : (.code yX6_tellsTable cX6_tellsTable 1 (some .boolean) : Cond) ∈ TBG := tbt_3 (List.mem_of_getElem? (i := 227) rfl) rfl
theorem q525 : (.methodLink RX6 53 yX6_readToError : Cond) ∈ TBG := tbt_3 (List.mem_of_getElem? (i := 228) rfl) rfl
theorem q526 : (.methodLink RX7 200 yX6_rowsTold : Cond) ∈ TBG := tbt_3 (List.mem_of_getElem? (i := 230) rfl) rfl
theorem q527 : (.instanceMethod yX6_rowsTold : Cond) ∈ TBG := tbt_3 (List.mem_of_getElem? (i := 231) rfl) rfl
theorem q528 : (.selects RX6 yX6_rowsTold yX6_rowsTold : Cond) ∈ TBG := tbt_3 (List.mem_of_getElem? (i := 232) rfl) rfl
theorem q529 : (.code yX6_rowsTold cX6_rowsTold 1 (some .int) : Cond) ∈ TBG := tbt_3 (List.mem_of_getElem? (i := 233) rfl) rfl
theorem q530 : (.methodLink RX7 203 yX6_columnsTold : Cond) ∈ TBG := tbt_3 (List.mem_of_getElem? (i := 234) rfl) rfl
theorem q531 : (.instanceMethod yX6_columnsTold : Cond) ∈ TBG := tbt_3 (List.mem_of_getElem? (i := 235) rfl) rfl
theorem q532 : (.selects RX6 yX6_columnsTold yX6_columnsTold : Cond) ∈ TBG := tbt_3 (List.mem_of_getElem? (i := 236) rfl) rfl
theorem q533 : (.code yX6_columnsTold cX6_columnsTold 1 (some .int) : Cond) ∈ TBG := tbt_3 (List.mem_of_getElem? (i := 237) rfl) rfl
theorem q534 : (.methodLink RX7 206 yX6_numberTold : Cond) ∈ TBG := tbt_3 (List.mem_of_getElem? (i := 238) rfl) rfl
theorem q535 : (.instanceMethod yX6_numberTold : Cond) ∈ TBG := tbt_3 (List.mem_of_getElem? (i := 239) rfl) rfl
theorem q536 : (.selects RX6 yX6_numberTold yX6_numberTold : Cond) ∈ TBG := tbt_4 (List.mem_of_getElem? (i := 0) rfl) rfl
theorem q537 : (.code yX6_numberTold cX6_numberTold 3 (some .int) : Cond) ∈ TBG := tbt_4 (List.mem_of_getElem? (i := 1) rfl) rfl
theorem q538 : (.methodLink RL 130 yL_keep : Cond) ∈ TBG := tbt_4 (List.mem_of_getElem? (i := 2) rfl) rfl
theorem q539 : (.static yL_keep : Cond) ∈ TBG := tbt_4 (List.mem_of_getElem? (i := 3) rfl) rfl
theorem q540 : (.codeWith yL_keep cL_keep 4 (some .int) [((0), (9), (12), (13))] : Cond) ∈ TBG := tbt_4 (List.mem_of_getElem? (i := 4) rfl) rfl
theorem q541 : (.methodLink RL 44 yX7_keep : Cond) ∈ TBG := tbt_4 (List.mem_of_getElem? (i := 5) rfl) rfl
theorem q542 : (.instanceMethod yX7_keep : Cond) ∈ TBG := tbt_4 (List.mem_of_getElem? (i := 6) rfl) rfl
theorem q543 : (.selects RX7 yX7_keep yX7_keep : Cond) ∈ TBG := tbt_4 (List.mem_of_getElem? (i := 7) rfl) rfl
theorem q544 : (.code yX7_keep cX7_keep 2 (some .int) : Cond) ∈ TBG := tbt_4 (List.mem_of_getElem? (i := 8) rfl) rfl
theorem q545 : (.methodLink RX7 211 yX7_slotAt : Cond) ∈ TBG := tbt_4 (List.mem_of_getElem? (i := 10) rfl) rfl
theorem q546 : (.instanceMethod yX7_slotAt : Cond) ∈ TBG := tbt_4 (List.mem_of_getElem? (i := 12) rfl) rfl
theorem q547 : (.code yX7_slotAt cX7_slotAt 2 (some (.object "LeastRows$Slot")) : Cond) ∈ TBG := tbt_4 (List.mem_of_getElem? (i := 13) rfl) rfl
theorem q548 : (.methodLink RX7 215 yX4_fillFrom : Cond) ∈ TBG := tbt_4 (List.mem_of_getElem? (i := 14) rfl) rfl
theorem q549 : (.instanceMethod yX4_fillFrom : Cond) ∈ TBG := tbt_4 (List.mem_of_getElem? (i := 15) rfl) rfl
theorem q550 : (.selects RX4 yX4_fillFrom yX4_fillFrom : Cond) ∈ TBG := tbt_4 (List.mem_of_getElem? (i := 16) rfl) rfl
theorem q551 : (.code yX4_fillFrom cX4_fillFrom 2 none : Cond) ∈ TBG := tbt_4 (List.mem_of_getElem? (i := 17) rfl) rfl
theorem q552 : (.methodLink RX4 20 yX5_copyFrom : Cond) ∈ TBG := tbt_4 (List.mem_of_getElem? (i := 18) rfl) rfl
theorem q553 : (.methodLink RL 133 yL_goBack : Cond) ∈ TBG := tbt_4 (List.mem_of_getElem? (i := 19) rfl) rfl
theorem q554 : (.static yL_goBack : Cond) ∈ TBG := tbt_4 (List.mem_of_getElem? (i := 20) rfl) rfl
theorem q555 : (.codeWith yL_goBack cL_goBack 4 (some .int) [((0), (9), (12), (13)), ((0), (9), (15), (29))] : Cond) ∈ TBG := tbt_4 (List.mem_of_getElem? (i := 21) rfl) rfl
theorem q556 : (.methodLink RL 47 yX7_goBack : Cond) ∈ TBG := tbt_4 (List.mem_of_getElem? (i := 22) rfl) rfl
theorem q557 : (.instanceMethod yX7_goBack : Cond) ∈ TBG := tbt_4 (List.mem_of_getElem? (i := 23) rfl) rfl
theorem q558 : (.selects RX7 yX7_goBack yX7_goBack : Cond) ∈ TBG := tbt_4 (List.mem_of_getElem? (i := 24) rfl) rfl
theorem q559 : (.code yX7_goBack cX7_goBack 3 (some .int) : Cond) ∈ TBG := tbt_4 (List.mem_of_getElem? (i := 25) rfl) rfl
theorem q560 : (.methodLink RX7 227 yX5_copyFrom : Cond) ∈ TBG := tbt_4 (List.mem_of_getElem? (i := 27) rfl) rfl
theorem q561 : (.methodLink RL 136 yL_undo : Cond) ∈ TBG := tbt_4 (List.mem_of_getElem? (i := 28) rfl) rfl
theorem q562 : (.static yL_undo : Cond) ∈ TBG := tbt_4 (List.mem_of_getElem? (i := 29) rfl) rfl
theorem q563 : (.codeWith yL_undo cL_undo 3 (some .int) [((0), (8), (11), (29))] : Cond) ∈ TBG := tbt_4 (List.mem_of_getElem? (i := 30) rfl) rfl
theorem q564 : (.methodLink RL 50 yX7_undo : Cond) ∈ TBG := tbt_4 (List.mem_of_getElem? (i := 31) rfl) rfl
theorem q565 : (.instanceMethod yX7_undo : Cond) ∈ TBG := tbt_4 (List.mem_of_getElem? (i := 32) rfl) rfl
theorem q566 : (.selects RX7 yX7_undo yX7_undo : Cond) ∈ TBG := tbt_4 (List.mem_of_getElem? (i := 33) rfl) rfl
theorem q567 : (.code yX7_undo cX7_undo 1 (some .int) : Cond) ∈ TBG := tbt_4 (List.mem_of_getElem? (i := 34) rfl) rfl
theorem q568 : (.methodLink RX7 235 yX2_latest : Cond) ∈ TBG := tbt_4 (List.mem_of_getElem? (i := 36) rfl) rfl
theorem q569 : (.instanceMethod yX2_latest : Cond) ∈ TBG := tbt_4 (List.mem_of_getElem? (i := 37) rfl) rfl
theorem q570 : (.selects RX2 yX2_latest yX2_latest : Cond) ∈ TBG := tbt_4 (List.mem_of_getElem? (i := 38) rfl) rfl
theorem q571 : (.code yX2_latest cX2_latest 1 (some (.object "LeastRows$State")) : Cond) ∈ TBG := tbt_4 (List.mem_of_getElem? (i := 39) rfl) rfl
theorem q572 : (.methodLink RL 139 yL_cell : Cond) ∈ TBG := tbt_4 (List.mem_of_getElem? (i := 40) rfl) rfl
theorem q573 : (.static yL_cell : Cond) ∈ TBG := tbt_4 (List.mem_of_getElem? (i := 41) rfl) rfl
theorem q574 : (.codeWith yL_cell cL_cell 5 (some .int) [((0), (10), (13), (19))] : Cond) ∈ TBG := tbt_4 (List.mem_of_getElem? (i := 42) rfl) rfl
theorem q575 : (.methodLink RL 53 yX7_cell : Cond) ∈ TBG := tbt_4 (List.mem_of_getElem? (i := 43) rfl) rfl
theorem q576 : (.instanceMethod yX7_cell : Cond) ∈ TBG := tbt_4 (List.mem_of_getElem? (i := 44) rfl) rfl
theorem q577 : (.selects RX7 yX7_cell yX7_cell : Cond) ∈ TBG := tbt_4 (List.mem_of_getElem? (i := 45) rfl) rfl
theorem q578 : (.code yX7_cell cX7_cell 3 (some .int) : Cond) ∈ TBG := tbt_4 (List.mem_of_getElem? (i := 46) rfl) rfl
theorem q579 : (.methodLink RL 142 yL_place : Cond) ∈ TBG := tbt_4 (List.mem_of_getElem? (i := 47) rfl) rfl
theorem q580 : (.static yL_place : Cond) ∈ TBG := tbt_4 (List.mem_of_getElem? (i := 48) rfl) rfl
theorem q581 : (.codeWith yL_place cL_place 5 (some .int) [((0), (10), (13), (19)), ((0), (10), (17), (13))] : Cond) ∈ TBG := tbt_4 (List.mem_of_getElem? (i := 49) rfl) rfl
theorem q582 : (.methodLink RL 56 yX7_place : Cond) ∈ TBG := tbt_4 (List.mem_of_getElem? (i := 50) rfl) rfl
theorem q583 : (.instanceMethod yX7_place : Cond) ∈ TBG := tbt_4 (List.mem_of_getElem? (i := 51) rfl) rfl
theorem q584 : (.selects RX7 yX7_place yX7_place : Cond) ∈ TBG := tbt_4 (List.mem_of_getElem? (i := 52) rfl) rfl
theorem q585 : (.code yX7_place cX7_place 3 (some .int) : Cond) ∈ TBG := tbt_4 (List.mem_of_getElem? (i := 53) rfl) rfl
theorem q586 : (.methodLink RL 145 yL_looks : Cond) ∈ TBG := tbt_4 (List.mem_of_getElem? (i := 55) rfl) rfl
theorem q587 : (.static yL_looks : Cond) ∈ TBG := tbt_4 (List.mem_of_getElem? (i := 56) rfl) rfl
theorem q588 : (.codeWith yL_looks cL_looks 4 (some .int) [((0), (9), (12), (13))] : Cond) ∈ TBG := tbt_4 (List.mem_of_getElem? (i := 57) rfl) rfl
theorem q589 : (.methodLink RL 59 yX7_looks : Cond) ∈ TBG := tbt_4 (List.mem_of_getElem? (i := 58) rfl) rfl
theorem q590 : (.instanceMethod yX7_looks : Cond) ∈ TBG := tbt_4 (List.mem_of_getElem? (i := 59) rfl) rfl
theorem q591 : (.selects RX7 yX7_looks yX7_looks : Cond) ∈ TBG := tbt_4 (List.mem_of_getElem? (i := 60) rfl) rfl
theorem q592 : (.code yX7_looks cX7_looks 2 (some .int) : Cond) ∈ TBG := tbt_4 (List.mem_of_getElem? (i := 61) rfl) rfl
theorem q593 : (.methodLink RL 152 yL_witness : Cond) ∈ TBG := tbt_4 (List.mem_of_getElem? (i := 62) rfl) rfl
theorem q594 : (.static yL_witness : Cond) ∈ TBG := tbt_4 (List.mem_of_getElem? (i := 63) rfl) rfl
theorem q595 : (.codeWith yL_witness cL_witness 4 (some .int) [((0), (9), (12), (13))] : Cond) ∈ TBG := tbt_4 (List.mem_of_getElem? (i := 64) rfl) rfl
theorem q596 : (.methodLink RL 62 yX7_witness : Cond) ∈ TBG := tbt_4 (List.mem_of_getElem? (i := 65) rfl) rfl
theorem q597 : (.instanceMethod yX7_witness : Cond) ∈ TBG := tbt_4 (List.mem_of_getElem? (i := 66) rfl) rfl
theorem q598 : (.selects RX7 yX7_witness yX7_witness : Cond) ∈ TBG := tbt_4 (List.mem_of_getElem? (i := 67) rfl) rfl
theorem q599 : (.code yX7_witness cX7_witness 2 (some .int) : Cond) ∈ TBG := tbt_4 (List.mem_of_getElem? (i := 68) rfl) rfl
theorem q600 : (.methodLink RL 155 yL_count : Cond) ∈ TBG := tbt_4 (List.mem_of_getElem? (i := 70) rfl) rfl
theorem q601 : (.static yL_count : Cond) ∈ TBG := tbt_4 (List.mem_of_getElem? (i := 71) rfl) rfl
theorem q602 : (.codeWith yL_count cL_count 4 (some .int) [((0), (9), (12), (13))] : Cond) ∈ TBG := tbt_4 (List.mem_of_getElem? (i := 72) rfl) rfl
theorem q603 : (.methodLink RL 65 yX7_count : Cond) ∈ TBG := tbt_4 (List.mem_of_getElem? (i := 73) rfl) rfl
theorem q604 : (.instanceMethod yX7_count : Cond) ∈ TBG := tbt_4 (List.mem_of_getElem? (i := 74) rfl) rfl
theorem q605 : (.selects RX7 yX7_count yX7_count : Cond) ∈ TBG := tbt_4 (List.mem_of_getElem? (i := 75) rfl) rfl
theorem q606 : (.code yX7_count cX7_count 2 (some .int) : Cond) ∈ TBG := tbt_4 (List.mem_of_getElem? (i := 76) rfl) rfl
theorem q607 : (.methodLink RL 158 yL_weight : Cond) ∈ TBG := tbt_4 (List.mem_of_getElem? (i := 78) rfl) rfl
theorem q608 : (.static yL_weight : Cond) ∈ TBG := tbt_4 (List.mem_of_getElem? (i := 79) rfl) rfl
theorem q609 : (.codeWith yL_weight cL_weight 4 (some .int) [((0), (9), (12), (19))] : Cond) ∈ TBG := tbt_4 (List.mem_of_getElem? (i := 80) rfl) rfl
theorem q610 : (.methodLink RL 68 yX7_weight : Cond) ∈ TBG := tbt_4 (List.mem_of_getElem? (i := 81) rfl) rfl
theorem q611 : (.instanceMethod yX7_weight : Cond) ∈ TBG := tbt_4 (List.mem_of_getElem? (i := 82) rfl) rfl
theorem q612 : (.selects RX7 yX7_weight yX7_weight : Cond) ∈ TBG := tbt_4 (List.mem_of_getElem? (i := 83) rfl) rfl
theorem q613 : (.code yX7_weight cX7_weight 2 (some .int) : Cond) ∈ TBG := tbt_4 (List.mem_of_getElem? (i := 84) rfl) rfl
theorem q614 : (.methodLink RL 161 yL_cost : Cond) ∈ TBG := tbt_4 (List.mem_of_getElem? (i := 86) rfl) rfl
theorem q615 : (.static yL_cost : Cond) ∈ TBG := tbt_4 (List.mem_of_getElem? (i := 87) rfl) rfl
theorem q616 : (.codeWith yL_cost cL_cost 5 (some .int) [((0), (10), (13), (13))] : Cond) ∈ TBG := tbt_4 (List.mem_of_getElem? (i := 88) rfl) rfl
theorem q617 : (.methodLink RL 71 yX7_cost : Cond) ∈ TBG := tbt_4 (List.mem_of_getElem? (i := 89) rfl) rfl
theorem q618 : (.instanceMethod yX7_cost : Cond) ∈ TBG := tbt_4 (List.mem_of_getElem? (i := 90) rfl) rfl
theorem q619 : (.selects RX7 yX7_cost yX7_cost : Cond) ∈ TBG := tbt_4 (List.mem_of_getElem? (i := 91) rfl) rfl
theorem q620 : (.code yX7_cost cX7_cost 3 (some .int) : Cond) ∈ TBG := tbt_4 (List.mem_of_getElem? (i := 92) rfl) rfl
theorem q621 : (.methodLink RL 164 yL_cut : Cond) ∈ TBG := tbt_4 (List.mem_of_getElem? (i := 94) rfl) rfl
theorem q622 : (.static yL_cut : Cond) ∈ TBG := tbt_4 (List.mem_of_getElem? (i := 95) rfl) rfl
theorem q623 : (.codeWith yL_cut cL_cut 5 (some .int) [((0), (10), (13), (13))] : Cond) ∈ TBG := tbt_4 (List.mem_of_getElem? (i := 96) rfl) rfl
theorem q624 : (.methodLink RL 74 yX7_cut : Cond) ∈ TBG := tbt_4 (List.mem_of_getElem? (i := 97) rfl) rfl
theorem q625 : (.instanceMethod yX7_cut : Cond) ∈ TBG := tbt_4 (List.mem_of_getElem? (i := 98) rfl) rfl
theorem q626 : (.selects RX7 yX7_cut yX7_cut : Cond) ∈ TBG := tbt_4 (List.mem_of_getElem? (i := 99) rfl) rfl
theorem q627 : (.code yX7_cut cX7_cut 3 (some .int) : Cond) ∈ TBG := tbt_4 (List.mem_of_getElem? (i := 100) rfl) rfl
theorem q628 : (.methodLink RL 167 yL_fewestParts : Cond) ∈ TBG := tbt_4 (List.mem_of_getElem? (i := 102) rfl) rfl
theorem q629 : (.static yL_fewestParts : Cond) ∈ TBG := tbt_4 (List.mem_of_getElem? (i := 103) rfl) rfl
theorem q630 : (.codeWith yL_fewestParts cL_fewestParts 4 (some .int) [((0), (9), (12), (13))] : Cond) ∈ TBG := tbt_4 (List.mem_of_getElem? (i := 104) rfl) rfl
theorem q631 : (.methodLink RL 77 yX7_fewestParts : Cond) ∈ TBG := tbt_4 (List.mem_of_getElem? (i := 105) rfl) rfl
theorem q632 : (.instanceMethod yX7_fewestParts : Cond) ∈ TBG := tbt_4 (List.mem_of_getElem? (i := 106) rfl) rfl
theorem q633 : (.selects RX7 yX7_fewestParts yX7_fewestParts : Cond) ∈ TBG := tbt_4 (List.mem_of_getElem? (i := 107) rfl) rfl
theorem q634 : (.code yX7_fewestParts cX7_fewestParts 2 (some .int) : Cond) ∈ TBG := tbt_4 (List.mem_of_getElem? (i := 108) rfl) rfl
theorem q635 : (.constant RX7 275 (999999) : Cond) ∈ TBG := tbt_4 (List.mem_of_getElem? (i := 109) rfl) rfl
theorem q636 : (.classLink RL 81 RX8 : Cond) ∈ TBG := tbt_4 (List.mem_of_getElem? (i := 111) rfl) rfl
theorem q637 : (.instantiable RX8 21 : Cond) ∈ TBG := tbt_4 (List.mem_of_getElem? (i := 112) rfl) rfl
theorem q638 : (.methodLink RL 83 yX8_init : Cond) ∈ TBG := tbt_4 (List.mem_of_getElem? (i := 113) rfl) rfl
theorem q639 : (.instanceMethod yX8_init : Cond) ∈ TBG := tbt_4 (List.mem_of_getElem? (i := 114) rfl) rfl
theorem q640 : (.code yX8_init cX8_init 1 none : Cond) ∈ TBG := tbt_4 (List.mem_of_getElem? (i := 115) rfl) rfl
theorem q641 : (.methodLink RX8 1 objectInit : Cond) ∈ TBG := tbt_4 (List.mem_of_getElem? (i := 116) rfl) rfl
theorem q642 : (.fieldLink RX8 7 "LeastRowsModel" "now" "[I" : Cond) ∈ TBG := tbt_4 (List.mem_of_getElem? (i := 117) rfl) rfl
theorem q643 : (.fieldLink RX8 13 "LeastRowsModel" "past" "[I" : Cond) ∈ TBG := tbt_4 (List.mem_of_getElem? (i := 118) rfl) rfl
theorem q644 : (.fieldLink RX8 50 "LeastRowsModel" "states" "I" : Cond) ∈ TBG := tbt_4 (List.mem_of_getElem? (i := 119) rfl) rfl
theorem q645 : (.fieldLink RX8 16 "LeastRowsModel" "kept" "[I" : Cond) ∈ TBG := tbt_4 (List.mem_of_getElem? (i := 120) rfl) rfl
theorem q646 : (.fieldLink RX8 19 "LeastRowsModel" "isKept" "[I" : Cond) ∈ TBG := tbt_4 (List.mem_of_getElem? (i := 121) rfl) rfl
theorem q647 : (.fieldLink RX8 22 "LeastRowsModel" "text" "[I" : Cond) ∈ TBG := tbt_4 (List.mem_of_getElem? (i := 122) rfl) rfl
theorem q648 : (.fieldLink RX8 141 "LeastRowsModel" "length" "I" : Cond) ∈ TBG := tbt_4 (List.mem_of_getElem? (i := 123) rfl) rfl
theorem q649 : (.fieldLink RX8 46 "LeastRowsModel" "thrown" "I" : Cond) ∈ TBG := tbt_4 (List.mem_of_getElem? (i := 124) rfl) rfl
theorem q650 : (.fieldLink RX8 25 "LeastRowsModel" "places" "[I" : Cond) ∈ TBG := tbt_4 (List.mem_of_getElem? (i := 125) rfl) rfl
theorem q651 : (.fieldLink RX8 69 "LeastRowsModel" "looked" "I" : Cond) ∈ TBG := tbt_4 (List.mem_of_getElem? (i := 126) rfl) rfl
theorem q652 : (.fieldLink RX8 28 "LeastRowsModel" "open" "[I" : Cond) ∈ TBG := tbt_4 (List.mem_of_getElem? (i := 127) rfl) rfl
theorem q653 : (.fieldLink RX8 76 "LeastRowsModel" "opened" "I" : Cond) ∈ TBG := tbt_4 (List.mem_of_getElem? (i := 128) rfl) rfl
theorem q654 : (.fieldLink RX8 31 "LeastRowsModel" "left" "[I" : Cond) ∈ TBG := tbt_4 (List.mem_of_getElem? (i := 129) rfl) rfl
theorem q655 : (.fieldLink RX8 34 "LeastRowsModel" "lefts" "[I" : Cond) ∈ TBG := tbt_4 (List.mem_of_getElem? (i := 130) rfl) rfl
theorem q656 : (.fieldLink RX8 144 "LeastRowsModel" "spot" "I" : Cond) ∈ TBG := tbt_4 (List.mem_of_getElem? (i := 131) rfl) rfl
theorem q657 : (.fieldLink RX8 37 "LeastRowsModel" "told" "[I" : Cond) ∈ TBG := tbt_4 (List.mem_of_getElem? (i := 132) rfl) rfl
theorem q658 : (.fieldLink RX8 159 "LeastRowsModel" "toldRows" "I" : Cond) ∈ TBG := tbt_4 (List.mem_of_getElem? (i := 133) rfl) rfl
theorem q659 : (.fieldLink RX8 150 "LeastRowsModel" "toldColumns" "I" : Cond) ∈ TBG := tbt_4 (List.mem_of_getElem? (i := 134) rfl) rfl
theorem q660 : (.fieldLink RX8 40 "LeastRowsModel" "costs" "[I" : Cond) ∈ TBG := tbt_4 (List.mem_of_getElem? (i := 135) rfl) rfl
theorem q661 : (.fieldLink RX8 43 "LeastRowsModel" "lasts" "[I" : Cond) ∈ TBG := tbt_4 (List.mem_of_getElem? (i := 136) rfl) rfl
theorem q662 : (.fieldLink RX8 218 "LeastRowsModel" "hash" "J" : Cond) ∈ TBG := tbt_4 (List.mem_of_getElem? (i := 137) rfl) rfl
theorem q663 : (.methodLink RL 90 yX8_thrown : Cond) ∈ TBG := tbt_4 (List.mem_of_getElem? (i := 181) rfl) rfl
theorem q664 : (.instanceMethod yX8_thrown : Cond) ∈ TBG := tbt_4 (List.mem_of_getElem? (i := 182) rfl) rfl
theorem q665 : (.selects RX8 yX8_thrown yX8_thrown : Cond) ∈ TBG := tbt_4 (List.mem_of_getElem? (i := 183) rfl) rfl
theorem q666 : (.code yX8_thrown cX8_thrown 1 (some .int) : Cond) ∈ TBG := tbt_4 (List.mem_of_getElem? (i := 184) rfl) rfl
theorem q667 : (.methodLink RL 89 yX8_size : Cond) ∈ TBG := tbt_4 (List.mem_of_getElem? (i := 185) rfl) rfl
theorem q668 : (.instanceMethod yX8_size : Cond) ∈ TBG := tbt_4 (List.mem_of_getElem? (i := 186) rfl) rfl
theorem q669 : (.selects RX8 yX8_size yX8_size : Cond) ∈ TBG := tbt_4 (List.mem_of_getElem? (i := 187) rfl) rfl
theorem q670 : (.code yX8_size cX8_size 4 (some .int) : Cond) ∈ TBG := tbt_4 (List.mem_of_getElem? (i := 188) rfl) rfl
theorem q671 : (.methodLink RX8 89 yX8_in : Cond) ∈ TBG := tbt_4 (List.mem_of_getElem? (i := 189) rfl) rfl
theorem q672 : (.static yX8_in : Cond) ∈ TBG := tbt_4 (List.mem_of_getElem? (i := 190) rfl) rfl
theorem q673 : (.code yX8_in cX8_in 3 (some .boolean) : Cond) ∈ TBG := tbt_4 (List.mem_of_getElem? (i := 191) rfl) rfl
theorem q674 : (.methodLink RX8 126 yX8_refuses : Cond) ∈ TBG := tbt_4 (List.mem_of_getElem? (i := 192) rfl) rfl
theorem q675 : (.instanceMethod yX8_refuses : Cond) ∈ TBG := tbt_4 (List.mem_of_getElem? (i := 194) rfl) rfl
theorem q676 : (.code yX8_refuses cX8_refuses 2 (some .int) : Cond) ∈ TBG := tbt_4 (List.mem_of_getElem? (i := 195) rfl) rfl
theorem q677 : (.methodLink RX8 130 yX8_saves : Cond) ∈ TBG := tbt_4 (List.mem_of_getElem? (i := 196) rfl) rfl
theorem q678 : (.instanceMethod yX8_saves : Cond) ∈ TBG := tbt_4 (List.mem_of_getElem? (i := 198) rfl) rfl
theorem q679 : (.code yX8_saves cX8_saves 2 none : Cond) ∈ TBG := tbt_4 (List.mem_of_getElem? (i := 199) rfl) rfl
theorem q680 : (.methodLink RX8 53 yX8_lays : Cond) ∈ TBG := tbt_4 (List.mem_of_getElem? (i := 200) rfl) rfl
theorem q681 : (.static yX8_lays : Cond) ∈ TBG := tbt_4 (List.mem_of_getElem? (i := 201) rfl) rfl
theorem q682 : (.code yX8_lays cX8_lays 5 none : Cond) ∈ TBG := tbt_4 (List.mem_of_getElem? (i := 202) rfl) rfl
theorem q683 : (.methodLink RL 96 yX8_put : Cond) ∈ TBG := tbt_4 (List.mem_of_getElem? (i := 203) rfl) rfl
theorem q684 : (.instanceMethod yX8_put : Cond) ∈ TBG := tbt_4 (List.mem_of_getElem? (i := 204) rfl) rfl
theorem q685 : (.selects RX8 yX8_put yX8_put : Cond) ∈ TBG := tbt_4 (List.mem_of_getElem? (i := 205) rfl) rfl
theorem q686 : (.code yX8_put cX8_put 5 (some .int) : Cond) ∈ TBG := tbt_4 (List.mem_of_getElem? (i := 206) rfl) rfl
theorem q687 : (.methodLink RX8 133 yX8_isCell : Cond) ∈ TBG := tbt_4 (List.mem_of_getElem? (i := 207) rfl) rfl
theorem q688 : (.instanceMethod yX8_isCell : Cond) ∈ TBG := tbt_4 (List.mem_of_getElem? (i := 209) rfl) rfl
theorem q689 : (.code yX8_isCell cX8_isCell 3 (some .boolean) : Cond) ∈ TBG := tbt_4 (List.mem_of_getElem? (i := 210) rfl) rfl
theorem q690 : (.methodLink RX8 123 yX8_isRow : Cond) ∈ TBG := tbt_4 (List.mem_of_getElem? (i := 211) rfl) rfl
theorem q691 : (.instanceMethod yX8_isRow : Cond) ∈ TBG := tbt_4 (List.mem_of_getElem? (i := 213) rfl) rfl
theorem q692 : (.code yX8_isRow cX8_isRow 2 (some .boolean) : Cond) ∈ TBG := tbt_4 (List.mem_of_getElem? (i := 214) rfl) rfl
theorem q693 : (.methodLink RX8 57 yX8_at : Cond) ∈ TBG := tbt_4 (List.mem_of_getElem? (i := 215) rfl) rfl
theorem q694 : (.instanceMethod yX8_at : Cond) ∈ TBG := tbt_4 (List.mem_of_getElem? (i := 217) rfl) rfl
theorem q695 : (.code yX8_at cX8_at 3 (some .int) : Cond) ∈ TBG := tbt_4 (List.mem_of_getElem? (i := 218) rfl) rfl
theorem q696 : (.methodLink RX8 137 yX8_becomes : Cond) ∈ TBG := tbt_4 (List.mem_of_getElem? (i := 219) rfl) rfl
theorem q697 : (.instanceMethod yX8_becomes : Cond) ∈ TBG := tbt_4 (List.mem_of_getElem? (i := 221) rfl) rfl
theorem q698 : (.code yX8_becomes cX8_becomes 4 none : Cond) ∈ TBG := tbt_4 (List.mem_of_getElem? (i := 222) rfl) rfl
theorem q699 : (.methodLink RL 100 yX8_points : Cond) ∈ TBG := tbt_4 (List.mem_of_getElem? (i := 223) rfl) rfl
theorem q700 : (.instanceMethod yX8_points : Cond) ∈ TBG := tbt_4 (List.mem_of_getElem? (i := 224) rfl) rfl
theorem q701 : (.selects RX8 yX8_points yX8_points : Cond) ∈ TBG := tbt_4 (List.mem_of_getElem? (i := 225) rfl) rfl
theorem q702 : (.code yX8_points cX8_points 7 (some .int) : Cond) ∈ TBG := tbt_4 (List.mem_of_getElem? (i := 226) rfl) rfl
theorem q703 : (.methodLink RX8 112 yX8_isKeeping : Cond) ∈ TBG := tbt_4 (List.mem_of_getElem? (i := 227) rfl) rfl
theorem q704 : (.instanceMethod yX8_isKeeping : Cond) ∈ TBG := tbt_4 (List.mem_of_getElem? (i := 229) rfl) rfl
theorem q705 : (.code yX8_isKeeping cX8_isKeeping 1 (some .boolean) : Cond) ∈ TBG := tbt_4 (List.mem_of_getElem? (i := 230) rfl) rfl
theorem q706 : (.methodLink RX8 65 yX8_first : Cond) ∈ TBG := tbt_4 (List.mem_of_getElem? (i := 231) rfl) rfl
theorem q707 : (.instanceMethod yX8_first : Cond) ∈ TBG := tbt_4 (List.mem_of_getElem? (i := 233) rfl) rfl
theorem q708 : (.code yX8_first cX8_first 4 (some .int) : Cond) ∈ TBG := tbt_4 (List.mem_of_getElem? (i := 234) rfl) rfl
theorem q709 : (.methodLink RX8 61 yX8_isAgainst : Cond) ∈ TBG := tbt_4 (List.mem_of_getElem? (i := 235) rfl) rfl
theorem q710 : (.instanceMethod yX8_isAgainst : Cond) ∈ TBG := tbt_4 (List.mem_of_getElem? (i := 237) rfl) rfl
theorem q711 : (.code yX8_isAgainst cX8_isAgainst 4 (some .boolean) : Cond) ∈ TBG := tbt_4 (List.mem_of_getElem? (i := 238) rfl) rfl
theorem q712 : (.methodLink RL 104 yX8_mend : Cond) ∈ TBG := tbt_4 (List.mem_of_getElem? (i := 239) rfl) rfl
theorem q713 : (.instanceMethod yX8_mend : Cond) ∈ TBG := tbt_5 (List.mem_of_getElem? (i := 0) rfl) rfl
theorem q714 : (.selects RX8 yX8_mend yX8_mend : Cond) ∈ TBG := tbt_5 (List.mem_of_getElem? (i := 1) rfl) rfl
theorem q715 : (.code yX8_mend cX8_mend 4 (some .int) : Cond) ∈ TBG := tbt_5 (List.mem_of_getElem? (i := 2) rfl) rfl
theorem q716 : (.methodLink RL 108 yX8_find : Cond) ∈ TBG := tbt_5 (List.mem_of_getElem? (i := 3) rfl) rfl
theorem q717 : (.instanceMethod yX8_find : Cond) ∈ TBG := tbt_5 (List.mem_of_getElem? (i := 4) rfl) rfl
theorem q718 : (.selects RX8 yX8_find yX8_find : Cond) ∈ TBG := tbt_5 (List.mem_of_getElem? (i := 5) rfl) rfl
theorem q719 : (.code yX8_find cX8_find 2 (some .int) : Cond) ∈ TBG := tbt_5 (List.mem_of_getElem? (i := 6) rfl) rfl
theorem q720 : (.methodLink RX8 116 yX8_canGo : Cond) ∈ TBG := tbt_5 (List.mem_of_getElem? (i := 7) rfl) rfl
theorem q721 : (.instanceMethod yX8_canGo : Cond) ∈ TBG := tbt_5 (List.mem_of_getElem? (i := 9) rfl) rfl
theorem q722 : (.code yX8_canGo cX8_canGo 2 (some .boolean) : Cond) ∈ TBG := tbt_5 (List.mem_of_getElem? (i := 10) rfl) rfl
theorem q723 : (.methodLink RX8 120 yX8_finds : Cond) ∈ TBG := tbt_5 (List.mem_of_getElem? (i := 11) rfl) rfl
theorem q724 : (.instanceMethod yX8_finds : Cond) ∈ TBG := tbt_5 (List.mem_of_getElem? (i := 13) rfl) rfl
theorem q725 : (.code yX8_finds cX8_finds 2 none : Cond) ∈ TBG := tbt_5 (List.mem_of_getElem? (i := 14) rfl) rfl
theorem q726 : (.methodLink RX8 103 yX8_byAll : Cond) ∈ TBG := tbt_5 (List.mem_of_getElem? (i := 15) rfl) rfl
theorem q727 : (.instanceMethod yX8_byAll : Cond) ∈ TBG := tbt_5 (List.mem_of_getElem? (i := 17) rfl) rfl
theorem q728 : (.code yX8_byAll cX8_byAll 2 none : Cond) ∈ TBG := tbt_5 (List.mem_of_getElem? (i := 18) rfl) rfl
theorem q729 : (.methodLink RX8 72 yX8_least : Cond) ∈ TBG := tbt_5 (List.mem_of_getElem? (i := 19) rfl) rfl
theorem q730 : (.instanceMethod yX8_least : Cond) ∈ TBG := tbt_5 (List.mem_of_getElem? (i := 21) rfl) rfl
theorem q731 : (.code yX8_least cX8_least 6 (some .int) : Cond) ∈ TBG := tbt_5 (List.mem_of_getElem? (i := 22) rfl) rfl
theorem q732 : (.methodLink RX8 106 yX8_byHalves : Cond) ∈ TBG := tbt_5 (List.mem_of_getElem? (i := 23) rfl) rfl
theorem q733 : (.instanceMethod yX8_byHalves : Cond) ∈ TBG := tbt_5 (List.mem_of_getElem? (i := 25) rfl) rfl
theorem q734 : (.code yX8_byHalves cX8_byHalves 6 none : Cond) ∈ TBG := tbt_5 (List.mem_of_getElem? (i := 26) rfl) rfl
theorem q735 : (.methodLink RX8 79 yX8_opens : Cond) ∈ TBG := tbt_5 (List.mem_of_getElem? (i := 27) rfl) rfl
theorem q736 : (.instanceMethod yX8_opens : Cond) ∈ TBG := tbt_5 (List.mem_of_getElem? (i := 29) rfl) rfl
theorem q737 : (.code yX8_opens cX8_opens 5 none : Cond) ∈ TBG := tbt_5 (List.mem_of_getElem? (i := 30) rfl) rfl
theorem q738 : (.methodLink RX8 109 yX8_byThrowing : Cond) ∈ TBG := tbt_5 (List.mem_of_getElem? (i := 31) rfl) rfl
theorem q739 : (.instanceMethod yX8_byThrowing : Cond) ∈ TBG := tbt_5 (List.mem_of_getElem? (i := 33) rfl) rfl
theorem q740 : (.code yX8_byThrowing cX8_byThrowing 2 none : Cond) ∈ TBG := tbt_5 (List.mem_of_getElem? (i := 34) rfl) rfl
theorem q741 : (.methodLink RX8 96 yX8_throwsOut : Cond) ∈ TBG := tbt_5 (List.mem_of_getElem? (i := 35) rfl) rfl
theorem q742 : (.instanceMethod yX8_throwsOut : Cond) ∈ TBG := tbt_5 (List.mem_of_getElem? (i := 37) rfl) rfl
theorem q743 : (.code yX8_throwsOut cX8_throwsOut 5 none : Cond) ∈ TBG := tbt_5 (List.mem_of_getElem? (i := 38) rfl) rfl
theorem q744 : (.methodLink RX8 86 yX8_piles : Cond) ∈ TBG := tbt_5 (List.mem_of_getElem? (i := 39) rfl) rfl
theorem q745 : (.instanceMethod yX8_piles : Cond) ∈ TBG := tbt_5 (List.mem_of_getElem? (i := 41) rfl) rfl
theorem q746 : (.code yX8_piles cX8_piles 8 (some .int) : Cond) ∈ TBG := tbt_5 (List.mem_of_getElem? (i := 42) rfl) rfl
theorem q747 : (.methodLink RX8 83 yX8_rowAt : Cond) ∈ TBG := tbt_5 (List.mem_of_getElem? (i := 43) rfl) rfl
theorem q748 : (.static yX8_rowAt : Cond) ∈ TBG := tbt_5 (List.mem_of_getElem? (i := 44) rfl) rfl
theorem q749 : (.code yX8_rowAt cX8_rowAt 2 (some .int) : Cond) ∈ TBG := tbt_5 (List.mem_of_getElem? (i := 45) rfl) rfl
theorem q750 : (.methodLink RX8 100 yX8_fills : Cond) ∈ TBG := tbt_5 (List.mem_of_getElem? (i := 46) rfl) rfl
theorem q751 : (.instanceMethod yX8_fills : Cond) ∈ TBG := tbt_5 (List.mem_of_getElem? (i := 48) rfl) rfl
theorem q752 : (.code yX8_fills cX8_fills 7 none : Cond) ∈ TBG := tbt_5 (List.mem_of_getElem? (i := 49) rfl) rfl
theorem q753 : (.methodLink RX8 92 yX8_leastLeft : Cond) ∈ TBG := tbt_5 (List.mem_of_getElem? (i := 50) rfl) rfl
theorem q754 : (.instanceMethod yX8_leastLeft : Cond) ∈ TBG := tbt_5 (List.mem_of_getElem? (i := 52) rfl) rfl
theorem q755 : (.code yX8_leastLeft cX8_leastLeft 8 (some .int) : Cond) ∈ TBG := tbt_5 (List.mem_of_getElem? (i := 53) rfl) rfl
theorem q756 : (.methodLink RL 111 yX8_weigh : Cond) ∈ TBG := tbt_5 (List.mem_of_getElem? (i := 54) rfl) rfl
theorem q757 : (.instanceMethod yX8_weigh : Cond) ∈ TBG := tbt_5 (List.mem_of_getElem? (i := 55) rfl) rfl
theorem q758 : (.selects RX8 yX8_weigh yX8_weigh : Cond) ∈ TBG := tbt_5 (List.mem_of_getElem? (i := 56) rfl) rfl
theorem q759 : (.code yX8_weigh cX8_weigh 2 (some .int) : Cond) ∈ TBG := tbt_5 (List.mem_of_getElem? (i := 57) rfl) rfl
theorem q760 : (.methodLink RL 115 yX8_unweigh : Cond) ∈ TBG := tbt_5 (List.mem_of_getElem? (i := 58) rfl) rfl
theorem q761 : (.instanceMethod yX8_unweigh : Cond) ∈ TBG := tbt_5 (List.mem_of_getElem? (i := 59) rfl) rfl
theorem q762 : (.selects RX8 yX8_unweigh yX8_unweigh : Cond) ∈ TBG := tbt_5 (List.mem_of_getElem? (i := 60) rfl) rfl
theorem q763 : (.code yX8_unweigh cX8_unweigh 2 (some .int) : Cond) ∈ TBG := tbt_5 (List.mem_of_getElem? (i := 61) rfl) rfl
theorem q764 : (.methodLink RL 118 yX8_append : Cond) ∈ TBG := tbt_5 (List.mem_of_getElem? (i := 62) rfl) rfl
theorem q765 : (.instanceMethod yX8_append : Cond) ∈ TBG := tbt_5 (List.mem_of_getElem? (i := 63) rfl) rfl
theorem q766 : (.selects RX8 yX8_append yX8_append : Cond) ∈ TBG := tbt_5 (List.mem_of_getElem? (i := 64) rfl) rfl
theorem q767 : (.code yX8_append cX8_append 2 (some .int) : Cond) ∈ TBG := tbt_5 (List.mem_of_getElem? (i := 65) rfl) rfl
theorem q768 : (.methodLink RL 122 yX8_clearBuffer : Cond) ∈ TBG := tbt_5 (List.mem_of_getElem? (i := 66) rfl) rfl
theorem q769 : (.instanceMethod yX8_clearBuffer : Cond) ∈ TBG := tbt_5 (List.mem_of_getElem? (i := 67) rfl) rfl
theorem q770 : (.selects RX8 yX8_clearBuffer yX8_clearBuffer : Cond) ∈ TBG := tbt_5 (List.mem_of_getElem? (i := 68) rfl) rfl
theorem q771 : (.code yX8_clearBuffer cX8_clearBuffer 2 (some .int) : Cond) ∈ TBG := tbt_5 (List.mem_of_getElem? (i := 69) rfl) rfl
theorem q772 : (.methodLink RL 126 yX8_firstError : Cond) ∈ TBG := tbt_5 (List.mem_of_getElem? (i := 70) rfl) rfl
theorem q773 : (.instanceMethod yX8_firstError : Cond) ∈ TBG := tbt_5 (List.mem_of_getElem? (i := 71) rfl) rfl
theorem q774 : (.selects RX8 yX8_firstError yX8_firstError : Cond) ∈ TBG := tbt_5 (List.mem_of_getElem? (i := 72) rfl) rfl
theorem q775 : (.code yX8_firstError cX8_firstError 1 (some .int) : Cond) ∈ TBG := tbt_5 (List.mem_of_getElem? (i := 73) rfl) rfl
theorem q776 : (.methodLink RX8 165 yX8_isWhole : Cond) ∈ TBG := tbt_5 (List.mem_of_getElem? (i := 74) rfl) rfl
theorem q777 : (.instanceMethod yX8_isWhole : Cond) ∈ TBG := tbt_5 (List.mem_of_getElem? (i := 76) rfl) rfl
theorem q778 : (.code yX8_isWhole cX8_isWhole 3 (some .boolean) : Cond) ∈ TBG := tbt_5 (List.mem_of_getElem? (i := 77) rfl) rfl
theorem q779 : (.methodLink RX8 162 yX8_isLine : Cond) ∈ TBG := tbt_5 (List.mem_of_getElem? (i := 78) rfl) rfl
theorem q780 : (.instanceMethod yX8_isLine : Cond) ∈ TBG := tbt_5 (List.mem_of_getElem? (i := 80) rfl) rfl
theorem q781 : (.code yX8_isLine cX8_isLine 5 (some .int) : Cond) ∈ TBG := tbt_5 (List.mem_of_getElem? (i := 81) rfl) rfl
theorem q782 : (.methodLink RX8 153 yX8_isNumber : Cond) ∈ TBG := tbt_5 (List.mem_of_getElem? (i := 82) rfl) rfl
theorem q783 : (.instanceMethod yX8_isNumber : Cond) ∈ TBG := tbt_5 (List.mem_of_getElem? (i := 84) rfl) rfl
theorem q784 : (.code yX8_isNumber cX8_isNumber 4 (some .boolean) : Cond) ∈ TBG := tbt_5 (List.mem_of_getElem? (i := 85) rfl) rfl
theorem q785 : (.methodLink RX8 147 yX8_sees : Cond) ∈ TBG := tbt_5 (List.mem_of_getElem? (i := 86) rfl) rfl
theorem q786 : (.instanceMethod yX8_sees : Cond) ∈ TBG := tbt_5 (List.mem_of_getElem? (i := 88) rfl) rfl
theorem q787 : (.code yX8_sees cX8_sees 3 (some .boolean) : Cond) ∈ TBG := tbt_5 (List.mem_of_getElem? (i := 89) rfl) rfl
theorem q788 : (.methodLink RX8 156 yX8_takes : Cond) ∈ TBG := tbt_5 (List.mem_of_getElem? (i := 90) rfl) rfl
theorem q789 : (.instanceMethod yX8_takes : Cond) ∈ TBG := tbt_5 (List.mem_of_getElem? (i := 92) rfl) rfl
theorem q790 : (.code yX8_takes cX8_takes 3 (some .boolean) : Cond) ∈ TBG := tbt_5 (List.mem_of_getElem? (i := 93) rfl) rfl
theorem q791 : (.methodLink RL 129 yX8_load : Cond) ∈ TBG := tbt_5 (List.mem_of_getElem? (i := 94) rfl) rfl
theorem q792 : (.instanceMethod yX8_load : Cond) ∈ TBG := tbt_5 (List.mem_of_getElem? (i := 95) rfl) rfl
theorem q793 : (.selects RX8 yX8_load yX8_load : Cond) ∈ TBG := tbt_5 (List.mem_of_getElem? (i := 96) rfl) rfl
theorem q794 : (.code yX8_load cX8_load 2 (some .int) : Cond) ∈ TBG := tbt_5 (List.mem_of_getElem? (i := 97) rfl) rfl
theorem q795 : (.methodLink RL 132 yX8_keep : Cond) ∈ TBG := tbt_5 (List.mem_of_getElem? (i := 98) rfl) rfl
theorem q796 : (.instanceMethod yX8_keep : Cond) ∈ TBG := tbt_5 (List.mem_of_getElem? (i := 99) rfl) rfl
theorem q797 : (.selects RX8 yX8_keep yX8_keep : Cond) ∈ TBG := tbt_5 (List.mem_of_getElem? (i := 100) rfl) rfl
theorem q798 : (.code yX8_keep cX8_keep 2 (some .int) : Cond) ∈ TBG := tbt_5 (List.mem_of_getElem? (i := 101) rfl) rfl
theorem q799 : (.methodLink RL 135 yX8_goBack : Cond) ∈ TBG := tbt_5 (List.mem_of_getElem? (i := 102) rfl) rfl
theorem q800 : (.instanceMethod yX8_goBack : Cond) ∈ TBG := tbt_5 (List.mem_of_getElem? (i := 103) rfl) rfl
theorem q801 : (.selects RX8 yX8_goBack yX8_goBack : Cond) ∈ TBG := tbt_5 (List.mem_of_getElem? (i := 104) rfl) rfl
theorem q802 : (.code yX8_goBack cX8_goBack 2 (some .int) : Cond) ∈ TBG := tbt_5 (List.mem_of_getElem? (i := 105) rfl) rfl
theorem q803 : (.methodLink RL 138 yX8_undo : Cond) ∈ TBG := tbt_5 (List.mem_of_getElem? (i := 106) rfl) rfl
theorem q804 : (.instanceMethod yX8_undo : Cond) ∈ TBG := tbt_5 (List.mem_of_getElem? (i := 107) rfl) rfl
theorem q805 : (.selects RX8 yX8_undo yX8_undo : Cond) ∈ TBG := tbt_5 (List.mem_of_getElem? (i := 108) rfl) rfl
theorem q806 : (.code yX8_undo cX8_undo 1 (some .int) : Cond) ∈ TBG := tbt_5 (List.mem_of_getElem? (i := 109) rfl) rfl
theorem q807 : (.methodLink RL 141 yX8_cell : Cond) ∈ TBG := tbt_5 (List.mem_of_getElem? (i := 110) rfl) rfl
theorem q808 : (.instanceMethod yX8_cell : Cond) ∈ TBG := tbt_5 (List.mem_of_getElem? (i := 111) rfl) rfl
theorem q809 : (.selects RX8 yX8_cell yX8_cell : Cond) ∈ TBG := tbt_5 (List.mem_of_getElem? (i := 112) rfl) rfl
theorem q810 : (.code yX8_cell cX8_cell 3 (some .int) : Cond) ∈ TBG := tbt_5 (List.mem_of_getElem? (i := 113) rfl) rfl
theorem q811 : (.methodLink RL 144 yX8_place : Cond) ∈ TBG := tbt_5 (List.mem_of_getElem? (i := 114) rfl) rfl
theorem q812 : (.instanceMethod yX8_place : Cond) ∈ TBG := tbt_5 (List.mem_of_getElem? (i := 115) rfl) rfl
theorem q813 : (.selects RX8 yX8_place yX8_place : Cond) ∈ TBG := tbt_5 (List.mem_of_getElem? (i := 116) rfl) rfl
theorem q814 : (.code yX8_place cX8_place 3 (some .int) : Cond) ∈ TBG := tbt_5 (List.mem_of_getElem? (i := 117) rfl) rfl
theorem q815 : (.methodLink RX8 168 yX8_placeBy : Cond) ∈ TBG := tbt_5 (List.mem_of_getElem? (i := 118) rfl) rfl
theorem q816 : (.instanceMethod yX8_placeBy : Cond) ∈ TBG := tbt_5 (List.mem_of_getElem? (i := 120) rfl) rfl
theorem q817 : (.code yX8_placeBy cX8_placeBy 3 (some .int) : Cond) ∈ TBG := tbt_5 (List.mem_of_getElem? (i := 121) rfl) rfl
theorem q818 : (.methodLink RL 147 yX8_looks : Cond) ∈ TBG := tbt_5 (List.mem_of_getElem? (i := 122) rfl) rfl
theorem q819 : (.instanceMethod yX8_looks : Cond) ∈ TBG := tbt_5 (List.mem_of_getElem? (i := 123) rfl) rfl
theorem q820 : (.selects RX8 yX8_looks yX8_looks : Cond) ∈ TBG := tbt_5 (List.mem_of_getElem? (i := 124) rfl) rfl
theorem q821 : (.code yX8_looks cX8_looks 2 (some .int) : Cond) ∈ TBG := tbt_5 (List.mem_of_getElem? (i := 125) rfl) rfl
theorem q822 : (.methodLink RX8 171 yX8_looksBy : Cond) ∈ TBG := tbt_5 (List.mem_of_getElem? (i := 126) rfl) rfl
theorem q823 : (.instanceMethod yX8_looksBy : Cond) ∈ TBG := tbt_5 (List.mem_of_getElem? (i := 128) rfl) rfl
theorem q824 : (.code yX8_looksBy cX8_looksBy 2 (some .int) : Cond) ∈ TBG := tbt_5 (List.mem_of_getElem? (i := 129) rfl) rfl
theorem q825 : (.methodLink RL 151 yX8_bound : Cond) ∈ TBG := tbt_5 (List.mem_of_getElem? (i := 130) rfl) rfl
theorem q826 : (.instanceMethod yX8_bound : Cond) ∈ TBG := tbt_5 (List.mem_of_getElem? (i := 131) rfl) rfl
theorem q827 : (.selects RX8 yX8_bound yX8_bound : Cond) ∈ TBG := tbt_5 (List.mem_of_getElem? (i := 132) rfl) rfl
theorem q828 : (.code yX8_bound cX8_bound 1 (some .int) : Cond) ∈ TBG := tbt_5 (List.mem_of_getElem? (i := 133) rfl) rfl
theorem q829 : (.methodLink RX8 174 yX8_bounds : Cond) ∈ TBG := tbt_5 (List.mem_of_getElem? (i := 134) rfl) rfl
theorem q830 : (.instanceMethod yX8_bounds : Cond) ∈ TBG := tbt_5 (List.mem_of_getElem? (i := 136) rfl) rfl
theorem q831 : (.code yX8_bounds cX8_bounds 3 (some .int) : Cond) ∈ TBG := tbt_5 (List.mem_of_getElem? (i := 137) rfl) rfl
theorem q832 : (.methodLink RL 154 yX8_witness : Cond) ∈ TBG := tbt_5 (List.mem_of_getElem? (i := 138) rfl) rfl
theorem q833 : (.instanceMethod yX8_witness : Cond) ∈ TBG := tbt_5 (List.mem_of_getElem? (i := 139) rfl) rfl
theorem q834 : (.selects RX8 yX8_witness yX8_witness : Cond) ∈ TBG := tbt_5 (List.mem_of_getElem? (i := 140) rfl) rfl
theorem q835 : (.code yX8_witness cX8_witness 2 (some .int) : Cond) ∈ TBG := tbt_5 (List.mem_of_getElem? (i := 141) rfl) rfl
theorem q836 : (.methodLink RX8 180 yX8_testified : Cond) ∈ TBG := tbt_5 (List.mem_of_getElem? (i := 142) rfl) rfl
theorem q837 : (.instanceMethod yX8_testified : Cond) ∈ TBG := tbt_5 (List.mem_of_getElem? (i := 144) rfl) rfl
theorem q838 : (.code yX8_testified cX8_testified 3 (some .int) : Cond) ∈ TBG := tbt_5 (List.mem_of_getElem? (i := 145) rfl) rfl
theorem q839 : (.methodLink RX8 177 yX8_witnesses : Cond) ∈ TBG := tbt_5 (List.mem_of_getElem? (i := 146) rfl) rfl
theorem q840 : (.instanceMethod yX8_witnesses : Cond) ∈ TBG := tbt_5 (List.mem_of_getElem? (i := 148) rfl) rfl
theorem q841 : (.code yX8_witnesses cX8_witnesses 5 (some .int) : Cond) ∈ TBG := tbt_5 (List.mem_of_getElem? (i := 149) rfl) rfl
theorem q842 : (.methodLink RL 157 yX8_count : Cond) ∈ TBG := tbt_5 (List.mem_of_getElem? (i := 150) rfl) rfl
theorem q843 : (.instanceMethod yX8_count : Cond) ∈ TBG := tbt_5 (List.mem_of_getElem? (i := 151) rfl) rfl
theorem q844 : (.selects RX8 yX8_count yX8_count : Cond) ∈ TBG := tbt_5 (List.mem_of_getElem? (i := 152) rfl) rfl
theorem q845 : (.code yX8_count cX8_count 2 (some .int) : Cond) ∈ TBG := tbt_5 (List.mem_of_getElem? (i := 153) rfl) rfl
theorem q846 : (.methodLink RX8 189 yX8_counted : Cond) ∈ TBG := tbt_5 (List.mem_of_getElem? (i := 154) rfl) rfl
theorem q847 : (.instanceMethod yX8_counted : Cond) ∈ TBG := tbt_5 (List.mem_of_getElem? (i := 156) rfl) rfl
theorem q848 : (.code yX8_counted cX8_counted 2 (some .int) : Cond) ∈ TBG := tbt_5 (List.mem_of_getElem? (i := 157) rfl) rfl
theorem q849 : (.methodLink RX8 183 yX8_weighs : Cond) ∈ TBG := tbt_5 (List.mem_of_getElem? (i := 158) rfl) rfl
theorem q850 : (.instanceMethod yX8_weighs : Cond) ∈ TBG := tbt_5 (List.mem_of_getElem? (i := 160) rfl) rfl
theorem q851 : (.code yX8_weighs cX8_weighs 5 (some .int) : Cond) ∈ TBG := tbt_5 (List.mem_of_getElem? (i := 161) rfl) rfl
theorem q852 : (.methodLink RX8 186 yX8_goingBack : Cond) ∈ TBG := tbt_5 (List.mem_of_getElem? (i := 162) rfl) rfl
theorem q853 : (.instanceMethod yX8_goingBack : Cond) ∈ TBG := tbt_5 (List.mem_of_getElem? (i := 164) rfl) rfl
theorem q854 : (.code yX8_goingBack cX8_goingBack 3 (some .int) : Cond) ∈ TBG := tbt_5 (List.mem_of_getElem? (i := 165) rfl) rfl
theorem q855 : (.methodLink RL 160 yX8_weight : Cond) ∈ TBG := tbt_5 (List.mem_of_getElem? (i := 166) rfl) rfl
theorem q856 : (.instanceMethod yX8_weight : Cond) ∈ TBG := tbt_5 (List.mem_of_getElem? (i := 167) rfl) rfl
theorem q857 : (.selects RX8 yX8_weight yX8_weight : Cond) ∈ TBG := tbt_5 (List.mem_of_getElem? (i := 168) rfl) rfl
theorem q858 : (.code yX8_weight cX8_weight 2 (some .int) : Cond) ∈ TBG := tbt_5 (List.mem_of_getElem? (i := 169) rfl) rfl
theorem q859 : (.methodLink RL 163 yX8_cost : Cond) ∈ TBG := tbt_5 (List.mem_of_getElem? (i := 170) rfl) rfl
theorem q860 : (.instanceMethod yX8_cost : Cond) ∈ TBG := tbt_5 (List.mem_of_getElem? (i := 171) rfl) rfl
theorem q861 : (.selects RX8 yX8_cost yX8_cost : Cond) ∈ TBG := tbt_5 (List.mem_of_getElem? (i := 172) rfl) rfl
theorem q862 : (.code yX8_cost cX8_cost 3 (some .int) : Cond) ∈ TBG := tbt_5 (List.mem_of_getElem? (i := 173) rfl) rfl
theorem q863 : (.methodLink RX8 199 yX8_isParts : Cond) ∈ TBG := tbt_5 (List.mem_of_getElem? (i := 174) rfl) rfl
theorem q864 : (.instanceMethod yX8_isParts : Cond) ∈ TBG := tbt_5 (List.mem_of_getElem? (i := 176) rfl) rfl
theorem q865 : (.code yX8_isParts cX8_isParts 2 (some .boolean) : Cond) ∈ TBG := tbt_5 (List.mem_of_getElem? (i := 177) rfl) rfl
theorem q866 : (.methodLink RX8 202 yX8_leastCost : Cond) ∈ TBG := tbt_5 (List.mem_of_getElem? (i := 178) rfl) rfl
theorem q867 : (.instanceMethod yX8_leastCost : Cond) ∈ TBG := tbt_5 (List.mem_of_getElem? (i := 180) rfl) rfl
theorem q868 : (.code yX8_leastCost cX8_leastCost 2 (some .int) : Cond) ∈ TBG := tbt_5 (List.mem_of_getElem? (i := 181) rfl) rfl
theorem q869 : (.methodLink RX8 196 yX8_cuts : Cond) ∈ TBG := tbt_5 (List.mem_of_getElem? (i := 182) rfl) rfl
theorem q870 : (.instanceMethod yX8_cuts : Cond) ∈ TBG := tbt_5 (List.mem_of_getElem? (i := 184) rfl) rfl
theorem q871 : (.code yX8_cuts cX8_cuts 3 none : Cond) ∈ TBG := tbt_5 (List.mem_of_getElem? (i := 185) rfl) rfl
theorem q872 : (.methodLink RX8 192 yX8_part : Cond) ∈ TBG := tbt_5 (List.mem_of_getElem? (i := 186) rfl) rfl
theorem q873 : (.instanceMethod yX8_part : Cond) ∈ TBG := tbt_5 (List.mem_of_getElem? (i := 188) rfl) rfl
theorem q874 : (.code yX8_part cX8_part 8 none : Cond) ∈ TBG := tbt_5 (List.mem_of_getElem? (i := 189) rfl) rfl
theorem q875 : (.methodLink RL 166 yX8_cut : Cond) ∈ TBG := tbt_5 (List.mem_of_getElem? (i := 190) rfl) rfl
theorem q876 : (.instanceMethod yX8_cut : Cond) ∈ TBG := tbt_5 (List.mem_of_getElem? (i := 191) rfl) rfl
theorem q877 : (.selects RX8 yX8_cut yX8_cut : Cond) ∈ TBG := tbt_5 (List.mem_of_getElem? (i := 192) rfl) rfl
theorem q878 : (.code yX8_cut cX8_cut 3 (some .int) : Cond) ∈ TBG := tbt_5 (List.mem_of_getElem? (i := 193) rfl) rfl
theorem q879 : (.methodLink RX8 205 yX8_cutAt : Cond) ∈ TBG := tbt_5 (List.mem_of_getElem? (i := 194) rfl) rfl
theorem q880 : (.instanceMethod yX8_cutAt : Cond) ∈ TBG := tbt_5 (List.mem_of_getElem? (i := 196) rfl) rfl
theorem q881 : (.code yX8_cutAt cX8_cutAt 5 (some .int) : Cond) ∈ TBG := tbt_5 (List.mem_of_getElem? (i := 197) rfl) rfl
theorem q882 : (.methodLink RL 169 yX8_fewestParts : Cond) ∈ TBG := tbt_5 (List.mem_of_getElem? (i := 198) rfl) rfl
theorem q883 : (.instanceMethod yX8_fewestParts : Cond) ∈ TBG := tbt_5 (List.mem_of_getElem? (i := 199) rfl) rfl
theorem q884 : (.selects RX8 yX8_fewestParts yX8_fewestParts : Cond) ∈ TBG := tbt_5 (List.mem_of_getElem? (i := 200) rfl) rfl
theorem q885 : (.code yX8_fewestParts cX8_fewestParts 2 (some .int) : Cond) ∈ TBG := tbt_5 (List.mem_of_getElem? (i := 201) rfl) rfl
theorem q886 : (.constant RX8 208 (999999) : Cond) ∈ TBG := tbt_5 (List.mem_of_getElem? (i := 202) rfl) rfl
theorem q887 : (.methodLink RX8 209 yX8_fewest : Cond) ∈ TBG := tbt_5 (List.mem_of_getElem? (i := 203) rfl) rfl
theorem q888 : (.instanceMethod yX8_fewest : Cond) ∈ TBG := tbt_5 (List.mem_of_getElem? (i := 205) rfl) rfl
theorem q889 : (.code yX8_fewest cX8_fewest 3 (some .int) : Cond) ∈ TBG := tbt_5 (List.mem_of_getElem? (i := 206) rfl) rfl
theorem q890 : (.methodLink RL 174 yX8_halfShare : Cond) ∈ TBG := tbt_5 (List.mem_of_getElem? (i := 207) rfl) rfl
theorem q891 : (.instanceMethod yX8_halfShare : Cond) ∈ TBG := tbt_5 (List.mem_of_getElem? (i := 208) rfl) rfl
theorem q892 : (.selects RX8 yX8_halfShare yX8_halfShare : Cond) ∈ TBG := tbt_5 (List.mem_of_getElem? (i := 209) rfl) rfl
theorem q893 : (.code yX8_halfShare cX8_halfShare 1 (some .double) : Cond) ∈ TBG := tbt_5 (List.mem_of_getElem? (i := 210) rfl) rfl
theorem q894 : (.methodLink RX8 212 yX8_share : Cond) ∈ TBG := tbt_5 (List.mem_of_getElem? (i := 211) rfl) rfl
theorem q895 : (.instanceMethod yX8_share : Cond) ∈ TBG := tbt_5 (List.mem_of_getElem? (i := 213) rfl) rfl
theorem q896 : (.code yX8_share cX8_share 4 (some .double) : Cond) ∈ TBG := tbt_5 (List.mem_of_getElem? (i := 214) rfl) rfl
theorem q897 : (.methodLink RL 179 yX8_digest : Cond) ∈ TBG := tbt_5 (List.mem_of_getElem? (i := 215) rfl) rfl
theorem q898 : (.instanceMethod yX8_digest : Cond) ∈ TBG := tbt_5 (List.mem_of_getElem? (i := 216) rfl) rfl
theorem q899 : (.selects RX8 yX8_digest yX8_digest : Cond) ∈ TBG := tbt_5 (List.mem_of_getElem? (i := 217) rfl) rfl
theorem q900 : (.code yX8_digest cX8_digest 2 (some .long) : Cond) ∈ TBG := tbt_5 (List.mem_of_getElem? (i := 218) rfl) rfl
theorem q901 : (.constantLong RX8 226 (3613) : Cond) ∈ TBG := tbt_5 (List.mem_of_getElem? (i := 219) rfl) rfl
theorem q902 : (.methodLink RX8 222 yX8_mixes : Cond) ∈ TBG := tbt_5 (List.mem_of_getElem? (i := 220) rfl) rfl
theorem q903 : (.instanceMethod yX8_mixes : Cond) ∈ TBG := tbt_5 (List.mem_of_getElem? (i := 222) rfl) rfl
theorem q904 : (.code yX8_mixes cX8_mixes 3 none : Cond) ∈ TBG := tbt_5 (List.mem_of_getElem? (i := 223) rfl) rfl
theorem q905 : (.constantLong RX8 216 (31) : Cond) ∈ TBG := tbt_5 (List.mem_of_getElem? (i := 224) rfl) rfl
theorem q906 : (.methodLink RX8 228 yX8_mixesTable : Cond) ∈ TBG := tbt_5 (List.mem_of_getElem? (i := 225) rfl) rfl
theorem q907 : (.instanceMethod yX8_mixesTable : Cond) ∈ TBG := tbt_5 (List.mem_of_getElem? (i := 227) rfl) rfl
theorem q908 : (.code yX8_mixesTable cX8_mixesTable 2 none : Cond) ∈ TBG := tbt_5 (List.mem_of_getElem? (i := 228) rfl) rfl
theorem q909 : (.methodLink RX8 231 yX8_mixesCuts : Cond) ∈ TBG := tbt_5 (List.mem_of_getElem? (i := 229) rfl) rfl
theorem q910 : (.instanceMethod yX8_mixesCuts : Cond) ∈ TBG := tbt_5 (List.mem_of_getElem? (i := 231) rfl) rfl
theorem q911 : (.code yX8_mixesCuts cX8_mixesCuts 3 none : Cond) ∈ TBG := tbt_5 (List.mem_of_getElem? (i := 232) rfl) rfl
theorem q912 : (.methodLink RX8 234 yJxe99ae_doubleToLongBits_ccdee : Cond) ∈ TBG := tbt_5 (List.mem_of_getElem? (i := 233) rfl) rfl
theorem q913 : (.static yJxe99ae_doubleToLongBits_ccdee : Cond) ∈ TBG := tbt_5 (List.mem_of_getElem? (i := 234) rfl) rfl
theorem q914 : (.code yJxe99ae_doubleToLongBits_ccdee cJxe99ae_doubleToLongBits_ccdee 2 (some .long) : Cond) ∈ TBG := tbt_5 (List.mem_of_getElem? (i := 235) rfl) rfl
theorem q915 : (.methodLink RJxe99ae 122 yJxe99ae_isNaN_b9ae7 : Cond) ∈ TBG := tbt_5 (List.mem_of_getElem? (i := 236) rfl) rfl
theorem q916 : (.static yJxe99ae_isNaN_b9ae7 : Cond) ∈ TBG := tbt_5 (List.mem_of_getElem? (i := 237) rfl) rfl
theorem q917 : (.code yJxe99ae_isNaN_b9ae7 cJxe99ae_isNaN_b9ae7 2 (some .boolean) : Cond) ∈ TBG := tbt_5 (List.mem_of_getElem? (i := 238) rfl) rfl
theorem q918 : (.methodLink RJxe99ae 134 (⟨RJxe99ae, "doubleToRawLongBits", "(D)J"⟩ : MethodName) : Cond) ∈ TBG := tbt_5 (List.mem_of_getElem? (i := 239) rfl) rfl
theorem q919 : (.static (⟨RJxe99ae, "doubleToRawLongBits", "(D)J"⟩ : MethodName) : Cond) ∈ TBG := tbt_6 (List.mem_of_getElem? (i := 0) rfl) rfl
theorem q920 : (.constantLong RJxe99ae 137 (9221120237041090560) : Cond) ∈ TBG := tbt_6 (List.mem_of_getElem? (i := 2) rfl) rfl
theorem q921 : (.arrayClass .long : Cond) ∈ TBG := tbt_6 (List.mem_of_getElem? (i := 3) rfl) rfl
theorem q922 : (.selects RX2 yX2_stateAt yX2_stateAt : Cond) ∈ TBG := tbs (List.mem_of_getElem? (i := 0) rfl) rfl
theorem q923 : (.selects RX3 yX3_isGreater yX3_isGreater : Cond) ∈ TBG := tbs (List.mem_of_getElem? (i := 1) rfl) rfl
theorem q924 : (.selects RX3 yX3_note yX3_note : Cond) ∈ TBG := tbs (List.mem_of_getElem? (i := 2) rfl) rfl
theorem q925 : (.selects RX6 yX6_takes yX6_takes : Cond) ∈ TBG := tbs (List.mem_of_getElem? (i := 3) rfl) rfl
theorem q926 : (.selects RX6 yX6_takesDigit yX6_takesDigit : Cond) ∈ TBG := tbs (List.mem_of_getElem? (i := 4) rfl) rfl
theorem q927 : (.selects RX6 yX6_takesComma yX6_takesComma : Cond) ∈ TBG := tbs (List.mem_of_getElem? (i := 5) rfl) rfl
theorem q928 : (.selects RX6 yX6_takesSlash yX6_takesSlash : Cond) ∈ TBG := tbs (List.mem_of_getElem? (i := 6) rfl) rfl
theorem q929 : (.selects RX6 yX6_isRowFull yX6_isRowFull : Cond) ∈ TBG := tbs (List.mem_of_getElem? (i := 7) rfl) rfl
theorem q930 : (.selects RX1 yX1_leaveAllColumns yX1_leaveAllColumns : Cond) ∈ TBG := tbs (List.mem_of_getElem? (i := 8) rfl) rfl
theorem q931 : (.selects RX1 yX1_leftmostLeast yX1_leftmostLeast : Cond) ∈ TBG := tbs (List.mem_of_getElem? (i := 9) rfl) rfl
theorem q932 : (.selects RX1 yX1_columnLeft yX1_columnLeft : Cond) ∈ TBG := tbs (List.mem_of_getElem? (i := 10) rfl) rfl
theorem q933 : (.selects RX1 yX1_look yX1_look : Cond) ∈ TBG := tbs (List.mem_of_getElem? (i := 11) rfl) rfl
theorem q934 : (.selects RX1 yX1_setPlace yX1_setPlace : Cond) ∈ TBG := tbs (List.mem_of_getElem? (i := 12) rfl) rfl
theorem q935 : (.selects RX1 yX1_pileColumns yX1_pileColumns : Cond) ∈ TBG := tbs (List.mem_of_getElem? (i := 13) rfl) rfl
theorem q936 : (.selects RX1 yX1_rowsAt yX1_rowsAt : Cond) ∈ TBG := tbs (List.mem_of_getElem? (i := 14) rfl) rfl
theorem q937 : (.selects RX1 yX1_heightAfterThrowing yX1_heightAfterThrowing : Cond) ∈ TBG := tbs (List.mem_of_getElem? (i := 15) rfl) rfl
theorem q938 : (.selects RX1 yX1_rowAt yX1_rowAt : Cond) ∈ TBG := tbs (List.mem_of_getElem? (i := 16) rfl) rfl
theorem q939 : (.selects RX1 yX1_fillBetween yX1_fillBetween : Cond) ∈ TBG := tbs (List.mem_of_getElem? (i := 17) rfl) rfl
theorem q940 : (.selects RX1 yX1_lookAtAll yX1_lookAtAll : Cond) ∈ TBG := tbs (List.mem_of_getElem? (i := 18) rfl) rfl
theorem q941 : (.selects RX7 yX7_counted yX7_counted : Cond) ∈ TBG := tbs (List.mem_of_getElem? (i := 19) rfl) rfl
theorem q942 : (.selects RX7 yX7_mixedCells yX7_mixedCells : Cond) ∈ TBG := tbs (List.mem_of_getElem? (i := 20) rfl) rfl
theorem q943 : (.selects RX7 yX7_seekByAllWays yX7_seekByAllWays : Cond) ∈ TBG := tbs (List.mem_of_getElem? (i := 21) rfl) rfl
theorem q944 : (.selects RX7 yX7_mixedPlaces yX7_mixedPlaces : Cond) ∈ TBG := tbs (List.mem_of_getElem? (i := 22) rfl) rfl
theorem q945 : (.selects RX7 yX7_mixedWeights yX7_mixedWeights : Cond) ∈ TBG := tbs (List.mem_of_getElem? (i := 23) rfl) rfl
theorem q946 : (.selects RX0 yX0_planLastCut yX0_planLastCut : Cond) ∈ TBG := tbs (List.mem_of_getElem? (i := 24) rfl) rfl
theorem q947 : (.selects "java/lang/Throwable" (⟨"java/lang/Throwable", "fillInStackTrace", "(I)Ljava/lang/Throwable;"⟩ : MethodName) (⟨"java/lang/Throwable", "fillInStackTrace", "(I)Ljava/lang/Throwable;"⟩ : MethodName) : Cond) ∈ TBG := tbs (List.mem_of_getElem? (i := 25) rfl) rfl
theorem q948 : (.selects RX7 yX7_isOpen yX7_isOpen : Cond) ∈ TBG := tbs (List.mem_of_getElem? (i := 26) rfl) rfl
theorem q949 : (.selects RX7 yX7_slotAt yX7_slotAt : Cond) ∈ TBG := tbs (List.mem_of_getElem? (i := 27) rfl) rfl
theorem q950 : (.selects RX8 yX8_refuses yX8_refuses : Cond) ∈ TBG := tbs (List.mem_of_getElem? (i := 28) rfl) rfl
theorem q951 : (.selects RX8 yX8_saves yX8_saves : Cond) ∈ TBG := tbs (List.mem_of_getElem? (i := 29) rfl) rfl
theorem q952 : (.selects RX8 yX8_isCell yX8_isCell : Cond) ∈ TBG := tbs (List.mem_of_getElem? (i := 30) rfl) rfl
theorem q953 : (.selects RX8 yX8_isRow yX8_isRow : Cond) ∈ TBG := tbs (List.mem_of_getElem? (i := 31) rfl) rfl
theorem q954 : (.selects RX8 yX8_at yX8_at : Cond) ∈ TBG := tbs (List.mem_of_getElem? (i := 32) rfl) rfl
theorem q955 : (.selects RX8 yX8_becomes yX8_becomes : Cond) ∈ TBG := tbs (List.mem_of_getElem? (i := 33) rfl) rfl
theorem q956 : (.selects RX8 yX8_isKeeping yX8_isKeeping : Cond) ∈ TBG := tbs (List.mem_of_getElem? (i := 34) rfl) rfl
theorem q957 : (.selects RX8 yX8_first yX8_first : Cond) ∈ TBG := tbs (List.mem_of_getElem? (i := 35) rfl) rfl
theorem q958 : (.selects RX8 yX8_isAgainst yX8_isAgainst : Cond) ∈ TBG := tbs (List.mem_of_getElem? (i := 36) rfl) rfl
theorem q959 : (.selects RX8 yX8_canGo yX8_canGo : Cond) ∈ TBG := tbs (List.mem_of_getElem? (i := 37) rfl) rfl
theorem q960 : (.selects RX8 yX8_finds yX8_finds : Cond) ∈ TBG := tbs (List.mem_of_getElem? (i := 38) rfl) rfl
theorem q961 : (.selects RX8 yX8_byAll yX8_byAll : Cond) ∈ TBG := tbs (List.mem_of_getElem? (i := 39) rfl) rfl
theorem q962 : (.selects RX8 yX8_least yX8_least : Cond) ∈ TBG := tbs (List.mem_of_getElem? (i := 40) rfl) rfl
theorem q963 : (.selects RX8 yX8_byHalves yX8_byHalves : Cond) ∈ TBG := tbs (List.mem_of_getElem? (i := 41) rfl) rfl
theorem q964 : (.selects RX8 yX8_opens yX8_opens : Cond) ∈ TBG := tbs (List.mem_of_getElem? (i := 42) rfl) rfl
theorem q965 : (.selects RX8 yX8_byThrowing yX8_byThrowing : Cond) ∈ TBG := tbs (List.mem_of_getElem? (i := 43) rfl) rfl
theorem q966 : (.selects RX8 yX8_throwsOut yX8_throwsOut : Cond) ∈ TBG := tbs (List.mem_of_getElem? (i := 44) rfl) rfl
theorem q967 : (.selects RX8 yX8_piles yX8_piles : Cond) ∈ TBG := tbs (List.mem_of_getElem? (i := 45) rfl) rfl
theorem q968 : (.selects RX8 yX8_fills yX8_fills : Cond) ∈ TBG := tbs (List.mem_of_getElem? (i := 46) rfl) rfl
theorem q969 : (.selects RX8 yX8_leastLeft yX8_leastLeft : Cond) ∈ TBG := tbs (List.mem_of_getElem? (i := 47) rfl) rfl
theorem q970 : (.selects RX8 yX8_isWhole yX8_isWhole : Cond) ∈ TBG := tbs (List.mem_of_getElem? (i := 48) rfl) rfl
theorem q971 : (.selects RX8 yX8_isLine yX8_isLine : Cond) ∈ TBG := tbs (List.mem_of_getElem? (i := 49) rfl) rfl
theorem q972 : (.selects RX8 yX8_isNumber yX8_isNumber : Cond) ∈ TBG := tbs (List.mem_of_getElem? (i := 50) rfl) rfl
theorem q973 : (.selects RX8 yX8_sees yX8_sees : Cond) ∈ TBG := tbs (List.mem_of_getElem? (i := 51) rfl) rfl
theorem q974 : (.selects RX8 yX8_takes yX8_takes : Cond) ∈ TBG := tbs (List.mem_of_getElem? (i := 52) rfl) rfl
theorem q975 : (.selects RX8 yX8_placeBy yX8_placeBy : Cond) ∈ TBG := tbs (List.mem_of_getElem? (i := 53) rfl) rfl
theorem q976 : (.selects RX8 yX8_looksBy yX8_looksBy : Cond) ∈ TBG := tbs (List.mem_of_getElem? (i := 54) rfl) rfl
theorem q977 : (.selects RX8 yX8_bounds yX8_bounds : Cond) ∈ TBG := tbs (List.mem_of_getElem? (i := 55) rfl) rfl
theorem q978 : (.selects RX8 yX8_testified yX8_testified : Cond) ∈ TBG := tbs (List.mem_of_getElem? (i := 56) rfl) rfl
theorem q979 : (.selects RX8 yX8_witnesses yX8_witnesses : Cond) ∈ TBG := tbs (List.mem_of_getElem? (i := 57) rfl) rfl
theorem q980 : (.selects RX8 yX8_counted yX8_counted : Cond) ∈ TBG := tbs (List.mem_of_getElem? (i := 58) rfl) rfl
theorem q981 : (.selects RX8 yX8_weighs yX8_weighs : Cond) ∈ TBG := tbs (List.mem_of_getElem? (i := 59) rfl) rfl
theorem q982 : (.selects RX8 yX8_goingBack yX8_goingBack : Cond) ∈ TBG := tbs (List.mem_of_getElem? (i := 60) rfl) rfl
theorem q983 : (.selects RX8 yX8_isParts yX8_isParts : Cond) ∈ TBG := tbs (List.mem_of_getElem? (i := 61) rfl) rfl
theorem q984 : (.selects RX8 yX8_leastCost yX8_leastCost : Cond) ∈ TBG := tbs (List.mem_of_getElem? (i := 62) rfl) rfl
theorem q985 : (.selects RX8 yX8_cuts yX8_cuts : Cond) ∈ TBG := tbs (List.mem_of_getElem? (i := 63) rfl) rfl
theorem q986 : (.selects RX8 yX8_part yX8_part : Cond) ∈ TBG := tbs (List.mem_of_getElem? (i := 64) rfl) rfl
theorem q987 : (.selects RX8 yX8_cutAt yX8_cutAt : Cond) ∈ TBG := tbs (List.mem_of_getElem? (i := 65) rfl) rfl
theorem q988 : (.selects RX8 yX8_fewest yX8_fewest : Cond) ∈ TBG := tbs (List.mem_of_getElem? (i := 66) rfl) rfl
theorem q989 : (.selects RX8 yX8_share yX8_share : Cond) ∈ TBG := tbs (List.mem_of_getElem? (i := 67) rfl) rfl
theorem q990 : (.selects RX8 yX8_mixes yX8_mixes : Cond) ∈ TBG := tbs (List.mem_of_getElem? (i := 68) rfl) rfl
theorem q991 : (.selects RX8 yX8_mixesTable yX8_mixesTable : Cond) ∈ TBG := tbs (List.mem_of_getElem? (i := 69) rfl) rfl
theorem q992 : (.selects RX8 yX8_mixesCuts yX8_mixesCuts : Cond) ∈ TBG := tbs (List.mem_of_getElem? (i := 70) rfl) rfl
def NWL : List Cond := [.methodLinkNest RX5 37 yX7_setIn RX7, .methodLinkNest RX7 41 yX6_init RX7, .methodLinkNest RX7 55 yX4_init RX7, .methodLinkNest RX5 53 yX7_copyAll RX7, .methodLinkNest RX6 41 yX7_numberIn RX7, .methodLinkNest RX6 61 yX7_isFromTo RX7, .methodLinkNest RX6 37 yX7_setIn RX7, .methodLinkNest RX1 60 yX7_setIn RX7, .methodLinkNest RX1 64 yX7_numberIn RX7, .methodLinkNest RX1 100 yX7_isFromTo RX7, .methodLinkNest RX5 45 yX7_numberIn RX7, .methodLinkNest RX0 38 yX7_setIn RX7, .methodLinkNest RX0 46 yX7_numberIn RX7, .methodLinkNest RX5 41 yX7_isFromTo RX7]
theorem NWL_in : ∀ w ∈ NWL, w ∈ lw_tbl := List.forall_mem_cons.mpr ⟨q32, List.forall_mem_cons.mpr ⟨q96, List.forall_mem_cons.mpr ⟨q123, List.forall_mem_cons.mpr ⟨q156, List.forall_mem_cons.mpr ⟨q198, List.forall_mem_cons.mpr ⟨q204, List.forall_mem_cons.mpr ⟨q210, List.forall_mem_cons.mpr ⟨q240, List.forall_mem_cons.mpr ⟨q247, List.forall_mem_cons.mpr ⟨q251, List.forall_mem_cons.mpr ⟨q305, List.forall_mem_cons.mpr ⟨q343, List.forall_mem_cons.mpr ⟨q348, List.forall_mem_cons.mpr ⟨q446, fun _ h => absurd h List.not_mem_nil⟩⟩⟩⟩⟩⟩⟩⟩⟩⟩⟩⟩⟩⟩
theorem nw0 : (.methodLinkNest RX5 37 yX7_setIn RX7 : Cond) ∈ NWL := List.mem_of_getElem? (i := 0) rfl
theorem nw1 : (.methodLinkNest RX7 41 yX6_init RX7 : Cond) ∈ NWL := List.mem_of_getElem? (i := 1) rfl
theorem nw2 : (.methodLinkNest RX7 55 yX4_init RX7 : Cond) ∈ NWL := List.mem_of_getElem? (i := 2) rfl
theorem nw3 : (.methodLinkNest RX5 53 yX7_copyAll RX7 : Cond) ∈ NWL := List.mem_of_getElem? (i := 3) rfl
theorem nw4 : (.methodLinkNest RX6 41 yX7_numberIn RX7 : Cond) ∈ NWL := List.mem_of_getElem? (i := 4) rfl
theorem nw5 : (.methodLinkNest RX6 61 yX7_isFromTo RX7 : Cond) ∈ NWL := List.mem_of_getElem? (i := 5) rfl
theorem nw6 : (.methodLinkNest RX6 37 yX7_setIn RX7 : Cond) ∈ NWL := List.mem_of_getElem? (i := 6) rfl
theorem nw7 : (.methodLinkNest RX1 60 yX7_setIn RX7 : Cond) ∈ NWL := List.mem_of_getElem? (i := 7) rfl
theorem nw8 : (.methodLinkNest RX1 64 yX7_numberIn RX7 : Cond) ∈ NWL := List.mem_of_getElem? (i := 8) rfl
theorem nw9 : (.methodLinkNest RX1 100 yX7_isFromTo RX7 : Cond) ∈ NWL := List.mem_of_getElem? (i := 9) rfl
theorem nw10 : (.methodLinkNest RX5 45 yX7_numberIn RX7 : Cond) ∈ NWL := List.mem_of_getElem? (i := 10) rfl
theorem nw11 : (.methodLinkNest RX0 38 yX7_setIn RX7 : Cond) ∈ NWL := List.mem_of_getElem? (i := 11) rfl
theorem nw12 : (.methodLinkNest RX0 46 yX7_numberIn RX7 : Cond) ∈ NWL := List.mem_of_getElem? (i := 12) rfl
theorem nw13 : (.methodLinkNest RX5 41 yX7_isFromTo RX7 : Cond) ∈ NWL := List.mem_of_getElem? (i := 13) rfl
theorem ly0_0 : u_lay RX0 TX0 0 ∈ TBG := tbt_1 (List.mem_of_getElem? (i := 137) rfl) rfl
theorem ly0_1 : u_lay RX0 TX0 1 ∈ TBG := tbt_1 (List.mem_of_getElem? (i := 139) rfl) rfl
theorem ly0_2 : u_lay RX0 TX0 2 ∈ TBG := tbt_1 (List.mem_of_getElem? (i := 141) rfl) rfl
theorem ly0_3 : u_lay RX0 TX0 3 ∈ TBG := tbt_1 (List.mem_of_getElem? (i := 143) rfl) rfl
theorem ly0_4 : u_lay RX0 TX0 4 ∈ TBG := tbt_1 (List.mem_of_getElem? (i := 145) rfl) rfl
theorem ixX0 : ∀ w ∈ u_ws RX0 TX0 5, w ∈ TBG := by
  show ∀ w ∈ [u_lay RX0 TX0 0, u_lay RX0 TX0 1, u_lay RX0 TX0 2, u_lay RX0 TX0 3, u_lay RX0 TX0 4], w ∈ TBG
  exact List.forall_mem_cons.mpr ⟨ly0_0, List.forall_mem_cons.mpr ⟨ly0_1, List.forall_mem_cons.mpr ⟨ly0_2, List.forall_mem_cons.mpr ⟨ly0_3, List.forall_mem_cons.mpr ⟨ly0_4, fun _ h => absurd h List.not_mem_nil⟩⟩⟩⟩⟩
theorem ly1_0 : u_lay RX1 TX1 0 ∈ TBG := tbt_1 (List.mem_of_getElem? (i := 111) rfl) rfl
theorem ly1_1 : u_lay RX1 TX1 1 ∈ TBG := tbt_1 (List.mem_of_getElem? (i := 113) rfl) rfl
theorem ly1_2 : u_lay RX1 TX1 2 ∈ TBG := tbt_1 (List.mem_of_getElem? (i := 115) rfl) rfl
theorem ly1_3 : u_lay RX1 TX1 3 ∈ TBG := tbt_1 (List.mem_of_getElem? (i := 117) rfl) rfl
theorem ly1_4 : u_lay RX1 TX1 4 ∈ TBG := tbt_1 (List.mem_of_getElem? (i := 119) rfl) rfl
theorem ly1_5 : u_lay RX1 TX1 5 ∈ TBG := tbt_1 (List.mem_of_getElem? (i := 121) rfl) rfl
theorem ly1_6 : u_lay RX1 TX1 6 ∈ TBG := tbt_1 (List.mem_of_getElem? (i := 123) rfl) rfl
theorem ixX1 : ∀ w ∈ u_ws RX1 TX1 7, w ∈ TBG := by
  show ∀ w ∈ [u_lay RX1 TX1 0, u_lay RX1 TX1 1, u_lay RX1 TX1 2, u_lay RX1 TX1 3, u_lay RX1 TX1 4, u_lay RX1 TX1 5, u_lay RX1 TX1 6], w ∈ TBG
  exact List.forall_mem_cons.mpr ⟨ly1_0, List.forall_mem_cons.mpr ⟨ly1_1, List.forall_mem_cons.mpr ⟨ly1_2, List.forall_mem_cons.mpr ⟨ly1_3, List.forall_mem_cons.mpr ⟨ly1_4, List.forall_mem_cons.mpr ⟨ly1_5, List.forall_mem_cons.mpr ⟨ly1_6, fun _ h => absurd h List.not_mem_nil⟩⟩⟩⟩⟩⟩⟩
theorem ly2_0 : u_lay RX2 TX2 0 ∈ TBG := tbt_1 (List.mem_of_getElem? (i := 193) rfl) rfl
theorem ly2_1 : u_lay RX2 TX2 1 ∈ TBG := tbt_1 (List.mem_of_getElem? (i := 195) rfl) rfl
theorem ly2_2 : u_lay RX2 TX2 2 ∈ TBG := tbt_1 (List.mem_of_getElem? (i := 197) rfl) rfl
theorem ixX2 : ∀ w ∈ u_ws RX2 TX2 3, w ∈ TBG := by
  show ∀ w ∈ [u_lay RX2 TX2 0, u_lay RX2 TX2 1, u_lay RX2 TX2 2], w ∈ TBG
  exact List.forall_mem_cons.mpr ⟨ly2_0, List.forall_mem_cons.mpr ⟨ly2_1, List.forall_mem_cons.mpr ⟨ly2_2, fun _ h => absurd h List.not_mem_nil⟩⟩⟩
theorem ly3_0 : u_lay RX3 TX3 0 ∈ TBG := tbt_1 (List.mem_of_getElem? (i := 87) rfl) rfl
theorem ly3_1 : u_lay RX3 TX3 1 ∈ TBG := tbt_1 (List.mem_of_getElem? (i := 89) rfl) rfl
theorem ly3_2 : u_lay RX3 TX3 2 ∈ TBG := tbt_1 (List.mem_of_getElem? (i := 91) rfl) rfl
theorem ly3_3 : u_lay RX3 TX3 3 ∈ TBG := tbt_1 (List.mem_of_getElem? (i := 93) rfl) rfl
theorem ly3_4 : u_lay RX3 TX3 4 ∈ TBG := tbt_1 (List.mem_of_getElem? (i := 95) rfl) rfl
theorem ixX3 : ∀ w ∈ u_ws RX3 TX3 5, w ∈ TBG := by
  show ∀ w ∈ [u_lay RX3 TX3 0, u_lay RX3 TX3 1, u_lay RX3 TX3 2, u_lay RX3 TX3 3, u_lay RX3 TX3 4], w ∈ TBG
  exact List.forall_mem_cons.mpr ⟨ly3_0, List.forall_mem_cons.mpr ⟨ly3_1, List.forall_mem_cons.mpr ⟨ly3_2, List.forall_mem_cons.mpr ⟨ly3_3, List.forall_mem_cons.mpr ⟨ly3_4, fun _ h => absurd h List.not_mem_nil⟩⟩⟩⟩⟩
theorem ly4_0 : u_lay RX4 TX4 0 ∈ TBG := tbt_1 (List.mem_of_getElem? (i := 212) rfl) rfl
theorem ly4_1 : u_lay RX4 TX4 1 ∈ TBG := tbt_1 (List.mem_of_getElem? (i := 214) rfl) rfl
theorem ixX4 : ∀ w ∈ u_ws RX4 TX4 2, w ∈ TBG := by
  show ∀ w ∈ [u_lay RX4 TX4 0, u_lay RX4 TX4 1], w ∈ TBG
  exact List.forall_mem_cons.mpr ⟨ly4_0, List.forall_mem_cons.mpr ⟨ly4_1, fun _ h => absurd h List.not_mem_nil⟩⟩
theorem ly5_0 : u_lay RX5 TX5 0 ∈ TBG := tbt_1 (List.mem_of_getElem? (i := 54) rfl) rfl
theorem ly5_1 : u_lay RX5 TX5 1 ∈ TBG := tbt_1 (List.mem_of_getElem? (i := 56) rfl) rfl
theorem ly5_2 : u_lay RX5 TX5 2 ∈ TBG := tbt_1 (List.mem_of_getElem? (i := 58) rfl) rfl
theorem ly5_3 : u_lay RX5 TX5 3 ∈ TBG := tbt_1 (List.mem_of_getElem? (i := 60) rfl) rfl
theorem ly5_4 : u_lay RX5 TX5 4 ∈ TBG := tbt_1 (List.mem_of_getElem? (i := 62) rfl) rfl
theorem ly5_5 : u_lay RX5 TX5 5 ∈ TBG := tbt_1 (List.mem_of_getElem? (i := 64) rfl) rfl
theorem ly5_6 : u_lay RX5 TX5 6 ∈ TBG := tbt_1 (List.mem_of_getElem? (i := 66) rfl) rfl
theorem ly5_7 : u_lay RX5 TX5 7 ∈ TBG := tbt_1 (List.mem_of_getElem? (i := 68) rfl) rfl
theorem ixX5 : ∀ w ∈ u_ws RX5 TX5 8, w ∈ TBG := by
  show ∀ w ∈ [u_lay RX5 TX5 0, u_lay RX5 TX5 1, u_lay RX5 TX5 2, u_lay RX5 TX5 3, u_lay RX5 TX5 4, u_lay RX5 TX5 5, u_lay RX5 TX5 6, u_lay RX5 TX5 7], w ∈ TBG
  exact List.forall_mem_cons.mpr ⟨ly5_0, List.forall_mem_cons.mpr ⟨ly5_1, List.forall_mem_cons.mpr ⟨ly5_2, List.forall_mem_cons.mpr ⟨ly5_3, List.forall_mem_cons.mpr ⟨ly5_4, List.forall_mem_cons.mpr ⟨ly5_5, List.forall_mem_cons.mpr ⟨ly5_6, List.forall_mem_cons.mpr ⟨ly5_7, fun _ h => absurd h List.not_mem_nil⟩⟩⟩⟩⟩⟩⟩⟩
theorem ly6_0 : u_lay RX6 TX6 0 ∈ TBG := tbt_1 (List.mem_of_getElem? (i := 163) rfl) rfl
theorem ly6_1 : u_lay RX6 TX6 1 ∈ TBG := tbt_1 (List.mem_of_getElem? (i := 165) rfl) rfl
theorem ly6_2 : u_lay RX6 TX6 2 ∈ TBG := tbt_1 (List.mem_of_getElem? (i := 167) rfl) rfl
theorem ly6_3 : u_lay RX6 TX6 3 ∈ TBG := tbt_1 (List.mem_of_getElem? (i := 169) rfl) rfl
theorem ly6_4 : u_lay RX6 TX6 4 ∈ TBG := tbt_1 (List.mem_of_getElem? (i := 171) rfl) rfl
theorem ly6_5 : u_lay RX6 TX6 5 ∈ TBG := tbt_1 (List.mem_of_getElem? (i := 173) rfl) rfl
theorem ly6_6 : u_lay RX6 TX6 6 ∈ TBG := tbt_1 (List.mem_of_getElem? (i := 175) rfl) rfl
theorem ly6_7 : u_lay RX6 TX6 7 ∈ TBG := tbt_1 (List.mem_of_getElem? (i := 177) rfl) rfl
theorem ixX6 : ∀ w ∈ u_ws RX6 TX6 8, w ∈ TBG := by
  show ∀ w ∈ [u_lay RX6 TX6 0, u_lay RX6 TX6 1, u_lay RX6 TX6 2, u_lay RX6 TX6 3, u_lay RX6 TX6 4, u_lay RX6 TX6 5, u_lay RX6 TX6 6, u_lay RX6 TX6 7], w ∈ TBG
  exact List.forall_mem_cons.mpr ⟨ly6_0, List.forall_mem_cons.mpr ⟨ly6_1, List.forall_mem_cons.mpr ⟨ly6_2, List.forall_mem_cons.mpr ⟨ly6_3, List.forall_mem_cons.mpr ⟨ly6_4, List.forall_mem_cons.mpr ⟨ly6_5, List.forall_mem_cons.mpr ⟨ly6_6, List.forall_mem_cons.mpr ⟨ly6_7, fun _ h => absurd h List.not_mem_nil⟩⟩⟩⟩⟩⟩⟩⟩
theorem ly7_0 : u_lay RX7 TX7 0 ∈ TBG := tbt_1 (List.mem_of_getElem? (i := 225) rfl) rfl
theorem ly7_1 : u_lay RX7 TX7 1 ∈ TBG := tbt_1 (List.mem_of_getElem? (i := 227) rfl) rfl
theorem ly7_2 : u_lay RX7 TX7 2 ∈ TBG := tbt_1 (List.mem_of_getElem? (i := 229) rfl) rfl
theorem ly7_3 : u_lay RX7 TX7 3 ∈ TBG := tbt_1 (List.mem_of_getElem? (i := 231) rfl) rfl
theorem ly7_4 : u_lay RX7 TX7 4 ∈ TBG := tbt_1 (List.mem_of_getElem? (i := 233) rfl) rfl
theorem ly7_5 : u_lay RX7 TX7 5 ∈ TBG := tbt_1 (List.mem_of_getElem? (i := 235) rfl) rfl
theorem ly7_6 : u_lay RX7 TX7 6 ∈ TBG := tbt_1 (List.mem_of_getElem? (i := 237) rfl) rfl
theorem ly7_7 : u_lay RX7 TX7 7 ∈ TBG := tbt_1 (List.mem_of_getElem? (i := 239) rfl) rfl
theorem ixX7 : ∀ w ∈ u_ws RX7 TX7 8, w ∈ TBG := by
  show ∀ w ∈ [u_lay RX7 TX7 0, u_lay RX7 TX7 1, u_lay RX7 TX7 2, u_lay RX7 TX7 3, u_lay RX7 TX7 4, u_lay RX7 TX7 5, u_lay RX7 TX7 6, u_lay RX7 TX7 7], w ∈ TBG
  exact List.forall_mem_cons.mpr ⟨ly7_0, List.forall_mem_cons.mpr ⟨ly7_1, List.forall_mem_cons.mpr ⟨ly7_2, List.forall_mem_cons.mpr ⟨ly7_3, List.forall_mem_cons.mpr ⟨ly7_4, List.forall_mem_cons.mpr ⟨ly7_5, List.forall_mem_cons.mpr ⟨ly7_6, List.forall_mem_cons.mpr ⟨ly7_7, fun _ h => absurd h List.not_mem_nil⟩⟩⟩⟩⟩⟩⟩⟩
theorem ly8_0 : u_lay RX8 TX8 0 ∈ TBG := tbt_4 (List.mem_of_getElem? (i := 138) rfl) rfl
theorem ly8_1 : u_lay RX8 TX8 1 ∈ TBG := tbt_4 (List.mem_of_getElem? (i := 140) rfl) rfl
theorem ly8_2 : u_lay RX8 TX8 2 ∈ TBG := tbt_4 (List.mem_of_getElem? (i := 142) rfl) rfl
theorem ly8_3 : u_lay RX8 TX8 3 ∈ TBG := tbt_4 (List.mem_of_getElem? (i := 144) rfl) rfl
theorem ly8_4 : u_lay RX8 TX8 4 ∈ TBG := tbt_4 (List.mem_of_getElem? (i := 146) rfl) rfl
theorem ly8_5 : u_lay RX8 TX8 5 ∈ TBG := tbt_4 (List.mem_of_getElem? (i := 148) rfl) rfl
theorem ly8_6 : u_lay RX8 TX8 6 ∈ TBG := tbt_4 (List.mem_of_getElem? (i := 150) rfl) rfl
theorem ly8_7 : u_lay RX8 TX8 7 ∈ TBG := tbt_4 (List.mem_of_getElem? (i := 152) rfl) rfl
theorem ly8_8 : u_lay RX8 TX8 8 ∈ TBG := tbt_4 (List.mem_of_getElem? (i := 154) rfl) rfl
theorem ly8_9 : u_lay RX8 TX8 9 ∈ TBG := tbt_4 (List.mem_of_getElem? (i := 156) rfl) rfl
theorem ly8_10 : u_lay RX8 TX8 10 ∈ TBG := tbt_4 (List.mem_of_getElem? (i := 158) rfl) rfl
theorem ly8_11 : u_lay RX8 TX8 11 ∈ TBG := tbt_4 (List.mem_of_getElem? (i := 160) rfl) rfl
theorem ly8_12 : u_lay RX8 TX8 12 ∈ TBG := tbt_4 (List.mem_of_getElem? (i := 162) rfl) rfl
theorem ly8_13 : u_lay RX8 TX8 13 ∈ TBG := tbt_4 (List.mem_of_getElem? (i := 164) rfl) rfl
theorem ly8_14 : u_lay RX8 TX8 14 ∈ TBG := tbt_4 (List.mem_of_getElem? (i := 166) rfl) rfl
theorem ly8_15 : u_lay RX8 TX8 15 ∈ TBG := tbt_4 (List.mem_of_getElem? (i := 168) rfl) rfl
theorem ly8_16 : u_lay RX8 TX8 16 ∈ TBG := tbt_4 (List.mem_of_getElem? (i := 170) rfl) rfl
theorem ly8_17 : u_lay RX8 TX8 17 ∈ TBG := tbt_4 (List.mem_of_getElem? (i := 172) rfl) rfl
theorem ly8_18 : u_lay RX8 TX8 18 ∈ TBG := tbt_4 (List.mem_of_getElem? (i := 174) rfl) rfl
theorem ly8_19 : u_lay RX8 TX8 19 ∈ TBG := tbt_4 (List.mem_of_getElem? (i := 176) rfl) rfl
theorem ly8_20 : u_lay RX8 TX8 20 ∈ TBG := tbt_4 (List.mem_of_getElem? (i := 178) rfl) rfl
theorem ixX8 : ∀ w ∈ u_ws RX8 TX8 21, w ∈ TBG := by
  show ∀ w ∈ [u_lay RX8 TX8 0, u_lay RX8 TX8 1, u_lay RX8 TX8 2, u_lay RX8 TX8 3, u_lay RX8 TX8 4, u_lay RX8 TX8 5, u_lay RX8 TX8 6, u_lay RX8 TX8 7, u_lay RX8 TX8 8, u_lay RX8 TX8 9, u_lay RX8 TX8 10, u_lay RX8 TX8 11, u_lay RX8 TX8 12, u_lay RX8 TX8 13, u_lay RX8 TX8 14, u_lay RX8 TX8 15, u_lay RX8 TX8 16, u_lay RX8 TX8 17, u_lay RX8 TX8 18, u_lay RX8 TX8 19, u_lay RX8 TX8 20], w ∈ TBG
  exact List.forall_mem_cons.mpr ⟨ly8_0, List.forall_mem_cons.mpr ⟨ly8_1, List.forall_mem_cons.mpr ⟨ly8_2, List.forall_mem_cons.mpr ⟨ly8_3, List.forall_mem_cons.mpr ⟨ly8_4, List.forall_mem_cons.mpr ⟨ly8_5, List.forall_mem_cons.mpr ⟨ly8_6, List.forall_mem_cons.mpr ⟨ly8_7, List.forall_mem_cons.mpr ⟨ly8_8, List.forall_mem_cons.mpr ⟨ly8_9, List.forall_mem_cons.mpr ⟨ly8_10, List.forall_mem_cons.mpr ⟨ly8_11, List.forall_mem_cons.mpr ⟨ly8_12, List.forall_mem_cons.mpr ⟨ly8_13, List.forall_mem_cons.mpr ⟨ly8_14, List.forall_mem_cons.mpr ⟨ly8_15, List.forall_mem_cons.mpr ⟨ly8_16, List.forall_mem_cons.mpr ⟨ly8_17, List.forall_mem_cons.mpr ⟨ly8_18, List.forall_mem_cons.mpr ⟨ly8_19, List.forall_mem_cons.mpr ⟨ly8_20, fun _ h => absurd h List.not_mem_nil⟩⟩⟩⟩⟩⟩⟩⟩⟩⟩⟩⟩⟩⟩⟩⟩⟩⟩⟩⟩⟩
end
section
theorem dX0_init_0 : decode cX0_init 0 = .ok (.aload_n 0, 1) := by decide +kernel
theorem dX0_init_1 : decode cX0_init 1 = .ok (.invokespecial 3, 3) := by decide +kernel
theorem dX0_init_4 : decode cX0_init 4 = .ok (.aload_n 0, 1) := by decide +kernel
theorem dX0_init_5 : decode cX0_init 5 = .ok (.bipush 121, 2) := by decide +kernel
theorem dX0_init_7 : decode cX0_init 7 = .ok (.newarray .int, 2) := by decide +kernel
theorem dX0_init_9 : decode cX0_init 9 = .ok (.putfield 11, 3) := by decide +kernel
theorem dX0_init_12 : decode cX0_init 12 = .ok (.aload_n 0, 1) := by decide +kernel
theorem dX0_init_13 : decode cX0_init 13 = .ok (.bipush 121, 2) := by decide +kernel
theorem dX0_init_15 : decode cX0_init 15 = .ok (.newarray .int, 2) := by decide +kernel
theorem dX0_init_17 : decode cX0_init 17 = .ok (.putfield 15, 3) := by decide +kernel
theorem dX0_init_20 : decode cX0_init 20 = .ok (.aload_n 0, 1) := by decide +kernel
theorem dX0_init_21 : decode cX0_init 21 = .ok (.bipush 11, 2) := by decide +kernel
theorem dX0_init_23 : decode cX0_init 23 = .ok (.newarray .int, 2) := by decide +kernel
theorem dX0_init_25 : decode cX0_init 25 = .ok (.putfield 18, 3) := by decide +kernel
theorem dX0_init_28 : decode cX0_init 28 = .ok (.aload_n 0, 1) := by decide +kernel
theorem dX0_init_29 : decode cX0_init 29 = .ok (.bipush 11, 2) := by decide +kernel
theorem dX0_init_31 : decode cX0_init 31 = .ok (.newarray .int, 2) := by decide +kernel
theorem dX0_init_33 : decode cX0_init 33 = .ok (.putfield 21, 3) := by decide +kernel
theorem dX0_init_36 : decode cX0_init 36 = .ok (.aload_n 0, 1) := by decide +kernel
theorem dX0_init_37 : decode cX0_init 37 = .ok (.aload_n 1, 1) := by decide +kernel
theorem dX0_init_38 : decode cX0_init 38 = .ok (.putfield 24, 3) := by decide +kernel
theorem dX0_init_41 : decode cX0_init 41 = .ok (.return_, 1) := by decide +kernel
theorem dX0_planCuts_0 : decode cX0_planCuts 0 = .ok (.iconst 0, 1) := by decide +kernel
theorem dX0_planCuts_1 : decode cX0_planCuts 1 = .ok (.istore_n 1, 1) := by decide +kernel
theorem dX0_planCuts_2 : decode cX0_planCuts 2 = .ok (.iconst 0, 1) := by decide +kernel
theorem dX0_planCuts_3 : decode cX0_planCuts 3 = .ok (.istore_n 2, 1) := by decide +kernel
theorem dX0_planCuts_4 : decode cX0_planCuts 4 = .ok (.iload_n 2, 1) := by decide +kernel
theorem dX0_planCuts_5 : decode cX0_planCuts 5 = .ok (.aload_n 0, 1) := by decide +kernel
theorem dX0_planCuts_6 : decode cX0_planCuts 6 = .ok (.getfield 24, 3) := by decide +kernel
theorem dX0_planCuts_9 : decode cX0_planCuts 9 = .ok (.getfield 28, 3) := by decide +kernel
theorem dX0_planCuts_12 : decode cX0_planCuts 12 = .ok (.if_icmp .ge 31, 3) := by decide +kernel
theorem dX0_planCuts_15 : decode cX0_planCuts 15 = .ok (.iload_n 1, 1) := by decide +kernel
theorem dX0_planCuts_16 : decode cX0_planCuts 16 = .ok (.aload_n 0, 1) := by decide +kernel
theorem dX0_planCuts_17 : decode cX0_planCuts 17 = .ok (.getfield 24, 3) := by decide +kernel
theorem dX0_planCuts_20 : decode cX0_planCuts 20 = .ok (.iload_n 2, 1) := by decide +kernel
theorem dX0_planCuts_21 : decode cX0_planCuts 21 = .ok (.invokevirtual 34, 3) := by decide +kernel
theorem dX0_planCuts_24 : decode cX0_planCuts 24 = .ok (.iadd, 1) := by decide +kernel
theorem dX0_planCuts_25 : decode cX0_planCuts 25 = .ok (.istore_n 1, 1) := by decide +kernel
theorem dX0_planCuts_26 : decode cX0_planCuts 26 = .ok (.aload_n 0, 1) := by decide +kernel
theorem dX0_planCuts_27 : decode cX0_planCuts 27 = .ok (.getfield 18, 3) := by decide +kernel
theorem dX0_planCuts_30 : decode cX0_planCuts 30 = .ok (.iload_n 2, 1) := by decide +kernel
theorem dX0_planCuts_31 : decode cX0_planCuts 31 = .ok (.iconst 1, 1) := by decide +kernel
theorem dX0_planCuts_32 : decode cX0_planCuts 32 = .ok (.iadd, 1) := by decide +kernel
theorem dX0_planCuts_33 : decode cX0_planCuts 33 = .ok (.iload_n 1, 1) := by decide +kernel
theorem dX0_planCuts_34 : decode cX0_planCuts 34 = .ok (.invokestatic 38, 3) := by decide +kernel
theorem dX0_planCuts_37 : decode cX0_planCuts 37 = .ok (.iinc 2 1, 3) := by decide +kernel
theorem dX0_planCuts_40 : decode cX0_planCuts 40 = .ok (.goto (-36), 3) := by decide +kernel
theorem dX0_planCuts_43 : decode cX0_planCuts 43 = .ok (.iconst 1, 1) := by decide +kernel
theorem dX0_planCuts_44 : decode cX0_planCuts 44 = .ok (.istore_n 2, 1) := by decide +kernel
theorem dX0_planCuts_45 : decode cX0_planCuts 45 = .ok (.iload_n 2, 1) := by decide +kernel
theorem dX0_planCuts_46 : decode cX0_planCuts 46 = .ok (.aload_n 0, 1) := by decide +kernel
theorem dX0_planCuts_47 : decode cX0_planCuts 47 = .ok (.getfield 24, 3) := by decide +kernel
theorem dX0_planCuts_50 : decode cX0_planCuts 50 = .ok (.getfield 28, 3) := by decide +kernel
theorem dX0_planCuts_53 : decode cX0_planCuts 53 = .ok (.if_icmp .gt 34, 3) := by decide +kernel
theorem dX0_planCuts_56 : decode cX0_planCuts 56 = .ok (.iload_n 2, 1) := by decide +kernel
theorem dX0_planCuts_57 : decode cX0_planCuts 57 = .ok (.istore_n 3, 1) := by decide +kernel
theorem dX0_planCuts_58 : decode cX0_planCuts 58 = .ok (.iload_n 3, 1) := by decide +kernel
theorem dX0_planCuts_59 : decode cX0_planCuts 59 = .ok (.aload_n 0, 1) := by decide +kernel
theorem dX0_planCuts_60 : decode cX0_planCuts 60 = .ok (.getfield 24, 3) := by decide +kernel
theorem dX0_planCuts_63 : decode cX0_planCuts 63 = .ok (.getfield 28, 3) := by decide +kernel
theorem dX0_planCuts_66 : decode cX0_planCuts 66 = .ok (.if_icmp .gt 15, 3) := by decide +kernel
theorem dX0_planCuts_69 : decode cX0_planCuts 69 = .ok (.aload_n 0, 1) := by decide +kernel
theorem dX0_planCuts_70 : decode cX0_planCuts 70 = .ok (.iload_n 2, 1) := by decide +kernel
theorem dX0_planCuts_71 : decode cX0_planCuts 71 = .ok (.iload_n 3, 1) := by decide +kernel
theorem dX0_planCuts_72 : decode cX0_planCuts 72 = .ok (.invokevirtual 42, 3) := by decide +kernel
theorem dX0_planCuts_75 : decode cX0_planCuts 75 = .ok (.iinc 3 1, 3) := by decide +kernel
theorem dX0_planCuts_78 : decode cX0_planCuts 78 = .ok (.goto (-20), 3) := by decide +kernel
theorem dX0_planCuts_81 : decode cX0_planCuts 81 = .ok (.iinc 2 1, 3) := by decide +kernel
theorem dX0_planCuts_84 : decode cX0_planCuts 84 = .ok (.goto (-39), 3) := by decide +kernel
theorem dX0_planCuts_87 : decode cX0_planCuts 87 = .ok (.return_, 1) := by decide +kernel
theorem dX0_plannedCost_0 : decode cX0_plannedCost 0 = .ok (.aload_n 0, 1) := by decide +kernel
theorem dX0_plannedCost_1 : decode cX0_plannedCost 1 = .ok (.getfield 11, 3) := by decide +kernel
theorem dX0_plannedCost_4 : decode cX0_plannedCost 4 = .ok (.iload_n 1, 1) := by decide +kernel
theorem dX0_plannedCost_5 : decode cX0_plannedCost 5 = .ok (.bipush 11, 2) := by decide +kernel
theorem dX0_plannedCost_7 : decode cX0_plannedCost 7 = .ok (.imul, 1) := by decide +kernel
theorem dX0_plannedCost_8 : decode cX0_plannedCost 8 = .ok (.aload_n 0, 1) := by decide +kernel
theorem dX0_plannedCost_9 : decode cX0_plannedCost 9 = .ok (.getfield 24, 3) := by decide +kernel
theorem dX0_plannedCost_12 : decode cX0_plannedCost 12 = .ok (.getfield 28, 3) := by decide +kernel
theorem dX0_plannedCost_15 : decode cX0_plannedCost 15 = .ok (.iadd, 1) := by decide +kernel
theorem dX0_plannedCost_16 : decode cX0_plannedCost 16 = .ok (.invokestatic 46, 3) := by decide +kernel
theorem dX0_plannedCost_19 : decode cX0_plannedCost 19 = .ok (.ireturn, 1) := by decide +kernel
theorem dX0_plannedCut_0 : decode cX0_plannedCut 0 = .ok (.aload_n 0, 1) := by decide +kernel
theorem dX0_plannedCut_1 : decode cX0_plannedCut 1 = .ok (.getfield 24, 3) := by decide +kernel
theorem dX0_plannedCut_4 : decode cX0_plannedCut 4 = .ok (.getfield 28, 3) := by decide +kernel
theorem dX0_plannedCut_7 : decode cX0_plannedCut 7 = .ok (.istore_n 3, 1) := by decide +kernel
theorem dX0_plannedCut_8 : decode cX0_plannedCut 8 = .ok (.iload_n 1, 1) := by decide +kernel
theorem dX0_plannedCut_9 : decode cX0_plannedCut 9 = .ok (.istore 4, 2) := by decide +kernel
theorem dX0_plannedCut_11 : decode cX0_plannedCut 11 = .ok (.iload 4, 2) := by decide +kernel
theorem dX0_plannedCut_13 : decode cX0_plannedCut 13 = .ok (.iload_n 2, 1) := by decide +kernel
theorem dX0_plannedCut_14 : decode cX0_plannedCut 14 = .ok (.iconst 1, 1) := by decide +kernel
theorem dX0_plannedCut_15 : decode cX0_plannedCut 15 = .ok (.iadd, 1) := by decide +kernel
theorem dX0_plannedCut_16 : decode cX0_plannedCut 16 = .ok (.if_icmp .le 24, 3) := by decide +kernel
theorem dX0_plannedCut_19 : decode cX0_plannedCut 19 = .ok (.aload_n 0, 1) := by decide +kernel
theorem dX0_plannedCut_20 : decode cX0_plannedCut 20 = .ok (.getfield 15, 3) := by decide +kernel
theorem dX0_plannedCut_23 : decode cX0_plannedCut 23 = .ok (.iload 4, 2) := by decide +kernel
theorem dX0_plannedCut_25 : decode cX0_plannedCut 25 = .ok (.bipush 11, 2) := by decide +kernel
theorem dX0_plannedCut_27 : decode cX0_plannedCut 27 = .ok (.imul, 1) := by decide +kernel
theorem dX0_plannedCut_28 : decode cX0_plannedCut 28 = .ok (.iload_n 3, 1) := by decide +kernel
theorem dX0_plannedCut_29 : decode cX0_plannedCut 29 = .ok (.iadd, 1) := by decide +kernel
theorem dX0_plannedCut_30 : decode cX0_plannedCut 30 = .ok (.invokestatic 46, 3) := by decide +kernel
theorem dX0_plannedCut_33 : decode cX0_plannedCut 33 = .ok (.istore_n 3, 1) := by decide +kernel
theorem dX0_plannedCut_34 : decode cX0_plannedCut 34 = .ok (.iinc 4 (-1), 3) := by decide +kernel
theorem dX0_plannedCut_37 : decode cX0_plannedCut 37 = .ok (.goto (-26), 3) := by decide +kernel
theorem dX0_plannedCut_40 : decode cX0_plannedCut 40 = .ok (.iload_n 3, 1) := by decide +kernel
theorem dX0_plannedCut_41 : decode cX0_plannedCut 41 = .ok (.ireturn, 1) := by decide +kernel
theorem dX0_fewestPartsFor_0 : decode cX0_fewestPartsFor 0 = .ok (.iconst 1, 1) := by decide +kernel
theorem dX0_fewestPartsFor_1 : decode cX0_fewestPartsFor 1 = .ok (.istore_n 2, 1) := by decide +kernel
theorem dX0_fewestPartsFor_2 : decode cX0_fewestPartsFor 2 = .ok (.iload_n 2, 1) := by decide +kernel
theorem dX0_fewestPartsFor_3 : decode cX0_fewestPartsFor 3 = .ok (.aload_n 0, 1) := by decide +kernel
theorem dX0_fewestPartsFor_4 : decode cX0_fewestPartsFor 4 = .ok (.getfield 24, 3) := by decide +kernel
theorem dX0_fewestPartsFor_7 : decode cX0_fewestPartsFor 7 = .ok (.getfield 28, 3) := by decide +kernel
theorem dX0_fewestPartsFor_10 : decode cX0_fewestPartsFor 10 = .ok (.if_icmp .gt 20, 3) := by decide +kernel
theorem dX0_fewestPartsFor_13 : decode cX0_fewestPartsFor 13 = .ok (.aload_n 0, 1) := by decide +kernel
theorem dX0_fewestPartsFor_14 : decode cX0_fewestPartsFor 14 = .ok (.iload_n 2, 1) := by decide +kernel
theorem dX0_fewestPartsFor_15 : decode cX0_fewestPartsFor 15 = .ok (.invokevirtual 50, 3) := by decide +kernel
theorem dX0_fewestPartsFor_18 : decode cX0_fewestPartsFor 18 = .ok (.iload_n 1, 1) := by decide +kernel
theorem dX0_fewestPartsFor_19 : decode cX0_fewestPartsFor 19 = .ok (.if_icmp .gt 5, 3) := by decide +kernel
theorem dX0_fewestPartsFor_22 : decode cX0_fewestPartsFor 22 = .ok (.iload_n 2, 1) := by decide +kernel
theorem dX0_fewestPartsFor_23 : decode cX0_fewestPartsFor 23 = .ok (.ireturn, 1) := by decide +kernel
theorem dX0_fewestPartsFor_24 : decode cX0_fewestPartsFor 24 = .ok (.iinc 2 1, 3) := by decide +kernel
theorem dX0_fewestPartsFor_27 : decode cX0_fewestPartsFor 27 = .ok (.goto (-25), 3) := by decide +kernel
theorem dX0_fewestPartsFor_30 : decode cX0_fewestPartsFor 30 = .ok (.iconst (-1), 1) := by decide +kernel
theorem dX0_fewestPartsFor_31 : decode cX0_fewestPartsFor 31 = .ok (.ireturn, 1) := by decide +kernel
theorem dX0_tryAllCuts_0 : decode cX0_tryAllCuts 0 = .ok (.iconst 1, 1) := by decide +kernel
theorem dX0_tryAllCuts_1 : decode cX0_tryAllCuts 1 = .ok (.istore_n 1, 1) := by decide +kernel
theorem dX0_tryAllCuts_2 : decode cX0_tryAllCuts 2 = .ok (.iload_n 1, 1) := by decide +kernel
theorem dX0_tryAllCuts_3 : decode cX0_tryAllCuts 3 = .ok (.aload_n 0, 1) := by decide +kernel
theorem dX0_tryAllCuts_4 : decode cX0_tryAllCuts 4 = .ok (.getfield 24, 3) := by decide +kernel
theorem dX0_tryAllCuts_7 : decode cX0_tryAllCuts 7 = .ok (.getfield 28, 3) := by decide +kernel
theorem dX0_tryAllCuts_10 : decode cX0_tryAllCuts 10 = .ok (.if_icmp .gt 19, 3) := by decide +kernel
theorem dX0_tryAllCuts_13 : decode cX0_tryAllCuts 13 = .ok (.aload_n 0, 1) := by decide +kernel
theorem dX0_tryAllCuts_14 : decode cX0_tryAllCuts 14 = .ok (.getfield 21, 3) := by decide +kernel
theorem dX0_tryAllCuts_17 : decode cX0_tryAllCuts 17 = .ok (.iload_n 1, 1) := by decide +kernel
theorem dX0_tryAllCuts_18 : decode cX0_tryAllCuts 18 = .ok (.ldc 53, 2) := by decide +kernel
theorem dX0_tryAllCuts_20 : decode cX0_tryAllCuts 20 = .ok (.invokestatic 38, 3) := by decide +kernel
theorem dX0_tryAllCuts_23 : decode cX0_tryAllCuts 23 = .ok (.iinc 1 1, 3) := by decide +kernel
theorem dX0_tryAllCuts_26 : decode cX0_tryAllCuts 26 = .ok (.goto (-24), 3) := by decide +kernel
theorem dX0_tryAllCuts_29 : decode cX0_tryAllCuts 29 = .ok (.aload_n 0, 1) := by decide +kernel
theorem dX0_tryAllCuts_30 : decode cX0_tryAllCuts 30 = .ok (.iconst 1, 1) := by decide +kernel
theorem dX0_tryAllCuts_31 : decode cX0_tryAllCuts 31 = .ok (.iconst 0, 1) := by decide +kernel
theorem dX0_tryAllCuts_32 : decode cX0_tryAllCuts 32 = .ok (.iconst 0, 1) := by decide +kernel
theorem dX0_tryAllCuts_33 : decode cX0_tryAllCuts 33 = .ok (.invokestatic 54, 3) := by decide +kernel
theorem dX0_tryAllCuts_36 : decode cX0_tryAllCuts 36 = .ok (.return_, 1) := by decide +kernel
theorem dX0_triedCost_0 : decode cX0_triedCost 0 = .ok (.aload_n 0, 1) := by decide +kernel
theorem dX0_triedCost_1 : decode cX0_triedCost 1 = .ok (.getfield 21, 3) := by decide +kernel
theorem dX0_triedCost_4 : decode cX0_triedCost 4 = .ok (.iload_n 1, 1) := by decide +kernel
theorem dX0_triedCost_5 : decode cX0_triedCost 5 = .ok (.invokestatic 46, 3) := by decide +kernel
theorem dX0_triedCost_8 : decode cX0_triedCost 8 = .ok (.ireturn, 1) := by decide +kernel
theorem dX0_planLastCut_0 : decode cX0_planLastCut 0 = .ok (.ldc 53, 2) := by decide +kernel
theorem dX0_planLastCut_2 : decode cX0_planLastCut 2 = .ok (.istore_n 3, 1) := by decide +kernel
theorem dX0_planLastCut_3 : decode cX0_planLastCut 3 = .ok (.iconst 0, 1) := by decide +kernel
theorem dX0_planLastCut_4 : decode cX0_planLastCut 4 = .ok (.istore 4, 2) := by decide +kernel
theorem dX0_planLastCut_6 : decode cX0_planLastCut 6 = .ok (.iload_n 1, 1) := by decide +kernel
theorem dX0_planLastCut_7 : decode cX0_planLastCut 7 = .ok (.iconst 1, 1) := by decide +kernel
theorem dX0_planLastCut_8 : decode cX0_planLastCut 8 = .ok (.if_icmp .ne 7, 3) := by decide +kernel
theorem dX0_planLastCut_11 : decode cX0_planLastCut 11 = .ok (.iconst 0, 1) := by decide +kernel
theorem dX0_planLastCut_12 : decode cX0_planLastCut 12 = .ok (.goto 6, 3) := by decide +kernel
theorem dX0_planLastCut_15 : decode cX0_planLastCut 15 = .ok (.iload_n 2, 1) := by decide +kernel
theorem dX0_planLastCut_16 : decode cX0_planLastCut 16 = .ok (.iconst 1, 1) := by decide +kernel
theorem dX0_planLastCut_17 : decode cX0_planLastCut 17 = .ok (.isub, 1) := by decide +kernel
theorem dX0_planLastCut_18 : decode cX0_planLastCut 18 = .ok (.istore 5, 2) := by decide +kernel
theorem dX0_planLastCut_20 : decode cX0_planLastCut 20 = .ok (.iload_n 1, 1) := by decide +kernel
theorem dX0_planLastCut_21 : decode cX0_planLastCut 21 = .ok (.iconst 1, 1) := by decide +kernel
theorem dX0_planLastCut_22 : decode cX0_planLastCut 22 = .ok (.isub, 1) := by decide +kernel
theorem dX0_planLastCut_23 : decode cX0_planLastCut 23 = .ok (.istore 6, 2) := by decide +kernel
theorem dX0_planLastCut_25 : decode cX0_planLastCut 25 = .ok (.iload 6, 2) := by decide +kernel
theorem dX0_planLastCut_27 : decode cX0_planLastCut 27 = .ok (.iload 5, 2) := by decide +kernel
theorem dX0_planLastCut_29 : decode cX0_planLastCut 29 = .ok (.if_icmp .gt 66, 3) := by decide +kernel
theorem dX0_planLastCut_32 : decode cX0_planLastCut 32 = .ok (.aload_n 0, 1) := by decide +kernel
theorem dX0_planLastCut_33 : decode cX0_planLastCut 33 = .ok (.getfield 18, 3) := by decide +kernel
theorem dX0_planLastCut_36 : decode cX0_planLastCut 36 = .ok (.iload_n 2, 1) := by decide +kernel
theorem dX0_planLastCut_37 : decode cX0_planLastCut 37 = .ok (.invokestatic 46, 3) := by decide +kernel
theorem dX0_planLastCut_40 : decode cX0_planLastCut 40 = .ok (.aload_n 0, 1) := by decide +kernel
theorem dX0_planLastCut_41 : decode cX0_planLastCut 41 = .ok (.getfield 18, 3) := by decide +kernel
theorem dX0_planLastCut_44 : decode cX0_planLastCut 44 = .ok (.iload 6, 2) := by decide +kernel
theorem dX0_planLastCut_46 : decode cX0_planLastCut 46 = .ok (.invokestatic 46, 3) := by decide +kernel
theorem dX0_planLastCut_49 : decode cX0_planLastCut 49 = .ok (.isub, 1) := by decide +kernel
theorem dX0_planLastCut_50 : decode cX0_planLastCut 50 = .ok (.istore 7, 2) := by decide +kernel
theorem dX0_planLastCut_52 : decode cX0_planLastCut 52 = .ok (.aload_n 0, 1) := by decide +kernel
theorem dX0_planLastCut_53 : decode cX0_planLastCut 53 = .ok (.getfield 11, 3) := by decide +kernel
theorem dX0_planLastCut_56 : decode cX0_planLastCut 56 = .ok (.iload_n 1, 1) := by decide +kernel
theorem dX0_planLastCut_57 : decode cX0_planLastCut 57 = .ok (.iconst 1, 1) := by decide +kernel
theorem dX0_planLastCut_58 : decode cX0_planLastCut 58 = .ok (.isub, 1) := by decide +kernel
theorem dX0_planLastCut_59 : decode cX0_planLastCut 59 = .ok (.bipush 11, 2) := by decide +kernel
theorem dX0_planLastCut_61 : decode cX0_planLastCut 61 = .ok (.imul, 1) := by decide +kernel
theorem dX0_planLastCut_62 : decode cX0_planLastCut 62 = .ok (.iload 6, 2) := by decide +kernel
theorem dX0_planLastCut_64 : decode cX0_planLastCut 64 = .ok (.iadd, 1) := by decide +kernel
theorem dX0_planLastCut_65 : decode cX0_planLastCut 65 = .ok (.invokestatic 46, 3) := by decide +kernel
theorem dX0_planLastCut_68 : decode cX0_planLastCut 68 = .ok (.iload 7, 2) := by decide +kernel
theorem dX0_planLastCut_70 : decode cX0_planLastCut 70 = .ok (.iload 7, 2) := by decide +kernel
theorem dX0_planLastCut_72 : decode cX0_planLastCut 72 = .ok (.imul, 1) := by decide +kernel
theorem dX0_planLastCut_73 : decode cX0_planLastCut 73 = .ok (.iadd, 1) := by decide +kernel
theorem dX0_planLastCut_74 : decode cX0_planLastCut 74 = .ok (.istore 8, 2) := by decide +kernel
theorem dX0_planLastCut_76 : decode cX0_planLastCut 76 = .ok (.iload 8, 2) := by decide +kernel
theorem dX0_planLastCut_78 : decode cX0_planLastCut 78 = .ok (.iload_n 3, 1) := by decide +kernel
theorem dX0_planLastCut_79 : decode cX0_planLastCut 79 = .ok (.if_icmp .ge 10, 3) := by decide +kernel
theorem dX0_planLastCut_82 : decode cX0_planLastCut 82 = .ok (.iload 8, 2) := by decide +kernel
theorem dX0_planLastCut_84 : decode cX0_planLastCut 84 = .ok (.istore_n 3, 1) := by decide +kernel
theorem dX0_planLastCut_85 : decode cX0_planLastCut 85 = .ok (.iload 6, 2) := by decide +kernel
theorem dX0_planLastCut_87 : decode cX0_planLastCut 87 = .ok (.istore 4, 2) := by decide +kernel
theorem dX0_planLastCut_89 : decode cX0_planLastCut 89 = .ok (.iinc 6 1, 3) := by decide +kernel
theorem dX0_planLastCut_92 : decode cX0_planLastCut 92 = .ok (.goto (-67), 3) := by decide +kernel
theorem dX0_planLastCut_95 : decode cX0_planLastCut 95 = .ok (.aload_n 0, 1) := by decide +kernel
theorem dX0_planLastCut_96 : decode cX0_planLastCut 96 = .ok (.getfield 11, 3) := by decide +kernel
theorem dX0_planLastCut_99 : decode cX0_planLastCut 99 = .ok (.iload_n 1, 1) := by decide +kernel
theorem dX0_planLastCut_100 : decode cX0_planLastCut 100 = .ok (.bipush 11, 2) := by decide +kernel
theorem dX0_planLastCut_102 : decode cX0_planLastCut 102 = .ok (.imul, 1) := by decide +kernel
theorem dX0_planLastCut_103 : decode cX0_planLastCut 103 = .ok (.iload_n 2, 1) := by decide +kernel
theorem dX0_planLastCut_104 : decode cX0_planLastCut 104 = .ok (.iadd, 1) := by decide +kernel
theorem dX0_planLastCut_105 : decode cX0_planLastCut 105 = .ok (.iload_n 3, 1) := by decide +kernel
theorem dX0_planLastCut_106 : decode cX0_planLastCut 106 = .ok (.invokestatic 38, 3) := by decide +kernel
theorem dX0_planLastCut_109 : decode cX0_planLastCut 109 = .ok (.aload_n 0, 1) := by decide +kernel
theorem dX0_planLastCut_110 : decode cX0_planLastCut 110 = .ok (.getfield 15, 3) := by decide +kernel
theorem dX0_planLastCut_113 : decode cX0_planLastCut 113 = .ok (.iload_n 1, 1) := by decide +kernel
theorem dX0_planLastCut_114 : decode cX0_planLastCut 114 = .ok (.bipush 11, 2) := by decide +kernel
theorem dX0_planLastCut_116 : decode cX0_planLastCut 116 = .ok (.imul, 1) := by decide +kernel
theorem dX0_planLastCut_117 : decode cX0_planLastCut 117 = .ok (.iload_n 2, 1) := by decide +kernel
theorem dX0_planLastCut_118 : decode cX0_planLastCut 118 = .ok (.iadd, 1) := by decide +kernel
theorem dX0_planLastCut_119 : decode cX0_planLastCut 119 = .ok (.iload 4, 2) := by decide +kernel
theorem dX0_planLastCut_121 : decode cX0_planLastCut 121 = .ok (.invokestatic 38, 3) := by decide +kernel
theorem dX0_planLastCut_124 : decode cX0_planLastCut 124 = .ok (.return_, 1) := by decide +kernel
theorem dX0_tryNextPart_0 : decode cX0_tryNextPart 0 = .ok (.aload_n 0, 1) := by decide +kernel
theorem dX0_tryNextPart_1 : decode cX0_tryNextPart 1 = .ok (.ifnull 9, 3) := by decide +kernel
theorem dX0_tryNextPart_4 : decode cX0_tryNextPart 4 = .ok (.iload_n 1, 1) := by decide +kernel
theorem dX0_tryNextPart_5 : decode cX0_tryNextPart 5 = .ok (.bipush 10, 2) := by decide +kernel
theorem dX0_tryNextPart_7 : decode cX0_tryNextPart 7 = .ok (.if_icmp .le 4, 3) := by decide +kernel
theorem dX0_tryNextPart_10 : decode cX0_tryNextPart 10 = .ok (.return_, 1) := by decide +kernel
theorem dX0_tryNextPart_11 : decode cX0_tryNextPart 11 = .ok (.aload_n 0, 1) := by decide +kernel
theorem dX0_tryNextPart_12 : decode cX0_tryNextPart 12 = .ok (.getfield 24, 3) := by decide +kernel
theorem dX0_tryNextPart_15 : decode cX0_tryNextPart 15 = .ok (.getfield 28, 3) := by decide +kernel
theorem dX0_tryNextPart_18 : decode cX0_tryNextPart 18 = .ok (.istore 4, 2) := by decide +kernel
theorem dX0_tryNextPart_20 : decode cX0_tryNextPart 20 = .ok (.iconst 0, 1) := by decide +kernel
theorem dX0_tryNextPart_21 : decode cX0_tryNextPart 21 = .ok (.istore 5, 2) := by decide +kernel
theorem dX0_tryNextPart_23 : decode cX0_tryNextPart 23 = .ok (.iload_n 2, 1) := by decide +kernel
theorem dX0_tryNextPart_24 : decode cX0_tryNextPart 24 = .ok (.iconst 1, 1) := by decide +kernel
theorem dX0_tryNextPart_25 : decode cX0_tryNextPart 25 = .ok (.iadd, 1) := by decide +kernel
theorem dX0_tryNextPart_26 : decode cX0_tryNextPart 26 = .ok (.istore 6, 2) := by decide +kernel
theorem dX0_tryNextPart_28 : decode cX0_tryNextPart 28 = .ok (.iload 6, 2) := by decide +kernel
theorem dX0_tryNextPart_30 : decode cX0_tryNextPart 30 = .ok (.iload 4, 2) := by decide +kernel
theorem dX0_tryNextPart_32 : decode cX0_tryNextPart 32 = .ok (.if_icmp .gt 74, 3) := by decide +kernel
theorem dX0_tryNextPart_35 : decode cX0_tryNextPart 35 = .ok (.iload 5, 2) := by decide +kernel
theorem dX0_tryNextPart_37 : decode cX0_tryNextPart 37 = .ok (.aload_n 0, 1) := by decide +kernel
theorem dX0_tryNextPart_38 : decode cX0_tryNextPart 38 = .ok (.getfield 24, 3) := by decide +kernel
theorem dX0_tryNextPart_41 : decode cX0_tryNextPart 41 = .ok (.iload 6, 2) := by decide +kernel
theorem dX0_tryNextPart_43 : decode cX0_tryNextPart 43 = .ok (.iconst 1, 1) := by decide +kernel
theorem dX0_tryNextPart_44 : decode cX0_tryNextPart 44 = .ok (.isub, 1) := by decide +kernel
theorem dX0_tryNextPart_45 : decode cX0_tryNextPart 45 = .ok (.invokevirtual 34, 3) := by decide +kernel
theorem dX0_tryNextPart_48 : decode cX0_tryNextPart 48 = .ok (.iadd, 1) := by decide +kernel
theorem dX0_tryNextPart_49 : decode cX0_tryNextPart 49 = .ok (.istore 5, 2) := by decide +kernel
theorem dX0_tryNextPart_51 : decode cX0_tryNextPart 51 = .ok (.iload 6, 2) := by decide +kernel
theorem dX0_tryNextPart_53 : decode cX0_tryNextPart 53 = .ok (.iload 4, 2) := by decide +kernel
theorem dX0_tryNextPart_55 : decode cX0_tryNextPart 55 = .ok (.if_icmp .ge 22, 3) := by decide +kernel
theorem dX0_tryNextPart_58 : decode cX0_tryNextPart 58 = .ok (.aload_n 0, 1) := by decide +kernel
theorem dX0_tryNextPart_59 : decode cX0_tryNextPart 59 = .ok (.iload_n 1, 1) := by decide +kernel
theorem dX0_tryNextPart_60 : decode cX0_tryNextPart 60 = .ok (.iconst 1, 1) := by decide +kernel
theorem dX0_tryNextPart_61 : decode cX0_tryNextPart 61 = .ok (.iadd, 1) := by decide +kernel
theorem dX0_tryNextPart_62 : decode cX0_tryNextPart 62 = .ok (.iload 6, 2) := by decide +kernel
theorem dX0_tryNextPart_64 : decode cX0_tryNextPart 64 = .ok (.iload_n 3, 1) := by decide +kernel
theorem dX0_tryNextPart_65 : decode cX0_tryNextPart 65 = .ok (.iload 5, 2) := by decide +kernel
theorem dX0_tryNextPart_67 : decode cX0_tryNextPart 67 = .ok (.iload 5, 2) := by decide +kernel
theorem dX0_tryNextPart_69 : decode cX0_tryNextPart 69 = .ok (.imul, 1) := by decide +kernel
theorem dX0_tryNextPart_70 : decode cX0_tryNextPart 70 = .ok (.iadd, 1) := by decide +kernel
theorem dX0_tryNextPart_71 : decode cX0_tryNextPart 71 = .ok (.invokestatic 54, 3) := by decide +kernel
theorem dX0_tryNextPart_74 : decode cX0_tryNextPart 74 = .ok (.goto 26, 3) := by decide +kernel
theorem dX0_tryNextPart_77 : decode cX0_tryNextPart 77 = .ok (.aload_n 0, 1) := by decide +kernel
theorem dX0_tryNextPart_78 : decode cX0_tryNextPart 78 = .ok (.getfield 21, 3) := by decide +kernel
theorem dX0_tryNextPart_81 : decode cX0_tryNextPart 81 = .ok (.iload_n 1, 1) := by decide +kernel
theorem dX0_tryNextPart_82 : decode cX0_tryNextPart 82 = .ok (.aload_n 0, 1) := by decide +kernel
theorem dX0_tryNextPart_83 : decode cX0_tryNextPart 83 = .ok (.iload_n 1, 1) := by decide +kernel
theorem dX0_tryNextPart_84 : decode cX0_tryNextPart 84 = .ok (.invokevirtual 58, 3) := by decide +kernel
theorem dX0_tryNextPart_87 : decode cX0_tryNextPart 87 = .ok (.iload_n 3, 1) := by decide +kernel
theorem dX0_tryNextPart_88 : decode cX0_tryNextPart 88 = .ok (.iload 5, 2) := by decide +kernel
theorem dX0_tryNextPart_90 : decode cX0_tryNextPart 90 = .ok (.iload 5, 2) := by decide +kernel
theorem dX0_tryNextPart_92 : decode cX0_tryNextPart 92 = .ok (.imul, 1) := by decide +kernel
theorem dX0_tryNextPart_93 : decode cX0_tryNextPart 93 = .ok (.iadd, 1) := by decide +kernel
theorem dX0_tryNextPart_94 : decode cX0_tryNextPart 94 = .ok (.invokestatic 61, 3) := by decide +kernel
theorem dX0_tryNextPart_97 : decode cX0_tryNextPart 97 = .ok (.invokestatic 38, 3) := by decide +kernel
theorem dX0_tryNextPart_100 : decode cX0_tryNextPart 100 = .ok (.iinc 6 1, 3) := by decide +kernel
theorem dX0_tryNextPart_103 : decode cX0_tryNextPart 103 = .ok (.goto (-75), 3) := by decide +kernel
theorem dX0_tryNextPart_106 : decode cX0_tryNextPart 106 = .ok (.return_, 1) := by decide +kernel
theorem dX1_init_0 : decode cX1_init 0 = .ok (.aload_n 0, 1) := by decide +kernel
theorem dX1_init_1 : decode cX1_init 1 = .ok (.invokespecial 3, 3) := by decide +kernel
theorem dX1_init_4 : decode cX1_init 4 = .ok (.aload_n 0, 1) := by decide +kernel
theorem dX1_init_5 : decode cX1_init 5 = .ok (.bipush 30, 2) := by decide +kernel
theorem dX1_init_7 : decode cX1_init 7 = .ok (.newarray .int, 2) := by decide +kernel
theorem dX1_init_9 : decode cX1_init 9 = .ok (.putfield 9, 3) := by decide +kernel
theorem dX1_init_12 : decode cX1_init 12 = .ok (.aload_n 0, 1) := by decide +kernel
theorem dX1_init_13 : decode cX1_init 13 = .ok (.iconst 3, 1) := by decide +kernel
theorem dX1_init_14 : decode cX1_init 14 = .ok (.newarray .int, 2) := by decide +kernel
theorem dX1_init_16 : decode cX1_init 16 = .ok (.putfield 15, 3) := by decide +kernel
theorem dX1_init_19 : decode cX1_init 19 = .ok (.aload_n 0, 1) := by decide +kernel
theorem dX1_init_20 : decode cX1_init 20 = .ok (.bipush 50, 2) := by decide +kernel
theorem dX1_init_22 : decode cX1_init 22 = .ok (.newarray .int, 2) := by decide +kernel
theorem dX1_init_24 : decode cX1_init 24 = .ok (.putfield 18, 3) := by decide +kernel
theorem dX1_init_27 : decode cX1_init 27 = .ok (.aload_n 0, 1) := by decide +kernel
theorem dX1_init_28 : decode cX1_init 28 = .ok (.iconst 5, 1) := by decide +kernel
theorem dX1_init_29 : decode cX1_init 29 = .ok (.newarray .int, 2) := by decide +kernel
theorem dX1_init_31 : decode cX1_init 31 = .ok (.putfield 21, 3) := by decide +kernel
theorem dX1_init_34 : decode cX1_init 34 = .ok (.aload_n 0, 1) := by decide +kernel
theorem dX1_init_35 : decode cX1_init 35 = .ok (.iconst 0, 1) := by decide +kernel
theorem dX1_init_36 : decode cX1_init 36 = .ok (.putfield 24, 3) := by decide +kernel
theorem dX1_init_39 : decode cX1_init 39 = .ok (.aload_n 0, 1) := by decide +kernel
theorem dX1_init_40 : decode cX1_init 40 = .ok (.iconst 0, 1) := by decide +kernel
theorem dX1_init_41 : decode cX1_init 41 = .ok (.putfield 28, 3) := by decide +kernel
theorem dX1_init_44 : decode cX1_init 44 = .ok (.aload_n 0, 1) := by decide +kernel
theorem dX1_init_45 : decode cX1_init 45 = .ok (.aload_n 1, 1) := by decide +kernel
theorem dX1_init_46 : decode cX1_init 46 = .ok (.putfield 31, 3) := by decide +kernel
theorem dX1_init_49 : decode cX1_init 49 = .ok (.return_, 1) := by decide +kernel
theorem dX1_seek_0 : decode cX1_seek 0 = .ok (.aload_n 0, 1) := by decide +kernel
theorem dX1_seek_1 : decode cX1_seek 1 = .ok (.iload_n 1, 1) := by decide +kernel
theorem dX1_seek_2 : decode cX1_seek 2 = .ok (.putfield 24, 3) := by decide +kernel
theorem dX1_seek_5 : decode cX1_seek 5 = .ok (.aload_n 0, 1) := by decide +kernel
theorem dX1_seek_6 : decode cX1_seek 6 = .ok (.iconst 0, 1) := by decide +kernel
theorem dX1_seek_7 : decode cX1_seek 7 = .ok (.putfield 28, 3) := by decide +kernel
theorem dX1_seek_10 : decode cX1_seek 10 = .ok (.aload_n 0, 1) := by decide +kernel
theorem dX1_seek_11 : decode cX1_seek 11 = .ok (.invokevirtual 35, 3) := by decide +kernel
theorem dX1_seek_14 : decode cX1_seek 14 = .ok (.aload_n 0, 1) := by decide +kernel
theorem dX1_seek_15 : decode cX1_seek 15 = .ok (.getfield 24, 3) := by decide +kernel
theorem dX1_seek_18 : decode cX1_seek 18 = .ok (.iconst 1, 1) := by decide +kernel
theorem dX1_seek_19 : decode cX1_seek 19 = .ok (.if_icmp .ne 31, 3) := by decide +kernel
theorem dX1_seek_22 : decode cX1_seek 22 = .ok (.aload_n 0, 1) := by decide +kernel
theorem dX1_seek_23 : decode cX1_seek 23 = .ok (.iconst 0, 1) := by decide +kernel
theorem dX1_seek_24 : decode cX1_seek 24 = .ok (.aload_n 0, 1) := by decide +kernel
theorem dX1_seek_25 : decode cX1_seek 25 = .ok (.getfield 31, 3) := by decide +kernel
theorem dX1_seek_28 : decode cX1_seek 28 = .ok (.getfield 38, 3) := by decide +kernel
theorem dX1_seek_31 : decode cX1_seek 31 = .ok (.iconst 1, 1) := by decide +kernel
theorem dX1_seek_32 : decode cX1_seek 32 = .ok (.isub, 1) := by decide +kernel
theorem dX1_seek_33 : decode cX1_seek 33 = .ok (.iconst 0, 1) := by decide +kernel
theorem dX1_seek_34 : decode cX1_seek 34 = .ok (.aload_n 0, 1) := by decide +kernel
theorem dX1_seek_35 : decode cX1_seek 35 = .ok (.getfield 31, 3) := by decide +kernel
theorem dX1_seek_38 : decode cX1_seek 38 = .ok (.getfield 43, 3) := by decide +kernel
theorem dX1_seek_41 : decode cX1_seek 41 = .ok (.iconst 1, 1) := by decide +kernel
theorem dX1_seek_42 : decode cX1_seek 42 = .ok (.isub, 1) := by decide +kernel
theorem dX1_seek_43 : decode cX1_seek 43 = .ok (.iconst 0, 1) := by decide +kernel
theorem dX1_seek_44 : decode cX1_seek 44 = .ok (.invokestatic 46, 3) := by decide +kernel
theorem dX1_seek_47 : decode cX1_seek 47 = .ok (.goto 53, 3) := by decide +kernel
theorem dX1_seek_50 : decode cX1_seek 50 = .ok (.aload_n 0, 1) := by decide +kernel
theorem dX1_seek_51 : decode cX1_seek 51 = .ok (.getfield 24, 3) := by decide +kernel
theorem dX1_seek_54 : decode cX1_seek 54 = .ok (.iconst 2, 1) := by decide +kernel
theorem dX1_seek_55 : decode cX1_seek 55 = .ok (.if_icmp .ne 41, 3) := by decide +kernel
theorem dX1_seek_58 : decode cX1_seek 58 = .ok (.iconst 0, 1) := by decide +kernel
theorem dX1_seek_59 : decode cX1_seek 59 = .ok (.istore_n 2, 1) := by decide +kernel
theorem dX1_seek_60 : decode cX1_seek 60 = .ok (.iload_n 2, 1) := by decide +kernel
theorem dX1_seek_61 : decode cX1_seek 61 = .ok (.iconst 4, 1) := by decide +kernel
theorem dX1_seek_62 : decode cX1_seek 62 = .ok (.if_icmp .ge 14, 3) := by decide +kernel
theorem dX1_seek_65 : decode cX1_seek 65 = .ok (.aload_n 0, 1) := by decide +kernel
theorem dX1_seek_66 : decode cX1_seek 66 = .ok (.iload_n 2, 1) := by decide +kernel
theorem dX1_seek_67 : decode cX1_seek 67 = .ok (.invokevirtual 50, 3) := by decide +kernel
theorem dX1_seek_70 : decode cX1_seek 70 = .ok (.iinc 2 1, 3) := by decide +kernel
theorem dX1_seek_73 : decode cX1_seek 73 = .ok (.goto (-13), 3) := by decide +kernel
theorem dX1_seek_76 : decode cX1_seek 76 = .ok (.iconst 3, 1) := by decide +kernel
theorem dX1_seek_77 : decode cX1_seek 77 = .ok (.istore_n 2, 1) := by decide +kernel
theorem dX1_seek_78 : decode cX1_seek 78 = .ok (.iload_n 2, 1) := by decide +kernel
theorem dX1_seek_79 : decode cX1_seek 79 = .ok (.ifCond .lt 14, 3) := by decide +kernel
theorem dX1_seek_82 : decode cX1_seek 82 = .ok (.aload_n 0, 1) := by decide +kernel
theorem dX1_seek_83 : decode cX1_seek 83 = .ok (.iload_n 2, 1) := by decide +kernel
theorem dX1_seek_84 : decode cX1_seek 84 = .ok (.invokevirtual 54, 3) := by decide +kernel
theorem dX1_seek_87 : decode cX1_seek 87 = .ok (.iinc 2 (-1), 3) := by decide +kernel
theorem dX1_seek_90 : decode cX1_seek 90 = .ok (.goto (-12), 3) := by decide +kernel
theorem dX1_seek_93 : decode cX1_seek 93 = .ok (.goto 7, 3) := by decide +kernel
theorem dX1_seek_96 : decode cX1_seek 96 = .ok (.aload_n 0, 1) := by decide +kernel
theorem dX1_seek_97 : decode cX1_seek 97 = .ok (.invokevirtual 57, 3) := by decide +kernel
theorem dX1_seek_100 : decode cX1_seek 100 = .ok (.aload_n 0, 1) := by decide +kernel
theorem dX1_seek_101 : decode cX1_seek 101 = .ok (.getfield 15, 3) := by decide +kernel
theorem dX1_seek_104 : decode cX1_seek 104 = .ok (.aload_n 0, 1) := by decide +kernel
theorem dX1_seek_105 : decode cX1_seek 105 = .ok (.getfield 24, 3) := by decide +kernel
theorem dX1_seek_108 : decode cX1_seek 108 = .ok (.aload_n 0, 1) := by decide +kernel
theorem dX1_seek_109 : decode cX1_seek 109 = .ok (.getfield 28, 3) := by decide +kernel
theorem dX1_seek_112 : decode cX1_seek 112 = .ok (.invokestatic 60, 3) := by decide +kernel
theorem dX1_seek_115 : decode cX1_seek 115 = .ok (.return_, 1) := by decide +kernel
theorem dX1_tellNothing_0 : decode cX1_tellNothing 0 = .ok (.iconst 0, 1) := by decide +kernel
theorem dX1_tellNothing_1 : decode cX1_tellNothing 1 = .ok (.istore_n 2, 1) := by decide +kernel
theorem dX1_tellNothing_2 : decode cX1_tellNothing 2 = .ok (.iload_n 2, 1) := by decide +kernel
theorem dX1_tellNothing_3 : decode cX1_tellNothing 3 = .ok (.bipush 10, 2) := by decide +kernel
theorem dX1_tellNothing_5 : decode cX1_tellNothing 5 = .ok (.if_icmp .ge 23, 3) := by decide +kernel
theorem dX1_tellNothing_8 : decode cX1_tellNothing 8 = .ok (.aload_n 0, 1) := by decide +kernel
theorem dX1_tellNothing_9 : decode cX1_tellNothing 9 = .ok (.getfield 9, 3) := by decide +kernel
theorem dX1_tellNothing_12 : decode cX1_tellNothing 12 = .ok (.iload_n 1, 1) := by decide +kernel
theorem dX1_tellNothing_13 : decode cX1_tellNothing 13 = .ok (.bipush 10, 2) := by decide +kernel
theorem dX1_tellNothing_15 : decode cX1_tellNothing 15 = .ok (.imul, 1) := by decide +kernel
theorem dX1_tellNothing_16 : decode cX1_tellNothing 16 = .ok (.iload_n 2, 1) := by decide +kernel
theorem dX1_tellNothing_17 : decode cX1_tellNothing 17 = .ok (.iadd, 1) := by decide +kernel
theorem dX1_tellNothing_18 : decode cX1_tellNothing 18 = .ok (.iconst (-1), 1) := by decide +kernel
theorem dX1_tellNothing_19 : decode cX1_tellNothing 19 = .ok (.invokestatic 60, 3) := by decide +kernel
theorem dX1_tellNothing_22 : decode cX1_tellNothing 22 = .ok (.iinc 2 1, 3) := by decide +kernel
theorem dX1_tellNothing_25 : decode cX1_tellNothing 25 = .ok (.goto (-23), 3) := by decide +kernel
theorem dX1_tellNothing_28 : decode cX1_tellNothing 28 = .ok (.aload_n 0, 1) := by decide +kernel
theorem dX1_tellNothing_29 : decode cX1_tellNothing 29 = .ok (.getfield 15, 3) := by decide +kernel
theorem dX1_tellNothing_32 : decode cX1_tellNothing 32 = .ok (.iload_n 1, 1) := by decide +kernel
theorem dX1_tellNothing_33 : decode cX1_tellNothing 33 = .ok (.iconst (-1), 1) := by decide +kernel
theorem dX1_tellNothing_34 : decode cX1_tellNothing 34 = .ok (.invokestatic 60, 3) := by decide +kernel
theorem dX1_tellNothing_37 : decode cX1_tellNothing 37 = .ok (.return_, 1) := by decide +kernel
theorem dX1_looksBy_0 : decode cX1_looksBy 0 = .ok (.aload_n 0, 1) := by decide +kernel
theorem dX1_looksBy_1 : decode cX1_looksBy 1 = .ok (.getfield 15, 3) := by decide +kernel
theorem dX1_looksBy_4 : decode cX1_looksBy 4 = .ok (.iload_n 1, 1) := by decide +kernel
theorem dX1_looksBy_5 : decode cX1_looksBy 5 = .ok (.invokestatic 64, 3) := by decide +kernel
theorem dX1_looksBy_8 : decode cX1_looksBy 8 = .ok (.ireturn, 1) := by decide +kernel
theorem dX1_placeBy_0 : decode cX1_placeBy 0 = .ok (.aload_n 0, 1) := by decide +kernel
theorem dX1_placeBy_1 : decode cX1_placeBy 1 = .ok (.getfield 9, 3) := by decide +kernel
theorem dX1_placeBy_4 : decode cX1_placeBy 4 = .ok (.iload_n 1, 1) := by decide +kernel
theorem dX1_placeBy_5 : decode cX1_placeBy 5 = .ok (.bipush 10, 2) := by decide +kernel
theorem dX1_placeBy_7 : decode cX1_placeBy 7 = .ok (.imul, 1) := by decide +kernel
theorem dX1_placeBy_8 : decode cX1_placeBy 8 = .ok (.iload_n 2, 1) := by decide +kernel
theorem dX1_placeBy_9 : decode cX1_placeBy 9 = .ok (.iadd, 1) := by decide +kernel
theorem dX1_placeBy_10 : decode cX1_placeBy 10 = .ok (.invokestatic 64, 3) := by decide +kernel
theorem dX1_placeBy_13 : decode cX1_placeBy 13 = .ok (.ireturn, 1) := by decide +kernel
theorem dX1_placesGoneBack_0 : decode cX1_placesGoneBack 0 = .ok (.iconst 0, 1) := by decide +kernel
theorem dX1_placesGoneBack_1 : decode cX1_placesGoneBack 1 = .ok (.istore_n 1, 1) := by decide +kernel
theorem dX1_placesGoneBack_2 : decode cX1_placesGoneBack 2 = .ok (.iconst 1, 1) := by decide +kernel
theorem dX1_placesGoneBack_3 : decode cX1_placesGoneBack 3 = .ok (.istore_n 2, 1) := by decide +kernel
theorem dX1_placesGoneBack_4 : decode cX1_placesGoneBack 4 = .ok (.iload_n 2, 1) := by decide +kernel
theorem dX1_placesGoneBack_5 : decode cX1_placesGoneBack 5 = .ok (.aload_n 0, 1) := by decide +kernel
theorem dX1_placesGoneBack_6 : decode cX1_placesGoneBack 6 = .ok (.getfield 31, 3) := by decide +kernel
theorem dX1_placesGoneBack_9 : decode cX1_placesGoneBack 9 = .ok (.getfield 38, 3) := by decide +kernel
theorem dX1_placesGoneBack_12 : decode cX1_placesGoneBack 12 = .ok (.if_icmp .ge 29, 3) := by decide +kernel
theorem dX1_placesGoneBack_15 : decode cX1_placesGoneBack 15 = .ok (.aload_n 0, 1) := by decide +kernel
theorem dX1_placesGoneBack_16 : decode cX1_placesGoneBack 16 = .ok (.iconst 0, 1) := by decide +kernel
theorem dX1_placesGoneBack_17 : decode cX1_placesGoneBack 17 = .ok (.iload_n 2, 1) := by decide +kernel
theorem dX1_placesGoneBack_18 : decode cX1_placesGoneBack 18 = .ok (.invokevirtual 68, 3) := by decide +kernel
theorem dX1_placesGoneBack_21 : decode cX1_placesGoneBack 21 = .ok (.aload_n 0, 1) := by decide +kernel
theorem dX1_placesGoneBack_22 : decode cX1_placesGoneBack 22 = .ok (.iconst 0, 1) := by decide +kernel
theorem dX1_placesGoneBack_23 : decode cX1_placesGoneBack 23 = .ok (.iload_n 2, 1) := by decide +kernel
theorem dX1_placesGoneBack_24 : decode cX1_placesGoneBack 24 = .ok (.iconst 1, 1) := by decide +kernel
theorem dX1_placesGoneBack_25 : decode cX1_placesGoneBack 25 = .ok (.isub, 1) := by decide +kernel
theorem dX1_placesGoneBack_26 : decode cX1_placesGoneBack 26 = .ok (.invokevirtual 68, 3) := by decide +kernel
theorem dX1_placesGoneBack_29 : decode cX1_placesGoneBack 29 = .ok (.if_icmp .ge 6, 3) := by decide +kernel
theorem dX1_placesGoneBack_32 : decode cX1_placesGoneBack 32 = .ok (.iinc 1 1, 3) := by decide +kernel
theorem dX1_placesGoneBack_35 : decode cX1_placesGoneBack 35 = .ok (.iinc 2 1, 3) := by decide +kernel
theorem dX1_placesGoneBack_38 : decode cX1_placesGoneBack 38 = .ok (.goto (-34), 3) := by decide +kernel
theorem dX1_placesGoneBack_41 : decode cX1_placesGoneBack 41 = .ok (.iload_n 1, 1) := by decide +kernel
theorem dX1_placesGoneBack_42 : decode cX1_placesGoneBack 42 = .ok (.ireturn, 1) := by decide +kernel
theorem dX1_shareOfHalves_0 : decode cX1_shareOfHalves 0 = .ok (.aload_n 0, 1) := by decide +kernel
theorem dX1_shareOfHalves_1 : decode cX1_shareOfHalves 1 = .ok (.iconst 0, 1) := by decide +kernel
theorem dX1_shareOfHalves_2 : decode cX1_shareOfHalves 2 = .ok (.invokevirtual 72, 3) := by decide +kernel
theorem dX1_shareOfHalves_5 : decode cX1_shareOfHalves 5 = .ok (.istore_n 1, 1) := by decide +kernel
theorem dX1_shareOfHalves_6 : decode cX1_shareOfHalves 6 = .ok (.iload_n 1, 1) := by decide +kernel
theorem dX1_shareOfHalves_7 : decode cX1_shareOfHalves 7 = .ok (.ifCond .gt 7, 3) := by decide +kernel
theorem dX1_shareOfHalves_10 : decode cX1_shareOfHalves 10 = .ok (.dconst 0, 1) := by decide +kernel
theorem dX1_shareOfHalves_11 : decode cX1_shareOfHalves 11 = .ok (.goto 12, 3) := by decide +kernel
theorem dX1_shareOfHalves_14 : decode cX1_shareOfHalves 14 = .ok (.aload_n 0, 1) := by decide +kernel
theorem dX1_shareOfHalves_15 : decode cX1_shareOfHalves 15 = .ok (.iconst 1, 1) := by decide +kernel
theorem dX1_shareOfHalves_16 : decode cX1_shareOfHalves 16 = .ok (.invokevirtual 72, 3) := by decide +kernel
theorem dX1_shareOfHalves_19 : decode cX1_shareOfHalves 19 = .ok (.i2d, 1) := by decide +kernel
theorem dX1_shareOfHalves_20 : decode cX1_shareOfHalves 20 = .ok (.iload_n 1, 1) := by decide +kernel
theorem dX1_shareOfHalves_21 : decode cX1_shareOfHalves 21 = .ok (.i2d, 1) := by decide +kernel
theorem dX1_shareOfHalves_22 : decode cX1_shareOfHalves 22 = .ok (.ddiv, 1) := by decide +kernel
theorem dX1_shareOfHalves_23 : decode cX1_shareOfHalves 23 = .ok (.dreturn, 1) := by decide +kernel
theorem dX1_leaveAllColumns_0 : decode cX1_leaveAllColumns 0 = .ok (.iconst 0, 1) := by decide +kernel
theorem dX1_leaveAllColumns_1 : decode cX1_leaveAllColumns 1 = .ok (.istore_n 1, 1) := by decide +kernel
theorem dX1_leaveAllColumns_2 : decode cX1_leaveAllColumns 2 = .ok (.iload_n 1, 1) := by decide +kernel
theorem dX1_leaveAllColumns_3 : decode cX1_leaveAllColumns 3 = .ok (.aload_n 0, 1) := by decide +kernel
theorem dX1_leaveAllColumns_4 : decode cX1_leaveAllColumns 4 = .ok (.getfield 31, 3) := by decide +kernel
theorem dX1_leaveAllColumns_7 : decode cX1_leaveAllColumns 7 = .ok (.getfield 43, 3) := by decide +kernel
theorem dX1_leaveAllColumns_10 : decode cX1_leaveAllColumns 10 = .ok (.if_icmp .ge 18, 3) := by decide +kernel
theorem dX1_leaveAllColumns_13 : decode cX1_leaveAllColumns 13 = .ok (.aload_n 0, 1) := by decide +kernel
theorem dX1_leaveAllColumns_14 : decode cX1_leaveAllColumns 14 = .ok (.getfield 18, 3) := by decide +kernel
theorem dX1_leaveAllColumns_17 : decode cX1_leaveAllColumns 17 = .ok (.iload_n 1, 1) := by decide +kernel
theorem dX1_leaveAllColumns_18 : decode cX1_leaveAllColumns 18 = .ok (.iload_n 1, 1) := by decide +kernel
theorem dX1_leaveAllColumns_19 : decode cX1_leaveAllColumns 19 = .ok (.invokestatic 60, 3) := by decide +kernel
theorem dX1_leaveAllColumns_22 : decode cX1_leaveAllColumns 22 = .ok (.iinc 1 1, 3) := by decide +kernel
theorem dX1_leaveAllColumns_25 : decode cX1_leaveAllColumns 25 = .ok (.goto (-23), 3) := by decide +kernel
theorem dX1_leaveAllColumns_28 : decode cX1_leaveAllColumns 28 = .ok (.aload_n 0, 1) := by decide +kernel
theorem dX1_leaveAllColumns_29 : decode cX1_leaveAllColumns 29 = .ok (.getfield 21, 3) := by decide +kernel
theorem dX1_leaveAllColumns_32 : decode cX1_leaveAllColumns 32 = .ok (.iconst 0, 1) := by decide +kernel
theorem dX1_leaveAllColumns_33 : decode cX1_leaveAllColumns 33 = .ok (.aload_n 0, 1) := by decide +kernel
theorem dX1_leaveAllColumns_34 : decode cX1_leaveAllColumns 34 = .ok (.getfield 31, 3) := by decide +kernel
theorem dX1_leaveAllColumns_37 : decode cX1_leaveAllColumns 37 = .ok (.getfield 43, 3) := by decide +kernel
theorem dX1_leaveAllColumns_40 : decode cX1_leaveAllColumns 40 = .ok (.invokestatic 60, 3) := by decide +kernel
theorem dX1_leaveAllColumns_43 : decode cX1_leaveAllColumns 43 = .ok (.return_, 1) := by decide +kernel
theorem dX1_lookAtAll_0 : decode cX1_lookAtAll 0 = .ok (.iconst 0, 1) := by decide +kernel
theorem dX1_lookAtAll_1 : decode cX1_lookAtAll 1 = .ok (.istore_n 1, 1) := by decide +kernel
theorem dX1_lookAtAll_2 : decode cX1_lookAtAll 2 = .ok (.iload_n 1, 1) := by decide +kernel
theorem dX1_lookAtAll_3 : decode cX1_lookAtAll 3 = .ok (.aload_n 0, 1) := by decide +kernel
theorem dX1_lookAtAll_4 : decode cX1_lookAtAll 4 = .ok (.getfield 31, 3) := by decide +kernel
theorem dX1_lookAtAll_7 : decode cX1_lookAtAll 7 = .ok (.getfield 38, 3) := by decide +kernel
theorem dX1_lookAtAll_10 : decode cX1_lookAtAll 10 = .ok (.if_icmp .ge 30, 3) := by decide +kernel
theorem dX1_lookAtAll_13 : decode cX1_lookAtAll 13 = .ok (.aload_n 0, 1) := by decide +kernel
theorem dX1_lookAtAll_14 : decode cX1_lookAtAll 14 = .ok (.iload_n 1, 1) := by decide +kernel
theorem dX1_lookAtAll_15 : decode cX1_lookAtAll 15 = .ok (.aload_n 0, 1) := by decide +kernel
theorem dX1_lookAtAll_16 : decode cX1_lookAtAll 16 = .ok (.iload_n 1, 1) := by decide +kernel
theorem dX1_lookAtAll_17 : decode cX1_lookAtAll 17 = .ok (.iconst 0, 1) := by decide +kernel
theorem dX1_lookAtAll_18 : decode cX1_lookAtAll 18 = .ok (.iconst 0, 1) := by decide +kernel
theorem dX1_lookAtAll_19 : decode cX1_lookAtAll 19 = .ok (.aload_n 0, 1) := by decide +kernel
theorem dX1_lookAtAll_20 : decode cX1_lookAtAll 20 = .ok (.getfield 31, 3) := by decide +kernel
theorem dX1_lookAtAll_23 : decode cX1_lookAtAll 23 = .ok (.getfield 43, 3) := by decide +kernel
theorem dX1_lookAtAll_26 : decode cX1_lookAtAll 26 = .ok (.iconst 1, 1) := by decide +kernel
theorem dX1_lookAtAll_27 : decode cX1_lookAtAll 27 = .ok (.isub, 1) := by decide +kernel
theorem dX1_lookAtAll_28 : decode cX1_lookAtAll 28 = .ok (.invokevirtual 76, 3) := by decide +kernel
theorem dX1_lookAtAll_31 : decode cX1_lookAtAll 31 = .ok (.invokevirtual 80, 3) := by decide +kernel
theorem dX1_lookAtAll_34 : decode cX1_lookAtAll 34 = .ok (.iinc 1 1, 3) := by decide +kernel
theorem dX1_lookAtAll_37 : decode cX1_lookAtAll 37 = .ok (.goto (-35), 3) := by decide +kernel
theorem dX1_lookAtAll_40 : decode cX1_lookAtAll 40 = .ok (.return_, 1) := by decide +kernel
theorem dX1_halve_0 : decode cX1_halve 0 = .ok (.aload_n 0, 1) := by decide +kernel
theorem dX1_halve_1 : decode cX1_halve 1 = .ok (.ifnull 15, 3) := by decide +kernel
theorem dX1_halve_4 : decode cX1_halve 4 = .ok (.iload_n 1, 1) := by decide +kernel
theorem dX1_halve_5 : decode cX1_halve 5 = .ok (.iload_n 2, 1) := by decide +kernel
theorem dX1_halve_6 : decode cX1_halve 6 = .ok (.if_icmp .gt 10, 3) := by decide +kernel
theorem dX1_halve_9 : decode cX1_halve 9 = .ok (.iload 5, 2) := by decide +kernel
theorem dX1_halve_11 : decode cX1_halve 11 = .ok (.bipush 10, 2) := by decide +kernel
theorem dX1_halve_13 : decode cX1_halve 13 = .ok (.if_icmp .le 4, 3) := by decide +kernel
theorem dX1_halve_16 : decode cX1_halve 16 = .ok (.return_, 1) := by decide +kernel
theorem dX1_halve_17 : decode cX1_halve 17 = .ok (.iload_n 1, 1) := by decide +kernel
theorem dX1_halve_18 : decode cX1_halve 18 = .ok (.iload_n 2, 1) := by decide +kernel
theorem dX1_halve_19 : decode cX1_halve 19 = .ok (.iadd, 1) := by decide +kernel
theorem dX1_halve_20 : decode cX1_halve 20 = .ok (.iconst 2, 1) := by decide +kernel
theorem dX1_halve_21 : decode cX1_halve 21 = .ok (.idiv, 1) := by decide +kernel
theorem dX1_halve_22 : decode cX1_halve 22 = .ok (.istore 6, 2) := by decide +kernel
theorem dX1_halve_24 : decode cX1_halve 24 = .ok (.aload_n 0, 1) := by decide +kernel
theorem dX1_halve_25 : decode cX1_halve 25 = .ok (.iload 6, 2) := by decide +kernel
theorem dX1_halve_27 : decode cX1_halve 27 = .ok (.iconst 0, 1) := by decide +kernel
theorem dX1_halve_28 : decode cX1_halve 28 = .ok (.iload_n 3, 1) := by decide +kernel
theorem dX1_halve_29 : decode cX1_halve 29 = .ok (.iload 4, 2) := by decide +kernel
theorem dX1_halve_31 : decode cX1_halve 31 = .ok (.invokevirtual 76, 3) := by decide +kernel
theorem dX1_halve_34 : decode cX1_halve 34 = .ok (.istore 7, 2) := by decide +kernel
theorem dX1_halve_36 : decode cX1_halve 36 = .ok (.aload_n 0, 1) := by decide +kernel
theorem dX1_halve_37 : decode cX1_halve 37 = .ok (.iload 6, 2) := by decide +kernel
theorem dX1_halve_39 : decode cX1_halve 39 = .ok (.iload 7, 2) := by decide +kernel
theorem dX1_halve_41 : decode cX1_halve 41 = .ok (.invokevirtual 80, 3) := by decide +kernel
theorem dX1_halve_44 : decode cX1_halve 44 = .ok (.aload_n 0, 1) := by decide +kernel
theorem dX1_halve_45 : decode cX1_halve 45 = .ok (.iload_n 1, 1) := by decide +kernel
theorem dX1_halve_46 : decode cX1_halve 46 = .ok (.iload 6, 2) := by decide +kernel
theorem dX1_halve_48 : decode cX1_halve 48 = .ok (.iconst 1, 1) := by decide +kernel
theorem dX1_halve_49 : decode cX1_halve 49 = .ok (.isub, 1) := by decide +kernel
theorem dX1_halve_50 : decode cX1_halve 50 = .ok (.iload_n 3, 1) := by decide +kernel
theorem dX1_halve_51 : decode cX1_halve 51 = .ok (.iload 7, 2) := by decide +kernel
theorem dX1_halve_53 : decode cX1_halve 53 = .ok (.iload 5, 2) := by decide +kernel
theorem dX1_halve_55 : decode cX1_halve 55 = .ok (.iconst 1, 1) := by decide +kernel
theorem dX1_halve_56 : decode cX1_halve 56 = .ok (.iadd, 1) := by decide +kernel
theorem dX1_halve_57 : decode cX1_halve 57 = .ok (.invokestatic 46, 3) := by decide +kernel
theorem dX1_halve_60 : decode cX1_halve 60 = .ok (.aload_n 0, 1) := by decide +kernel
theorem dX1_halve_61 : decode cX1_halve 61 = .ok (.iload 6, 2) := by decide +kernel
theorem dX1_halve_63 : decode cX1_halve 63 = .ok (.iconst 1, 1) := by decide +kernel
theorem dX1_halve_64 : decode cX1_halve 64 = .ok (.iadd, 1) := by decide +kernel
theorem dX1_halve_65 : decode cX1_halve 65 = .ok (.iload_n 2, 1) := by decide +kernel
theorem dX1_halve_66 : decode cX1_halve 66 = .ok (.iload 7, 2) := by decide +kernel
theorem dX1_halve_68 : decode cX1_halve 68 = .ok (.iload 4, 2) := by decide +kernel
theorem dX1_halve_70 : decode cX1_halve 70 = .ok (.iload 5, 2) := by decide +kernel
theorem dX1_halve_72 : decode cX1_halve 72 = .ok (.iconst 1, 1) := by decide +kernel
theorem dX1_halve_73 : decode cX1_halve 73 = .ok (.iadd, 1) := by decide +kernel
theorem dX1_halve_74 : decode cX1_halve 74 = .ok (.invokestatic 46, 3) := by decide +kernel
theorem dX1_halve_77 : decode cX1_halve 77 = .ok (.return_, 1) := by decide +kernel
theorem dX1_rowsAt_0 : decode cX1_rowsAt 0 = .ok (.aload_n 0, 1) := by decide +kernel
theorem dX1_rowsAt_1 : decode cX1_rowsAt 1 = .ok (.getfield 31, 3) := by decide +kernel
theorem dX1_rowsAt_4 : decode cX1_rowsAt 4 = .ok (.getfield 38, 3) := by decide +kernel
theorem dX1_rowsAt_7 : decode cX1_rowsAt 7 = .ok (.iload_n 1, 1) := by decide +kernel
theorem dX1_rowsAt_8 : decode cX1_rowsAt 8 = .ok (.ishr, 1) := by decide +kernel
theorem dX1_rowsAt_9 : decode cX1_rowsAt 9 = .ok (.ireturn, 1) := by decide +kernel
theorem dX1_rowAt_0 : decode cX1_rowAt 0 = .ok (.iload_n 2, 1) := by decide +kernel
theorem dX1_rowAt_1 : decode cX1_rowAt 1 = .ok (.iconst 1, 1) := by decide +kernel
theorem dX1_rowAt_2 : decode cX1_rowAt 2 = .ok (.iadd, 1) := by decide +kernel
theorem dX1_rowAt_3 : decode cX1_rowAt 3 = .ok (.iload_n 1, 1) := by decide +kernel
theorem dX1_rowAt_4 : decode cX1_rowAt 4 = .ok (.ishl, 1) := by decide +kernel
theorem dX1_rowAt_5 : decode cX1_rowAt 5 = .ok (.iconst 1, 1) := by decide +kernel
theorem dX1_rowAt_6 : decode cX1_rowAt 6 = .ok (.isub, 1) := by decide +kernel
theorem dX1_rowAt_7 : decode cX1_rowAt 7 = .ok (.ireturn, 1) := by decide +kernel
theorem dX1_columnLeft_0 : decode cX1_columnLeft 0 = .ok (.aload_n 0, 1) := by decide +kernel
theorem dX1_columnLeft_1 : decode cX1_columnLeft 1 = .ok (.getfield 18, 3) := by decide +kernel
theorem dX1_columnLeft_4 : decode cX1_columnLeft 4 = .ok (.iload_n 1, 1) := by decide +kernel
theorem dX1_columnLeft_5 : decode cX1_columnLeft 5 = .ok (.bipush 10, 2) := by decide +kernel
theorem dX1_columnLeft_7 : decode cX1_columnLeft 7 = .ok (.imul, 1) := by decide +kernel
theorem dX1_columnLeft_8 : decode cX1_columnLeft 8 = .ok (.iload_n 2, 1) := by decide +kernel
theorem dX1_columnLeft_9 : decode cX1_columnLeft 9 = .ok (.iadd, 1) := by decide +kernel
theorem dX1_columnLeft_10 : decode cX1_columnLeft 10 = .ok (.invokestatic 64, 3) := by decide +kernel
theorem dX1_columnLeft_13 : decode cX1_columnLeft 13 = .ok (.ireturn, 1) := by decide +kernel
theorem dX1_pileColumns_0 : decode cX1_pileColumns 0 = .ok (.aload_n 0, 1) := by decide +kernel
theorem dX1_pileColumns_1 : decode cX1_pileColumns 1 = .ok (.iload_n 1, 1) := by decide +kernel
theorem dX1_pileColumns_2 : decode cX1_pileColumns 2 = .ok (.invokevirtual 84, 3) := by decide +kernel
theorem dX1_pileColumns_5 : decode cX1_pileColumns 5 = .ok (.istore_n 2, 1) := by decide +kernel
theorem dX1_pileColumns_6 : decode cX1_pileColumns 6 = .ok (.iload_n 2, 1) := by decide +kernel
theorem dX1_pileColumns_7 : decode cX1_pileColumns 7 = .ok (.ifCond .ne 7, 3) := by decide +kernel
theorem dX1_pileColumns_10 : decode cX1_pileColumns 10 = .ok (.iconst 0, 1) := by decide +kernel
theorem dX1_pileColumns_11 : decode cX1_pileColumns 11 = .ok (.goto 11, 3) := by decide +kernel
theorem dX1_pileColumns_14 : decode cX1_pileColumns 14 = .ok (.aload_n 0, 1) := by decide +kernel
theorem dX1_pileColumns_15 : decode cX1_pileColumns 15 = .ok (.getfield 21, 3) := by decide +kernel
theorem dX1_pileColumns_18 : decode cX1_pileColumns 18 = .ok (.iload_n 1, 1) := by decide +kernel
theorem dX1_pileColumns_19 : decode cX1_pileColumns 19 = .ok (.invokestatic 64, 3) := by decide +kernel
theorem dX1_pileColumns_22 : decode cX1_pileColumns 22 = .ok (.istore_n 3, 1) := by decide +kernel
theorem dX1_pileColumns_23 : decode cX1_pileColumns 23 = .ok (.iconst 0, 1) := by decide +kernel
theorem dX1_pileColumns_24 : decode cX1_pileColumns 24 = .ok (.istore 4, 2) := by decide +kernel
theorem dX1_pileColumns_26 : decode cX1_pileColumns 26 = .ok (.iconst 0, 1) := by decide +kernel
theorem dX1_pileColumns_27 : decode cX1_pileColumns 27 = .ok (.istore 5, 2) := by decide +kernel
theorem dX1_pileColumns_29 : decode cX1_pileColumns 29 = .ok (.iload 5, 2) := by decide +kernel
theorem dX1_pileColumns_31 : decode cX1_pileColumns 31 = .ok (.iload_n 3, 1) := by decide +kernel
theorem dX1_pileColumns_32 : decode cX1_pileColumns 32 = .ok (.if_icmp .ge 56, 3) := by decide +kernel
theorem dX1_pileColumns_35 : decode cX1_pileColumns 35 = .ok (.aload_n 0, 1) := by decide +kernel
theorem dX1_pileColumns_36 : decode cX1_pileColumns 36 = .ok (.iload_n 1, 1) := by decide +kernel
theorem dX1_pileColumns_37 : decode cX1_pileColumns 37 = .ok (.iload 5, 2) := by decide +kernel
theorem dX1_pileColumns_39 : decode cX1_pileColumns 39 = .ok (.invokevirtual 87, 3) := by decide +kernel
theorem dX1_pileColumns_42 : decode cX1_pileColumns 42 = .ok (.istore 6, 2) := by decide +kernel
theorem dX1_pileColumns_44 : decode cX1_pileColumns 44 = .ok (.aload_n 0, 1) := by decide +kernel
theorem dX1_pileColumns_45 : decode cX1_pileColumns 45 = .ok (.iload_n 1, 1) := by decide +kernel
theorem dX1_pileColumns_46 : decode cX1_pileColumns 46 = .ok (.iload 4, 2) := by decide +kernel
theorem dX1_pileColumns_48 : decode cX1_pileColumns 48 = .ok (.iload 6, 2) := by decide +kernel
theorem dX1_pileColumns_50 : decode cX1_pileColumns 50 = .ok (.invokevirtual 90, 3) := by decide +kernel
theorem dX1_pileColumns_53 : decode cX1_pileColumns 53 = .ok (.istore 4, 2) := by decide +kernel
theorem dX1_pileColumns_55 : decode cX1_pileColumns 55 = .ok (.iload 4, 2) := by decide +kernel
theorem dX1_pileColumns_57 : decode cX1_pileColumns 57 = .ok (.iload_n 2, 1) := by decide +kernel
theorem dX1_pileColumns_58 : decode cX1_pileColumns 58 = .ok (.if_icmp .ge 24, 3) := by decide +kernel
theorem dX1_pileColumns_61 : decode cX1_pileColumns 61 = .ok (.aload_n 0, 1) := by decide +kernel
theorem dX1_pileColumns_62 : decode cX1_pileColumns 62 = .ok (.getfield 18, 3) := by decide +kernel
theorem dX1_pileColumns_65 : decode cX1_pileColumns 65 = .ok (.iload_n 1, 1) := by decide +kernel
theorem dX1_pileColumns_66 : decode cX1_pileColumns 66 = .ok (.iconst 1, 1) := by decide +kernel
theorem dX1_pileColumns_67 : decode cX1_pileColumns 67 = .ok (.iadd, 1) := by decide +kernel
theorem dX1_pileColumns_68 : decode cX1_pileColumns 68 = .ok (.bipush 10, 2) := by decide +kernel
theorem dX1_pileColumns_70 : decode cX1_pileColumns 70 = .ok (.imul, 1) := by decide +kernel
theorem dX1_pileColumns_71 : decode cX1_pileColumns 71 = .ok (.iload 4, 2) := by decide +kernel
theorem dX1_pileColumns_73 : decode cX1_pileColumns 73 = .ok (.iadd, 1) := by decide +kernel
theorem dX1_pileColumns_74 : decode cX1_pileColumns 74 = .ok (.iload 6, 2) := by decide +kernel
theorem dX1_pileColumns_76 : decode cX1_pileColumns 76 = .ok (.invokestatic 60, 3) := by decide +kernel
theorem dX1_pileColumns_79 : decode cX1_pileColumns 79 = .ok (.iinc 4 1, 3) := by decide +kernel
theorem dX1_pileColumns_82 : decode cX1_pileColumns 82 = .ok (.iinc 5 1, 3) := by decide +kernel
theorem dX1_pileColumns_85 : decode cX1_pileColumns 85 = .ok (.goto (-56), 3) := by decide +kernel
theorem dX1_pileColumns_88 : decode cX1_pileColumns 88 = .ok (.aload_n 0, 1) := by decide +kernel
theorem dX1_pileColumns_89 : decode cX1_pileColumns 89 = .ok (.getfield 21, 3) := by decide +kernel
theorem dX1_pileColumns_92 : decode cX1_pileColumns 92 = .ok (.iload_n 1, 1) := by decide +kernel
theorem dX1_pileColumns_93 : decode cX1_pileColumns 93 = .ok (.iconst 1, 1) := by decide +kernel
theorem dX1_pileColumns_94 : decode cX1_pileColumns 94 = .ok (.iadd, 1) := by decide +kernel
theorem dX1_pileColumns_95 : decode cX1_pileColumns 95 = .ok (.iload 4, 2) := by decide +kernel
theorem dX1_pileColumns_97 : decode cX1_pileColumns 97 = .ok (.invokestatic 60, 3) := by decide +kernel
theorem dX1_pileColumns_100 : decode cX1_pileColumns 100 = .ok (.return_, 1) := by decide +kernel
theorem dX1_heightAfterThrowing_0 : decode cX1_heightAfterThrowing 0 = .ok (.iload_n 2, 1) := by decide +kernel
theorem dX1_heightAfterThrowing_1 : decode cX1_heightAfterThrowing 1 = .ok (.istore 4, 2) := by decide +kernel
theorem dX1_heightAfterThrowing_3 : decode cX1_heightAfterThrowing 3 = .ok (.iload 4, 2) := by decide +kernel
theorem dX1_heightAfterThrowing_5 : decode cX1_heightAfterThrowing 5 = .ok (.ifCond .le 58, 3) := by decide +kernel
theorem dX1_heightAfterThrowing_8 : decode cX1_heightAfterThrowing 8 = .ok (.aload_n 0, 1) := by decide +kernel
theorem dX1_heightAfterThrowing_9 : decode cX1_heightAfterThrowing 9 = .ok (.iload_n 1, 1) := by decide +kernel
theorem dX1_heightAfterThrowing_10 : decode cX1_heightAfterThrowing 10 = .ok (.iload 4, 2) := by decide +kernel
theorem dX1_heightAfterThrowing_12 : decode cX1_heightAfterThrowing 12 = .ok (.iconst 1, 1) := by decide +kernel
theorem dX1_heightAfterThrowing_13 : decode cX1_heightAfterThrowing 13 = .ok (.isub, 1) := by decide +kernel
theorem dX1_heightAfterThrowing_14 : decode cX1_heightAfterThrowing 14 = .ok (.invokevirtual 94, 3) := by decide +kernel
theorem dX1_heightAfterThrowing_17 : decode cX1_heightAfterThrowing 17 = .ok (.istore 5, 2) := by decide +kernel
theorem dX1_heightAfterThrowing_19 : decode cX1_heightAfterThrowing 19 = .ok (.aload_n 0, 1) := by decide +kernel
theorem dX1_heightAfterThrowing_20 : decode cX1_heightAfterThrowing 20 = .ok (.iload 5, 2) := by decide +kernel
theorem dX1_heightAfterThrowing_22 : decode cX1_heightAfterThrowing 22 = .ok (.aload_n 0, 1) := by decide +kernel
theorem dX1_heightAfterThrowing_23 : decode cX1_heightAfterThrowing 23 = .ok (.iload_n 1, 1) := by decide +kernel
theorem dX1_heightAfterThrowing_24 : decode cX1_heightAfterThrowing 24 = .ok (.iconst 1, 1) := by decide +kernel
theorem dX1_heightAfterThrowing_25 : decode cX1_heightAfterThrowing 25 = .ok (.iadd, 1) := by decide +kernel
theorem dX1_heightAfterThrowing_26 : decode cX1_heightAfterThrowing 26 = .ok (.iload 4, 2) := by decide +kernel
theorem dX1_heightAfterThrowing_28 : decode cX1_heightAfterThrowing 28 = .ok (.iconst 1, 1) := by decide +kernel
theorem dX1_heightAfterThrowing_29 : decode cX1_heightAfterThrowing 29 = .ok (.isub, 1) := by decide +kernel
theorem dX1_heightAfterThrowing_30 : decode cX1_heightAfterThrowing 30 = .ok (.invokevirtual 87, 3) := by decide +kernel
theorem dX1_heightAfterThrowing_33 : decode cX1_heightAfterThrowing 33 = .ok (.invokevirtual 97, 3) := by decide +kernel
theorem dX1_heightAfterThrowing_36 : decode cX1_heightAfterThrowing 36 = .ok (.istore 6, 2) := by decide +kernel
theorem dX1_heightAfterThrowing_38 : decode cX1_heightAfterThrowing 38 = .ok (.aload_n 0, 1) := by decide +kernel
theorem dX1_heightAfterThrowing_39 : decode cX1_heightAfterThrowing 39 = .ok (.iload 5, 2) := by decide +kernel
theorem dX1_heightAfterThrowing_41 : decode cX1_heightAfterThrowing 41 = .ok (.iload_n 3, 1) := by decide +kernel
theorem dX1_heightAfterThrowing_42 : decode cX1_heightAfterThrowing 42 = .ok (.invokevirtual 97, 3) := by decide +kernel
theorem dX1_heightAfterThrowing_45 : decode cX1_heightAfterThrowing 45 = .ok (.istore 7, 2) := by decide +kernel
theorem dX1_heightAfterThrowing_47 : decode cX1_heightAfterThrowing 47 = .ok (.iload 6, 2) := by decide +kernel
theorem dX1_heightAfterThrowing_49 : decode cX1_heightAfterThrowing 49 = .ok (.iload 7, 2) := by decide +kernel
theorem dX1_heightAfterThrowing_51 : decode cX1_heightAfterThrowing 51 = .ok (.if_icmp .gt 6, 3) := by decide +kernel
theorem dX1_heightAfterThrowing_54 : decode cX1_heightAfterThrowing 54 = .ok (.iload 4, 2) := by decide +kernel
theorem dX1_heightAfterThrowing_56 : decode cX1_heightAfterThrowing 56 = .ok (.ireturn, 1) := by decide +kernel
theorem dX1_heightAfterThrowing_57 : decode cX1_heightAfterThrowing 57 = .ok (.iinc 4 (-1), 3) := by decide +kernel
theorem dX1_heightAfterThrowing_60 : decode cX1_heightAfterThrowing 60 = .ok (.goto (-57), 3) := by decide +kernel
theorem dX1_heightAfterThrowing_63 : decode cX1_heightAfterThrowing 63 = .ok (.iconst 0, 1) := by decide +kernel
theorem dX1_heightAfterThrowing_64 : decode cX1_heightAfterThrowing 64 = .ok (.ireturn, 1) := by decide +kernel
theorem dX1_fillBetween_0 : decode cX1_fillBetween 0 = .ok (.aload_n 0, 1) := by decide +kernel
theorem dX1_fillBetween_1 : decode cX1_fillBetween 1 = .ok (.iload_n 1, 1) := by decide +kernel
theorem dX1_fillBetween_2 : decode cX1_fillBetween 2 = .ok (.invokevirtual 84, 3) := by decide +kernel
theorem dX1_fillBetween_5 : decode cX1_fillBetween 5 = .ok (.istore_n 2, 1) := by decide +kernel
theorem dX1_fillBetween_6 : decode cX1_fillBetween 6 = .ok (.iconst 0, 1) := by decide +kernel
theorem dX1_fillBetween_7 : decode cX1_fillBetween 7 = .ok (.istore_n 3, 1) := by decide +kernel
theorem dX1_fillBetween_8 : decode cX1_fillBetween 8 = .ok (.iload_n 3, 1) := by decide +kernel
theorem dX1_fillBetween_9 : decode cX1_fillBetween 9 = .ok (.iload_n 2, 1) := by decide +kernel
theorem dX1_fillBetween_10 : decode cX1_fillBetween 10 = .ok (.if_icmp .ge 99, 3) := by decide +kernel
theorem dX1_fillBetween_13 : decode cX1_fillBetween 13 = .ok (.aload_n 0, 1) := by decide +kernel
theorem dX1_fillBetween_14 : decode cX1_fillBetween 14 = .ok (.iload_n 1, 1) := by decide +kernel
theorem dX1_fillBetween_15 : decode cX1_fillBetween 15 = .ok (.iload_n 3, 1) := by decide +kernel
theorem dX1_fillBetween_16 : decode cX1_fillBetween 16 = .ok (.invokevirtual 94, 3) := by decide +kernel
theorem dX1_fillBetween_19 : decode cX1_fillBetween 19 = .ok (.istore 4, 2) := by decide +kernel
theorem dX1_fillBetween_21 : decode cX1_fillBetween 21 = .ok (.iload_n 3, 1) := by decide +kernel
theorem dX1_fillBetween_22 : decode cX1_fillBetween 22 = .ok (.ifCond .ne 7, 3) := by decide +kernel
theorem dX1_fillBetween_25 : decode cX1_fillBetween 25 = .ok (.iconst 0, 1) := by decide +kernel
theorem dX1_fillBetween_26 : decode cX1_fillBetween 26 = .ok (.goto 19, 3) := by decide +kernel
theorem dX1_fillBetween_29 : decode cX1_fillBetween 29 = .ok (.aload_n 0, 1) := by decide +kernel
theorem dX1_fillBetween_30 : decode cX1_fillBetween 30 = .ok (.aload_n 0, 1) := by decide +kernel
theorem dX1_fillBetween_31 : decode cX1_fillBetween 31 = .ok (.getfield 24, 3) := by decide +kernel
theorem dX1_fillBetween_34 : decode cX1_fillBetween 34 = .ok (.aload_n 0, 1) := by decide +kernel
theorem dX1_fillBetween_35 : decode cX1_fillBetween 35 = .ok (.iload_n 1, 1) := by decide +kernel
theorem dX1_fillBetween_36 : decode cX1_fillBetween 36 = .ok (.iload_n 3, 1) := by decide +kernel
theorem dX1_fillBetween_37 : decode cX1_fillBetween 37 = .ok (.iconst 1, 1) := by decide +kernel
theorem dX1_fillBetween_38 : decode cX1_fillBetween 38 = .ok (.isub, 1) := by decide +kernel
theorem dX1_fillBetween_39 : decode cX1_fillBetween 39 = .ok (.invokevirtual 94, 3) := by decide +kernel
theorem dX1_fillBetween_42 : decode cX1_fillBetween 42 = .ok (.invokevirtual 68, 3) := by decide +kernel
theorem dX1_fillBetween_45 : decode cX1_fillBetween 45 = .ok (.istore 5, 2) := by decide +kernel
theorem dX1_fillBetween_47 : decode cX1_fillBetween 47 = .ok (.iload_n 3, 1) := by decide +kernel
theorem dX1_fillBetween_48 : decode cX1_fillBetween 48 = .ok (.iload_n 2, 1) := by decide +kernel
theorem dX1_fillBetween_49 : decode cX1_fillBetween 49 = .ok (.iconst 1, 1) := by decide +kernel
theorem dX1_fillBetween_50 : decode cX1_fillBetween 50 = .ok (.isub, 1) := by decide +kernel
theorem dX1_fillBetween_51 : decode cX1_fillBetween 51 = .ok (.if_icmp .ne 15, 3) := by decide +kernel
theorem dX1_fillBetween_54 : decode cX1_fillBetween 54 = .ok (.aload_n 0, 1) := by decide +kernel
theorem dX1_fillBetween_55 : decode cX1_fillBetween 55 = .ok (.getfield 31, 3) := by decide +kernel
theorem dX1_fillBetween_58 : decode cX1_fillBetween 58 = .ok (.getfield 43, 3) := by decide +kernel
theorem dX1_fillBetween_61 : decode cX1_fillBetween 61 = .ok (.iconst 1, 1) := by decide +kernel
theorem dX1_fillBetween_62 : decode cX1_fillBetween 62 = .ok (.isub, 1) := by decide +kernel
theorem dX1_fillBetween_63 : decode cX1_fillBetween 63 = .ok (.goto 19, 3) := by decide +kernel
theorem dX1_fillBetween_66 : decode cX1_fillBetween 66 = .ok (.aload_n 0, 1) := by decide +kernel
theorem dX1_fillBetween_67 : decode cX1_fillBetween 67 = .ok (.aload_n 0, 1) := by decide +kernel
theorem dX1_fillBetween_68 : decode cX1_fillBetween 68 = .ok (.getfield 24, 3) := by decide +kernel
theorem dX1_fillBetween_71 : decode cX1_fillBetween 71 = .ok (.aload_n 0, 1) := by decide +kernel
theorem dX1_fillBetween_72 : decode cX1_fillBetween 72 = .ok (.iload_n 1, 1) := by decide +kernel
theorem dX1_fillBetween_73 : decode cX1_fillBetween 73 = .ok (.iload_n 3, 1) := by decide +kernel
theorem dX1_fillBetween_74 : decode cX1_fillBetween 74 = .ok (.iconst 1, 1) := by decide +kernel
theorem dX1_fillBetween_75 : decode cX1_fillBetween 75 = .ok (.iadd, 1) := by decide +kernel
theorem dX1_fillBetween_76 : decode cX1_fillBetween 76 = .ok (.invokevirtual 94, 3) := by decide +kernel
theorem dX1_fillBetween_79 : decode cX1_fillBetween 79 = .ok (.invokevirtual 68, 3) := by decide +kernel
theorem dX1_fillBetween_82 : decode cX1_fillBetween 82 = .ok (.istore 6, 2) := by decide +kernel
theorem dX1_fillBetween_84 : decode cX1_fillBetween 84 = .ok (.aload_n 0, 1) := by decide +kernel
theorem dX1_fillBetween_85 : decode cX1_fillBetween 85 = .ok (.iload 4, 2) := by decide +kernel
theorem dX1_fillBetween_87 : decode cX1_fillBetween 87 = .ok (.aload_n 0, 1) := by decide +kernel
theorem dX1_fillBetween_88 : decode cX1_fillBetween 88 = .ok (.iload 4, 2) := by decide +kernel
theorem dX1_fillBetween_90 : decode cX1_fillBetween 90 = .ok (.iload_n 1, 1) := by decide +kernel
theorem dX1_fillBetween_91 : decode cX1_fillBetween 91 = .ok (.iconst 1, 1) := by decide +kernel
theorem dX1_fillBetween_92 : decode cX1_fillBetween 92 = .ok (.iadd, 1) := by decide +kernel
theorem dX1_fillBetween_93 : decode cX1_fillBetween 93 = .ok (.iload 5, 2) := by decide +kernel
theorem dX1_fillBetween_95 : decode cX1_fillBetween 95 = .ok (.iload 6, 2) := by decide +kernel
theorem dX1_fillBetween_97 : decode cX1_fillBetween 97 = .ok (.invokevirtual 76, 3) := by decide +kernel
theorem dX1_fillBetween_100 : decode cX1_fillBetween 100 = .ok (.invokevirtual 80, 3) := by decide +kernel
theorem dX1_fillBetween_103 : decode cX1_fillBetween 103 = .ok (.iinc 3 2, 3) := by decide +kernel
theorem dX1_fillBetween_106 : decode cX1_fillBetween 106 = .ok (.goto (-98), 3) := by decide +kernel
theorem dX1_fillBetween_109 : decode cX1_fillBetween 109 = .ok (.return_, 1) := by decide +kernel
theorem dX1_leftmostLeast_0 : decode cX1_leftmostLeast 0 = .ok (.iconst (-1), 1) := by decide +kernel
theorem dX1_leftmostLeast_1 : decode cX1_leftmostLeast 1 = .ok (.istore 5, 2) := by decide +kernel
theorem dX1_leftmostLeast_3 : decode cX1_leftmostLeast 3 = .ok (.iconst 0, 1) := by decide +kernel
theorem dX1_leftmostLeast_4 : decode cX1_leftmostLeast 4 = .ok (.istore 6, 2) := by decide +kernel
theorem dX1_leftmostLeast_6 : decode cX1_leftmostLeast 6 = .ok (.aload_n 0, 1) := by decide +kernel
theorem dX1_leftmostLeast_7 : decode cX1_leftmostLeast 7 = .ok (.getfield 21, 3) := by decide +kernel
theorem dX1_leftmostLeast_10 : decode cX1_leftmostLeast 10 = .ok (.iload_n 2, 1) := by decide +kernel
theorem dX1_leftmostLeast_11 : decode cX1_leftmostLeast 11 = .ok (.invokestatic 64, 3) := by decide +kernel
theorem dX1_leftmostLeast_14 : decode cX1_leftmostLeast 14 = .ok (.istore 7, 2) := by decide +kernel
theorem dX1_leftmostLeast_16 : decode cX1_leftmostLeast 16 = .ok (.iconst 0, 1) := by decide +kernel
theorem dX1_leftmostLeast_17 : decode cX1_leftmostLeast 17 = .ok (.istore 8, 2) := by decide +kernel
theorem dX1_leftmostLeast_19 : decode cX1_leftmostLeast 19 = .ok (.iload 8, 2) := by decide +kernel
theorem dX1_leftmostLeast_21 : decode cX1_leftmostLeast 21 = .ok (.iload 7, 2) := by decide +kernel
theorem dX1_leftmostLeast_23 : decode cX1_leftmostLeast 23 = .ok (.if_icmp .ge 59, 3) := by decide +kernel
theorem dX1_leftmostLeast_26 : decode cX1_leftmostLeast 26 = .ok (.aload_n 0, 1) := by decide +kernel
theorem dX1_leftmostLeast_27 : decode cX1_leftmostLeast 27 = .ok (.iload_n 2, 1) := by decide +kernel
theorem dX1_leftmostLeast_28 : decode cX1_leftmostLeast 28 = .ok (.iload 8, 2) := by decide +kernel
theorem dX1_leftmostLeast_30 : decode cX1_leftmostLeast 30 = .ok (.invokevirtual 87, 3) := by decide +kernel
theorem dX1_leftmostLeast_33 : decode cX1_leftmostLeast 33 = .ok (.istore 9, 2) := by decide +kernel
theorem dX1_leftmostLeast_35 : decode cX1_leftmostLeast 35 = .ok (.iload 9, 2) := by decide +kernel
theorem dX1_leftmostLeast_37 : decode cX1_leftmostLeast 37 = .ok (.iload_n 3, 1) := by decide +kernel
theorem dX1_leftmostLeast_38 : decode cX1_leftmostLeast 38 = .ok (.iload 4, 2) := by decide +kernel
theorem dX1_leftmostLeast_40 : decode cX1_leftmostLeast 40 = .ok (.invokestatic 100, 3) := by decide +kernel
theorem dX1_leftmostLeast_43 : decode cX1_leftmostLeast 43 = .ok (.ifCond .eq 33, 3) := by decide +kernel
theorem dX1_leftmostLeast_46 : decode cX1_leftmostLeast 46 = .ok (.aload_n 0, 1) := by decide +kernel
theorem dX1_leftmostLeast_47 : decode cX1_leftmostLeast 47 = .ok (.iload_n 1, 1) := by decide +kernel
theorem dX1_leftmostLeast_48 : decode cX1_leftmostLeast 48 = .ok (.iload 9, 2) := by decide +kernel
theorem dX1_leftmostLeast_50 : decode cX1_leftmostLeast 50 = .ok (.invokevirtual 97, 3) := by decide +kernel
theorem dX1_leftmostLeast_53 : decode cX1_leftmostLeast 53 = .ok (.istore 10, 2) := by decide +kernel
theorem dX1_leftmostLeast_55 : decode cX1_leftmostLeast 55 = .ok (.iload 5, 2) := by decide +kernel
theorem dX1_leftmostLeast_57 : decode cX1_leftmostLeast 57 = .ok (.iconst (-1), 1) := by decide +kernel
theorem dX1_leftmostLeast_58 : decode cX1_leftmostLeast 58 = .ok (.if_icmp .eq 10, 3) := by decide +kernel
theorem dX1_leftmostLeast_61 : decode cX1_leftmostLeast 61 = .ok (.iload 10, 2) := by decide +kernel
theorem dX1_leftmostLeast_63 : decode cX1_leftmostLeast 63 = .ok (.iload 6, 2) := by decide +kernel
theorem dX1_leftmostLeast_65 : decode cX1_leftmostLeast 65 = .ok (.if_icmp .ge 11, 3) := by decide +kernel
theorem dX1_leftmostLeast_68 : decode cX1_leftmostLeast 68 = .ok (.iload 9, 2) := by decide +kernel
theorem dX1_leftmostLeast_70 : decode cX1_leftmostLeast 70 = .ok (.istore 5, 2) := by decide +kernel
theorem dX1_leftmostLeast_72 : decode cX1_leftmostLeast 72 = .ok (.iload 10, 2) := by decide +kernel
theorem dX1_leftmostLeast_74 : decode cX1_leftmostLeast 74 = .ok (.istore 6, 2) := by decide +kernel
theorem dX1_leftmostLeast_76 : decode cX1_leftmostLeast 76 = .ok (.iinc 8 1, 3) := by decide +kernel
theorem dX1_leftmostLeast_79 : decode cX1_leftmostLeast 79 = .ok (.goto (-60), 3) := by decide +kernel
theorem dX1_leftmostLeast_82 : decode cX1_leftmostLeast 82 = .ok (.iload 5, 2) := by decide +kernel
theorem dX1_leftmostLeast_84 : decode cX1_leftmostLeast 84 = .ok (.ireturn, 1) := by decide +kernel
theorem dX1_look_0 : decode cX1_look 0 = .ok (.aload_n 0, 1) := by decide +kernel
theorem dX1_look_1 : decode cX1_look 1 = .ok (.dup, 1) := by decide +kernel
theorem dX1_look_2 : decode cX1_look 2 = .ok (.getfield 28, 3) := by decide +kernel
theorem dX1_look_5 : decode cX1_look 5 = .ok (.iconst 1, 1) := by decide +kernel
theorem dX1_look_6 : decode cX1_look 6 = .ok (.iadd, 1) := by decide +kernel
theorem dX1_look_7 : decode cX1_look 7 = .ok (.putfield 28, 3) := by decide +kernel
theorem dX1_look_10 : decode cX1_look 10 = .ok (.aload_n 0, 1) := by decide +kernel
theorem dX1_look_11 : decode cX1_look 11 = .ok (.getfield 31, 3) := by decide +kernel
theorem dX1_look_14 : decode cX1_look 14 = .ok (.iload_n 1, 1) := by decide +kernel
theorem dX1_look_15 : decode cX1_look 15 = .ok (.iload_n 2, 1) := by decide +kernel
theorem dX1_look_16 : decode cX1_look 16 = .ok (.invokevirtual 104, 3) := by decide +kernel
theorem dX1_look_19 : decode cX1_look 19 = .ok (.ireturn, 1) := by decide +kernel
theorem dX1_setPlace_0 : decode cX1_setPlace 0 = .ok (.aload_n 0, 1) := by decide +kernel
theorem dX1_setPlace_1 : decode cX1_setPlace 1 = .ok (.getfield 9, 3) := by decide +kernel
theorem dX1_setPlace_4 : decode cX1_setPlace 4 = .ok (.aload_n 0, 1) := by decide +kernel
theorem dX1_setPlace_5 : decode cX1_setPlace 5 = .ok (.getfield 24, 3) := by decide +kernel
theorem dX1_setPlace_8 : decode cX1_setPlace 8 = .ok (.bipush 10, 2) := by decide +kernel
theorem dX1_setPlace_10 : decode cX1_setPlace 10 = .ok (.imul, 1) := by decide +kernel
theorem dX1_setPlace_11 : decode cX1_setPlace 11 = .ok (.iload_n 1, 1) := by decide +kernel
theorem dX1_setPlace_12 : decode cX1_setPlace 12 = .ok (.iadd, 1) := by decide +kernel
theorem dX1_setPlace_13 : decode cX1_setPlace 13 = .ok (.iload_n 2, 1) := by decide +kernel
theorem dX1_setPlace_14 : decode cX1_setPlace 14 = .ok (.invokestatic 60, 3) := by decide +kernel
theorem dX1_setPlace_17 : decode cX1_setPlace 17 = .ok (.return_, 1) := by decide +kernel
theorem dX2_init_0 : decode cX2_init 0 = .ok (.aload_n 0, 1) := by decide +kernel
theorem dX2_init_1 : decode cX2_init 1 = .ok (.invokespecial 3, 3) := by decide +kernel
theorem dX2_init_4 : decode cX2_init 4 = .ok (.aload_n 0, 1) := by decide +kernel
theorem dX2_init_5 : decode cX2_init 5 = .ok (.iconst 0, 1) := by decide +kernel
theorem dX2_init_6 : decode cX2_init 6 = .ok (.putfield 9, 3) := by decide +kernel
theorem dX2_init_9 : decode cX2_init 9 = .ok (.aload_n 0, 1) := by decide +kernel
theorem dX2_init_10 : decode cX2_init 10 = .ok (.iconst 0, 1) := by decide +kernel
theorem dX2_init_11 : decode cX2_init 11 = .ok (.putfield 15, 3) := by decide +kernel
theorem dX2_init_14 : decode cX2_init 14 = .ok (.aload_n 0, 1) := by decide +kernel
theorem dX2_init_15 : decode cX2_init 15 = .ok (.bipush 6, 2) := by decide +kernel
theorem dX2_init_17 : decode cX2_init 17 = .ok (.anewarray 18, 3) := by decide +kernel
theorem dX2_init_20 : decode cX2_init 20 = .ok (.putfield 20, 3) := by decide +kernel
theorem dX2_init_23 : decode cX2_init 23 = .ok (.iconst 0, 1) := by decide +kernel
theorem dX2_init_24 : decode cX2_init 24 = .ok (.istore_n 1, 1) := by decide +kernel
theorem dX2_init_25 : decode cX2_init 25 = .ok (.iload_n 1, 1) := by decide +kernel
theorem dX2_init_26 : decode cX2_init 26 = .ok (.aload_n 0, 1) := by decide +kernel
theorem dX2_init_27 : decode cX2_init 27 = .ok (.getfield 20, 3) := by decide +kernel
theorem dX2_init_30 : decode cX2_init 30 = .ok (.arraylength, 1) := by decide +kernel
theorem dX2_init_31 : decode cX2_init 31 = .ok (.if_icmp .ge 22, 3) := by decide +kernel
theorem dX2_init_34 : decode cX2_init 34 = .ok (.aload_n 0, 1) := by decide +kernel
theorem dX2_init_35 : decode cX2_init 35 = .ok (.getfield 20, 3) := by decide +kernel
theorem dX2_init_38 : decode cX2_init 38 = .ok (.iload_n 1, 1) := by decide +kernel
theorem dX2_init_39 : decode cX2_init 39 = .ok (.new 18, 3) := by decide +kernel
theorem dX2_init_42 : decode cX2_init 42 = .ok (.dup, 1) := by decide +kernel
theorem dX2_init_43 : decode cX2_init 43 = .ok (.invokespecial 24, 3) := by decide +kernel
theorem dX2_init_46 : decode cX2_init 46 = .ok (.aastore, 1) := by decide +kernel
theorem dX2_init_47 : decode cX2_init 47 = .ok (.iinc 1 1, 3) := by decide +kernel
theorem dX2_init_50 : decode cX2_init 50 = .ok (.goto (-25), 3) := by decide +kernel
theorem dX2_init_53 : decode cX2_init 53 = .ok (.return_, 1) := by decide +kernel
theorem dX2_save_0 : decode cX2_save 0 = .ok (.aload_n 0, 1) := by decide +kernel
theorem dX2_save_1 : decode cX2_save 1 = .ok (.getfield 9, 3) := by decide +kernel
theorem dX2_save_4 : decode cX2_save 4 = .ok (.bipush 6, 2) := by decide +kernel
theorem dX2_save_6 : decode cX2_save 6 = .ok (.if_icmp .ne 26, 3) := by decide +kernel
theorem dX2_save_9 : decode cX2_save 9 = .ok (.aload_n 0, 1) := by decide +kernel
theorem dX2_save_10 : decode cX2_save 10 = .ok (.aload_n 0, 1) := by decide +kernel
theorem dX2_save_11 : decode cX2_save 11 = .ok (.getfield 15, 3) := by decide +kernel
theorem dX2_save_14 : decode cX2_save 14 = .ok (.iconst 1, 1) := by decide +kernel
theorem dX2_save_15 : decode cX2_save 15 = .ok (.iadd, 1) := by decide +kernel
theorem dX2_save_16 : decode cX2_save 16 = .ok (.bipush 6, 2) := by decide +kernel
theorem dX2_save_18 : decode cX2_save 18 = .ok (.irem, 1) := by decide +kernel
theorem dX2_save_19 : decode cX2_save 19 = .ok (.putfield 15, 3) := by decide +kernel
theorem dX2_save_22 : decode cX2_save 22 = .ok (.aload_n 0, 1) := by decide +kernel
theorem dX2_save_23 : decode cX2_save 23 = .ok (.dup, 1) := by decide +kernel
theorem dX2_save_24 : decode cX2_save 24 = .ok (.getfield 9, 3) := by decide +kernel
theorem dX2_save_27 : decode cX2_save 27 = .ok (.iconst 1, 1) := by decide +kernel
theorem dX2_save_28 : decode cX2_save 28 = .ok (.isub, 1) := by decide +kernel
theorem dX2_save_29 : decode cX2_save 29 = .ok (.putfield 9, 3) := by decide +kernel
theorem dX2_save_32 : decode cX2_save 32 = .ok (.aload_n 0, 1) := by decide +kernel
theorem dX2_save_33 : decode cX2_save 33 = .ok (.aload_n 0, 1) := by decide +kernel
theorem dX2_save_34 : decode cX2_save 34 = .ok (.getfield 9, 3) := by decide +kernel
theorem dX2_save_37 : decode cX2_save 37 = .ok (.invokevirtual 25, 3) := by decide +kernel
theorem dX2_save_40 : decode cX2_save 40 = .ok (.astore_n 2, 1) := by decide +kernel
theorem dX2_save_41 : decode cX2_save 41 = .ok (.aload_n 2, 1) := by decide +kernel
theorem dX2_save_42 : decode cX2_save 42 = .ok (.ifnull 18, 3) := by decide +kernel
theorem dX2_save_45 : decode cX2_save 45 = .ok (.aload_n 2, 1) := by decide +kernel
theorem dX2_save_46 : decode cX2_save 46 = .ok (.aload_n 1, 1) := by decide +kernel
theorem dX2_save_47 : decode cX2_save 47 = .ok (.invokevirtual 29, 3) := by decide +kernel
theorem dX2_save_50 : decode cX2_save 50 = .ok (.aload_n 0, 1) := by decide +kernel
theorem dX2_save_51 : decode cX2_save 51 = .ok (.dup, 1) := by decide +kernel
theorem dX2_save_52 : decode cX2_save 52 = .ok (.getfield 9, 3) := by decide +kernel
theorem dX2_save_55 : decode cX2_save 55 = .ok (.iconst 1, 1) := by decide +kernel
theorem dX2_save_56 : decode cX2_save 56 = .ok (.iadd, 1) := by decide +kernel
theorem dX2_save_57 : decode cX2_save 57 = .ok (.putfield 9, 3) := by decide +kernel
theorem dX2_save_60 : decode cX2_save 60 = .ok (.return_, 1) := by decide +kernel
theorem dX2_latest_0 : decode cX2_latest 0 = .ok (.aload_n 0, 1) := by decide +kernel
theorem dX2_latest_1 : decode cX2_latest 1 = .ok (.aload_n 0, 1) := by decide +kernel
theorem dX2_latest_2 : decode cX2_latest 2 = .ok (.getfield 9, 3) := by decide +kernel
theorem dX2_latest_5 : decode cX2_latest 5 = .ok (.iconst 1, 1) := by decide +kernel
theorem dX2_latest_6 : decode cX2_latest 6 = .ok (.isub, 1) := by decide +kernel
theorem dX2_latest_7 : decode cX2_latest 7 = .ok (.invokevirtual 25, 3) := by decide +kernel
theorem dX2_latest_10 : decode cX2_latest 10 = .ok (.areturn, 1) := by decide +kernel
theorem dX2_stateAt_0 : decode cX2_stateAt 0 = .ok (.aload_n 0, 1) := by decide +kernel
theorem dX2_stateAt_1 : decode cX2_stateAt 1 = .ok (.getfield 15, 3) := by decide +kernel
theorem dX2_stateAt_4 : decode cX2_stateAt 4 = .ok (.iload_n 1, 1) := by decide +kernel
theorem dX2_stateAt_5 : decode cX2_stateAt 5 = .ok (.iadd, 1) := by decide +kernel
theorem dX2_stateAt_6 : decode cX2_stateAt 6 = .ok (.bipush 6, 2) := by decide +kernel
theorem dX2_stateAt_8 : decode cX2_stateAt 8 = .ok (.irem, 1) := by decide +kernel
theorem dX2_stateAt_9 : decode cX2_stateAt 9 = .ok (.istore_n 2, 1) := by decide +kernel
theorem dX2_stateAt_10 : decode cX2_stateAt 10 = .ok (.iload_n 2, 1) := by decide +kernel
theorem dX2_stateAt_11 : decode cX2_stateAt 11 = .ok (.ifCond .lt 12, 3) := by decide +kernel
theorem dX2_stateAt_14 : decode cX2_stateAt 14 = .ok (.iload_n 2, 1) := by decide +kernel
theorem dX2_stateAt_15 : decode cX2_stateAt 15 = .ok (.aload_n 0, 1) := by decide +kernel
theorem dX2_stateAt_16 : decode cX2_stateAt 16 = .ok (.getfield 20, 3) := by decide +kernel
theorem dX2_stateAt_19 : decode cX2_stateAt 19 = .ok (.arraylength, 1) := by decide +kernel
theorem dX2_stateAt_20 : decode cX2_stateAt 20 = .ok (.if_icmp .lt 7, 3) := by decide +kernel
theorem dX2_stateAt_23 : decode cX2_stateAt 23 = .ok (.aconst_null, 1) := by decide +kernel
theorem dX2_stateAt_24 : decode cX2_stateAt 24 = .ok (.goto 9, 3) := by decide +kernel
theorem dX2_stateAt_27 : decode cX2_stateAt 27 = .ok (.aload_n 0, 1) := by decide +kernel
theorem dX2_stateAt_28 : decode cX2_stateAt 28 = .ok (.getfield 20, 3) := by decide +kernel
theorem dX2_stateAt_31 : decode cX2_stateAt 31 = .ok (.iload_n 2, 1) := by decide +kernel
theorem dX2_stateAt_32 : decode cX2_stateAt 32 = .ok (.aaload, 1) := by decide +kernel
theorem dX2_stateAt_33 : decode cX2_stateAt 33 = .ok (.areturn, 1) := by decide +kernel
theorem dX3_init_0 : decode cX3_init 0 = .ok (.aload_n 0, 1) := by decide +kernel
theorem dX3_init_1 : decode cX3_init 1 = .ok (.invokespecial 3, 3) := by decide +kernel
theorem dX3_init_4 : decode cX3_init 4 = .ok (.aload_n 0, 1) := by decide +kernel
theorem dX3_init_5 : decode cX3_init 5 = .ok (.iconst (-1), 1) := by decide +kernel
theorem dX3_init_6 : decode cX3_init 6 = .ok (.putfield 9, 3) := by decide +kernel
theorem dX3_init_9 : decode cX3_init 9 = .ok (.aload_n 0, 1) := by decide +kernel
theorem dX3_init_10 : decode cX3_init 10 = .ok (.iconst (-1), 1) := by decide +kernel
theorem dX3_init_11 : decode cX3_init 11 = .ok (.putfield 15, 3) := by decide +kernel
theorem dX3_init_14 : decode cX3_init 14 = .ok (.aload_n 0, 1) := by decide +kernel
theorem dX3_init_15 : decode cX3_init 15 = .ok (.iconst (-1), 1) := by decide +kernel
theorem dX3_init_16 : decode cX3_init 16 = .ok (.putfield 18, 3) := by decide +kernel
theorem dX3_init_19 : decode cX3_init 19 = .ok (.aload_n 0, 1) := by decide +kernel
theorem dX3_init_20 : decode cX3_init 20 = .ok (.iconst 0, 1) := by decide +kernel
theorem dX3_init_21 : decode cX3_init 21 = .ok (.putfield 21, 3) := by decide +kernel
theorem dX3_init_24 : decode cX3_init 24 = .ok (.aload_n 0, 1) := by decide +kernel
theorem dX3_init_25 : decode cX3_init 25 = .ok (.aload_n 1, 1) := by decide +kernel
theorem dX3_init_26 : decode cX3_init 26 = .ok (.putfield 24, 3) := by decide +kernel
theorem dX3_init_29 : decode cX3_init 29 = .ok (.return_, 1) := by decide +kernel
theorem dX3_isKept_0 : decode cX3_isKept 0 = .ok (.aload_n 0, 1) := by decide +kernel
theorem dX3_isKept_1 : decode cX3_isKept 1 = .ok (.invokevirtual 28, 3) := by decide +kernel
theorem dX3_isKept_4 : decode cX3_isKept 4 = .ok (.aload_n 0, 1) := by decide +kernel
theorem dX3_isKept_5 : decode cX3_isKept 5 = .ok (.getfield 21, 3) := by decide +kernel
theorem dX3_isKept_8 : decode cX3_isKept 8 = .ok (.ifCond .ne 7, 3) := by decide +kernel
theorem dX3_isKept_11 : decode cX3_isKept 11 = .ok (.iconst 1, 1) := by decide +kernel
theorem dX3_isKept_12 : decode cX3_isKept 12 = .ok (.goto 4, 3) := by decide +kernel
theorem dX3_isKept_15 : decode cX3_isKept 15 = .ok (.iconst 0, 1) := by decide +kernel
theorem dX3_isKept_16 : decode cX3_isKept 16 = .ok (.ireturn, 1) := by decide +kernel
theorem dX3_examine_0 : decode cX3_examine 0 = .ok (.aload_n 0, 1) := by decide +kernel
theorem dX3_examine_1 : decode cX3_examine 1 = .ok (.iconst (-1), 1) := by decide +kernel
theorem dX3_examine_2 : decode cX3_examine 2 = .ok (.putfield 9, 3) := by decide +kernel
theorem dX3_examine_5 : decode cX3_examine 5 = .ok (.aload_n 0, 1) := by decide +kernel
theorem dX3_examine_6 : decode cX3_examine 6 = .ok (.iconst (-1), 1) := by decide +kernel
theorem dX3_examine_7 : decode cX3_examine 7 = .ok (.putfield 15, 3) := by decide +kernel
theorem dX3_examine_10 : decode cX3_examine 10 = .ok (.aload_n 0, 1) := by decide +kernel
theorem dX3_examine_11 : decode cX3_examine 11 = .ok (.iconst (-1), 1) := by decide +kernel
theorem dX3_examine_12 : decode cX3_examine 12 = .ok (.putfield 18, 3) := by decide +kernel
theorem dX3_examine_15 : decode cX3_examine 15 = .ok (.aload_n 0, 1) := by decide +kernel
theorem dX3_examine_16 : decode cX3_examine 16 = .ok (.iconst 0, 1) := by decide +kernel
theorem dX3_examine_17 : decode cX3_examine 17 = .ok (.putfield 21, 3) := by decide +kernel
theorem dX3_examine_20 : decode cX3_examine 20 = .ok (.iconst 0, 1) := by decide +kernel
theorem dX3_examine_21 : decode cX3_examine 21 = .ok (.istore_n 1, 1) := by decide +kernel
theorem dX3_examine_22 : decode cX3_examine 22 = .ok (.iload_n 1, 1) := by decide +kernel
theorem dX3_examine_23 : decode cX3_examine 23 = .ok (.aload_n 0, 1) := by decide +kernel
theorem dX3_examine_24 : decode cX3_examine 24 = .ok (.getfield 24, 3) := by decide +kernel
theorem dX3_examine_27 : decode cX3_examine 27 = .ok (.getfield 31, 3) := by decide +kernel
theorem dX3_examine_30 : decode cX3_examine 30 = .ok (.iconst 1, 1) := by decide +kernel
theorem dX3_examine_31 : decode cX3_examine 31 = .ok (.isub, 1) := by decide +kernel
theorem dX3_examine_32 : decode cX3_examine 32 = .ok (.if_icmp .ge 80, 3) := by decide +kernel
theorem dX3_examine_35 : decode cX3_examine 35 = .ok (.iconst 0, 1) := by decide +kernel
theorem dX3_examine_36 : decode cX3_examine 36 = .ok (.istore_n 2, 1) := by decide +kernel
theorem dX3_examine_37 : decode cX3_examine 37 = .ok (.iload_n 2, 1) := by decide +kernel
theorem dX3_examine_38 : decode cX3_examine 38 = .ok (.aload_n 0, 1) := by decide +kernel
theorem dX3_examine_39 : decode cX3_examine 39 = .ok (.getfield 24, 3) := by decide +kernel
theorem dX3_examine_42 : decode cX3_examine 42 = .ok (.getfield 36, 3) := by decide +kernel
theorem dX3_examine_45 : decode cX3_examine 45 = .ok (.iconst 1, 1) := by decide +kernel
theorem dX3_examine_46 : decode cX3_examine 46 = .ok (.isub, 1) := by decide +kernel
theorem dX3_examine_47 : decode cX3_examine 47 = .ok (.if_icmp .ge 59, 3) := by decide +kernel
theorem dX3_examine_50 : decode cX3_examine 50 = .ok (.iload_n 2, 1) := by decide +kernel
theorem dX3_examine_51 : decode cX3_examine 51 = .ok (.iconst 1, 1) := by decide +kernel
theorem dX3_examine_52 : decode cX3_examine 52 = .ok (.iadd, 1) := by decide +kernel
theorem dX3_examine_53 : decode cX3_examine 53 = .ok (.istore_n 3, 1) := by decide +kernel
theorem dX3_examine_54 : decode cX3_examine 54 = .ok (.iload_n 3, 1) := by decide +kernel
theorem dX3_examine_55 : decode cX3_examine 55 = .ok (.aload_n 0, 1) := by decide +kernel
theorem dX3_examine_56 : decode cX3_examine 56 = .ok (.getfield 24, 3) := by decide +kernel
theorem dX3_examine_59 : decode cX3_examine 59 = .ok (.getfield 36, 3) := by decide +kernel
theorem dX3_examine_62 : decode cX3_examine 62 = .ok (.if_icmp .ge 38, 3) := by decide +kernel
theorem dX3_examine_65 : decode cX3_examine 65 = .ok (.aload_n 0, 1) := by decide +kernel
theorem dX3_examine_66 : decode cX3_examine 66 = .ok (.iload_n 1, 1) := by decide +kernel
theorem dX3_examine_67 : decode cX3_examine 67 = .ok (.iload_n 2, 1) := by decide +kernel
theorem dX3_examine_68 : decode cX3_examine 68 = .ok (.iload_n 3, 1) := by decide +kernel
theorem dX3_examine_69 : decode cX3_examine 69 = .ok (.invokevirtual 39, 3) := by decide +kernel
theorem dX3_examine_72 : decode cX3_examine 72 = .ok (.ifCond .eq 22, 3) := by decide +kernel
theorem dX3_examine_75 : decode cX3_examine 75 = .ok (.aload_n 0, 1) := by decide +kernel
theorem dX3_examine_76 : decode cX3_examine 76 = .ok (.iload_n 1, 1) := by decide +kernel
theorem dX3_examine_77 : decode cX3_examine 77 = .ok (.iconst 1, 1) := by decide +kernel
theorem dX3_examine_78 : decode cX3_examine 78 = .ok (.iadd, 1) := by decide +kernel
theorem dX3_examine_79 : decode cX3_examine 79 = .ok (.iload_n 2, 1) := by decide +kernel
theorem dX3_examine_80 : decode cX3_examine 80 = .ok (.iload_n 3, 1) := by decide +kernel
theorem dX3_examine_81 : decode cX3_examine 81 = .ok (.invokevirtual 39, 3) := by decide +kernel
theorem dX3_examine_84 : decode cX3_examine 84 = .ok (.ifCond .ne 10, 3) := by decide +kernel
theorem dX3_examine_87 : decode cX3_examine 87 = .ok (.aload_n 0, 1) := by decide +kernel
theorem dX3_examine_88 : decode cX3_examine 88 = .ok (.iload_n 1, 1) := by decide +kernel
theorem dX3_examine_89 : decode cX3_examine 89 = .ok (.iload_n 2, 1) := by decide +kernel
theorem dX3_examine_90 : decode cX3_examine 90 = .ok (.iload_n 3, 1) := by decide +kernel
theorem dX3_examine_91 : decode cX3_examine 91 = .ok (.invokevirtual 43, 3) := by decide +kernel
theorem dX3_examine_94 : decode cX3_examine 94 = .ok (.iinc 3 1, 3) := by decide +kernel
theorem dX3_examine_97 : decode cX3_examine 97 = .ok (.goto (-43), 3) := by decide +kernel
theorem dX3_examine_100 : decode cX3_examine 100 = .ok (.iinc 2 1, 3) := by decide +kernel
theorem dX3_examine_103 : decode cX3_examine 103 = .ok (.goto (-66), 3) := by decide +kernel
theorem dX3_examine_106 : decode cX3_examine 106 = .ok (.iinc 1 1, 3) := by decide +kernel
theorem dX3_examine_109 : decode cX3_examine 109 = .ok (.goto (-87), 3) := by decide +kernel
theorem dX3_examine_112 : decode cX3_examine 112 = .ok (.return_, 1) := by decide +kernel
theorem dX3_told_0 : decode cX3_told 0 = .ok (.iload_n 1, 1) := by decide +kernel
theorem dX3_told_1 : decode cX3_told 1 = .ok (.tableswitch 42 0 2 #[27, 32, 37], 27) := by decide +kernel
theorem dX3_told_28 : decode cX3_told 28 = .ok (.aload_n 0, 1) := by decide +kernel
theorem dX3_told_29 : decode cX3_told 29 = .ok (.getfield 9, 3) := by decide +kernel
theorem dX3_told_32 : decode cX3_told 32 = .ok (.ireturn, 1) := by decide +kernel
theorem dX3_told_33 : decode cX3_told 33 = .ok (.aload_n 0, 1) := by decide +kernel
theorem dX3_told_34 : decode cX3_told 34 = .ok (.getfield 15, 3) := by decide +kernel
theorem dX3_told_37 : decode cX3_told 37 = .ok (.ireturn, 1) := by decide +kernel
theorem dX3_told_38 : decode cX3_told 38 = .ok (.aload_n 0, 1) := by decide +kernel
theorem dX3_told_39 : decode cX3_told 39 = .ok (.getfield 18, 3) := by decide +kernel
theorem dX3_told_42 : decode cX3_told 42 = .ok (.ireturn, 1) := by decide +kernel
theorem dX3_told_43 : decode cX3_told 43 = .ok (.aload_n 0, 1) := by decide +kernel
theorem dX3_told_44 : decode cX3_told 44 = .ok (.getfield 21, 3) := by decide +kernel
theorem dX3_told_47 : decode cX3_told 47 = .ok (.ireturn, 1) := by decide +kernel
theorem dX3_isGreater_0 : decode cX3_isGreater 0 = .ok (.aload_n 0, 1) := by decide +kernel
theorem dX3_isGreater_1 : decode cX3_isGreater 1 = .ok (.getfield 24, 3) := by decide +kernel
theorem dX3_isGreater_4 : decode cX3_isGreater 4 = .ok (.iload_n 1, 1) := by decide +kernel
theorem dX3_isGreater_5 : decode cX3_isGreater 5 = .ok (.iload_n 2, 1) := by decide +kernel
theorem dX3_isGreater_6 : decode cX3_isGreater 6 = .ok (.invokevirtual 47, 3) := by decide +kernel
theorem dX3_isGreater_9 : decode cX3_isGreater 9 = .ok (.aload_n 0, 1) := by decide +kernel
theorem dX3_isGreater_10 : decode cX3_isGreater 10 = .ok (.getfield 24, 3) := by decide +kernel
theorem dX3_isGreater_13 : decode cX3_isGreater 13 = .ok (.iload_n 1, 1) := by decide +kernel
theorem dX3_isGreater_14 : decode cX3_isGreater 14 = .ok (.iload_n 3, 1) := by decide +kernel
theorem dX3_isGreater_15 : decode cX3_isGreater 15 = .ok (.invokevirtual 47, 3) := by decide +kernel
theorem dX3_isGreater_18 : decode cX3_isGreater 18 = .ok (.if_icmp .le 7, 3) := by decide +kernel
theorem dX3_isGreater_21 : decode cX3_isGreater 21 = .ok (.iconst 1, 1) := by decide +kernel
theorem dX3_isGreater_22 : decode cX3_isGreater 22 = .ok (.goto 4, 3) := by decide +kernel
theorem dX3_isGreater_25 : decode cX3_isGreater 25 = .ok (.iconst 0, 1) := by decide +kernel
theorem dX3_isGreater_26 : decode cX3_isGreater 26 = .ok (.ireturn, 1) := by decide +kernel
theorem dX3_note_0 : decode cX3_note 0 = .ok (.aload_n 0, 1) := by decide +kernel
theorem dX3_note_1 : decode cX3_note 1 = .ok (.getfield 21, 3) := by decide +kernel
theorem dX3_note_4 : decode cX3_note 4 = .ok (.ifCond .ne 18, 3) := by decide +kernel
theorem dX3_note_7 : decode cX3_note 7 = .ok (.aload_n 0, 1) := by decide +kernel
theorem dX3_note_8 : decode cX3_note 8 = .ok (.iload_n 1, 1) := by decide +kernel
theorem dX3_note_9 : decode cX3_note 9 = .ok (.putfield 9, 3) := by decide +kernel
theorem dX3_note_12 : decode cX3_note 12 = .ok (.aload_n 0, 1) := by decide +kernel
theorem dX3_note_13 : decode cX3_note 13 = .ok (.iload_n 2, 1) := by decide +kernel
theorem dX3_note_14 : decode cX3_note 14 = .ok (.putfield 15, 3) := by decide +kernel
theorem dX3_note_17 : decode cX3_note 17 = .ok (.aload_n 0, 1) := by decide +kernel
theorem dX3_note_18 : decode cX3_note 18 = .ok (.iload_n 3, 1) := by decide +kernel
theorem dX3_note_19 : decode cX3_note 19 = .ok (.putfield 18, 3) := by decide +kernel
theorem dX3_note_22 : decode cX3_note 22 = .ok (.aload_n 0, 1) := by decide +kernel
theorem dX3_note_23 : decode cX3_note 23 = .ok (.dup, 1) := by decide +kernel
theorem dX3_note_24 : decode cX3_note 24 = .ok (.getfield 21, 3) := by decide +kernel
theorem dX3_note_27 : decode cX3_note 27 = .ok (.iconst 1, 1) := by decide +kernel
theorem dX3_note_28 : decode cX3_note 28 = .ok (.iadd, 1) := by decide +kernel
theorem dX3_note_29 : decode cX3_note 29 = .ok (.putfield 21, 3) := by decide +kernel
theorem dX3_note_32 : decode cX3_note 32 = .ok (.return_, 1) := by decide +kernel
theorem dX4_init_0 : decode cX4_init 0 = .ok (.aload_n 0, 1) := by decide +kernel
theorem dX4_init_1 : decode cX4_init 1 = .ok (.invokespecial 1, 3) := by decide +kernel
theorem dX4_init_4 : decode cX4_init 4 = .ok (.aload_n 0, 1) := by decide +kernel
theorem dX4_init_5 : decode cX4_init 5 = .ok (.iconst 0, 1) := by decide +kernel
theorem dX4_init_6 : decode cX4_init 6 = .ok (.putfield 7, 3) := by decide +kernel
theorem dX4_init_9 : decode cX4_init 9 = .ok (.aload_n 0, 1) := by decide +kernel
theorem dX4_init_10 : decode cX4_init 10 = .ok (.new 13, 3) := by decide +kernel
theorem dX4_init_13 : decode cX4_init 13 = .ok (.dup, 1) := by decide +kernel
theorem dX4_init_14 : decode cX4_init 14 = .ok (.invokespecial 15, 3) := by decide +kernel
theorem dX4_init_17 : decode cX4_init 17 = .ok (.putfield 16, 3) := by decide +kernel
theorem dX4_init_20 : decode cX4_init 20 = .ok (.return_, 1) := by decide +kernel
theorem dX4_fillFrom_0 : decode cX4_fillFrom 0 = .ok (.aload_n 0, 1) := by decide +kernel
theorem dX4_fillFrom_1 : decode cX4_fillFrom 1 = .ok (.getfield 16, 3) := by decide +kernel
theorem dX4_fillFrom_4 : decode cX4_fillFrom 4 = .ok (.aload_n 1, 1) := by decide +kernel
theorem dX4_fillFrom_5 : decode cX4_fillFrom 5 = .ok (.invokevirtual 20, 3) := by decide +kernel
theorem dX4_fillFrom_8 : decode cX4_fillFrom 8 = .ok (.aload_n 0, 1) := by decide +kernel
theorem dX4_fillFrom_9 : decode cX4_fillFrom 9 = .ok (.iconst 1, 1) := by decide +kernel
theorem dX4_fillFrom_10 : decode cX4_fillFrom 10 = .ok (.putfield 7, 3) := by decide +kernel
theorem dX4_fillFrom_13 : decode cX4_fillFrom 13 = .ok (.return_, 1) := by decide +kernel
theorem dX5_init_0 : decode cX5_init 0 = .ok (.aload_n 0, 1) := by decide +kernel
theorem dX5_init_1 : decode cX5_init 1 = .ok (.invokespecial 3, 3) := by decide +kernel
theorem dX5_init_4 : decode cX5_init 4 = .ok (.aload_n 0, 1) := by decide +kernel
theorem dX5_init_5 : decode cX5_init 5 = .ok (.iconst 4, 1) := by decide +kernel
theorem dX5_init_6 : decode cX5_init 6 = .ok (.putfield 9, 3) := by decide +kernel
theorem dX5_init_9 : decode cX5_init 9 = .ok (.aload_n 0, 1) := by decide +kernel
theorem dX5_init_10 : decode cX5_init 10 = .ok (.iconst 4, 1) := by decide +kernel
theorem dX5_init_11 : decode cX5_init 11 = .ok (.putfield 15, 3) := by decide +kernel
theorem dX5_init_14 : decode cX5_init 14 = .ok (.aload_n 0, 1) := by decide +kernel
theorem dX5_init_15 : decode cX5_init 15 = .ok (.iconst 1, 1) := by decide +kernel
theorem dX5_init_16 : decode cX5_init 16 = .ok (.putfield 18, 3) := by decide +kernel
theorem dX5_init_19 : decode cX5_init 19 = .ok (.aload_n 0, 1) := by decide +kernel
theorem dX5_init_20 : decode cX5_init 20 = .ok (.iconst 0, 1) := by decide +kernel
theorem dX5_init_21 : decode cX5_init 21 = .ok (.putfield 21, 3) := by decide +kernel
theorem dX5_init_24 : decode cX5_init 24 = .ok (.aload_n 0, 1) := by decide +kernel
theorem dX5_init_25 : decode cX5_init 25 = .ok (.iconst 0, 1) := by decide +kernel
theorem dX5_init_26 : decode cX5_init 26 = .ok (.putfield 24, 3) := by decide +kernel
theorem dX5_init_29 : decode cX5_init 29 = .ok (.aload_n 0, 1) := by decide +kernel
theorem dX5_init_30 : decode cX5_init 30 = .ok (.iconst 0, 1) := by decide +kernel
theorem dX5_init_31 : decode cX5_init 31 = .ok (.putfield 27, 3) := by decide +kernel
theorem dX5_init_34 : decode cX5_init 34 = .ok (.aload_n 0, 1) := by decide +kernel
theorem dX5_init_35 : decode cX5_init 35 = .ok (.bipush 100, 2) := by decide +kernel
theorem dX5_init_37 : decode cX5_init 37 = .ok (.newarray .int, 2) := by decide +kernel
theorem dX5_init_39 : decode cX5_init 39 = .ok (.putfield 30, 3) := by decide +kernel
theorem dX5_init_42 : decode cX5_init 42 = .ok (.aload_n 0, 1) := by decide +kernel
theorem dX5_init_43 : decode cX5_init 43 = .ok (.bipush 10, 2) := by decide +kernel
theorem dX5_init_45 : decode cX5_init 45 = .ok (.newarray .int, 2) := by decide +kernel
theorem dX5_init_47 : decode cX5_init 47 = .ok (.putfield 34, 3) := by decide +kernel
theorem dX5_init_50 : decode cX5_init 50 = .ok (.aload_n 0, 1) := by decide +kernel
theorem dX5_init_51 : decode cX5_init 51 = .ok (.getfield 34, 3) := by decide +kernel
theorem dX5_init_54 : decode cX5_init 54 = .ok (.iconst 0, 1) := by decide +kernel
theorem dX5_init_55 : decode cX5_init 55 = .ok (.iconst 1, 1) := by decide +kernel
theorem dX5_init_56 : decode cX5_init 56 = .ok (.invokestatic 37, 3) := by decide +kernel
theorem dX5_init_59 : decode cX5_init 59 = .ok (.return_, 1) := by decide +kernel
theorem dX5_hasCell_0 : decode cX5_hasCell 0 = .ok (.iload_n 1, 1) := by decide +kernel
theorem dX5_hasCell_1 : decode cX5_hasCell 1 = .ok (.iconst 0, 1) := by decide +kernel
theorem dX5_hasCell_2 : decode cX5_hasCell 2 = .ok (.aload_n 0, 1) := by decide +kernel
theorem dX5_hasCell_3 : decode cX5_hasCell 3 = .ok (.getfield 9, 3) := by decide +kernel
theorem dX5_hasCell_6 : decode cX5_hasCell 6 = .ok (.iconst 1, 1) := by decide +kernel
theorem dX5_hasCell_7 : decode cX5_hasCell 7 = .ok (.isub, 1) := by decide +kernel
theorem dX5_hasCell_8 : decode cX5_hasCell 8 = .ok (.invokestatic 41, 3) := by decide +kernel
theorem dX5_hasCell_11 : decode cX5_hasCell 11 = .ok (.ifCond .eq 21, 3) := by decide +kernel
theorem dX5_hasCell_14 : decode cX5_hasCell 14 = .ok (.iload_n 2, 1) := by decide +kernel
theorem dX5_hasCell_15 : decode cX5_hasCell 15 = .ok (.iconst 0, 1) := by decide +kernel
theorem dX5_hasCell_16 : decode cX5_hasCell 16 = .ok (.aload_n 0, 1) := by decide +kernel
theorem dX5_hasCell_17 : decode cX5_hasCell 17 = .ok (.getfield 15, 3) := by decide +kernel
theorem dX5_hasCell_20 : decode cX5_hasCell 20 = .ok (.iconst 1, 1) := by decide +kernel
theorem dX5_hasCell_21 : decode cX5_hasCell 21 = .ok (.isub, 1) := by decide +kernel
theorem dX5_hasCell_22 : decode cX5_hasCell 22 = .ok (.invokestatic 41, 3) := by decide +kernel
theorem dX5_hasCell_25 : decode cX5_hasCell 25 = .ok (.ifCond .eq 7, 3) := by decide +kernel
theorem dX5_hasCell_28 : decode cX5_hasCell 28 = .ok (.iconst 1, 1) := by decide +kernel
theorem dX5_hasCell_29 : decode cX5_hasCell 29 = .ok (.goto 4, 3) := by decide +kernel
theorem dX5_hasCell_32 : decode cX5_hasCell 32 = .ok (.iconst 0, 1) := by decide +kernel
theorem dX5_hasCell_33 : decode cX5_hasCell 33 = .ok (.ireturn, 1) := by decide +kernel
theorem dX5_sizeCode_0 : decode cX5_sizeCode 0 = .ok (.bipush 11, 2) := by decide +kernel
theorem dX5_sizeCode_2 : decode cX5_sizeCode 2 = .ok (.aload_n 0, 1) := by decide +kernel
theorem dX5_sizeCode_3 : decode cX5_sizeCode 3 = .ok (.getfield 9, 3) := by decide +kernel
theorem dX5_sizeCode_6 : decode cX5_sizeCode 6 = .ok (.imul, 1) := by decide +kernel
theorem dX5_sizeCode_7 : decode cX5_sizeCode 7 = .ok (.aload_n 0, 1) := by decide +kernel
theorem dX5_sizeCode_8 : decode cX5_sizeCode 8 = .ok (.getfield 15, 3) := by decide +kernel
theorem dX5_sizeCode_11 : decode cX5_sizeCode 11 = .ok (.iadd, 1) := by decide +kernel
theorem dX5_sizeCode_12 : decode cX5_sizeCode 12 = .ok (.ireturn, 1) := by decide +kernel
theorem dX5_numberAt_0 : decode cX5_numberAt 0 = .ok (.iload_n 1, 1) := by decide +kernel
theorem dX5_numberAt_1 : decode cX5_numberAt 1 = .ok (.bipush 10, 2) := by decide +kernel
theorem dX5_numberAt_3 : decode cX5_numberAt 3 = .ok (.imul, 1) := by decide +kernel
theorem dX5_numberAt_4 : decode cX5_numberAt 4 = .ok (.iload_n 2, 1) := by decide +kernel
theorem dX5_numberAt_5 : decode cX5_numberAt 5 = .ok (.iadd, 1) := by decide +kernel
theorem dX5_numberAt_6 : decode cX5_numberAt 6 = .ok (.istore_n 3, 1) := by decide +kernel
theorem dX5_numberAt_7 : decode cX5_numberAt 7 = .ok (.iload_n 3, 1) := by decide +kernel
theorem dX5_numberAt_8 : decode cX5_numberAt 8 = .ok (.ifCond .lt 12, 3) := by decide +kernel
theorem dX5_numberAt_11 : decode cX5_numberAt 11 = .ok (.iload_n 3, 1) := by decide +kernel
theorem dX5_numberAt_12 : decode cX5_numberAt 12 = .ok (.aload_n 0, 1) := by decide +kernel
theorem dX5_numberAt_13 : decode cX5_numberAt 13 = .ok (.getfield 30, 3) := by decide +kernel
theorem dX5_numberAt_16 : decode cX5_numberAt 16 = .ok (.arraylength, 1) := by decide +kernel
theorem dX5_numberAt_17 : decode cX5_numberAt 17 = .ok (.if_icmp .lt 7, 3) := by decide +kernel
theorem dX5_numberAt_20 : decode cX5_numberAt 20 = .ok (.iconst 0, 1) := by decide +kernel
theorem dX5_numberAt_21 : decode cX5_numberAt 21 = .ok (.goto 9, 3) := by decide +kernel
theorem dX5_numberAt_24 : decode cX5_numberAt 24 = .ok (.aload_n 0, 1) := by decide +kernel
theorem dX5_numberAt_25 : decode cX5_numberAt 25 = .ok (.getfield 30, 3) := by decide +kernel
theorem dX5_numberAt_28 : decode cX5_numberAt 28 = .ok (.iload_n 3, 1) := by decide +kernel
theorem dX5_numberAt_29 : decode cX5_numberAt 29 = .ok (.iaload, 1) := by decide +kernel
theorem dX5_numberAt_30 : decode cX5_numberAt 30 = .ok (.ireturn, 1) := by decide +kernel
theorem dX5_setNumber_0 : decode cX5_setNumber 0 = .ok (.aload_n 0, 1) := by decide +kernel
theorem dX5_setNumber_1 : decode cX5_setNumber 1 = .ok (.getfield 30, 3) := by decide +kernel
theorem dX5_setNumber_4 : decode cX5_setNumber 4 = .ok (.iload_n 1, 1) := by decide +kernel
theorem dX5_setNumber_5 : decode cX5_setNumber 5 = .ok (.bipush 10, 2) := by decide +kernel
theorem dX5_setNumber_7 : decode cX5_setNumber 7 = .ok (.imul, 1) := by decide +kernel
theorem dX5_setNumber_8 : decode cX5_setNumber 8 = .ok (.iload_n 2, 1) := by decide +kernel
theorem dX5_setNumber_9 : decode cX5_setNumber 9 = .ok (.iadd, 1) := by decide +kernel
theorem dX5_setNumber_10 : decode cX5_setNumber 10 = .ok (.iload_n 3, 1) := by decide +kernel
theorem dX5_setNumber_11 : decode cX5_setNumber 11 = .ok (.invokestatic 37, 3) := by decide +kernel
theorem dX5_setNumber_14 : decode cX5_setNumber 14 = .ok (.return_, 1) := by decide +kernel
theorem dX5_weightAt_0 : decode cX5_weightAt 0 = .ok (.aload_n 0, 1) := by decide +kernel
theorem dX5_weightAt_1 : decode cX5_weightAt 1 = .ok (.getfield 34, 3) := by decide +kernel
theorem dX5_weightAt_4 : decode cX5_weightAt 4 = .ok (.iload_n 1, 1) := by decide +kernel
theorem dX5_weightAt_5 : decode cX5_weightAt 5 = .ok (.invokestatic 45, 3) := by decide +kernel
theorem dX5_weightAt_8 : decode cX5_weightAt 8 = .ok (.ireturn, 1) := by decide +kernel
theorem dX5_addWeight_0 : decode cX5_addWeight 0 = .ok (.aload_n 0, 1) := by decide +kernel
theorem dX5_addWeight_1 : decode cX5_addWeight 1 = .ok (.getfield 34, 3) := by decide +kernel
theorem dX5_addWeight_4 : decode cX5_addWeight 4 = .ok (.aload_n 0, 1) := by decide +kernel
theorem dX5_addWeight_5 : decode cX5_addWeight 5 = .ok (.getfield 18, 3) := by decide +kernel
theorem dX5_addWeight_8 : decode cX5_addWeight 8 = .ok (.iload_n 1, 1) := by decide +kernel
theorem dX5_addWeight_9 : decode cX5_addWeight 9 = .ok (.invokestatic 37, 3) := by decide +kernel
theorem dX5_addWeight_12 : decode cX5_addWeight 12 = .ok (.aload_n 0, 1) := by decide +kernel
theorem dX5_addWeight_13 : decode cX5_addWeight 13 = .ok (.dup, 1) := by decide +kernel
theorem dX5_addWeight_14 : decode cX5_addWeight 14 = .ok (.getfield 18, 3) := by decide +kernel
theorem dX5_addWeight_17 : decode cX5_addWeight 17 = .ok (.iconst 1, 1) := by decide +kernel
theorem dX5_addWeight_18 : decode cX5_addWeight 18 = .ok (.iadd, 1) := by decide +kernel
theorem dX5_addWeight_19 : decode cX5_addWeight 19 = .ok (.putfield 18, 3) := by decide +kernel
theorem dX5_addWeight_22 : decode cX5_addWeight 22 = .ok (.return_, 1) := by decide +kernel
theorem dX5_weightsTogether_0 : decode cX5_weightsTogether 0 = .ok (.iconst 0, 1) := by decide +kernel
theorem dX5_weightsTogether_1 : decode cX5_weightsTogether 1 = .ok (.istore_n 1, 1) := by decide +kernel
theorem dX5_weightsTogether_2 : decode cX5_weightsTogether 2 = .ok (.iconst 0, 1) := by decide +kernel
theorem dX5_weightsTogether_3 : decode cX5_weightsTogether 3 = .ok (.istore_n 2, 1) := by decide +kernel
theorem dX5_weightsTogether_4 : decode cX5_weightsTogether 4 = .ok (.iload_n 2, 1) := by decide +kernel
theorem dX5_weightsTogether_5 : decode cX5_weightsTogether 5 = .ok (.aload_n 0, 1) := by decide +kernel
theorem dX5_weightsTogether_6 : decode cX5_weightsTogether 6 = .ok (.getfield 18, 3) := by decide +kernel
theorem dX5_weightsTogether_9 : decode cX5_weightsTogether 9 = .ok (.if_icmp .ge 17, 3) := by decide +kernel
theorem dX5_weightsTogether_12 : decode cX5_weightsTogether 12 = .ok (.iload_n 1, 1) := by decide +kernel
theorem dX5_weightsTogether_13 : decode cX5_weightsTogether 13 = .ok (.aload_n 0, 1) := by decide +kernel
theorem dX5_weightsTogether_14 : decode cX5_weightsTogether 14 = .ok (.iload_n 2, 1) := by decide +kernel
theorem dX5_weightsTogether_15 : decode cX5_weightsTogether 15 = .ok (.invokevirtual 49, 3) := by decide +kernel
theorem dX5_weightsTogether_18 : decode cX5_weightsTogether 18 = .ok (.iadd, 1) := by decide +kernel
theorem dX5_weightsTogether_19 : decode cX5_weightsTogether 19 = .ok (.istore_n 1, 1) := by decide +kernel
theorem dX5_weightsTogether_20 : decode cX5_weightsTogether 20 = .ok (.iinc 2 1, 3) := by decide +kernel
theorem dX5_weightsTogether_23 : decode cX5_weightsTogether 23 = .ok (.goto (-19), 3) := by decide +kernel
theorem dX5_weightsTogether_26 : decode cX5_weightsTogether 26 = .ok (.iload_n 1, 1) := by decide +kernel
theorem dX5_weightsTogether_27 : decode cX5_weightsTogether 27 = .ok (.ireturn, 1) := by decide +kernel
theorem dX5_copyFrom_0 : decode cX5_copyFrom 0 = .ok (.aload_n 1, 1) := by decide +kernel
theorem dX5_copyFrom_1 : decode cX5_copyFrom 1 = .ok (.ifnonnull 4, 3) := by decide +kernel
theorem dX5_copyFrom_4 : decode cX5_copyFrom 4 = .ok (.return_, 1) := by decide +kernel
theorem dX5_copyFrom_5 : decode cX5_copyFrom 5 = .ok (.aload_n 0, 1) := by decide +kernel
theorem dX5_copyFrom_6 : decode cX5_copyFrom 6 = .ok (.aload_n 1, 1) := by decide +kernel
theorem dX5_copyFrom_7 : decode cX5_copyFrom 7 = .ok (.getfield 9, 3) := by decide +kernel
theorem dX5_copyFrom_10 : decode cX5_copyFrom 10 = .ok (.putfield 9, 3) := by decide +kernel
theorem dX5_copyFrom_13 : decode cX5_copyFrom 13 = .ok (.aload_n 0, 1) := by decide +kernel
theorem dX5_copyFrom_14 : decode cX5_copyFrom 14 = .ok (.aload_n 1, 1) := by decide +kernel
theorem dX5_copyFrom_15 : decode cX5_copyFrom 15 = .ok (.getfield 15, 3) := by decide +kernel
theorem dX5_copyFrom_18 : decode cX5_copyFrom 18 = .ok (.putfield 15, 3) := by decide +kernel
theorem dX5_copyFrom_21 : decode cX5_copyFrom 21 = .ok (.aload_n 0, 1) := by decide +kernel
theorem dX5_copyFrom_22 : decode cX5_copyFrom 22 = .ok (.aload_n 1, 1) := by decide +kernel
theorem dX5_copyFrom_23 : decode cX5_copyFrom 23 = .ok (.getfield 18, 3) := by decide +kernel
theorem dX5_copyFrom_26 : decode cX5_copyFrom 26 = .ok (.putfield 18, 3) := by decide +kernel
theorem dX5_copyFrom_29 : decode cX5_copyFrom 29 = .ok (.aload_n 0, 1) := by decide +kernel
theorem dX5_copyFrom_30 : decode cX5_copyFrom 30 = .ok (.aload_n 1, 1) := by decide +kernel
theorem dX5_copyFrom_31 : decode cX5_copyFrom 31 = .ok (.getfield 21, 3) := by decide +kernel
theorem dX5_copyFrom_34 : decode cX5_copyFrom 34 = .ok (.putfield 21, 3) := by decide +kernel
theorem dX5_copyFrom_37 : decode cX5_copyFrom 37 = .ok (.aload_n 0, 1) := by decide +kernel
theorem dX5_copyFrom_38 : decode cX5_copyFrom 38 = .ok (.aload_n 1, 1) := by decide +kernel
theorem dX5_copyFrom_39 : decode cX5_copyFrom 39 = .ok (.getfield 24, 3) := by decide +kernel
theorem dX5_copyFrom_42 : decode cX5_copyFrom 42 = .ok (.putfield 24, 3) := by decide +kernel
theorem dX5_copyFrom_45 : decode cX5_copyFrom 45 = .ok (.aload_n 0, 1) := by decide +kernel
theorem dX5_copyFrom_46 : decode cX5_copyFrom 46 = .ok (.aload_n 1, 1) := by decide +kernel
theorem dX5_copyFrom_47 : decode cX5_copyFrom 47 = .ok (.getfield 27, 3) := by decide +kernel
theorem dX5_copyFrom_50 : decode cX5_copyFrom 50 = .ok (.putfield 27, 3) := by decide +kernel
theorem dX5_copyFrom_53 : decode cX5_copyFrom 53 = .ok (.aload_n 1, 1) := by decide +kernel
theorem dX5_copyFrom_54 : decode cX5_copyFrom 54 = .ok (.getfield 30, 3) := by decide +kernel
theorem dX5_copyFrom_57 : decode cX5_copyFrom 57 = .ok (.aload_n 0, 1) := by decide +kernel
theorem dX5_copyFrom_58 : decode cX5_copyFrom 58 = .ok (.getfield 30, 3) := by decide +kernel
theorem dX5_copyFrom_61 : decode cX5_copyFrom 61 = .ok (.invokestatic 53, 3) := by decide +kernel
theorem dX5_copyFrom_64 : decode cX5_copyFrom 64 = .ok (.aload_n 1, 1) := by decide +kernel
theorem dX5_copyFrom_65 : decode cX5_copyFrom 65 = .ok (.getfield 34, 3) := by decide +kernel
theorem dX5_copyFrom_68 : decode cX5_copyFrom 68 = .ok (.aload_n 0, 1) := by decide +kernel
theorem dX5_copyFrom_69 : decode cX5_copyFrom 69 = .ok (.getfield 34, 3) := by decide +kernel
theorem dX5_copyFrom_72 : decode cX5_copyFrom 72 = .ok (.invokestatic 53, 3) := by decide +kernel
theorem dX5_copyFrom_75 : decode cX5_copyFrom 75 = .ok (.return_, 1) := by decide +kernel
theorem dX6_init_0 : decode cX6_init 0 = .ok (.aload_n 0, 1) := by decide +kernel
theorem dX6_init_1 : decode cX6_init 1 = .ok (.invokespecial 3, 3) := by decide +kernel
theorem dX6_init_4 : decode cX6_init 4 = .ok (.aload_n 0, 1) := by decide +kernel
theorem dX6_init_5 : decode cX6_init 5 = .ok (.iconst 0, 1) := by decide +kernel
theorem dX6_init_6 : decode cX6_init 6 = .ok (.putfield 9, 3) := by decide +kernel
theorem dX6_init_9 : decode cX6_init 9 = .ok (.aload_n 0, 1) := by decide +kernel
theorem dX6_init_10 : decode cX6_init 10 = .ok (.bipush 60, 2) := by decide +kernel
theorem dX6_init_12 : decode cX6_init 12 = .ok (.newarray .int, 2) := by decide +kernel
theorem dX6_init_14 : decode cX6_init 14 = .ok (.putfield 15, 3) := by decide +kernel
theorem dX6_init_17 : decode cX6_init 17 = .ok (.aload_n 0, 1) := by decide +kernel
theorem dX6_init_18 : decode cX6_init 18 = .ok (.bipush 100, 2) := by decide +kernel
theorem dX6_init_20 : decode cX6_init 20 = .ok (.newarray .int, 2) := by decide +kernel
theorem dX6_init_22 : decode cX6_init 22 = .ok (.putfield 19, 3) := by decide +kernel
theorem dX6_init_25 : decode cX6_init 25 = .ok (.aload_n 0, 1) := by decide +kernel
theorem dX6_init_26 : decode cX6_init 26 = .ok (.iconst 0, 1) := by decide +kernel
theorem dX6_init_27 : decode cX6_init 27 = .ok (.putfield 22, 3) := by decide +kernel
theorem dX6_init_30 : decode cX6_init 30 = .ok (.aload_n 0, 1) := by decide +kernel
theorem dX6_init_31 : decode cX6_init 31 = .ok (.iconst 0, 1) := by decide +kernel
theorem dX6_init_32 : decode cX6_init 32 = .ok (.putfield 25, 3) := by decide +kernel
theorem dX6_init_35 : decode cX6_init 35 = .ok (.aload_n 0, 1) := by decide +kernel
theorem dX6_init_36 : decode cX6_init 36 = .ok (.iconst 0, 1) := by decide +kernel
theorem dX6_init_37 : decode cX6_init 37 = .ok (.putfield 28, 3) := by decide +kernel
theorem dX6_init_40 : decode cX6_init 40 = .ok (.aload_n 0, 1) := by decide +kernel
theorem dX6_init_41 : decode cX6_init 41 = .ok (.iconst 0, 1) := by decide +kernel
theorem dX6_init_42 : decode cX6_init 42 = .ok (.putfield 31, 3) := by decide +kernel
theorem dX6_init_45 : decode cX6_init 45 = .ok (.aload_n 0, 1) := by decide +kernel
theorem dX6_init_46 : decode cX6_init 46 = .ok (.iconst 0, 1) := by decide +kernel
theorem dX6_init_47 : decode cX6_init 47 = .ok (.putfield 34, 3) := by decide +kernel
theorem dX6_init_50 : decode cX6_init 50 = .ok (.return_, 1) := by decide +kernel
theorem dX6_add_0 : decode cX6_add 0 = .ok (.aload_n 0, 1) := by decide +kernel
theorem dX6_add_1 : decode cX6_add 1 = .ok (.getfield 15, 3) := by decide +kernel
theorem dX6_add_4 : decode cX6_add 4 = .ok (.aload_n 0, 1) := by decide +kernel
theorem dX6_add_5 : decode cX6_add 5 = .ok (.getfield 9, 3) := by decide +kernel
theorem dX6_add_8 : decode cX6_add 8 = .ok (.iload_n 1, 1) := by decide +kernel
theorem dX6_add_9 : decode cX6_add 9 = .ok (.invokestatic 37, 3) := by decide +kernel
theorem dX6_add_12 : decode cX6_add 12 = .ok (.aload_n 0, 1) := by decide +kernel
theorem dX6_add_13 : decode cX6_add 13 = .ok (.dup, 1) := by decide +kernel
theorem dX6_add_14 : decode cX6_add 14 = .ok (.getfield 9, 3) := by decide +kernel
theorem dX6_add_17 : decode cX6_add 17 = .ok (.iconst 1, 1) := by decide +kernel
theorem dX6_add_18 : decode cX6_add 18 = .ok (.iadd, 1) := by decide +kernel
theorem dX6_add_19 : decode cX6_add 19 = .ok (.putfield 9, 3) := by decide +kernel
theorem dX6_add_22 : decode cX6_add 22 = .ok (.return_, 1) := by decide +kernel
theorem dX6_clear_0 : decode cX6_clear 0 = .ok (.aload_n 0, 1) := by decide +kernel
theorem dX6_clear_1 : decode cX6_clear 1 = .ok (.iconst 0, 1) := by decide +kernel
theorem dX6_clear_2 : decode cX6_clear 2 = .ok (.putfield 9, 3) := by decide +kernel
theorem dX6_clear_5 : decode cX6_clear 5 = .ok (.return_, 1) := by decide +kernel
theorem dX6_codeAt_0 : decode cX6_codeAt 0 = .ok (.aload_n 0, 1) := by decide +kernel
theorem dX6_codeAt_1 : decode cX6_codeAt 1 = .ok (.getfield 15, 3) := by decide +kernel
theorem dX6_codeAt_4 : decode cX6_codeAt 4 = .ok (.iload_n 1, 1) := by decide +kernel
theorem dX6_codeAt_5 : decode cX6_codeAt 5 = .ok (.invokestatic 41, 3) := by decide +kernel
theorem dX6_codeAt_8 : decode cX6_codeAt 8 = .ok (.ireturn, 1) := by decide +kernel
theorem dX6_readToError_0 : decode cX6_readToError 0 = .ok (.aload_n 0, 1) := by decide +kernel
theorem dX6_readToError_1 : decode cX6_readToError 1 = .ok (.iconst 0, 1) := by decide +kernel
theorem dX6_readToError_2 : decode cX6_readToError 2 = .ok (.putfield 22, 3) := by decide +kernel
theorem dX6_readToError_5 : decode cX6_readToError 5 = .ok (.aload_n 0, 1) := by decide +kernel
theorem dX6_readToError_6 : decode cX6_readToError 6 = .ok (.iconst 0, 1) := by decide +kernel
theorem dX6_readToError_7 : decode cX6_readToError 7 = .ok (.putfield 25, 3) := by decide +kernel
theorem dX6_readToError_10 : decode cX6_readToError 10 = .ok (.aload_n 0, 1) := by decide +kernel
theorem dX6_readToError_11 : decode cX6_readToError 11 = .ok (.bipush 10, 2) := by decide +kernel
theorem dX6_readToError_13 : decode cX6_readToError 13 = .ok (.putfield 28, 3) := by decide +kernel
theorem dX6_readToError_16 : decode cX6_readToError 16 = .ok (.aload_n 0, 1) := by decide +kernel
theorem dX6_readToError_17 : decode cX6_readToError 17 = .ok (.iconst 0, 1) := by decide +kernel
theorem dX6_readToError_18 : decode cX6_readToError 18 = .ok (.putfield 31, 3) := by decide +kernel
theorem dX6_readToError_21 : decode cX6_readToError 21 = .ok (.aload_n 0, 1) := by decide +kernel
theorem dX6_readToError_22 : decode cX6_readToError 22 = .ok (.iconst 0, 1) := by decide +kernel
theorem dX6_readToError_23 : decode cX6_readToError 23 = .ok (.putfield 34, 3) := by decide +kernel
theorem dX6_readToError_26 : decode cX6_readToError 26 = .ok (.iconst 0, 1) := by decide +kernel
theorem dX6_readToError_27 : decode cX6_readToError 27 = .ok (.istore_n 1, 1) := by decide +kernel
theorem dX6_readToError_28 : decode cX6_readToError 28 = .ok (.iload_n 1, 1) := by decide +kernel
theorem dX6_readToError_29 : decode cX6_readToError 29 = .ok (.aload_n 0, 1) := by decide +kernel
theorem dX6_readToError_30 : decode cX6_readToError 30 = .ok (.getfield 9, 3) := by decide +kernel
theorem dX6_readToError_33 : decode cX6_readToError 33 = .ok (.if_icmp .ge 23, 3) := by decide +kernel
theorem dX6_readToError_36 : decode cX6_readToError 36 = .ok (.aload_n 0, 1) := by decide +kernel
theorem dX6_readToError_37 : decode cX6_readToError 37 = .ok (.aload_n 0, 1) := by decide +kernel
theorem dX6_readToError_38 : decode cX6_readToError 38 = .ok (.iload_n 1, 1) := by decide +kernel
theorem dX6_readToError_39 : decode cX6_readToError 39 = .ok (.invokevirtual 45, 3) := by decide +kernel
theorem dX6_readToError_42 : decode cX6_readToError 42 = .ok (.invokevirtual 49, 3) := by decide +kernel
theorem dX6_readToError_45 : decode cX6_readToError 45 = .ok (.ifCond .ne 5, 3) := by decide +kernel
theorem dX6_readToError_48 : decode cX6_readToError 48 = .ok (.iload_n 1, 1) := by decide +kernel
theorem dX6_readToError_49 : decode cX6_readToError 49 = .ok (.ireturn, 1) := by decide +kernel
theorem dX6_readToError_50 : decode cX6_readToError 50 = .ok (.iinc 1 1, 3) := by decide +kernel
theorem dX6_readToError_53 : decode cX6_readToError 53 = .ok (.goto (-25), 3) := by decide +kernel
theorem dX6_readToError_56 : decode cX6_readToError 56 = .ok (.aload_n 0, 1) := by decide +kernel
theorem dX6_readToError_57 : decode cX6_readToError 57 = .ok (.getfield 9, 3) := by decide +kernel
theorem dX6_readToError_60 : decode cX6_readToError 60 = .ok (.ireturn, 1) := by decide +kernel
theorem dX6_tellsTable_0 : decode cX6_tellsTable 0 = .ok (.aload_n 0, 1) := by decide +kernel
theorem dX6_tellsTable_1 : decode cX6_tellsTable 1 = .ok (.invokevirtual 53, 3) := by decide +kernel
theorem dX6_tellsTable_4 : decode cX6_tellsTable 4 = .ok (.aload_n 0, 1) := by decide +kernel
theorem dX6_tellsTable_5 : decode cX6_tellsTable 5 = .ok (.getfield 9, 3) := by decide +kernel
theorem dX6_tellsTable_8 : decode cX6_tellsTable 8 = .ok (.if_icmp .ne 21, 3) := by decide +kernel
theorem dX6_tellsTable_11 : decode cX6_tellsTable 11 = .ok (.aload_n 0, 1) := by decide +kernel
theorem dX6_tellsTable_12 : decode cX6_tellsTable 12 = .ok (.getfield 31, 3) := by decide +kernel
theorem dX6_tellsTable_15 : decode cX6_tellsTable 15 = .ok (.ifCond .le 14, 3) := by decide +kernel
theorem dX6_tellsTable_18 : decode cX6_tellsTable 18 = .ok (.aload_n 0, 1) := by decide +kernel
theorem dX6_tellsTable_19 : decode cX6_tellsTable 19 = .ok (.invokevirtual 57, 3) := by decide +kernel
theorem dX6_tellsTable_22 : decode cX6_tellsTable 22 = .ok (.ifCond .eq 7, 3) := by decide +kernel
theorem dX6_tellsTable_25 : decode cX6_tellsTable 25 = .ok (.iconst 1, 1) := by decide +kernel
theorem dX6_tellsTable_26 : decode cX6_tellsTable 26 = .ok (.goto 4, 3) := by decide +kernel
theorem dX6_tellsTable_29 : decode cX6_tellsTable 29 = .ok (.iconst 0, 1) := by decide +kernel
theorem dX6_tellsTable_30 : decode cX6_tellsTable 30 = .ok (.ireturn, 1) := by decide +kernel
theorem dX6_rowsTold_0 : decode cX6_rowsTold 0 = .ok (.aload_n 0, 1) := by decide +kernel
theorem dX6_rowsTold_1 : decode cX6_rowsTold 1 = .ok (.getfield 22, 3) := by decide +kernel
theorem dX6_rowsTold_4 : decode cX6_rowsTold 4 = .ok (.iconst 1, 1) := by decide +kernel
theorem dX6_rowsTold_5 : decode cX6_rowsTold 5 = .ok (.iadd, 1) := by decide +kernel
theorem dX6_rowsTold_6 : decode cX6_rowsTold 6 = .ok (.ireturn, 1) := by decide +kernel
theorem dX6_columnsTold_0 : decode cX6_columnsTold 0 = .ok (.aload_n 0, 1) := by decide +kernel
theorem dX6_columnsTold_1 : decode cX6_columnsTold 1 = .ok (.getfield 25, 3) := by decide +kernel
theorem dX6_columnsTold_4 : decode cX6_columnsTold 4 = .ok (.iconst 1, 1) := by decide +kernel
theorem dX6_columnsTold_5 : decode cX6_columnsTold 5 = .ok (.iadd, 1) := by decide +kernel
theorem dX6_columnsTold_6 : decode cX6_columnsTold 6 = .ok (.ireturn, 1) := by decide +kernel
theorem dX6_numberTold_0 : decode cX6_numberTold 0 = .ok (.aload_n 0, 1) := by decide +kernel
theorem dX6_numberTold_1 : decode cX6_numberTold 1 = .ok (.getfield 19, 3) := by decide +kernel
theorem dX6_numberTold_4 : decode cX6_numberTold 4 = .ok (.iload_n 1, 1) := by decide +kernel
theorem dX6_numberTold_5 : decode cX6_numberTold 5 = .ok (.bipush 10, 2) := by decide +kernel
theorem dX6_numberTold_7 : decode cX6_numberTold 7 = .ok (.imul, 1) := by decide +kernel
theorem dX6_numberTold_8 : decode cX6_numberTold 8 = .ok (.iload_n 2, 1) := by decide +kernel
theorem dX6_numberTold_9 : decode cX6_numberTold 9 = .ok (.iadd, 1) := by decide +kernel
theorem dX6_numberTold_10 : decode cX6_numberTold 10 = .ok (.invokestatic 41, 3) := by decide +kernel
theorem dX6_numberTold_13 : decode cX6_numberTold 13 = .ok (.ireturn, 1) := by decide +kernel
theorem dX6_takes_0 : decode cX6_takes 0 = .ok (.iload_n 1, 1) := by decide +kernel
theorem dX6_takes_1 : decode cX6_takes 1 = .ok (.bipush 48, 2) := by decide +kernel
theorem dX6_takes_3 : decode cX6_takes 3 = .ok (.bipush 57, 2) := by decide +kernel
theorem dX6_takes_5 : decode cX6_takes 5 = .ok (.invokestatic 61, 3) := by decide +kernel
theorem dX6_takes_8 : decode cX6_takes 8 = .ok (.ifCond .eq 12, 3) := by decide +kernel
theorem dX6_takes_11 : decode cX6_takes 11 = .ok (.aload_n 0, 1) := by decide +kernel
theorem dX6_takes_12 : decode cX6_takes 12 = .ok (.iload_n 1, 1) := by decide +kernel
theorem dX6_takes_13 : decode cX6_takes 13 = .ok (.bipush 48, 2) := by decide +kernel
theorem dX6_takes_15 : decode cX6_takes 15 = .ok (.isub, 1) := by decide +kernel
theorem dX6_takes_16 : decode cX6_takes 16 = .ok (.invokevirtual 65, 3) := by decide +kernel
theorem dX6_takes_19 : decode cX6_takes 19 = .ok (.ireturn, 1) := by decide +kernel
theorem dX6_takes_20 : decode cX6_takes 20 = .ok (.iload_n 1, 1) := by decide +kernel
theorem dX6_takes_21 : decode cX6_takes 21 = .ok (.bipush 44, 2) := by decide +kernel
theorem dX6_takes_23 : decode cX6_takes 23 = .ok (.if_icmp .ne 8, 3) := by decide +kernel
theorem dX6_takes_26 : decode cX6_takes 26 = .ok (.aload_n 0, 1) := by decide +kernel
theorem dX6_takes_27 : decode cX6_takes 27 = .ok (.invokevirtual 68, 3) := by decide +kernel
theorem dX6_takes_30 : decode cX6_takes 30 = .ok (.ireturn, 1) := by decide +kernel
theorem dX6_takes_31 : decode cX6_takes 31 = .ok (.iload_n 1, 1) := by decide +kernel
theorem dX6_takes_32 : decode cX6_takes 32 = .ok (.bipush 47, 2) := by decide +kernel
theorem dX6_takes_34 : decode cX6_takes 34 = .ok (.if_icmp .ne 14, 3) := by decide +kernel
theorem dX6_takes_37 : decode cX6_takes 37 = .ok (.aload_n 0, 1) := by decide +kernel
theorem dX6_takes_38 : decode cX6_takes 38 = .ok (.invokevirtual 71, 3) := by decide +kernel
theorem dX6_takes_41 : decode cX6_takes 41 = .ok (.ifCond .eq 7, 3) := by decide +kernel
theorem dX6_takes_44 : decode cX6_takes 44 = .ok (.iconst 1, 1) := by decide +kernel
theorem dX6_takes_45 : decode cX6_takes 45 = .ok (.goto 4, 3) := by decide +kernel
theorem dX6_takes_48 : decode cX6_takes 48 = .ok (.iconst 0, 1) := by decide +kernel
theorem dX6_takes_49 : decode cX6_takes 49 = .ok (.ireturn, 1) := by decide +kernel
theorem dX6_takesDigit_0 : decode cX6_takesDigit 0 = .ok (.aload_n 0, 1) := by decide +kernel
theorem dX6_takesDigit_1 : decode cX6_takesDigit 1 = .ok (.getfield 31, 3) := by decide +kernel
theorem dX6_takesDigit_4 : decode cX6_takesDigit 4 = .ok (.ifCond .ne 7, 3) := by decide +kernel
theorem dX6_takesDigit_7 : decode cX6_takesDigit 7 = .ok (.iconst 1, 1) := by decide +kernel
theorem dX6_takesDigit_8 : decode cX6_takesDigit 8 = .ok (.goto 4, 3) := by decide +kernel
theorem dX6_takesDigit_11 : decode cX6_takesDigit 11 = .ok (.iconst 0, 1) := by decide +kernel
theorem dX6_takesDigit_12 : decode cX6_takesDigit 12 = .ok (.istore_n 2, 1) := by decide +kernel
theorem dX6_takesDigit_13 : decode cX6_takesDigit 13 = .ok (.iload_n 2, 1) := by decide +kernel
theorem dX6_takesDigit_14 : decode cX6_takesDigit 14 = .ok (.ifCond .ne 20, 3) := by decide +kernel
theorem dX6_takesDigit_17 : decode cX6_takesDigit 17 = .ok (.aload_n 0, 1) := by decide +kernel
theorem dX6_takesDigit_18 : decode cX6_takesDigit 18 = .ok (.getfield 34, 3) := by decide +kernel
theorem dX6_takesDigit_21 : decode cX6_takesDigit 21 = .ok (.ifCond .eq 11, 3) := by decide +kernel
theorem dX6_takesDigit_24 : decode cX6_takesDigit 24 = .ok (.aload_n 0, 1) := by decide +kernel
theorem dX6_takesDigit_25 : decode cX6_takesDigit 25 = .ok (.getfield 31, 3) := by decide +kernel
theorem dX6_takesDigit_28 : decode cX6_takesDigit 28 = .ok (.iconst 4, 1) := by decide +kernel
theorem dX6_takesDigit_29 : decode cX6_takesDigit 29 = .ok (.if_icmp .ne 5, 3) := by decide +kernel
theorem dX6_takesDigit_32 : decode cX6_takesDigit 32 = .ok (.iconst 0, 1) := by decide +kernel
theorem dX6_takesDigit_33 : decode cX6_takesDigit 33 = .ok (.ireturn, 1) := by decide +kernel
theorem dX6_takesDigit_34 : decode cX6_takesDigit 34 = .ok (.aload_n 0, 1) := by decide +kernel
theorem dX6_takesDigit_35 : decode cX6_takesDigit 35 = .ok (.iload_n 2, 1) := by decide +kernel
theorem dX6_takesDigit_36 : decode cX6_takesDigit 36 = .ok (.ifCond .eq 7, 3) := by decide +kernel
theorem dX6_takesDigit_39 : decode cX6_takesDigit 39 = .ok (.iload_n 1, 1) := by decide +kernel
theorem dX6_takesDigit_40 : decode cX6_takesDigit 40 = .ok (.goto 12, 3) := by decide +kernel
theorem dX6_takesDigit_43 : decode cX6_takesDigit 43 = .ok (.aload_n 0, 1) := by decide +kernel
theorem dX6_takesDigit_44 : decode cX6_takesDigit 44 = .ok (.getfield 34, 3) := by decide +kernel
theorem dX6_takesDigit_47 : decode cX6_takesDigit 47 = .ok (.bipush 10, 2) := by decide +kernel
theorem dX6_takesDigit_49 : decode cX6_takesDigit 49 = .ok (.imul, 1) := by decide +kernel
theorem dX6_takesDigit_50 : decode cX6_takesDigit 50 = .ok (.iload_n 1, 1) := by decide +kernel
theorem dX6_takesDigit_51 : decode cX6_takesDigit 51 = .ok (.iadd, 1) := by decide +kernel
theorem dX6_takesDigit_52 : decode cX6_takesDigit 52 = .ok (.putfield 34, 3) := by decide +kernel
theorem dX6_takesDigit_55 : decode cX6_takesDigit 55 = .ok (.aload_n 0, 1) := by decide +kernel
theorem dX6_takesDigit_56 : decode cX6_takesDigit 56 = .ok (.dup, 1) := by decide +kernel
theorem dX6_takesDigit_57 : decode cX6_takesDigit 57 = .ok (.getfield 31, 3) := by decide +kernel
theorem dX6_takesDigit_60 : decode cX6_takesDigit 60 = .ok (.iconst 1, 1) := by decide +kernel
theorem dX6_takesDigit_61 : decode cX6_takesDigit 61 = .ok (.iadd, 1) := by decide +kernel
theorem dX6_takesDigit_62 : decode cX6_takesDigit 62 = .ok (.putfield 31, 3) := by decide +kernel
theorem dX6_takesDigit_65 : decode cX6_takesDigit 65 = .ok (.aload_n 0, 1) := by decide +kernel
theorem dX6_takesDigit_66 : decode cX6_takesDigit 66 = .ok (.getfield 19, 3) := by decide +kernel
theorem dX6_takesDigit_69 : decode cX6_takesDigit 69 = .ok (.aload_n 0, 1) := by decide +kernel
theorem dX6_takesDigit_70 : decode cX6_takesDigit 70 = .ok (.getfield 22, 3) := by decide +kernel
theorem dX6_takesDigit_73 : decode cX6_takesDigit 73 = .ok (.bipush 10, 2) := by decide +kernel
theorem dX6_takesDigit_75 : decode cX6_takesDigit 75 = .ok (.imul, 1) := by decide +kernel
theorem dX6_takesDigit_76 : decode cX6_takesDigit 76 = .ok (.aload_n 0, 1) := by decide +kernel
theorem dX6_takesDigit_77 : decode cX6_takesDigit 77 = .ok (.getfield 25, 3) := by decide +kernel
theorem dX6_takesDigit_80 : decode cX6_takesDigit 80 = .ok (.iadd, 1) := by decide +kernel
theorem dX6_takesDigit_81 : decode cX6_takesDigit 81 = .ok (.aload_n 0, 1) := by decide +kernel
theorem dX6_takesDigit_82 : decode cX6_takesDigit 82 = .ok (.getfield 34, 3) := by decide +kernel
theorem dX6_takesDigit_85 : decode cX6_takesDigit 85 = .ok (.invokestatic 37, 3) := by decide +kernel
theorem dX6_takesDigit_88 : decode cX6_takesDigit 88 = .ok (.iconst 1, 1) := by decide +kernel
theorem dX6_takesDigit_89 : decode cX6_takesDigit 89 = .ok (.ireturn, 1) := by decide +kernel
theorem dX6_takesComma_0 : decode cX6_takesComma 0 = .ok (.aload_n 0, 1) := by decide +kernel
theorem dX6_takesComma_1 : decode cX6_takesComma 1 = .ok (.getfield 31, 3) := by decide +kernel
theorem dX6_takesComma_4 : decode cX6_takesComma 4 = .ok (.ifCond .eq 16, 3) := by decide +kernel
theorem dX6_takesComma_7 : decode cX6_takesComma 7 = .ok (.aload_n 0, 1) := by decide +kernel
theorem dX6_takesComma_8 : decode cX6_takesComma 8 = .ok (.getfield 25, 3) := by decide +kernel
theorem dX6_takesComma_11 : decode cX6_takesComma 11 = .ok (.iconst 1, 1) := by decide +kernel
theorem dX6_takesComma_12 : decode cX6_takesComma 12 = .ok (.iadd, 1) := by decide +kernel
theorem dX6_takesComma_13 : decode cX6_takesComma 13 = .ok (.aload_n 0, 1) := by decide +kernel
theorem dX6_takesComma_14 : decode cX6_takesComma 14 = .ok (.getfield 28, 3) := by decide +kernel
theorem dX6_takesComma_17 : decode cX6_takesComma 17 = .ok (.if_icmp .lt 5, 3) := by decide +kernel
theorem dX6_takesComma_20 : decode cX6_takesComma 20 = .ok (.iconst 0, 1) := by decide +kernel
theorem dX6_takesComma_21 : decode cX6_takesComma 21 = .ok (.ireturn, 1) := by decide +kernel
theorem dX6_takesComma_22 : decode cX6_takesComma 22 = .ok (.aload_n 0, 1) := by decide +kernel
theorem dX6_takesComma_23 : decode cX6_takesComma 23 = .ok (.dup, 1) := by decide +kernel
theorem dX6_takesComma_24 : decode cX6_takesComma 24 = .ok (.getfield 25, 3) := by decide +kernel
theorem dX6_takesComma_27 : decode cX6_takesComma 27 = .ok (.iconst 1, 1) := by decide +kernel
theorem dX6_takesComma_28 : decode cX6_takesComma 28 = .ok (.iadd, 1) := by decide +kernel
theorem dX6_takesComma_29 : decode cX6_takesComma 29 = .ok (.putfield 25, 3) := by decide +kernel
theorem dX6_takesComma_32 : decode cX6_takesComma 32 = .ok (.aload_n 0, 1) := by decide +kernel
theorem dX6_takesComma_33 : decode cX6_takesComma 33 = .ok (.iconst 0, 1) := by decide +kernel
theorem dX6_takesComma_34 : decode cX6_takesComma 34 = .ok (.putfield 31, 3) := by decide +kernel
theorem dX6_takesComma_37 : decode cX6_takesComma 37 = .ok (.iconst 1, 1) := by decide +kernel
theorem dX6_takesComma_38 : decode cX6_takesComma 38 = .ok (.ireturn, 1) := by decide +kernel
theorem dX6_takesSlash_0 : decode cX6_takesSlash 0 = .ok (.aload_n 0, 1) := by decide +kernel
theorem dX6_takesSlash_1 : decode cX6_takesSlash 1 = .ok (.getfield 31, 3) := by decide +kernel
theorem dX6_takesSlash_4 : decode cX6_takesSlash 4 = .ok (.ifCond .eq 21, 3) := by decide +kernel
theorem dX6_takesSlash_7 : decode cX6_takesSlash 7 = .ok (.aload_n 0, 1) := by decide +kernel
theorem dX6_takesSlash_8 : decode cX6_takesSlash 8 = .ok (.getfield 22, 3) := by decide +kernel
theorem dX6_takesSlash_11 : decode cX6_takesSlash 11 = .ok (.iconst 1, 1) := by decide +kernel
theorem dX6_takesSlash_12 : decode cX6_takesSlash 12 = .ok (.iadd, 1) := by decide +kernel
theorem dX6_takesSlash_13 : decode cX6_takesSlash 13 = .ok (.bipush 10, 2) := by decide +kernel
theorem dX6_takesSlash_15 : decode cX6_takesSlash 15 = .ok (.if_icmp .ge 10, 3) := by decide +kernel
theorem dX6_takesSlash_18 : decode cX6_takesSlash 18 = .ok (.aload_n 0, 1) := by decide +kernel
theorem dX6_takesSlash_19 : decode cX6_takesSlash 19 = .ok (.invokevirtual 57, 3) := by decide +kernel
theorem dX6_takesSlash_22 : decode cX6_takesSlash 22 = .ok (.ifCond .ne 5, 3) := by decide +kernel
theorem dX6_takesSlash_25 : decode cX6_takesSlash 25 = .ok (.iconst 0, 1) := by decide +kernel
theorem dX6_takesSlash_26 : decode cX6_takesSlash 26 = .ok (.ireturn, 1) := by decide +kernel
theorem dX6_takesSlash_27 : decode cX6_takesSlash 27 = .ok (.aload_n 0, 1) := by decide +kernel
theorem dX6_takesSlash_28 : decode cX6_takesSlash 28 = .ok (.aload_n 0, 1) := by decide +kernel
theorem dX6_takesSlash_29 : decode cX6_takesSlash 29 = .ok (.getfield 25, 3) := by decide +kernel
theorem dX6_takesSlash_32 : decode cX6_takesSlash 32 = .ok (.iconst 1, 1) := by decide +kernel
theorem dX6_takesSlash_33 : decode cX6_takesSlash 33 = .ok (.iadd, 1) := by decide +kernel
theorem dX6_takesSlash_34 : decode cX6_takesSlash 34 = .ok (.putfield 28, 3) := by decide +kernel
theorem dX6_takesSlash_37 : decode cX6_takesSlash 37 = .ok (.aload_n 0, 1) := by decide +kernel
theorem dX6_takesSlash_38 : decode cX6_takesSlash 38 = .ok (.dup, 1) := by decide +kernel
theorem dX6_takesSlash_39 : decode cX6_takesSlash 39 = .ok (.getfield 22, 3) := by decide +kernel
theorem dX6_takesSlash_42 : decode cX6_takesSlash 42 = .ok (.iconst 1, 1) := by decide +kernel
theorem dX6_takesSlash_43 : decode cX6_takesSlash 43 = .ok (.iadd, 1) := by decide +kernel
theorem dX6_takesSlash_44 : decode cX6_takesSlash 44 = .ok (.putfield 22, 3) := by decide +kernel
theorem dX6_takesSlash_47 : decode cX6_takesSlash 47 = .ok (.aload_n 0, 1) := by decide +kernel
theorem dX6_takesSlash_48 : decode cX6_takesSlash 48 = .ok (.iconst 0, 1) := by decide +kernel
theorem dX6_takesSlash_49 : decode cX6_takesSlash 49 = .ok (.putfield 25, 3) := by decide +kernel
theorem dX6_takesSlash_52 : decode cX6_takesSlash 52 = .ok (.aload_n 0, 1) := by decide +kernel
theorem dX6_takesSlash_53 : decode cX6_takesSlash 53 = .ok (.iconst 0, 1) := by decide +kernel
theorem dX6_takesSlash_54 : decode cX6_takesSlash 54 = .ok (.putfield 31, 3) := by decide +kernel
theorem dX6_takesSlash_57 : decode cX6_takesSlash 57 = .ok (.iconst 1, 1) := by decide +kernel
theorem dX6_takesSlash_58 : decode cX6_takesSlash 58 = .ok (.ireturn, 1) := by decide +kernel
theorem dX6_isRowFull_0 : decode cX6_isRowFull 0 = .ok (.aload_n 0, 1) := by decide +kernel
theorem dX6_isRowFull_1 : decode cX6_isRowFull 1 = .ok (.getfield 22, 3) := by decide +kernel
theorem dX6_isRowFull_4 : decode cX6_isRowFull 4 = .ok (.ifCond .eq 16, 3) := by decide +kernel
theorem dX6_isRowFull_7 : decode cX6_isRowFull 7 = .ok (.aload_n 0, 1) := by decide +kernel
theorem dX6_isRowFull_8 : decode cX6_isRowFull 8 = .ok (.getfield 25, 3) := by decide +kernel
theorem dX6_isRowFull_11 : decode cX6_isRowFull 11 = .ok (.iconst 1, 1) := by decide +kernel
theorem dX6_isRowFull_12 : decode cX6_isRowFull 12 = .ok (.iadd, 1) := by decide +kernel
theorem dX6_isRowFull_13 : decode cX6_isRowFull 13 = .ok (.aload_n 0, 1) := by decide +kernel
theorem dX6_isRowFull_14 : decode cX6_isRowFull 14 = .ok (.getfield 28, 3) := by decide +kernel
theorem dX6_isRowFull_17 : decode cX6_isRowFull 17 = .ok (.if_icmp .ne 7, 3) := by decide +kernel
theorem dX6_isRowFull_20 : decode cX6_isRowFull 20 = .ok (.iconst 1, 1) := by decide +kernel
theorem dX6_isRowFull_21 : decode cX6_isRowFull 21 = .ok (.goto 4, 3) := by decide +kernel
theorem dX6_isRowFull_24 : decode cX6_isRowFull 24 = .ok (.iconst 0, 1) := by decide +kernel
theorem dX6_isRowFull_25 : decode cX6_isRowFull 25 = .ok (.ireturn, 1) := by decide +kernel
theorem dX7_init_0 : decode cX7_init 0 = .ok (.aload_n 0, 1) := by decide +kernel
theorem dX7_init_1 : decode cX7_init 1 = .ok (.invokespecial 1, 3) := by decide +kernel
theorem dX7_init_4 : decode cX7_init 4 = .ok (.aload_n 0, 1) := by decide +kernel
theorem dX7_init_5 : decode cX7_init 5 = .ok (.new 7, 3) := by decide +kernel
theorem dX7_init_8 : decode cX7_init 8 = .ok (.dup, 1) := by decide +kernel
theorem dX7_init_9 : decode cX7_init 9 = .ok (.invokespecial 9, 3) := by decide +kernel
theorem dX7_init_12 : decode cX7_init 12 = .ok (.putfield 10, 3) := by decide +kernel
theorem dX7_init_15 : decode cX7_init 15 = .ok (.aload_n 0, 1) := by decide +kernel
theorem dX7_init_16 : decode cX7_init 16 = .ok (.new 16, 3) := by decide +kernel
theorem dX7_init_19 : decode cX7_init 19 = .ok (.dup, 1) := by decide +kernel
theorem dX7_init_20 : decode cX7_init 20 = .ok (.aload_n 0, 1) := by decide +kernel
theorem dX7_init_21 : decode cX7_init 21 = .ok (.getfield 10, 3) := by decide +kernel
theorem dX7_init_24 : decode cX7_init 24 = .ok (.invokespecial 18, 3) := by decide +kernel
theorem dX7_init_27 : decode cX7_init 27 = .ok (.putfield 21, 3) := by decide +kernel
theorem dX7_init_30 : decode cX7_init 30 = .ok (.aload_n 0, 1) := by decide +kernel
theorem dX7_init_31 : decode cX7_init 31 = .ok (.new 25, 3) := by decide +kernel
theorem dX7_init_34 : decode cX7_init 34 = .ok (.dup, 1) := by decide +kernel
theorem dX7_init_35 : decode cX7_init 35 = .ok (.aload_n 0, 1) := by decide +kernel
theorem dX7_init_36 : decode cX7_init 36 = .ok (.getfield 10, 3) := by decide +kernel
theorem dX7_init_39 : decode cX7_init 39 = .ok (.invokespecial 27, 3) := by decide +kernel
theorem dX7_init_42 : decode cX7_init 42 = .ok (.putfield 28, 3) := by decide +kernel
theorem dX7_init_45 : decode cX7_init 45 = .ok (.aload_n 0, 1) := by decide +kernel
theorem dX7_init_46 : decode cX7_init 46 = .ok (.new 32, 3) := by decide +kernel
theorem dX7_init_49 : decode cX7_init 49 = .ok (.dup, 1) := by decide +kernel
theorem dX7_init_50 : decode cX7_init 50 = .ok (.aload_n 0, 1) := by decide +kernel
theorem dX7_init_51 : decode cX7_init 51 = .ok (.getfield 10, 3) := by decide +kernel
theorem dX7_init_54 : decode cX7_init 54 = .ok (.invokespecial 34, 3) := by decide +kernel
theorem dX7_init_57 : decode cX7_init 57 = .ok (.putfield 35, 3) := by decide +kernel
theorem dX7_init_60 : decode cX7_init 60 = .ok (.aload_n 0, 1) := by decide +kernel
theorem dX7_init_61 : decode cX7_init 61 = .ok (.new 39, 3) := by decide +kernel
theorem dX7_init_64 : decode cX7_init 64 = .ok (.dup, 1) := by decide +kernel
theorem dX7_init_65 : decode cX7_init 65 = .ok (.invokespecial 41, 3) := by decide +kernel
theorem dX7_init_68 : decode cX7_init 68 = .ok (.putfield 42, 3) := by decide +kernel
theorem dX7_init_71 : decode cX7_init 71 = .ok (.aload_n 0, 1) := by decide +kernel
theorem dX7_init_72 : decode cX7_init 72 = .ok (.new 46, 3) := by decide +kernel
theorem dX7_init_75 : decode cX7_init 75 = .ok (.dup, 1) := by decide +kernel
theorem dX7_init_76 : decode cX7_init 76 = .ok (.invokespecial 48, 3) := by decide +kernel
theorem dX7_init_79 : decode cX7_init 79 = .ok (.putfield 49, 3) := by decide +kernel
theorem dX7_init_82 : decode cX7_init 82 = .ok (.aload_n 0, 1) := by decide +kernel
theorem dX7_init_83 : decode cX7_init 83 = .ok (.new 53, 3) := by decide +kernel
theorem dX7_init_86 : decode cX7_init 86 = .ok (.dup, 1) := by decide +kernel
theorem dX7_init_87 : decode cX7_init 87 = .ok (.invokespecial 55, 3) := by decide +kernel
theorem dX7_init_90 : decode cX7_init 90 = .ok (.putfield 56, 3) := by decide +kernel
theorem dX7_init_93 : decode cX7_init 93 = .ok (.aload_n 0, 1) := by decide +kernel
theorem dX7_init_94 : decode cX7_init 94 = .ok (.new 53, 3) := by decide +kernel
theorem dX7_init_97 : decode cX7_init 97 = .ok (.dup, 1) := by decide +kernel
theorem dX7_init_98 : decode cX7_init 98 = .ok (.invokespecial 55, 3) := by decide +kernel
theorem dX7_init_101 : decode cX7_init 101 = .ok (.putfield 60, 3) := by decide +kernel
theorem dX7_init_104 : decode cX7_init 104 = .ok (.return_, 1) := by decide +kernel
theorem dX7_size_0 : decode cX7_size 0 = .ok (.iload_n 1, 1) := by decide +kernel
theorem dX7_size_1 : decode cX7_size 1 = .ok (.iconst 1, 1) := by decide +kernel
theorem dX7_size_2 : decode cX7_size 2 = .ok (.bipush 10, 2) := by decide +kernel
theorem dX7_size_4 : decode cX7_size 4 = .ok (.invokestatic 63, 3) := by decide +kernel
theorem dX7_size_7 : decode cX7_size 7 = .ok (.ifCond .eq 13, 3) := by decide +kernel
theorem dX7_size_10 : decode cX7_size 10 = .ok (.iload_n 2, 1) := by decide +kernel
theorem dX7_size_11 : decode cX7_size 11 = .ok (.iconst 1, 1) := by decide +kernel
theorem dX7_size_12 : decode cX7_size 12 = .ok (.bipush 10, 2) := by decide +kernel
theorem dX7_size_14 : decode cX7_size 14 = .ok (.invokestatic 63, 3) := by decide +kernel
theorem dX7_size_17 : decode cX7_size 17 = .ok (.ifCond .ne 13, 3) := by decide +kernel
theorem dX7_size_20 : decode cX7_size 20 = .ok (.new 67, 3) := by decide +kernel
theorem dX7_size_23 : decode cX7_size 23 = .ok (.dup, 1) := by decide +kernel
theorem dX7_size_24 : decode cX7_size 24 = .ok (.ldc 69, 2) := by decide +kernel
theorem dX7_size_26 : decode cX7_size 26 = .ok (.invokespecial 71, 3) := by decide +kernel
theorem dX7_size_29 : decode cX7_size 29 = .ok (.athrow, 1) := by decide +kernel
theorem dX7_size_30 : decode cX7_size 30 = .ok (.aload_n 0, 1) := by decide +kernel
theorem dX7_size_31 : decode cX7_size 31 = .ok (.getfield 49, 3) := by decide +kernel
theorem dX7_size_34 : decode cX7_size 34 = .ok (.aload_n 0, 1) := by decide +kernel
theorem dX7_size_35 : decode cX7_size 35 = .ok (.getfield 10, 3) := by decide +kernel
theorem dX7_size_38 : decode cX7_size 38 = .ok (.invokevirtual 74, 3) := by decide +kernel
theorem dX7_size_41 : decode cX7_size 41 = .ok (.aload_n 0, 1) := by decide +kernel
theorem dX7_size_42 : decode cX7_size 42 = .ok (.getfield 10, 3) := by decide +kernel
theorem dX7_size_45 : decode cX7_size 45 = .ok (.invokevirtual 77, 3) := by decide +kernel
theorem dX7_size_48 : decode cX7_size 48 = .ok (.istore_n 3, 1) := by decide +kernel
theorem dX7_size_49 : decode cX7_size 49 = .ok (.aload_n 0, 1) := by decide +kernel
theorem dX7_size_50 : decode cX7_size 50 = .ok (.getfield 10, 3) := by decide +kernel
theorem dX7_size_53 : decode cX7_size 53 = .ok (.iload_n 1, 1) := by decide +kernel
theorem dX7_size_54 : decode cX7_size 54 = .ok (.putfield 81, 3) := by decide +kernel
theorem dX7_size_57 : decode cX7_size 57 = .ok (.aload_n 0, 1) := by decide +kernel
theorem dX7_size_58 : decode cX7_size 58 = .ok (.getfield 10, 3) := by decide +kernel
theorem dX7_size_61 : decode cX7_size 61 = .ok (.iload_n 2, 1) := by decide +kernel
theorem dX7_size_62 : decode cX7_size 62 = .ok (.putfield 85, 3) := by decide +kernel
theorem dX7_size_65 : decode cX7_size 65 = .ok (.iload_n 3, 1) := by decide +kernel
theorem dX7_size_66 : decode cX7_size 66 = .ok (.ireturn, 1) := by decide +kernel
theorem dX7_put_0 : decode cX7_put 0 = .ok (.aload_n 0, 1) := by decide +kernel
theorem dX7_put_1 : decode cX7_put 1 = .ok (.getfield 10, 3) := by decide +kernel
theorem dX7_put_4 : decode cX7_put 4 = .ok (.iload_n 1, 1) := by decide +kernel
theorem dX7_put_5 : decode cX7_put 5 = .ok (.iload_n 2, 1) := by decide +kernel
theorem dX7_put_6 : decode cX7_put 6 = .ok (.invokevirtual 88, 3) := by decide +kernel
theorem dX7_put_9 : decode cX7_put 9 = .ok (.ifCond .ne 13, 3) := by decide +kernel
theorem dX7_put_12 : decode cX7_put 12 = .ok (.new 92, 3) := by decide +kernel
theorem dX7_put_15 : decode cX7_put 15 = .ok (.dup, 1) := by decide +kernel
theorem dX7_put_16 : decode cX7_put 16 = .ok (.ldc 94, 2) := by decide +kernel
theorem dX7_put_18 : decode cX7_put 18 = .ok (.invokespecial 96, 3) := by decide +kernel
theorem dX7_put_21 : decode cX7_put 21 = .ok (.athrow, 1) := by decide +kernel
theorem dX7_put_22 : decode cX7_put 22 = .ok (.iload_n 3, 1) := by decide +kernel
theorem dX7_put_23 : decode cX7_put 23 = .ok (.iconst 0, 1) := by decide +kernel
theorem dX7_put_24 : decode cX7_put 24 = .ok (.sipush 9999, 3) := by decide +kernel
theorem dX7_put_27 : decode cX7_put 27 = .ok (.invokestatic 63, 3) := by decide +kernel
theorem dX7_put_30 : decode cX7_put 30 = .ok (.ifCond .ne 13, 3) := by decide +kernel
theorem dX7_put_33 : decode cX7_put 33 = .ok (.new 67, 3) := by decide +kernel
theorem dX7_put_36 : decode cX7_put 36 = .ok (.dup, 1) := by decide +kernel
theorem dX7_put_37 : decode cX7_put 37 = .ok (.ldc 97, 2) := by decide +kernel
theorem dX7_put_39 : decode cX7_put 39 = .ok (.invokespecial 71, 3) := by decide +kernel
end
section
theorem dX7_put_42 : decode cX7_put 42 = .ok (.athrow, 1) := by decide +kernel
theorem dX7_put_43 : decode cX7_put 43 = .ok (.aload_n 0, 1) := by decide +kernel
theorem dX7_put_44 : decode cX7_put 44 = .ok (.getfield 49, 3) := by decide +kernel
theorem dX7_put_47 : decode cX7_put 47 = .ok (.aload_n 0, 1) := by decide +kernel
theorem dX7_put_48 : decode cX7_put 48 = .ok (.getfield 10, 3) := by decide +kernel
theorem dX7_put_51 : decode cX7_put 51 = .ok (.invokevirtual 74, 3) := by decide +kernel
theorem dX7_put_54 : decode cX7_put 54 = .ok (.aload_n 0, 1) := by decide +kernel
theorem dX7_put_55 : decode cX7_put 55 = .ok (.getfield 10, 3) := by decide +kernel
theorem dX7_put_58 : decode cX7_put 58 = .ok (.iload_n 1, 1) := by decide +kernel
theorem dX7_put_59 : decode cX7_put 59 = .ok (.iload_n 2, 1) := by decide +kernel
theorem dX7_put_60 : decode cX7_put 60 = .ok (.invokevirtual 99, 3) := by decide +kernel
theorem dX7_put_63 : decode cX7_put 63 = .ok (.istore 4, 2) := by decide +kernel
theorem dX7_put_65 : decode cX7_put 65 = .ok (.aload_n 0, 1) := by decide +kernel
theorem dX7_put_66 : decode cX7_put 66 = .ok (.getfield 10, 3) := by decide +kernel
theorem dX7_put_69 : decode cX7_put 69 = .ok (.iload_n 1, 1) := by decide +kernel
theorem dX7_put_70 : decode cX7_put 70 = .ok (.iload_n 2, 1) := by decide +kernel
theorem dX7_put_71 : decode cX7_put 71 = .ok (.iload_n 3, 1) := by decide +kernel
theorem dX7_put_72 : decode cX7_put 72 = .ok (.invokevirtual 103, 3) := by decide +kernel
theorem dX7_put_75 : decode cX7_put 75 = .ok (.iload 4, 2) := by decide +kernel
theorem dX7_put_77 : decode cX7_put 77 = .ok (.ireturn, 1) := by decide +kernel
theorem dX7_points_0 : decode cX7_points 0 = .ok (.iload_n 1, 1) := by decide +kernel
theorem dX7_points_1 : decode cX7_points 1 = .ok (.iconst 0, 1) := by decide +kernel
theorem dX7_points_2 : decode cX7_points 2 = .ok (.bipush 50, 2) := by decide +kernel
theorem dX7_points_4 : decode cX7_points 4 = .ok (.invokestatic 63, 3) := by decide +kernel
theorem dX7_points_7 : decode cX7_points 7 = .ok (.ifCond .eq 34, 3) := by decide +kernel
theorem dX7_points_10 : decode cX7_points 10 = .ok (.iload_n 2, 1) := by decide +kernel
theorem dX7_points_11 : decode cX7_points 11 = .ok (.iconst 0, 1) := by decide +kernel
theorem dX7_points_12 : decode cX7_points 12 = .ok (.bipush 9, 2) := by decide +kernel
theorem dX7_points_14 : decode cX7_points 14 = .ok (.invokestatic 63, 3) := by decide +kernel
theorem dX7_points_17 : decode cX7_points 17 = .ok (.ifCond .eq 24, 3) := by decide +kernel
theorem dX7_points_20 : decode cX7_points 20 = .ok (.iload_n 3, 1) := by decide +kernel
theorem dX7_points_21 : decode cX7_points 21 = .ok (.iconst 0, 1) := by decide +kernel
theorem dX7_points_22 : decode cX7_points 22 = .ok (.bipush 50, 2) := by decide +kernel
theorem dX7_points_24 : decode cX7_points 24 = .ok (.invokestatic 63, 3) := by decide +kernel
theorem dX7_points_27 : decode cX7_points 27 = .ok (.ifCond .eq 14, 3) := by decide +kernel
theorem dX7_points_30 : decode cX7_points 30 = .ok (.iload 4, 2) := by decide +kernel
theorem dX7_points_32 : decode cX7_points 32 = .ok (.iconst 0, 1) := by decide +kernel
theorem dX7_points_33 : decode cX7_points 33 = .ok (.bipush 9, 2) := by decide +kernel
theorem dX7_points_35 : decode cX7_points 35 = .ok (.invokestatic 63, 3) := by decide +kernel
theorem dX7_points_38 : decode cX7_points 38 = .ok (.ifCond .ne 13, 3) := by decide +kernel
theorem dX7_points_41 : decode cX7_points 41 = .ok (.new 67, 3) := by decide +kernel
theorem dX7_points_44 : decode cX7_points 44 = .ok (.dup, 1) := by decide +kernel
theorem dX7_points_45 : decode cX7_points 45 = .ok (.ldc 107, 2) := by decide +kernel
theorem dX7_points_47 : decode cX7_points 47 = .ok (.invokespecial 71, 3) := by decide +kernel
theorem dX7_points_50 : decode cX7_points 50 = .ok (.athrow, 1) := by decide +kernel
theorem dX7_points_51 : decode cX7_points 51 = .ok (.aload_n 0, 1) := by decide +kernel
theorem dX7_points_52 : decode cX7_points 52 = .ok (.getfield 49, 3) := by decide +kernel
theorem dX7_points_55 : decode cX7_points 55 = .ok (.aload_n 0, 1) := by decide +kernel
theorem dX7_points_56 : decode cX7_points 56 = .ok (.getfield 10, 3) := by decide +kernel
theorem dX7_points_59 : decode cX7_points 59 = .ok (.invokevirtual 74, 3) := by decide +kernel
theorem dX7_points_62 : decode cX7_points 62 = .ok (.iconst 0, 1) := by decide +kernel
theorem dX7_points_63 : decode cX7_points 63 = .ok (.istore 5, 2) := by decide +kernel
theorem dX7_points_65 : decode cX7_points 65 = .ok (.iload 5, 2) := by decide +kernel
theorem dX7_points_67 : decode cX7_points 67 = .ok (.aload_n 0, 1) := by decide +kernel
theorem dX7_points_68 : decode cX7_points 68 = .ok (.getfield 10, 3) := by decide +kernel
theorem dX7_points_71 : decode cX7_points 71 = .ok (.getfield 81, 3) := by decide +kernel
theorem dX7_points_74 : decode cX7_points 74 = .ok (.if_icmp .ge 68, 3) := by decide +kernel
theorem dX7_points_77 : decode cX7_points 77 = .ok (.iconst 0, 1) := by decide +kernel
theorem dX7_points_78 : decode cX7_points 78 = .ok (.istore 6, 2) := by decide +kernel
theorem dX7_points_80 : decode cX7_points 80 = .ok (.iload 6, 2) := by decide +kernel
theorem dX7_points_82 : decode cX7_points 82 = .ok (.aload_n 0, 1) := by decide +kernel
theorem dX7_points_83 : decode cX7_points 83 = .ok (.getfield 10, 3) := by decide +kernel
theorem dX7_points_86 : decode cX7_points 86 = .ok (.getfield 85, 3) := by decide +kernel
theorem dX7_points_89 : decode cX7_points 89 = .ok (.if_icmp .ge 47, 3) := by decide +kernel
theorem dX7_points_92 : decode cX7_points 92 = .ok (.iload_n 1, 1) := by decide +kernel
theorem dX7_points_93 : decode cX7_points 93 = .ok (.iload_n 2, 1) := by decide +kernel
theorem dX7_points_94 : decode cX7_points 94 = .ok (.iload 5, 2) := by decide +kernel
theorem dX7_points_96 : decode cX7_points 96 = .ok (.imul, 1) := by decide +kernel
theorem dX7_points_97 : decode cX7_points 97 = .ok (.iadd, 1) := by decide +kernel
theorem dX7_points_98 : decode cX7_points 98 = .ok (.iload_n 3, 1) := by decide +kernel
theorem dX7_points_99 : decode cX7_points 99 = .ok (.iload 4, 2) := by decide +kernel
theorem dX7_points_101 : decode cX7_points 101 = .ok (.iload 6, 2) := by decide +kernel
theorem dX7_points_103 : decode cX7_points 103 = .ok (.imul, 1) := by decide +kernel
theorem dX7_points_104 : decode cX7_points 104 = .ok (.iadd, 1) := by decide +kernel
theorem dX7_points_105 : decode cX7_points 105 = .ok (.isub, 1) := by decide +kernel
theorem dX7_points_106 : decode cX7_points 106 = .ok (.istore 7, 2) := by decide +kernel
theorem dX7_points_108 : decode cX7_points 108 = .ok (.aload_n 0, 1) := by decide +kernel
theorem dX7_points_109 : decode cX7_points 109 = .ok (.getfield 10, 3) := by decide +kernel
theorem dX7_points_112 : decode cX7_points 112 = .ok (.iload 5, 2) := by decide +kernel
theorem dX7_points_114 : decode cX7_points 114 = .ok (.iload 6, 2) := by decide +kernel
theorem dX7_points_116 : decode cX7_points 116 = .ok (.iload 7, 2) := by decide +kernel
theorem dX7_points_118 : decode cX7_points 118 = .ok (.iload 7, 2) := by decide +kernel
theorem dX7_points_120 : decode cX7_points 120 = .ok (.imul, 1) := by decide +kernel
theorem dX7_points_121 : decode cX7_points 121 = .ok (.sipush 9999, 3) := by decide +kernel
theorem dX7_points_124 : decode cX7_points 124 = .ok (.invokestatic 109, 3) := by decide +kernel
theorem dX7_points_127 : decode cX7_points 127 = .ok (.invokevirtual 103, 3) := by decide +kernel
theorem dX7_points_130 : decode cX7_points 130 = .ok (.iinc 6 1, 3) := by decide +kernel
theorem dX7_points_133 : decode cX7_points 133 = .ok (.goto (-53), 3) := by decide +kernel
theorem dX7_points_136 : decode cX7_points 136 = .ok (.iinc 5 1, 3) := by decide +kernel
theorem dX7_points_139 : decode cX7_points 139 = .ok (.goto (-74), 3) := by decide +kernel
theorem dX7_points_142 : decode cX7_points 142 = .ok (.aload_n 0, 1) := by decide +kernel
theorem dX7_points_143 : decode cX7_points 143 = .ok (.getfield 21, 3) := by decide +kernel
theorem dX7_points_146 : decode cX7_points 146 = .ok (.invokevirtual 114, 3) := by decide +kernel
theorem dX7_points_149 : decode cX7_points 149 = .ok (.ifCond .eq 7, 3) := by decide +kernel
theorem dX7_points_152 : decode cX7_points 152 = .ok (.iconst 1, 1) := by decide +kernel
theorem dX7_points_153 : decode cX7_points 153 = .ok (.goto 4, 3) := by decide +kernel
theorem dX7_points_156 : decode cX7_points 156 = .ok (.iconst 0, 1) := by decide +kernel
theorem dX7_points_157 : decode cX7_points 157 = .ok (.ireturn, 1) := by decide +kernel
theorem dX7_mend_0 : decode cX7_mend 0 = .ok (.aload_n 0, 1) := by decide +kernel
theorem dX7_mend_1 : decode cX7_mend 1 = .ok (.getfield 49, 3) := by decide +kernel
theorem dX7_mend_4 : decode cX7_mend 4 = .ok (.aload_n 0, 1) := by decide +kernel
theorem dX7_mend_5 : decode cX7_mend 5 = .ok (.getfield 10, 3) := by decide +kernel
theorem dX7_mend_8 : decode cX7_mend 8 = .ok (.invokevirtual 74, 3) := by decide +kernel
theorem dX7_mend_11 : decode cX7_mend 11 = .ok (.aload_n 0, 1) := by decide +kernel
theorem dX7_mend_12 : decode cX7_mend 12 = .ok (.getfield 21, 3) := by decide +kernel
theorem dX7_mend_15 : decode cX7_mend 15 = .ok (.invokevirtual 118, 3) := by decide +kernel
theorem dX7_mend_18 : decode cX7_mend 18 = .ok (.aload_n 0, 1) := by decide +kernel
theorem dX7_mend_19 : decode cX7_mend 19 = .ok (.getfield 21, 3) := by decide +kernel
theorem dX7_mend_22 : decode cX7_mend 22 = .ok (.getfield 121, 3) := by decide +kernel
theorem dX7_mend_25 : decode cX7_mend 25 = .ok (.ifCond .ne 5, 3) := by decide +kernel
theorem dX7_mend_28 : decode cX7_mend 28 = .ok (.iconst (-1), 1) := by decide +kernel
theorem dX7_mend_29 : decode cX7_mend 29 = .ok (.ireturn, 1) := by decide +kernel
theorem dX7_mend_30 : decode cX7_mend 30 = .ok (.aload_n 0, 1) := by decide +kernel
theorem dX7_mend_31 : decode cX7_mend 31 = .ok (.getfield 10, 3) := by decide +kernel
theorem dX7_mend_34 : decode cX7_mend 34 = .ok (.aload_n 0, 1) := by decide +kernel
theorem dX7_mend_35 : decode cX7_mend 35 = .ok (.getfield 21, 3) := by decide +kernel
theorem dX7_mend_38 : decode cX7_mend 38 = .ok (.getfield 124, 3) := by decide +kernel
theorem dX7_mend_41 : decode cX7_mend 41 = .ok (.iconst 1, 1) := by decide +kernel
theorem dX7_mend_42 : decode cX7_mend 42 = .ok (.iadd, 1) := by decide +kernel
theorem dX7_mend_43 : decode cX7_mend 43 = .ok (.aload_n 0, 1) := by decide +kernel
theorem dX7_mend_44 : decode cX7_mend 44 = .ok (.getfield 21, 3) := by decide +kernel
theorem dX7_mend_47 : decode cX7_mend 47 = .ok (.getfield 127, 3) := by decide +kernel
theorem dX7_mend_50 : decode cX7_mend 50 = .ok (.invokevirtual 99, 3) := by decide +kernel
theorem dX7_mend_53 : decode cX7_mend 53 = .ok (.iconst 1, 1) := by decide +kernel
theorem dX7_mend_54 : decode cX7_mend 54 = .ok (.iadd, 1) := by decide +kernel
theorem dX7_mend_55 : decode cX7_mend 55 = .ok (.istore_n 1, 1) := by decide +kernel
theorem dX7_mend_56 : decode cX7_mend 56 = .ok (.iload_n 1, 1) := by decide +kernel
theorem dX7_mend_57 : decode cX7_mend 57 = .ok (.sipush 9999, 3) := by decide +kernel
theorem dX7_mend_60 : decode cX7_mend 60 = .ok (.if_icmp .le 5, 3) := by decide +kernel
theorem dX7_mend_63 : decode cX7_mend 63 = .ok (.iconst (-1), 1) := by decide +kernel
theorem dX7_mend_64 : decode cX7_mend 64 = .ok (.ireturn, 1) := by decide +kernel
theorem dX7_mend_65 : decode cX7_mend 65 = .ok (.aload_n 0, 1) := by decide +kernel
theorem dX7_mend_66 : decode cX7_mend 66 = .ok (.getfield 10, 3) := by decide +kernel
theorem dX7_mend_69 : decode cX7_mend 69 = .ok (.aload_n 0, 1) := by decide +kernel
theorem dX7_mend_70 : decode cX7_mend 70 = .ok (.getfield 21, 3) := by decide +kernel
theorem dX7_mend_73 : decode cX7_mend 73 = .ok (.getfield 124, 3) := by decide +kernel
theorem dX7_mend_76 : decode cX7_mend 76 = .ok (.iconst 1, 1) := by decide +kernel
theorem dX7_mend_77 : decode cX7_mend 77 = .ok (.iadd, 1) := by decide +kernel
theorem dX7_mend_78 : decode cX7_mend 78 = .ok (.aload_n 0, 1) := by decide +kernel
theorem dX7_mend_79 : decode cX7_mend 79 = .ok (.getfield 21, 3) := by decide +kernel
theorem dX7_mend_82 : decode cX7_mend 82 = .ok (.getfield 130, 3) := by decide +kernel
theorem dX7_mend_85 : decode cX7_mend 85 = .ok (.iload_n 1, 1) := by decide +kernel
theorem dX7_mend_86 : decode cX7_mend 86 = .ok (.invokevirtual 103, 3) := by decide +kernel
theorem dX7_mend_89 : decode cX7_mend 89 = .ok (.aload_n 0, 1) := by decide +kernel
theorem dX7_mend_90 : decode cX7_mend 90 = .ok (.getfield 10, 3) := by decide +kernel
theorem dX7_mend_93 : decode cX7_mend 93 = .ok (.dup, 1) := by decide +kernel
theorem dX7_mend_94 : decode cX7_mend 94 = .ok (.getfield 133, 3) := by decide +kernel
theorem dX7_mend_97 : decode cX7_mend 97 = .ok (.iconst 1, 1) := by decide +kernel
theorem dX7_mend_98 : decode cX7_mend 98 = .ok (.iadd, 1) := by decide +kernel
theorem dX7_mend_99 : decode cX7_mend 99 = .ok (.putfield 133, 3) := by decide +kernel
theorem dX7_mend_102 : decode cX7_mend 102 = .ok (.aload_n 0, 1) := by decide +kernel
theorem dX7_mend_103 : decode cX7_mend 103 = .ok (.getfield 21, 3) := by decide +kernel
theorem dX7_mend_106 : decode cX7_mend 106 = .ok (.getfield 124, 3) := by decide +kernel
theorem dX7_mend_109 : decode cX7_mend 109 = .ok (.ireturn, 1) := by decide +kernel
theorem dX7_find_0 : decode cX7_find 0 = .ok (.iload_n 1, 1) := by decide +kernel
theorem dX7_find_1 : decode cX7_find 1 = .ok (.invokestatic 136, 3) := by decide +kernel
theorem dX7_find_4 : decode cX7_find 4 = .ok (.ifCond .ne 13, 3) := by decide +kernel
theorem dX7_find_7 : decode cX7_find 7 = .ok (.new 67, 3) := by decide +kernel
theorem dX7_find_10 : decode cX7_find 10 = .ok (.dup, 1) := by decide +kernel
theorem dX7_find_11 : decode cX7_find 11 = .ok (.ldc 140, 2) := by decide +kernel
theorem dX7_find_13 : decode cX7_find 13 = .ok (.invokespecial 71, 3) := by decide +kernel
theorem dX7_find_16 : decode cX7_find 16 = .ok (.athrow, 1) := by decide +kernel
theorem dX7_find_17 : decode cX7_find 17 = .ok (.aload_n 0, 1) := by decide +kernel
theorem dX7_find_18 : decode cX7_find 18 = .ok (.iload_n 1, 1) := by decide +kernel
theorem dX7_find_19 : decode cX7_find 19 = .ok (.invokevirtual 142, 3) := by decide +kernel
theorem dX7_find_22 : decode cX7_find 22 = .ok (.ifCond .ne 13, 3) := by decide +kernel
theorem dX7_find_25 : decode cX7_find 25 = .ok (.new 145, 3) := by decide +kernel
theorem dX7_find_28 : decode cX7_find 28 = .ok (.dup, 1) := by decide +kernel
theorem dX7_find_29 : decode cX7_find 29 = .ok (.ldc 147, 2) := by decide +kernel
theorem dX7_find_31 : decode cX7_find 31 = .ok (.invokespecial 149, 3) := by decide +kernel
theorem dX7_find_34 : decode cX7_find 34 = .ok (.athrow, 1) := by decide +kernel
theorem dX7_find_35 : decode cX7_find 35 = .ok (.aload_n 0, 1) := by decide +kernel
theorem dX7_find_36 : decode cX7_find 36 = .ok (.getfield 49, 3) := by decide +kernel
theorem dX7_find_39 : decode cX7_find 39 = .ok (.aload_n 0, 1) := by decide +kernel
theorem dX7_find_40 : decode cX7_find 40 = .ok (.getfield 10, 3) := by decide +kernel
theorem dX7_find_43 : decode cX7_find 43 = .ok (.invokevirtual 74, 3) := by decide +kernel
theorem dX7_find_46 : decode cX7_find 46 = .ok (.aload_n 0, 1) := by decide +kernel
theorem dX7_find_47 : decode cX7_find 47 = .ok (.getfield 28, 3) := by decide +kernel
theorem dX7_find_50 : decode cX7_find 50 = .ok (.iload_n 1, 1) := by decide +kernel
theorem dX7_find_51 : decode cX7_find 51 = .ok (.invokevirtual 150, 3) := by decide +kernel
theorem dX7_find_54 : decode cX7_find 54 = .ok (.aload_n 0, 1) := by decide +kernel
theorem dX7_find_55 : decode cX7_find 55 = .ok (.getfield 28, 3) := by decide +kernel
theorem dX7_find_58 : decode cX7_find 58 = .ok (.iload_n 1, 1) := by decide +kernel
theorem dX7_find_59 : decode cX7_find 59 = .ok (.invokevirtual 154, 3) := by decide +kernel
theorem dX7_find_62 : decode cX7_find 62 = .ok (.istore_n 2, 1) := by decide +kernel
theorem dX7_find_63 : decode cX7_find 63 = .ok (.aload_n 0, 1) := by decide +kernel
theorem dX7_find_64 : decode cX7_find 64 = .ok (.getfield 10, 3) := by decide +kernel
theorem dX7_find_67 : decode cX7_find 67 = .ok (.dup, 1) := by decide +kernel
theorem dX7_find_68 : decode cX7_find 68 = .ok (.getfield 158, 3) := by decide +kernel
theorem dX7_find_71 : decode cX7_find 71 = .ok (.iload_n 2, 1) := by decide +kernel
theorem dX7_find_72 : decode cX7_find 72 = .ok (.iadd, 1) := by decide +kernel
theorem dX7_find_73 : decode cX7_find 73 = .ok (.putfield 158, 3) := by decide +kernel
theorem dX7_find_76 : decode cX7_find 76 = .ok (.aload_n 0, 1) := by decide +kernel
theorem dX7_find_77 : decode cX7_find 77 = .ok (.getfield 10, 3) := by decide +kernel
theorem dX7_find_80 : decode cX7_find 80 = .ok (.dup, 1) := by decide +kernel
theorem dX7_find_81 : decode cX7_find 81 = .ok (.getfield 161, 3) := by decide +kernel
theorem dX7_find_84 : decode cX7_find 84 = .ok (.iconst 1, 1) := by decide +kernel
theorem dX7_find_85 : decode cX7_find 85 = .ok (.iadd, 1) := by decide +kernel
theorem dX7_find_86 : decode cX7_find 86 = .ok (.putfield 161, 3) := by decide +kernel
theorem dX7_find_89 : decode cX7_find 89 = .ok (.iload_n 2, 1) := by decide +kernel
theorem dX7_find_90 : decode cX7_find 90 = .ok (.ireturn, 1) := by decide +kernel
theorem dX7_weigh_0 : decode cX7_weigh 0 = .ok (.iload_n 1, 1) := by decide +kernel
theorem dX7_weigh_1 : decode cX7_weigh 1 = .ok (.iconst 1, 1) := by decide +kernel
theorem dX7_weigh_2 : decode cX7_weigh 2 = .ok (.bipush 99, 2) := by decide +kernel
theorem dX7_weigh_4 : decode cX7_weigh 4 = .ok (.invokestatic 63, 3) := by decide +kernel
theorem dX7_weigh_7 : decode cX7_weigh 7 = .ok (.ifCond .ne 13, 3) := by decide +kernel
theorem dX7_weigh_10 : decode cX7_weigh 10 = .ok (.new 67, 3) := by decide +kernel
theorem dX7_weigh_13 : decode cX7_weigh 13 = .ok (.dup, 1) := by decide +kernel
theorem dX7_weigh_14 : decode cX7_weigh 14 = .ok (.ldc 164, 2) := by decide +kernel
theorem dX7_weigh_16 : decode cX7_weigh 16 = .ok (.invokespecial 71, 3) := by decide +kernel
theorem dX7_weigh_19 : decode cX7_weigh 19 = .ok (.athrow, 1) := by decide +kernel
theorem dX7_weigh_20 : decode cX7_weigh 20 = .ok (.aload_n 0, 1) := by decide +kernel
theorem dX7_weigh_21 : decode cX7_weigh 21 = .ok (.getfield 10, 3) := by decide +kernel
theorem dX7_weigh_24 : decode cX7_weigh 24 = .ok (.getfield 166, 3) := by decide +kernel
theorem dX7_weigh_27 : decode cX7_weigh 27 = .ok (.bipush 10, 2) := by decide +kernel
theorem dX7_weigh_29 : decode cX7_weigh 29 = .ok (.if_icmp .lt 13, 3) := by decide +kernel
theorem dX7_weigh_32 : decode cX7_weigh 32 = .ok (.new 145, 3) := by decide +kernel
theorem dX7_weigh_35 : decode cX7_weigh 35 = .ok (.dup, 1) := by decide +kernel
theorem dX7_weigh_36 : decode cX7_weigh 36 = .ok (.ldc 169, 2) := by decide +kernel
theorem dX7_weigh_38 : decode cX7_weigh 38 = .ok (.invokespecial 149, 3) := by decide +kernel
theorem dX7_weigh_41 : decode cX7_weigh 41 = .ok (.athrow, 1) := by decide +kernel
theorem dX7_weigh_42 : decode cX7_weigh 42 = .ok (.aload_n 0, 1) := by decide +kernel
theorem dX7_weigh_43 : decode cX7_weigh 43 = .ok (.getfield 49, 3) := by decide +kernel
theorem dX7_weigh_46 : decode cX7_weigh 46 = .ok (.aload_n 0, 1) := by decide +kernel
theorem dX7_weigh_47 : decode cX7_weigh 47 = .ok (.getfield 10, 3) := by decide +kernel
theorem dX7_weigh_50 : decode cX7_weigh 50 = .ok (.invokevirtual 74, 3) := by decide +kernel
theorem dX7_weigh_53 : decode cX7_weigh 53 = .ok (.aload_n 0, 1) := by decide +kernel
theorem dX7_weigh_54 : decode cX7_weigh 54 = .ok (.getfield 10, 3) := by decide +kernel
theorem dX7_weigh_57 : decode cX7_weigh 57 = .ok (.iload_n 1, 1) := by decide +kernel
theorem dX7_weigh_58 : decode cX7_weigh 58 = .ok (.invokevirtual 171, 3) := by decide +kernel
theorem dX7_weigh_61 : decode cX7_weigh 61 = .ok (.aload_n 0, 1) := by decide +kernel
theorem dX7_weigh_62 : decode cX7_weigh 62 = .ok (.getfield 10, 3) := by decide +kernel
theorem dX7_weigh_65 : decode cX7_weigh 65 = .ok (.getfield 166, 3) := by decide +kernel
theorem dX7_weigh_68 : decode cX7_weigh 68 = .ok (.ireturn, 1) := by decide +kernel
theorem dX7_unweigh_0 : decode cX7_unweigh 0 = .ok (.aload_n 0, 1) := by decide +kernel
theorem dX7_unweigh_1 : decode cX7_unweigh 1 = .ok (.getfield 10, 3) := by decide +kernel
theorem dX7_unweigh_4 : decode cX7_unweigh 4 = .ok (.getfield 166, 3) := by decide +kernel
theorem dX7_unweigh_7 : decode cX7_unweigh 7 = .ok (.iconst 1, 1) := by decide +kernel
theorem dX7_unweigh_8 : decode cX7_unweigh 8 = .ok (.if_icmp .gt 13, 3) := by decide +kernel
theorem dX7_unweigh_11 : decode cX7_unweigh 11 = .ok (.new 145, 3) := by decide +kernel
theorem dX7_unweigh_14 : decode cX7_unweigh 14 = .ok (.dup, 1) := by decide +kernel
theorem dX7_unweigh_15 : decode cX7_unweigh 15 = .ok (.ldc 174, 2) := by decide +kernel
theorem dX7_unweigh_17 : decode cX7_unweigh 17 = .ok (.invokespecial 149, 3) := by decide +kernel
theorem dX7_unweigh_20 : decode cX7_unweigh 20 = .ok (.athrow, 1) := by decide +kernel
theorem dX7_unweigh_21 : decode cX7_unweigh 21 = .ok (.aload_n 0, 1) := by decide +kernel
theorem dX7_unweigh_22 : decode cX7_unweigh 22 = .ok (.getfield 49, 3) := by decide +kernel
theorem dX7_unweigh_25 : decode cX7_unweigh 25 = .ok (.aload_n 0, 1) := by decide +kernel
theorem dX7_unweigh_26 : decode cX7_unweigh 26 = .ok (.getfield 10, 3) := by decide +kernel
theorem dX7_unweigh_29 : decode cX7_unweigh 29 = .ok (.invokevirtual 74, 3) := by decide +kernel
theorem dX7_unweigh_32 : decode cX7_unweigh 32 = .ok (.aload_n 0, 1) := by decide +kernel
theorem dX7_unweigh_33 : decode cX7_unweigh 33 = .ok (.getfield 10, 3) := by decide +kernel
theorem dX7_unweigh_36 : decode cX7_unweigh 36 = .ok (.dup, 1) := by decide +kernel
theorem dX7_unweigh_37 : decode cX7_unweigh 37 = .ok (.getfield 166, 3) := by decide +kernel
theorem dX7_unweigh_40 : decode cX7_unweigh 40 = .ok (.iconst 1, 1) := by decide +kernel
theorem dX7_unweigh_41 : decode cX7_unweigh 41 = .ok (.isub, 1) := by decide +kernel
theorem dX7_unweigh_42 : decode cX7_unweigh 42 = .ok (.putfield 166, 3) := by decide +kernel
theorem dX7_unweigh_45 : decode cX7_unweigh 45 = .ok (.aload_n 0, 1) := by decide +kernel
theorem dX7_unweigh_46 : decode cX7_unweigh 46 = .ok (.getfield 10, 3) := by decide +kernel
theorem dX7_unweigh_49 : decode cX7_unweigh 49 = .ok (.aload_n 0, 1) := by decide +kernel
theorem dX7_unweigh_50 : decode cX7_unweigh 50 = .ok (.getfield 10, 3) := by decide +kernel
theorem dX7_unweigh_53 : decode cX7_unweigh 53 = .ok (.getfield 166, 3) := by decide +kernel
theorem dX7_unweigh_56 : decode cX7_unweigh 56 = .ok (.invokevirtual 176, 3) := by decide +kernel
theorem dX7_unweigh_59 : decode cX7_unweigh 59 = .ok (.ireturn, 1) := by decide +kernel
theorem dX7_append_0 : decode cX7_append 0 = .ok (.iload_n 1, 1) := by decide +kernel
theorem dX7_append_1 : decode cX7_append 1 = .ok (.bipush 33, 2) := by decide +kernel
theorem dX7_append_3 : decode cX7_append 3 = .ok (.bipush 126, 2) := by decide +kernel
theorem dX7_append_5 : decode cX7_append 5 = .ok (.invokestatic 63, 3) := by decide +kernel
theorem dX7_append_8 : decode cX7_append 8 = .ok (.ifCond .ne 13, 3) := by decide +kernel
theorem dX7_append_11 : decode cX7_append 11 = .ok (.new 67, 3) := by decide +kernel
theorem dX7_append_14 : decode cX7_append 14 = .ok (.dup, 1) := by decide +kernel
theorem dX7_append_15 : decode cX7_append 15 = .ok (.ldc 179, 2) := by decide +kernel
theorem dX7_append_17 : decode cX7_append 17 = .ok (.invokespecial 71, 3) := by decide +kernel
theorem dX7_append_20 : decode cX7_append 20 = .ok (.athrow, 1) := by decide +kernel
theorem dX7_append_21 : decode cX7_append 21 = .ok (.aload_n 0, 1) := by decide +kernel
theorem dX7_append_22 : decode cX7_append 22 = .ok (.getfield 42, 3) := by decide +kernel
theorem dX7_append_25 : decode cX7_append 25 = .ok (.getfield 181, 3) := by decide +kernel
theorem dX7_append_28 : decode cX7_append 28 = .ok (.bipush 60, 2) := by decide +kernel
theorem dX7_append_30 : decode cX7_append 30 = .ok (.if_icmp .lt 13, 3) := by decide +kernel
theorem dX7_append_33 : decode cX7_append 33 = .ok (.new 145, 3) := by decide +kernel
theorem dX7_append_36 : decode cX7_append 36 = .ok (.dup, 1) := by decide +kernel
theorem dX7_append_37 : decode cX7_append 37 = .ok (.ldc 184, 2) := by decide +kernel
theorem dX7_append_39 : decode cX7_append 39 = .ok (.invokespecial 149, 3) := by decide +kernel
theorem dX7_append_42 : decode cX7_append 42 = .ok (.athrow, 1) := by decide +kernel
theorem dX7_append_43 : decode cX7_append 43 = .ok (.aload_n 0, 1) := by decide +kernel
theorem dX7_append_44 : decode cX7_append 44 = .ok (.getfield 42, 3) := by decide +kernel
theorem dX7_append_47 : decode cX7_append 47 = .ok (.iload_n 1, 1) := by decide +kernel
theorem dX7_append_48 : decode cX7_append 48 = .ok (.invokevirtual 186, 3) := by decide +kernel
theorem dX7_append_51 : decode cX7_append 51 = .ok (.aload_n 0, 1) := by decide +kernel
theorem dX7_append_52 : decode cX7_append 52 = .ok (.getfield 42, 3) := by decide +kernel
theorem dX7_append_55 : decode cX7_append 55 = .ok (.getfield 181, 3) := by decide +kernel
theorem dX7_append_58 : decode cX7_append 58 = .ok (.ireturn, 1) := by decide +kernel
theorem dX7_clearBuffer_0 : decode cX7_clearBuffer 0 = .ok (.aload_n 0, 1) := by decide +kernel
theorem dX7_clearBuffer_1 : decode cX7_clearBuffer 1 = .ok (.getfield 42, 3) := by decide +kernel
theorem dX7_clearBuffer_4 : decode cX7_clearBuffer 4 = .ok (.getfield 181, 3) := by decide +kernel
theorem dX7_clearBuffer_7 : decode cX7_clearBuffer 7 = .ok (.istore_n 1, 1) := by decide +kernel
theorem dX7_clearBuffer_8 : decode cX7_clearBuffer 8 = .ok (.aload_n 0, 1) := by decide +kernel
theorem dX7_clearBuffer_9 : decode cX7_clearBuffer 9 = .ok (.getfield 42, 3) := by decide +kernel
theorem dX7_clearBuffer_12 : decode cX7_clearBuffer 12 = .ok (.invokevirtual 189, 3) := by decide +kernel
theorem dX7_clearBuffer_15 : decode cX7_clearBuffer 15 = .ok (.iload_n 1, 1) := by decide +kernel
theorem dX7_clearBuffer_16 : decode cX7_clearBuffer 16 = .ok (.ireturn, 1) := by decide +kernel
theorem dX7_firstError_0 : decode cX7_firstError 0 = .ok (.aload_n 0, 1) := by decide +kernel
theorem dX7_firstError_1 : decode cX7_firstError 1 = .ok (.getfield 42, 3) := by decide +kernel
theorem dX7_firstError_4 : decode cX7_firstError 4 = .ok (.invokevirtual 192, 3) := by decide +kernel
theorem dX7_firstError_7 : decode cX7_firstError 7 = .ok (.ireturn, 1) := by decide +kernel
theorem dX7_load_0 : decode cX7_load 0 = .ok (.aload_n 0, 1) := by decide +kernel
theorem dX7_load_1 : decode cX7_load 1 = .ok (.getfield 42, 3) := by decide +kernel
theorem dX7_load_4 : decode cX7_load 4 = .ok (.invokevirtual 195, 3) := by decide +kernel
theorem dX7_load_7 : decode cX7_load 7 = .ok (.ifCond .ne 13, 3) := by decide +kernel
theorem dX7_load_10 : decode cX7_load 10 = .ok (.new 67, 3) := by decide +kernel
theorem dX7_load_13 : decode cX7_load 13 = .ok (.dup, 1) := by decide +kernel
theorem dX7_load_14 : decode cX7_load 14 = .ok (.ldc 198, 2) := by decide +kernel
theorem dX7_load_16 : decode cX7_load 16 = .ok (.invokespecial 71, 3) := by decide +kernel
theorem dX7_load_19 : decode cX7_load 19 = .ok (.athrow, 1) := by decide +kernel
theorem dX7_load_20 : decode cX7_load 20 = .ok (.aload_n 0, 1) := by decide +kernel
theorem dX7_load_21 : decode cX7_load 21 = .ok (.getfield 49, 3) := by decide +kernel
theorem dX7_load_24 : decode cX7_load 24 = .ok (.aload_n 0, 1) := by decide +kernel
theorem dX7_load_25 : decode cX7_load 25 = .ok (.getfield 10, 3) := by decide +kernel
theorem dX7_load_28 : decode cX7_load 28 = .ok (.invokevirtual 74, 3) := by decide +kernel
theorem dX7_load_31 : decode cX7_load 31 = .ok (.aload_n 0, 1) := by decide +kernel
theorem dX7_load_32 : decode cX7_load 32 = .ok (.getfield 10, 3) := by decide +kernel
theorem dX7_load_35 : decode cX7_load 35 = .ok (.aload_n 0, 1) := by decide +kernel
theorem dX7_load_36 : decode cX7_load 36 = .ok (.getfield 42, 3) := by decide +kernel
theorem dX7_load_39 : decode cX7_load 39 = .ok (.invokevirtual 200, 3) := by decide +kernel
theorem dX7_load_42 : decode cX7_load 42 = .ok (.putfield 81, 3) := by decide +kernel
theorem dX7_load_45 : decode cX7_load 45 = .ok (.aload_n 0, 1) := by decide +kernel
theorem dX7_load_46 : decode cX7_load 46 = .ok (.getfield 10, 3) := by decide +kernel
theorem dX7_load_49 : decode cX7_load 49 = .ok (.aload_n 0, 1) := by decide +kernel
theorem dX7_load_50 : decode cX7_load 50 = .ok (.getfield 42, 3) := by decide +kernel
theorem dX7_load_53 : decode cX7_load 53 = .ok (.invokevirtual 203, 3) := by decide +kernel
theorem dX7_load_56 : decode cX7_load 56 = .ok (.putfield 85, 3) := by decide +kernel
theorem dX7_load_59 : decode cX7_load 59 = .ok (.iconst 0, 1) := by decide +kernel
theorem dX7_load_60 : decode cX7_load 60 = .ok (.istore_n 1, 1) := by decide +kernel
theorem dX7_load_61 : decode cX7_load 61 = .ok (.iload_n 1, 1) := by decide +kernel
theorem dX7_load_62 : decode cX7_load 62 = .ok (.aload_n 0, 1) := by decide +kernel
theorem dX7_load_63 : decode cX7_load 63 = .ok (.getfield 10, 3) := by decide +kernel
theorem dX7_load_66 : decode cX7_load 66 = .ok (.getfield 81, 3) := by decide +kernel
theorem dX7_load_69 : decode cX7_load 69 = .ok (.if_icmp .ge 46, 3) := by decide +kernel
theorem dX7_load_72 : decode cX7_load 72 = .ok (.iconst 0, 1) := by decide +kernel
theorem dX7_load_73 : decode cX7_load 73 = .ok (.istore_n 2, 1) := by decide +kernel
theorem dX7_load_74 : decode cX7_load 74 = .ok (.iload_n 2, 1) := by decide +kernel
theorem dX7_load_75 : decode cX7_load 75 = .ok (.aload_n 0, 1) := by decide +kernel
theorem dX7_load_76 : decode cX7_load 76 = .ok (.getfield 10, 3) := by decide +kernel
theorem dX7_load_79 : decode cX7_load 79 = .ok (.getfield 85, 3) := by decide +kernel
theorem dX7_load_82 : decode cX7_load 82 = .ok (.if_icmp .ge 27, 3) := by decide +kernel
theorem dX7_load_85 : decode cX7_load 85 = .ok (.aload_n 0, 1) := by decide +kernel
theorem dX7_load_86 : decode cX7_load 86 = .ok (.getfield 10, 3) := by decide +kernel
theorem dX7_load_89 : decode cX7_load 89 = .ok (.iload_n 1, 1) := by decide +kernel
theorem dX7_load_90 : decode cX7_load 90 = .ok (.iload_n 2, 1) := by decide +kernel
theorem dX7_load_91 : decode cX7_load 91 = .ok (.aload_n 0, 1) := by decide +kernel
theorem dX7_load_92 : decode cX7_load 92 = .ok (.getfield 42, 3) := by decide +kernel
theorem dX7_load_95 : decode cX7_load 95 = .ok (.iload_n 1, 1) := by decide +kernel
theorem dX7_load_96 : decode cX7_load 96 = .ok (.iload_n 2, 1) := by decide +kernel
theorem dX7_load_97 : decode cX7_load 97 = .ok (.invokevirtual 206, 3) := by decide +kernel
theorem dX7_load_100 : decode cX7_load 100 = .ok (.invokevirtual 103, 3) := by decide +kernel
theorem dX7_load_103 : decode cX7_load 103 = .ok (.iinc 2 1, 3) := by decide +kernel
theorem dX7_load_106 : decode cX7_load 106 = .ok (.goto (-32), 3) := by decide +kernel
theorem dX7_load_109 : decode cX7_load 109 = .ok (.iinc 1 1, 3) := by decide +kernel
theorem dX7_load_112 : decode cX7_load 112 = .ok (.goto (-51), 3) := by decide +kernel
theorem dX7_load_115 : decode cX7_load 115 = .ok (.aload_n 0, 1) := by decide +kernel
theorem dX7_load_116 : decode cX7_load 116 = .ok (.getfield 42, 3) := by decide +kernel
theorem dX7_load_119 : decode cX7_load 119 = .ok (.invokevirtual 189, 3) := by decide +kernel
theorem dX7_load_122 : decode cX7_load 122 = .ok (.aload_n 0, 1) := by decide +kernel
theorem dX7_load_123 : decode cX7_load 123 = .ok (.getfield 10, 3) := by decide +kernel
theorem dX7_load_126 : decode cX7_load 126 = .ok (.invokevirtual 77, 3) := by decide +kernel
theorem dX7_load_129 : decode cX7_load 129 = .ok (.ireturn, 1) := by decide +kernel
theorem dX7_keep_0 : decode cX7_keep 0 = .ok (.iload_n 1, 1) := by decide +kernel
theorem dX7_keep_1 : decode cX7_keep 1 = .ok (.iconst 0, 1) := by decide +kernel
theorem dX7_keep_2 : decode cX7_keep 2 = .ok (.iconst 1, 1) := by decide +kernel
theorem dX7_keep_3 : decode cX7_keep 3 = .ok (.invokestatic 63, 3) := by decide +kernel
theorem dX7_keep_6 : decode cX7_keep 6 = .ok (.ifCond .ne 13, 3) := by decide +kernel
theorem dX7_keep_9 : decode cX7_keep 9 = .ok (.new 67, 3) := by decide +kernel
theorem dX7_keep_12 : decode cX7_keep 12 = .ok (.dup, 1) := by decide +kernel
theorem dX7_keep_13 : decode cX7_keep 13 = .ok (.ldc 209, 2) := by decide +kernel
theorem dX7_keep_15 : decode cX7_keep 15 = .ok (.invokespecial 71, 3) := by decide +kernel
theorem dX7_keep_18 : decode cX7_keep 18 = .ok (.athrow, 1) := by decide +kernel
theorem dX7_keep_19 : decode cX7_keep 19 = .ok (.aload_n 0, 1) := by decide +kernel
theorem dX7_keep_20 : decode cX7_keep 20 = .ok (.iload_n 1, 1) := by decide +kernel
theorem dX7_keep_21 : decode cX7_keep 21 = .ok (.invokevirtual 211, 3) := by decide +kernel
theorem dX7_keep_24 : decode cX7_keep 24 = .ok (.aload_n 0, 1) := by decide +kernel
theorem dX7_keep_25 : decode cX7_keep 25 = .ok (.getfield 10, 3) := by decide +kernel
theorem dX7_keep_28 : decode cX7_keep 28 = .ok (.invokevirtual 215, 3) := by decide +kernel
theorem dX7_keep_31 : decode cX7_keep 31 = .ok (.aload_n 0, 1) := by decide +kernel
theorem dX7_keep_32 : decode cX7_keep 32 = .ok (.getfield 10, 3) := by decide +kernel
theorem dX7_keep_35 : decode cX7_keep 35 = .ok (.getfield 81, 3) := by decide +kernel
theorem dX7_keep_38 : decode cX7_keep 38 = .ok (.ireturn, 1) := by decide +kernel
theorem dX7_goBack_0 : decode cX7_goBack 0 = .ok (.iload_n 1, 1) := by decide +kernel
theorem dX7_goBack_1 : decode cX7_goBack 1 = .ok (.iconst 0, 1) := by decide +kernel
theorem dX7_goBack_2 : decode cX7_goBack 2 = .ok (.iconst 1, 1) := by decide +kernel
theorem dX7_goBack_3 : decode cX7_goBack 3 = .ok (.invokestatic 63, 3) := by decide +kernel
theorem dX7_goBack_6 : decode cX7_goBack 6 = .ok (.ifCond .ne 13, 3) := by decide +kernel
theorem dX7_goBack_9 : decode cX7_goBack 9 = .ok (.new 67, 3) := by decide +kernel
theorem dX7_goBack_12 : decode cX7_goBack 12 = .ok (.dup, 1) := by decide +kernel
theorem dX7_goBack_13 : decode cX7_goBack 13 = .ok (.ldc 209, 2) := by decide +kernel
theorem dX7_goBack_15 : decode cX7_goBack 15 = .ok (.invokespecial 71, 3) := by decide +kernel
theorem dX7_goBack_18 : decode cX7_goBack 18 = .ok (.athrow, 1) := by decide +kernel
theorem dX7_goBack_19 : decode cX7_goBack 19 = .ok (.aload_n 0, 1) := by decide +kernel
theorem dX7_goBack_20 : decode cX7_goBack 20 = .ok (.iload_n 1, 1) := by decide +kernel
theorem dX7_goBack_21 : decode cX7_goBack 21 = .ok (.invokevirtual 211, 3) := by decide +kernel
theorem dX7_goBack_24 : decode cX7_goBack 24 = .ok (.astore_n 2, 1) := by decide +kernel
theorem dX7_goBack_25 : decode cX7_goBack 25 = .ok (.aload_n 2, 1) := by decide +kernel
theorem dX7_goBack_26 : decode cX7_goBack 26 = .ok (.getfield 218, 3) := by decide +kernel
theorem dX7_goBack_29 : decode cX7_goBack 29 = .ok (.ifCond .ne 13, 3) := by decide +kernel
theorem dX7_goBack_32 : decode cX7_goBack 32 = .ok (.new 145, 3) := by decide +kernel
theorem dX7_goBack_35 : decode cX7_goBack 35 = .ok (.dup, 1) := by decide +kernel
theorem dX7_goBack_36 : decode cX7_goBack 36 = .ok (.ldc 222, 2) := by decide +kernel
theorem dX7_goBack_38 : decode cX7_goBack 38 = .ok (.invokespecial 149, 3) := by decide +kernel
theorem dX7_goBack_41 : decode cX7_goBack 41 = .ok (.athrow, 1) := by decide +kernel
theorem dX7_goBack_42 : decode cX7_goBack 42 = .ok (.aload_n 0, 1) := by decide +kernel
theorem dX7_goBack_43 : decode cX7_goBack 43 = .ok (.getfield 49, 3) := by decide +kernel
theorem dX7_goBack_46 : decode cX7_goBack 46 = .ok (.aload_n 0, 1) := by decide +kernel
theorem dX7_goBack_47 : decode cX7_goBack 47 = .ok (.getfield 10, 3) := by decide +kernel
theorem dX7_goBack_50 : decode cX7_goBack 50 = .ok (.invokevirtual 74, 3) := by decide +kernel
theorem dX7_goBack_53 : decode cX7_goBack 53 = .ok (.aload_n 0, 1) := by decide +kernel
theorem dX7_goBack_54 : decode cX7_goBack 54 = .ok (.getfield 10, 3) := by decide +kernel
theorem dX7_goBack_57 : decode cX7_goBack 57 = .ok (.aload_n 2, 1) := by decide +kernel
theorem dX7_goBack_58 : decode cX7_goBack 58 = .ok (.getfield 224, 3) := by decide +kernel
theorem dX7_goBack_61 : decode cX7_goBack 61 = .ok (.invokevirtual 227, 3) := by decide +kernel
theorem dX7_goBack_64 : decode cX7_goBack 64 = .ok (.aload_n 0, 1) := by decide +kernel
theorem dX7_goBack_65 : decode cX7_goBack 65 = .ok (.getfield 10, 3) := by decide +kernel
theorem dX7_goBack_68 : decode cX7_goBack 68 = .ok (.getfield 81, 3) := by decide +kernel
theorem dX7_goBack_71 : decode cX7_goBack 71 = .ok (.ireturn, 1) := by decide +kernel
theorem dX7_undo_0 : decode cX7_undo 0 = .ok (.aload_n 0, 1) := by decide +kernel
theorem dX7_undo_1 : decode cX7_undo 1 = .ok (.getfield 49, 3) := by decide +kernel
theorem dX7_undo_4 : decode cX7_undo 4 = .ok (.getfield 230, 3) := by decide +kernel
theorem dX7_undo_7 : decode cX7_undo 7 = .ok (.ifCond .ne 13, 3) := by decide +kernel
theorem dX7_undo_10 : decode cX7_undo 10 = .ok (.new 145, 3) := by decide +kernel
theorem dX7_undo_13 : decode cX7_undo 13 = .ok (.dup, 1) := by decide +kernel
theorem dX7_undo_14 : decode cX7_undo 14 = .ok (.ldc 233, 2) := by decide +kernel
theorem dX7_undo_16 : decode cX7_undo 16 = .ok (.invokespecial 149, 3) := by decide +kernel
theorem dX7_undo_19 : decode cX7_undo 19 = .ok (.athrow, 1) := by decide +kernel
theorem dX7_undo_20 : decode cX7_undo 20 = .ok (.aload_n 0, 1) := by decide +kernel
theorem dX7_undo_21 : decode cX7_undo 21 = .ok (.getfield 10, 3) := by decide +kernel
theorem dX7_undo_24 : decode cX7_undo 24 = .ok (.aload_n 0, 1) := by decide +kernel
theorem dX7_undo_25 : decode cX7_undo 25 = .ok (.getfield 49, 3) := by decide +kernel
theorem dX7_undo_28 : decode cX7_undo 28 = .ok (.invokevirtual 235, 3) := by decide +kernel
theorem dX7_undo_31 : decode cX7_undo 31 = .ok (.invokevirtual 227, 3) := by decide +kernel
theorem dX7_undo_34 : decode cX7_undo 34 = .ok (.aload_n 0, 1) := by decide +kernel
theorem dX7_undo_35 : decode cX7_undo 35 = .ok (.getfield 49, 3) := by decide +kernel
theorem dX7_undo_38 : decode cX7_undo 38 = .ok (.dup, 1) := by decide +kernel
theorem dX7_undo_39 : decode cX7_undo 39 = .ok (.getfield 230, 3) := by decide +kernel
theorem dX7_undo_42 : decode cX7_undo 42 = .ok (.iconst 1, 1) := by decide +kernel
theorem dX7_undo_43 : decode cX7_undo 43 = .ok (.isub, 1) := by decide +kernel
theorem dX7_undo_44 : decode cX7_undo 44 = .ok (.putfield 230, 3) := by decide +kernel
theorem dX7_undo_47 : decode cX7_undo 47 = .ok (.aload_n 0, 1) := by decide +kernel
theorem dX7_undo_48 : decode cX7_undo 48 = .ok (.getfield 49, 3) := by decide +kernel
theorem dX7_undo_51 : decode cX7_undo 51 = .ok (.getfield 230, 3) := by decide +kernel
theorem dX7_undo_54 : decode cX7_undo 54 = .ok (.ireturn, 1) := by decide +kernel
theorem dX7_cell_0 : decode cX7_cell 0 = .ok (.aload_n 0, 1) := by decide +kernel
theorem dX7_cell_1 : decode cX7_cell 1 = .ok (.getfield 10, 3) := by decide +kernel
theorem dX7_cell_4 : decode cX7_cell 4 = .ok (.iload_n 1, 1) := by decide +kernel
theorem dX7_cell_5 : decode cX7_cell 5 = .ok (.iload_n 2, 1) := by decide +kernel
theorem dX7_cell_6 : decode cX7_cell 6 = .ok (.invokevirtual 88, 3) := by decide +kernel
theorem dX7_cell_9 : decode cX7_cell 9 = .ok (.ifCond .ne 13, 3) := by decide +kernel
theorem dX7_cell_12 : decode cX7_cell 12 = .ok (.new 92, 3) := by decide +kernel
theorem dX7_cell_15 : decode cX7_cell 15 = .ok (.dup, 1) := by decide +kernel
theorem dX7_cell_16 : decode cX7_cell 16 = .ok (.ldc 94, 2) := by decide +kernel
theorem dX7_cell_18 : decode cX7_cell 18 = .ok (.invokespecial 96, 3) := by decide +kernel
theorem dX7_cell_21 : decode cX7_cell 21 = .ok (.athrow, 1) := by decide +kernel
theorem dX7_cell_22 : decode cX7_cell 22 = .ok (.aload_n 0, 1) := by decide +kernel
theorem dX7_cell_23 : decode cX7_cell 23 = .ok (.getfield 10, 3) := by decide +kernel
theorem dX7_cell_26 : decode cX7_cell 26 = .ok (.iload_n 1, 1) := by decide +kernel
theorem dX7_cell_27 : decode cX7_cell 27 = .ok (.iload_n 2, 1) := by decide +kernel
theorem dX7_cell_28 : decode cX7_cell 28 = .ok (.invokevirtual 99, 3) := by decide +kernel
theorem dX7_cell_31 : decode cX7_cell 31 = .ok (.ireturn, 1) := by decide +kernel
theorem dX7_place_0 : decode cX7_place 0 = .ok (.iload_n 1, 1) := by decide +kernel
theorem dX7_place_1 : decode cX7_place 1 = .ok (.iconst 0, 1) := by decide +kernel
theorem dX7_place_2 : decode cX7_place 2 = .ok (.aload_n 0, 1) := by decide +kernel
theorem dX7_place_3 : decode cX7_place 3 = .ok (.getfield 10, 3) := by decide +kernel
theorem dX7_place_6 : decode cX7_place 6 = .ok (.getfield 81, 3) := by decide +kernel
theorem dX7_place_9 : decode cX7_place 9 = .ok (.iconst 1, 1) := by decide +kernel
theorem dX7_place_10 : decode cX7_place 10 = .ok (.isub, 1) := by decide +kernel
theorem dX7_place_11 : decode cX7_place 11 = .ok (.invokestatic 63, 3) := by decide +kernel
theorem dX7_place_14 : decode cX7_place 14 = .ok (.ifCond .ne 13, 3) := by decide +kernel
theorem dX7_place_17 : decode cX7_place 17 = .ok (.new 92, 3) := by decide +kernel
theorem dX7_place_20 : decode cX7_place 20 = .ok (.dup, 1) := by decide +kernel
theorem dX7_place_21 : decode cX7_place 21 = .ok (.ldc 239, 2) := by decide +kernel
theorem dX7_place_23 : decode cX7_place 23 = .ok (.invokespecial 96, 3) := by decide +kernel
theorem dX7_place_26 : decode cX7_place 26 = .ok (.athrow, 1) := by decide +kernel
theorem dX7_place_27 : decode cX7_place 27 = .ok (.iload_n 2, 1) := by decide +kernel
theorem dX7_place_28 : decode cX7_place 28 = .ok (.invokestatic 136, 3) := by decide +kernel
theorem dX7_place_31 : decode cX7_place 31 = .ok (.ifCond .ne 13, 3) := by decide +kernel
theorem dX7_place_34 : decode cX7_place 34 = .ok (.new 67, 3) := by decide +kernel
theorem dX7_place_37 : decode cX7_place 37 = .ok (.dup, 1) := by decide +kernel
theorem dX7_place_38 : decode cX7_place 38 = .ok (.ldc 140, 2) := by decide +kernel
theorem dX7_place_40 : decode cX7_place 40 = .ok (.invokespecial 71, 3) := by decide +kernel
theorem dX7_place_43 : decode cX7_place 43 = .ok (.athrow, 1) := by decide +kernel
theorem dX7_place_44 : decode cX7_place 44 = .ok (.aload_n 0, 1) := by decide +kernel
theorem dX7_place_45 : decode cX7_place 45 = .ok (.iload_n 2, 1) := by decide +kernel
theorem dX7_place_46 : decode cX7_place 46 = .ok (.invokevirtual 142, 3) := by decide +kernel
theorem dX7_place_49 : decode cX7_place 49 = .ok (.ifCond .ne 5, 3) := by decide +kernel
theorem dX7_place_52 : decode cX7_place 52 = .ok (.iconst (-1), 1) := by decide +kernel
theorem dX7_place_53 : decode cX7_place 53 = .ok (.ireturn, 1) := by decide +kernel
theorem dX7_place_54 : decode cX7_place 54 = .ok (.aload_n 0, 1) := by decide +kernel
theorem dX7_place_55 : decode cX7_place 55 = .ok (.getfield 28, 3) := by decide +kernel
theorem dX7_place_58 : decode cX7_place 58 = .ok (.iload_n 2, 1) := by decide +kernel
theorem dX7_place_59 : decode cX7_place 59 = .ok (.invokevirtual 150, 3) := by decide +kernel
theorem dX7_place_62 : decode cX7_place 62 = .ok (.aload_n 0, 1) := by decide +kernel
theorem dX7_place_63 : decode cX7_place 63 = .ok (.getfield 28, 3) := by decide +kernel
theorem dX7_place_66 : decode cX7_place 66 = .ok (.iload_n 2, 1) := by decide +kernel
theorem dX7_place_67 : decode cX7_place 67 = .ok (.iload_n 1, 1) := by decide +kernel
theorem dX7_place_68 : decode cX7_place 68 = .ok (.invokevirtual 241, 3) := by decide +kernel
theorem dX7_place_71 : decode cX7_place 71 = .ok (.ireturn, 1) := by decide +kernel
theorem dX7_looks_0 : decode cX7_looks 0 = .ok (.iload_n 1, 1) := by decide +kernel
theorem dX7_looks_1 : decode cX7_looks 1 = .ok (.invokestatic 136, 3) := by decide +kernel
theorem dX7_looks_4 : decode cX7_looks 4 = .ok (.ifCond .ne 13, 3) := by decide +kernel
theorem dX7_looks_7 : decode cX7_looks 7 = .ok (.new 67, 3) := by decide +kernel
theorem dX7_looks_10 : decode cX7_looks 10 = .ok (.dup, 1) := by decide +kernel
theorem dX7_looks_11 : decode cX7_looks 11 = .ok (.ldc 140, 2) := by decide +kernel
theorem dX7_looks_13 : decode cX7_looks 13 = .ok (.invokespecial 71, 3) := by decide +kernel
theorem dX7_looks_16 : decode cX7_looks 16 = .ok (.athrow, 1) := by decide +kernel
theorem dX7_looks_17 : decode cX7_looks 17 = .ok (.aload_n 0, 1) := by decide +kernel
theorem dX7_looks_18 : decode cX7_looks 18 = .ok (.iload_n 1, 1) := by decide +kernel
theorem dX7_looks_19 : decode cX7_looks 19 = .ok (.invokevirtual 142, 3) := by decide +kernel
theorem dX7_looks_22 : decode cX7_looks 22 = .ok (.ifCond .ne 5, 3) := by decide +kernel
theorem dX7_looks_25 : decode cX7_looks 25 = .ok (.iconst (-1), 1) := by decide +kernel
theorem dX7_looks_26 : decode cX7_looks 26 = .ok (.ireturn, 1) := by decide +kernel
theorem dX7_looks_27 : decode cX7_looks 27 = .ok (.aload_n 0, 1) := by decide +kernel
theorem dX7_looks_28 : decode cX7_looks 28 = .ok (.getfield 28, 3) := by decide +kernel
theorem dX7_looks_31 : decode cX7_looks 31 = .ok (.iload_n 1, 1) := by decide +kernel
theorem dX7_looks_32 : decode cX7_looks 32 = .ok (.invokevirtual 150, 3) := by decide +kernel
theorem dX7_looks_35 : decode cX7_looks 35 = .ok (.aload_n 0, 1) := by decide +kernel
theorem dX7_looks_36 : decode cX7_looks 36 = .ok (.getfield 28, 3) := by decide +kernel
theorem dX7_looks_39 : decode cX7_looks 39 = .ok (.iload_n 1, 1) := by decide +kernel
theorem dX7_looks_40 : decode cX7_looks 40 = .ok (.invokevirtual 154, 3) := by decide +kernel
theorem dX7_looks_43 : decode cX7_looks 43 = .ok (.ireturn, 1) := by decide +kernel
theorem dX7_bound_0 : decode cX7_bound 0 = .ok (.iconst 0, 1) := by decide +kernel
theorem dX7_bound_1 : decode cX7_bound 1 = .ok (.istore_n 1, 1) := by decide +kernel
theorem dX7_bound_2 : decode cX7_bound 2 = .ok (.aload_n 0, 1) := by decide +kernel
theorem dX7_bound_3 : decode cX7_bound 3 = .ok (.getfield 10, 3) := by decide +kernel
theorem dX7_bound_6 : decode cX7_bound 6 = .ok (.getfield 81, 3) := by decide +kernel
theorem dX7_bound_9 : decode cX7_bound 9 = .ok (.istore_n 2, 1) := by decide +kernel
theorem dX7_bound_10 : decode cX7_bound 10 = .ok (.iload_n 2, 1) := by decide +kernel
theorem dX7_bound_11 : decode cX7_bound 11 = .ok (.ifCond .le 13, 3) := by decide +kernel
theorem dX7_bound_14 : decode cX7_bound 14 = .ok (.iinc 1 1, 3) := by decide +kernel
theorem dX7_bound_17 : decode cX7_bound 17 = .ok (.iload_n 2, 1) := by decide +kernel
theorem dX7_bound_18 : decode cX7_bound 18 = .ok (.iconst 2, 1) := by decide +kernel
theorem dX7_bound_19 : decode cX7_bound 19 = .ok (.idiv, 1) := by decide +kernel
theorem dX7_bound_20 : decode cX7_bound 20 = .ok (.istore_n 2, 1) := by decide +kernel
theorem dX7_bound_21 : decode cX7_bound 21 = .ok (.goto (-11), 3) := by decide +kernel
theorem dX7_bound_24 : decode cX7_bound 24 = .ok (.aload_n 0, 1) := by decide +kernel
theorem dX7_bound_25 : decode cX7_bound 25 = .ok (.getfield 10, 3) := by decide +kernel
theorem dX7_bound_28 : decode cX7_bound 28 = .ok (.getfield 81, 3) := by decide +kernel
theorem dX7_bound_31 : decode cX7_bound 31 = .ok (.aload_n 0, 1) := by decide +kernel
theorem dX7_bound_32 : decode cX7_bound 32 = .ok (.getfield 10, 3) := by decide +kernel
theorem dX7_bound_35 : decode cX7_bound 35 = .ok (.getfield 85, 3) := by decide +kernel
theorem dX7_bound_38 : decode cX7_bound 38 = .ok (.iadd, 1) := by decide +kernel
theorem dX7_bound_39 : decode cX7_bound 39 = .ok (.iload_n 1, 1) := by decide +kernel
theorem dX7_bound_40 : decode cX7_bound 40 = .ok (.imul, 1) := by decide +kernel
theorem dX7_bound_41 : decode cX7_bound 41 = .ok (.ireturn, 1) := by decide +kernel
theorem dX7_witness_0 : decode cX7_witness 0 = .ok (.iload_n 1, 1) := by decide +kernel
theorem dX7_witness_1 : decode cX7_witness 1 = .ok (.iconst 0, 1) := by decide +kernel
theorem dX7_witness_2 : decode cX7_witness 2 = .ok (.iconst 3, 1) := by decide +kernel
theorem dX7_witness_3 : decode cX7_witness 3 = .ok (.invokestatic 63, 3) := by decide +kernel
theorem dX7_witness_6 : decode cX7_witness 6 = .ok (.ifCond .ne 13, 3) := by decide +kernel
theorem dX7_witness_9 : decode cX7_witness 9 = .ok (.new 67, 3) := by decide +kernel
theorem dX7_witness_12 : decode cX7_witness 12 = .ok (.dup, 1) := by decide +kernel
theorem dX7_witness_13 : decode cX7_witness 13 = .ok (.ldc 244, 2) := by decide +kernel
theorem dX7_witness_15 : decode cX7_witness 15 = .ok (.invokespecial 71, 3) := by decide +kernel
theorem dX7_witness_18 : decode cX7_witness 18 = .ok (.athrow, 1) := by decide +kernel
theorem dX7_witness_19 : decode cX7_witness 19 = .ok (.aload_n 0, 1) := by decide +kernel
theorem dX7_witness_20 : decode cX7_witness 20 = .ok (.getfield 21, 3) := by decide +kernel
theorem dX7_witness_23 : decode cX7_witness 23 = .ok (.invokevirtual 118, 3) := by decide +kernel
theorem dX7_witness_26 : decode cX7_witness 26 = .ok (.aload_n 0, 1) := by decide +kernel
theorem dX7_witness_27 : decode cX7_witness 27 = .ok (.getfield 21, 3) := by decide +kernel
theorem dX7_witness_30 : decode cX7_witness 30 = .ok (.iload_n 1, 1) := by decide +kernel
theorem dX7_witness_31 : decode cX7_witness 31 = .ok (.invokevirtual 246, 3) := by decide +kernel
theorem dX7_witness_34 : decode cX7_witness 34 = .ok (.ireturn, 1) := by decide +kernel
theorem dX7_count_0 : decode cX7_count 0 = .ok (.iload_n 1, 1) := by decide +kernel
theorem dX7_count_1 : decode cX7_count 1 = .ok (.iconst 0, 1) := by decide +kernel
theorem dX7_count_2 : decode cX7_count 2 = .ok (.bipush 8, 2) := by decide +kernel
theorem dX7_count_4 : decode cX7_count 4 = .ok (.invokestatic 63, 3) := by decide +kernel
theorem dX7_count_7 : decode cX7_count 7 = .ok (.ifCond .ne 13, 3) := by decide +kernel
theorem dX7_count_10 : decode cX7_count 10 = .ok (.new 67, 3) := by decide +kernel
theorem dX7_count_13 : decode cX7_count 13 = .ok (.dup, 1) := by decide +kernel
theorem dX7_count_14 : decode cX7_count 14 = .ok (.ldc 249, 2) := by decide +kernel
theorem dX7_count_16 : decode cX7_count 16 = .ok (.invokespecial 71, 3) := by decide +kernel
theorem dX7_count_19 : decode cX7_count 19 = .ok (.athrow, 1) := by decide +kernel
theorem dX7_count_20 : decode cX7_count 20 = .ok (.aload_n 0, 1) := by decide +kernel
theorem dX7_count_21 : decode cX7_count 21 = .ok (.iload_n 1, 1) := by decide +kernel
theorem dX7_count_22 : decode cX7_count 22 = .ok (.invokevirtual 251, 3) := by decide +kernel
theorem dX7_count_25 : decode cX7_count 25 = .ok (.ireturn, 1) := by decide +kernel
theorem dX7_weight_0 : decode cX7_weight 0 = .ok (.iload_n 1, 1) := by decide +kernel
theorem dX7_weight_1 : decode cX7_weight 1 = .ok (.iconst 0, 1) := by decide +kernel
theorem dX7_weight_2 : decode cX7_weight 2 = .ok (.aload_n 0, 1) := by decide +kernel
theorem dX7_weight_3 : decode cX7_weight 3 = .ok (.getfield 10, 3) := by decide +kernel
theorem dX7_weight_6 : decode cX7_weight 6 = .ok (.getfield 166, 3) := by decide +kernel
theorem dX7_weight_9 : decode cX7_weight 9 = .ok (.iconst 1, 1) := by decide +kernel
theorem dX7_weight_10 : decode cX7_weight 10 = .ok (.isub, 1) := by decide +kernel
theorem dX7_weight_11 : decode cX7_weight 11 = .ok (.invokestatic 63, 3) := by decide +kernel
theorem dX7_weight_14 : decode cX7_weight 14 = .ok (.ifCond .ne 13, 3) := by decide +kernel
theorem dX7_weight_17 : decode cX7_weight 17 = .ok (.new 92, 3) := by decide +kernel
theorem dX7_weight_20 : decode cX7_weight 20 = .ok (.dup, 1) := by decide +kernel
theorem dX7_weight_21 : decode cX7_weight 21 = .ok (.ldc 254, 2) := by decide +kernel
theorem dX7_weight_23 : decode cX7_weight 23 = .ok (.invokespecial 96, 3) := by decide +kernel
theorem dX7_weight_26 : decode cX7_weight 26 = .ok (.athrow, 1) := by decide +kernel
theorem dX7_weight_27 : decode cX7_weight 27 = .ok (.aload_n 0, 1) := by decide +kernel
theorem dX7_weight_28 : decode cX7_weight 28 = .ok (.getfield 10, 3) := by decide +kernel
theorem dX7_weight_31 : decode cX7_weight 31 = .ok (.iload_n 1, 1) := by decide +kernel
theorem dX7_weight_32 : decode cX7_weight 32 = .ok (.invokevirtual 176, 3) := by decide +kernel
theorem dX7_weight_35 : decode cX7_weight 35 = .ok (.ireturn, 1) := by decide +kernel
theorem dX7_cost_0 : decode cX7_cost 0 = .ok (.iload_n 1, 1) := by decide +kernel
theorem dX7_cost_1 : decode cX7_cost 1 = .ok (.iconst 1, 1) := by decide +kernel
theorem dX7_cost_2 : decode cX7_cost 2 = .ok (.aload_n 0, 1) := by decide +kernel
theorem dX7_cost_3 : decode cX7_cost 3 = .ok (.getfield 10, 3) := by decide +kernel
theorem dX7_cost_6 : decode cX7_cost 6 = .ok (.getfield 166, 3) := by decide +kernel
theorem dX7_cost_9 : decode cX7_cost 9 = .ok (.invokestatic 63, 3) := by decide +kernel
theorem dX7_cost_12 : decode cX7_cost 12 = .ok (.ifCond .eq 12, 3) := by decide +kernel
theorem dX7_cost_15 : decode cX7_cost 15 = .ok (.iload_n 2, 1) := by decide +kernel
theorem dX7_cost_16 : decode cX7_cost 16 = .ok (.iconst 0, 1) := by decide +kernel
theorem dX7_cost_17 : decode cX7_cost 17 = .ok (.iconst 1, 1) := by decide +kernel
theorem dX7_cost_18 : decode cX7_cost 18 = .ok (.invokestatic 63, 3) := by decide +kernel
theorem dX7_cost_21 : decode cX7_cost 21 = .ok (.ifCond .ne 14, 3) := by decide +kernel
theorem dX7_cost_24 : decode cX7_cost 24 = .ok (.new 67, 3) := by decide +kernel
theorem dX7_cost_27 : decode cX7_cost 27 = .ok (.dup, 1) := by decide +kernel
theorem dX7_cost_28 : decode cX7_cost 28 = .ok (.ldc_w 256, 3) := by decide +kernel
theorem dX7_cost_31 : decode cX7_cost 31 = .ok (.invokespecial 71, 3) := by decide +kernel
theorem dX7_cost_34 : decode cX7_cost 34 = .ok (.athrow, 1) := by decide +kernel
theorem dX7_cost_35 : decode cX7_cost 35 = .ok (.iload_n 2, 1) := by decide +kernel
theorem dX7_cost_36 : decode cX7_cost 36 = .ok (.ifCond .ne 19, 3) := by decide +kernel
theorem dX7_cost_39 : decode cX7_cost 39 = .ok (.aload_n 0, 1) := by decide +kernel
theorem dX7_cost_40 : decode cX7_cost 40 = .ok (.getfield 35, 3) := by decide +kernel
theorem dX7_cost_43 : decode cX7_cost 43 = .ok (.invokevirtual 258, 3) := by decide +kernel
theorem dX7_cost_46 : decode cX7_cost 46 = .ok (.aload_n 0, 1) := by decide +kernel
theorem dX7_cost_47 : decode cX7_cost 47 = .ok (.getfield 35, 3) := by decide +kernel
theorem dX7_cost_50 : decode cX7_cost 50 = .ok (.iload_n 1, 1) := by decide +kernel
theorem dX7_cost_51 : decode cX7_cost 51 = .ok (.invokevirtual 261, 3) := by decide +kernel
theorem dX7_cost_54 : decode cX7_cost 54 = .ok (.ireturn, 1) := by decide +kernel
theorem dX7_cost_55 : decode cX7_cost 55 = .ok (.aload_n 0, 1) := by decide +kernel
theorem dX7_cost_56 : decode cX7_cost 56 = .ok (.getfield 35, 3) := by decide +kernel
theorem dX7_cost_59 : decode cX7_cost 59 = .ok (.invokevirtual 264, 3) := by decide +kernel
theorem dX7_cost_62 : decode cX7_cost 62 = .ok (.aload_n 0, 1) := by decide +kernel
theorem dX7_cost_63 : decode cX7_cost 63 = .ok (.getfield 35, 3) := by decide +kernel
theorem dX7_cost_66 : decode cX7_cost 66 = .ok (.iload_n 1, 1) := by decide +kernel
theorem dX7_cost_67 : decode cX7_cost 67 = .ok (.invokevirtual 267, 3) := by decide +kernel
theorem dX7_cost_70 : decode cX7_cost 70 = .ok (.ireturn, 1) := by decide +kernel
theorem dX7_cut_0 : decode cX7_cut 0 = .ok (.iload_n 1, 1) := by decide +kernel
theorem dX7_cut_1 : decode cX7_cut 1 = .ok (.iconst 1, 1) := by decide +kernel
theorem dX7_cut_2 : decode cX7_cut 2 = .ok (.aload_n 0, 1) := by decide +kernel
theorem dX7_cut_3 : decode cX7_cut 3 = .ok (.getfield 10, 3) := by decide +kernel
theorem dX7_cut_6 : decode cX7_cut 6 = .ok (.getfield 166, 3) := by decide +kernel
theorem dX7_cut_9 : decode cX7_cut 9 = .ok (.invokestatic 63, 3) := by decide +kernel
theorem dX7_cut_12 : decode cX7_cut 12 = .ok (.ifCond .eq 7, 3) := by decide +kernel
theorem dX7_cut_15 : decode cX7_cut 15 = .ok (.iload_n 2, 1) := by decide +kernel
theorem dX7_cut_16 : decode cX7_cut 16 = .ok (.ifCond .ge 14, 3) := by decide +kernel
theorem dX7_cut_19 : decode cX7_cut 19 = .ok (.new 67, 3) := by decide +kernel
theorem dX7_cut_22 : decode cX7_cut 22 = .ok (.dup, 1) := by decide +kernel
theorem dX7_cut_23 : decode cX7_cut 23 = .ok (.ldc_w 270, 3) := by decide +kernel
theorem dX7_cut_26 : decode cX7_cut 26 = .ok (.invokespecial 71, 3) := by decide +kernel
theorem dX7_cut_29 : decode cX7_cut 29 = .ok (.athrow, 1) := by decide +kernel
theorem dX7_cut_30 : decode cX7_cut 30 = .ok (.iload_n 2, 1) := by decide +kernel
theorem dX7_cut_31 : decode cX7_cut 31 = .ok (.iload_n 1, 1) := by decide +kernel
theorem dX7_cut_32 : decode cX7_cut 32 = .ok (.iconst 1, 1) := by decide +kernel
theorem dX7_cut_33 : decode cX7_cut 33 = .ok (.isub, 1) := by decide +kernel
theorem dX7_cut_34 : decode cX7_cut 34 = .ok (.if_icmp .lt 5, 3) := by decide +kernel
theorem dX7_cut_37 : decode cX7_cut 37 = .ok (.iconst (-1), 1) := by decide +kernel
theorem dX7_cut_38 : decode cX7_cut 38 = .ok (.ireturn, 1) := by decide +kernel
theorem dX7_cut_39 : decode cX7_cut 39 = .ok (.aload_n 0, 1) := by decide +kernel
theorem dX7_cut_40 : decode cX7_cut 40 = .ok (.getfield 35, 3) := by decide +kernel
theorem dX7_cut_43 : decode cX7_cut 43 = .ok (.invokevirtual 258, 3) := by decide +kernel
theorem dX7_cut_46 : decode cX7_cut 46 = .ok (.aload_n 0, 1) := by decide +kernel
theorem dX7_cut_47 : decode cX7_cut 47 = .ok (.getfield 35, 3) := by decide +kernel
theorem dX7_cut_50 : decode cX7_cut 50 = .ok (.iload_n 1, 1) := by decide +kernel
theorem dX7_cut_51 : decode cX7_cut 51 = .ok (.iload_n 2, 1) := by decide +kernel
theorem dX7_cut_52 : decode cX7_cut 52 = .ok (.invokevirtual 272, 3) := by decide +kernel
theorem dX7_cut_55 : decode cX7_cut 55 = .ok (.ireturn, 1) := by decide +kernel
theorem dX7_fewestParts_0 : decode cX7_fewestParts 0 = .ok (.iload_n 1, 1) := by decide +kernel
theorem dX7_fewestParts_1 : decode cX7_fewestParts 1 = .ok (.iconst 1, 1) := by decide +kernel
theorem dX7_fewestParts_2 : decode cX7_fewestParts 2 = .ok (.ldc_w 275, 3) := by decide +kernel
theorem dX7_fewestParts_5 : decode cX7_fewestParts 5 = .ok (.invokestatic 63, 3) := by decide +kernel
theorem dX7_fewestParts_8 : decode cX7_fewestParts 8 = .ok (.ifCond .ne 14, 3) := by decide +kernel
theorem dX7_fewestParts_11 : decode cX7_fewestParts 11 = .ok (.new 67, 3) := by decide +kernel
theorem dX7_fewestParts_14 : decode cX7_fewestParts 14 = .ok (.dup, 1) := by decide +kernel
theorem dX7_fewestParts_15 : decode cX7_fewestParts 15 = .ok (.ldc_w 276, 3) := by decide +kernel
theorem dX7_fewestParts_18 : decode cX7_fewestParts 18 = .ok (.invokespecial 71, 3) := by decide +kernel
theorem dX7_fewestParts_21 : decode cX7_fewestParts 21 = .ok (.athrow, 1) := by decide +kernel
theorem dX7_fewestParts_22 : decode cX7_fewestParts 22 = .ok (.aload_n 0, 1) := by decide +kernel
theorem dX7_fewestParts_23 : decode cX7_fewestParts 23 = .ok (.getfield 35, 3) := by decide +kernel
theorem dX7_fewestParts_26 : decode cX7_fewestParts 26 = .ok (.invokevirtual 258, 3) := by decide +kernel
theorem dX7_fewestParts_29 : decode cX7_fewestParts 29 = .ok (.aload_n 0, 1) := by decide +kernel
theorem dX7_fewestParts_30 : decode cX7_fewestParts 30 = .ok (.getfield 35, 3) := by decide +kernel
theorem dX7_fewestParts_33 : decode cX7_fewestParts 33 = .ok (.iload_n 1, 1) := by decide +kernel
theorem dX7_fewestParts_34 : decode cX7_fewestParts 34 = .ok (.invokevirtual 278, 3) := by decide +kernel
theorem dX7_fewestParts_37 : decode cX7_fewestParts 37 = .ok (.ireturn, 1) := by decide +kernel
theorem dX7_halfShare_0 : decode cX7_halfShare 0 = .ok (.aload_n 0, 1) := by decide +kernel
theorem dX7_halfShare_1 : decode cX7_halfShare 1 = .ok (.getfield 21, 3) := by decide +kernel
theorem dX7_halfShare_4 : decode cX7_halfShare 4 = .ok (.invokevirtual 114, 3) := by decide +kernel
theorem dX7_halfShare_7 : decode cX7_halfShare 7 = .ok (.ifCond .ne 5, 3) := by decide +kernel
theorem dX7_halfShare_10 : decode cX7_halfShare 10 = .ok (.dconst 0, 1) := by decide +kernel
theorem dX7_halfShare_11 : decode cX7_halfShare 11 = .ok (.dreturn, 1) := by decide +kernel
theorem dX7_halfShare_12 : decode cX7_halfShare 12 = .ok (.aload_n 0, 1) := by decide +kernel
theorem dX7_halfShare_13 : decode cX7_halfShare 13 = .ok (.getfield 28, 3) := by decide +kernel
theorem dX7_halfShare_16 : decode cX7_halfShare 16 = .ok (.iconst 0, 1) := by decide +kernel
theorem dX7_halfShare_17 : decode cX7_halfShare 17 = .ok (.invokevirtual 150, 3) := by decide +kernel
theorem dX7_halfShare_20 : decode cX7_halfShare 20 = .ok (.aload_n 0, 1) := by decide +kernel
theorem dX7_halfShare_21 : decode cX7_halfShare 21 = .ok (.getfield 28, 3) := by decide +kernel
theorem dX7_halfShare_24 : decode cX7_halfShare 24 = .ok (.iconst 1, 1) := by decide +kernel
theorem dX7_halfShare_25 : decode cX7_halfShare 25 = .ok (.invokevirtual 150, 3) := by decide +kernel
theorem dX7_halfShare_28 : decode cX7_halfShare 28 = .ok (.aload_n 0, 1) := by decide +kernel
theorem dX7_halfShare_29 : decode cX7_halfShare 29 = .ok (.getfield 28, 3) := by decide +kernel
theorem dX7_halfShare_32 : decode cX7_halfShare 32 = .ok (.invokevirtual 281, 3) := by decide +kernel
theorem dX7_halfShare_35 : decode cX7_halfShare 35 = .ok (.dreturn, 1) := by decide +kernel
theorem dX7_digest_0 : decode cX7_digest 0 = .ok (.ldc2_w 285, 3) := by decide +kernel
theorem dX7_digest_3 : decode cX7_digest 3 = .ok (.lstore_n 1, 1) := by decide +kernel
theorem dX7_digest_4 : decode cX7_digest 4 = .ok (.iconst 0, 1) := by decide +kernel
theorem dX7_digest_5 : decode cX7_digest 5 = .ok (.istore_n 3, 1) := by decide +kernel
theorem dX7_digest_6 : decode cX7_digest 6 = .ok (.iload_n 3, 1) := by decide +kernel
theorem dX7_digest_7 : decode cX7_digest 7 = .ok (.bipush 8, 2) := by decide +kernel
theorem dX7_digest_9 : decode cX7_digest 9 = .ok (.if_icmp .gt 20, 3) := by decide +kernel
theorem dX7_digest_12 : decode cX7_digest 12 = .ok (.lload_n 1, 1) := by decide +kernel
theorem dX7_digest_13 : decode cX7_digest 13 = .ok (.aload_n 0, 1) := by decide +kernel
theorem dX7_digest_14 : decode cX7_digest 14 = .ok (.iload_n 3, 1) := by decide +kernel
theorem dX7_digest_15 : decode cX7_digest 15 = .ok (.invokevirtual 251, 3) := by decide +kernel
theorem dX7_digest_18 : decode cX7_digest 18 = .ok (.i2l, 1) := by decide +kernel
theorem dX7_digest_19 : decode cX7_digest 19 = .ok (.invokestatic 287, 3) := by decide +kernel
theorem dX7_digest_22 : decode cX7_digest 22 = .ok (.lstore_n 1, 1) := by decide +kernel
theorem dX7_digest_23 : decode cX7_digest 23 = .ok (.iinc 3 1, 3) := by decide +kernel
theorem dX7_digest_26 : decode cX7_digest 26 = .ok (.goto (-20), 3) := by decide +kernel
theorem dX7_digest_29 : decode cX7_digest 29 = .ok (.aload_n 0, 1) := by decide +kernel
theorem dX7_digest_30 : decode cX7_digest 30 = .ok (.lload_n 1, 1) := by decide +kernel
theorem dX7_digest_31 : decode cX7_digest 31 = .ok (.invokevirtual 291, 3) := by decide +kernel
theorem dX7_digest_34 : decode cX7_digest 34 = .ok (.lstore_n 1, 1) := by decide +kernel
theorem dX7_digest_35 : decode cX7_digest 35 = .ok (.aload_n 0, 1) := by decide +kernel
theorem dX7_digest_36 : decode cX7_digest 36 = .ok (.invokevirtual 295, 3) := by decide +kernel
theorem dX7_digest_39 : decode cX7_digest 39 = .ok (.aload_n 0, 1) := by decide +kernel
theorem dX7_digest_40 : decode cX7_digest 40 = .ok (.lload_n 1, 1) := by decide +kernel
theorem dX7_digest_41 : decode cX7_digest 41 = .ok (.invokevirtual 298, 3) := by decide +kernel
theorem dX7_digest_44 : decode cX7_digest 44 = .ok (.lstore_n 1, 1) := by decide +kernel
theorem dX7_digest_45 : decode cX7_digest 45 = .ok (.aload_n 0, 1) := by decide +kernel
theorem dX7_digest_46 : decode cX7_digest 46 = .ok (.lload_n 1, 1) := by decide +kernel
theorem dX7_digest_47 : decode cX7_digest 47 = .ok (.invokevirtual 301, 3) := by decide +kernel
theorem dX7_digest_50 : decode cX7_digest 50 = .ok (.lstore_n 1, 1) := by decide +kernel
theorem dX7_digest_51 : decode cX7_digest 51 = .ok (.lload_n 1, 1) := by decide +kernel
theorem dX7_digest_52 : decode cX7_digest 52 = .ok (.aload_n 0, 1) := by decide +kernel
theorem dX7_digest_53 : decode cX7_digest 53 = .ok (.invokevirtual 304, 3) := by decide +kernel
theorem dX7_digest_56 : decode cX7_digest 56 = .ok (.invokestatic 307, 3) := by decide +kernel
theorem dX7_digest_59 : decode cX7_digest 59 = .ok (.invokestatic 287, 3) := by decide +kernel
theorem dX7_digest_62 : decode cX7_digest 62 = .ok (.lstore_n 1, 1) := by decide +kernel
theorem dX7_digest_63 : decode cX7_digest 63 = .ok (.lload_n 1, 1) := by decide +kernel
theorem dX7_digest_64 : decode cX7_digest 64 = .ok (.aload_n 0, 1) := by decide +kernel
theorem dX7_digest_65 : decode cX7_digest 65 = .ok (.getfield 56, 3) := by decide +kernel
theorem dX7_digest_68 : decode cX7_digest 68 = .ok (.getfield 218, 3) := by decide +kernel
theorem dX7_digest_71 : decode cX7_digest 71 = .ok (.ifCond .eq 7, 3) := by decide +kernel
theorem dX7_digest_74 : decode cX7_digest 74 = .ok (.lconst 1, 1) := by decide +kernel
theorem dX7_digest_75 : decode cX7_digest 75 = .ok (.goto 4, 3) := by decide +kernel
theorem dX7_digest_78 : decode cX7_digest 78 = .ok (.lconst 0, 1) := by decide +kernel
theorem dX7_digest_79 : decode cX7_digest 79 = .ok (.invokestatic 287, 3) := by decide +kernel
theorem dX7_digest_82 : decode cX7_digest 82 = .ok (.lstore_n 1, 1) := by decide +kernel
theorem dX7_digest_83 : decode cX7_digest 83 = .ok (.lload_n 1, 1) := by decide +kernel
theorem dX7_digest_84 : decode cX7_digest 84 = .ok (.aload_n 0, 1) := by decide +kernel
theorem dX7_digest_85 : decode cX7_digest 85 = .ok (.getfield 60, 3) := by decide +kernel
theorem dX7_digest_88 : decode cX7_digest 88 = .ok (.getfield 218, 3) := by decide +kernel
theorem dX7_digest_91 : decode cX7_digest 91 = .ok (.ifCond .eq 7, 3) := by decide +kernel
theorem dX7_digest_94 : decode cX7_digest 94 = .ok (.lconst 1, 1) := by decide +kernel
theorem dX7_digest_95 : decode cX7_digest 95 = .ok (.goto 4, 3) := by decide +kernel
theorem dX7_digest_98 : decode cX7_digest 98 = .ok (.lconst 0, 1) := by decide +kernel
theorem dX7_digest_99 : decode cX7_digest 99 = .ok (.invokestatic 287, 3) := by decide +kernel
theorem dX7_digest_102 : decode cX7_digest 102 = .ok (.lstore_n 1, 1) := by decide +kernel
theorem dX7_digest_103 : decode cX7_digest 103 = .ok (.lload_n 1, 1) := by decide +kernel
theorem dX7_digest_104 : decode cX7_digest 104 = .ok (.aload_n 0, 1) := by decide +kernel
theorem dX7_digest_105 : decode cX7_digest 105 = .ok (.getfield 42, 3) := by decide +kernel
theorem dX7_digest_108 : decode cX7_digest 108 = .ok (.getfield 181, 3) := by decide +kernel
theorem dX7_digest_111 : decode cX7_digest 111 = .ok (.i2l, 1) := by decide +kernel
theorem dX7_digest_112 : decode cX7_digest 112 = .ok (.invokestatic 287, 3) := by decide +kernel
theorem dX7_digest_115 : decode cX7_digest 115 = .ok (.lstore_n 1, 1) := by decide +kernel
theorem dX7_digest_116 : decode cX7_digest 116 = .ok (.iconst 0, 1) := by decide +kernel
theorem dX7_digest_117 : decode cX7_digest 117 = .ok (.istore_n 3, 1) := by decide +kernel
theorem dX7_digest_118 : decode cX7_digest 118 = .ok (.iload_n 3, 1) := by decide +kernel
theorem dX7_digest_119 : decode cX7_digest 119 = .ok (.aload_n 0, 1) := by decide +kernel
theorem dX7_digest_120 : decode cX7_digest 120 = .ok (.getfield 42, 3) := by decide +kernel
theorem dX7_digest_123 : decode cX7_digest 123 = .ok (.getfield 181, 3) := by decide +kernel
theorem dX7_digest_126 : decode cX7_digest 126 = .ok (.if_icmp .ge 23, 3) := by decide +kernel
theorem dX7_digest_129 : decode cX7_digest 129 = .ok (.lload_n 1, 1) := by decide +kernel
theorem dX7_digest_130 : decode cX7_digest 130 = .ok (.aload_n 0, 1) := by decide +kernel
theorem dX7_digest_131 : decode cX7_digest 131 = .ok (.getfield 42, 3) := by decide +kernel
theorem dX7_digest_134 : decode cX7_digest 134 = .ok (.iload_n 3, 1) := by decide +kernel
theorem dX7_digest_135 : decode cX7_digest 135 = .ok (.invokevirtual 311, 3) := by decide +kernel
theorem dX7_digest_138 : decode cX7_digest 138 = .ok (.i2l, 1) := by decide +kernel
theorem dX7_digest_139 : decode cX7_digest 139 = .ok (.invokestatic 287, 3) := by decide +kernel
theorem dX7_digest_142 : decode cX7_digest 142 = .ok (.lstore_n 1, 1) := by decide +kernel
theorem dX7_digest_143 : decode cX7_digest 143 = .ok (.iinc 3 1, 3) := by decide +kernel
theorem dX7_digest_146 : decode cX7_digest 146 = .ok (.goto (-28), 3) := by decide +kernel
theorem dX7_digest_149 : decode cX7_digest 149 = .ok (.lload_n 1, 1) := by decide +kernel
theorem dX7_digest_150 : decode cX7_digest 150 = .ok (.lreturn, 1) := by decide +kernel
theorem dX7_isFromTo_0 : decode cX7_isFromTo 0 = .ok (.iload_n 0, 1) := by decide +kernel
theorem dX7_isFromTo_1 : decode cX7_isFromTo 1 = .ok (.iload_n 1, 1) := by decide +kernel
theorem dX7_isFromTo_2 : decode cX7_isFromTo 2 = .ok (.if_icmp .lt 12, 3) := by decide +kernel
theorem dX7_isFromTo_5 : decode cX7_isFromTo 5 = .ok (.iload_n 0, 1) := by decide +kernel
theorem dX7_isFromTo_6 : decode cX7_isFromTo 6 = .ok (.iload_n 2, 1) := by decide +kernel
theorem dX7_isFromTo_7 : decode cX7_isFromTo 7 = .ok (.if_icmp .gt 7, 3) := by decide +kernel
theorem dX7_isFromTo_10 : decode cX7_isFromTo 10 = .ok (.iconst 1, 1) := by decide +kernel
theorem dX7_isFromTo_11 : decode cX7_isFromTo 11 = .ok (.goto 4, 3) := by decide +kernel
theorem dX7_isFromTo_14 : decode cX7_isFromTo 14 = .ok (.iconst 0, 1) := by decide +kernel
theorem dX7_isFromTo_15 : decode cX7_isFromTo 15 = .ok (.ireturn, 1) := by decide +kernel
theorem dX7_isWay_0 : decode cX7_isWay 0 = .ok (.iload_n 0, 1) := by decide +kernel
theorem dX7_isWay_1 : decode cX7_isWay 1 = .ok (.iconst 0, 1) := by decide +kernel
theorem dX7_isWay_2 : decode cX7_isWay 2 = .ok (.iconst 2, 1) := by decide +kernel
theorem dX7_isWay_3 : decode cX7_isWay 3 = .ok (.invokestatic 63, 3) := by decide +kernel
theorem dX7_isWay_6 : decode cX7_isWay 6 = .ok (.ireturn, 1) := by decide +kernel
theorem dX7_isOpen_0 : decode cX7_isOpen 0 = .ok (.iload_n 1, 1) := by decide +kernel
theorem dX7_isOpen_1 : decode cX7_isOpen 1 = .ok (.ifCond .eq 13, 3) := by decide +kernel
theorem dX7_isOpen_4 : decode cX7_isOpen 4 = .ok (.aload_n 0, 1) := by decide +kernel
theorem dX7_isOpen_5 : decode cX7_isOpen 5 = .ok (.getfield 21, 3) := by decide +kernel
theorem dX7_isOpen_8 : decode cX7_isOpen 8 = .ok (.invokevirtual 114, 3) := by decide +kernel
theorem dX7_isOpen_11 : decode cX7_isOpen 11 = .ok (.ifCond .eq 7, 3) := by decide +kernel
theorem dX7_isOpen_14 : decode cX7_isOpen 14 = .ok (.iconst 1, 1) := by decide +kernel
theorem dX7_isOpen_15 : decode cX7_isOpen 15 = .ok (.goto 4, 3) := by decide +kernel
theorem dX7_isOpen_18 : decode cX7_isOpen 18 = .ok (.iconst 0, 1) := by decide +kernel
theorem dX7_isOpen_19 : decode cX7_isOpen 19 = .ok (.ireturn, 1) := by decide +kernel
theorem dX7_slotAt_0 : decode cX7_slotAt 0 = .ok (.iload_n 1, 1) := by decide +kernel
theorem dX7_slotAt_1 : decode cX7_slotAt 1 = .ok (.ifCond .ne 10, 3) := by decide +kernel
theorem dX7_slotAt_4 : decode cX7_slotAt 4 = .ok (.aload_n 0, 1) := by decide +kernel
theorem dX7_slotAt_5 : decode cX7_slotAt 5 = .ok (.getfield 56, 3) := by decide +kernel
theorem dX7_slotAt_8 : decode cX7_slotAt 8 = .ok (.goto 7, 3) := by decide +kernel
theorem dX7_slotAt_11 : decode cX7_slotAt 11 = .ok (.aload_n 0, 1) := by decide +kernel
theorem dX7_slotAt_12 : decode cX7_slotAt 12 = .ok (.getfield 60, 3) := by decide +kernel
theorem dX7_slotAt_15 : decode cX7_slotAt 15 = .ok (.areturn, 1) := by decide +kernel
theorem dX7_counted_0 : decode cX7_counted 0 = .ok (.iload_n 1, 1) := by decide +kernel
theorem dX7_counted_1 : decode cX7_counted 1 = .ok (.tableswitch 119 0 7 #[47, 55, 63, 71, 79, 87, 95, 103], 47) := by decide +kernel
theorem dX7_counted_48 : decode cX7_counted 48 = .ok (.aload_n 0, 1) := by decide +kernel
theorem dX7_counted_49 : decode cX7_counted 49 = .ok (.getfield 10, 3) := by decide +kernel
theorem dX7_counted_52 : decode cX7_counted 52 = .ok (.getfield 81, 3) := by decide +kernel
theorem dX7_counted_55 : decode cX7_counted 55 = .ok (.ireturn, 1) := by decide +kernel
theorem dX7_counted_56 : decode cX7_counted 56 = .ok (.aload_n 0, 1) := by decide +kernel
theorem dX7_counted_57 : decode cX7_counted 57 = .ok (.getfield 10, 3) := by decide +kernel
theorem dX7_counted_60 : decode cX7_counted 60 = .ok (.getfield 85, 3) := by decide +kernel
theorem dX7_counted_63 : decode cX7_counted 63 = .ok (.ireturn, 1) := by decide +kernel
theorem dX7_counted_64 : decode cX7_counted 64 = .ok (.aload_n 0, 1) := by decide +kernel
theorem dX7_counted_65 : decode cX7_counted 65 = .ok (.getfield 10, 3) := by decide +kernel
theorem dX7_counted_68 : decode cX7_counted 68 = .ok (.getfield 166, 3) := by decide +kernel
theorem dX7_counted_71 : decode cX7_counted 71 = .ok (.ireturn, 1) := by decide +kernel
theorem dX7_counted_72 : decode cX7_counted 72 = .ok (.aload_n 0, 1) := by decide +kernel
theorem dX7_counted_73 : decode cX7_counted 73 = .ok (.getfield 10, 3) := by decide +kernel
theorem dX7_counted_76 : decode cX7_counted 76 = .ok (.invokevirtual 314, 3) := by decide +kernel
theorem dX7_counted_79 : decode cX7_counted 79 = .ok (.ireturn, 1) := by decide +kernel
theorem dX7_counted_80 : decode cX7_counted 80 = .ok (.aload_n 0, 1) := by decide +kernel
theorem dX7_counted_81 : decode cX7_counted 81 = .ok (.getfield 10, 3) := by decide +kernel
theorem dX7_counted_84 : decode cX7_counted 84 = .ok (.getfield 158, 3) := by decide +kernel
theorem dX7_counted_87 : decode cX7_counted 87 = .ok (.ireturn, 1) := by decide +kernel
theorem dX7_counted_88 : decode cX7_counted 88 = .ok (.aload_n 0, 1) := by decide +kernel
theorem dX7_counted_89 : decode cX7_counted 89 = .ok (.getfield 10, 3) := by decide +kernel
theorem dX7_counted_92 : decode cX7_counted 92 = .ok (.getfield 161, 3) := by decide +kernel
theorem dX7_counted_95 : decode cX7_counted 95 = .ok (.ireturn, 1) := by decide +kernel
theorem dX7_counted_96 : decode cX7_counted 96 = .ok (.aload_n 0, 1) := by decide +kernel
theorem dX7_counted_97 : decode cX7_counted 97 = .ok (.getfield 10, 3) := by decide +kernel
theorem dX7_counted_100 : decode cX7_counted 100 = .ok (.getfield 133, 3) := by decide +kernel
theorem dX7_counted_103 : decode cX7_counted 103 = .ok (.ireturn, 1) := by decide +kernel
theorem dX7_counted_104 : decode cX7_counted 104 = .ok (.aload_n 0, 1) := by decide +kernel
theorem dX7_counted_105 : decode cX7_counted 105 = .ok (.getfield 28, 3) := by decide +kernel
theorem dX7_counted_108 : decode cX7_counted 108 = .ok (.iconst 0, 1) := by decide +kernel
theorem dX7_counted_109 : decode cX7_counted 109 = .ok (.invokevirtual 150, 3) := by decide +kernel
theorem dX7_counted_112 : decode cX7_counted 112 = .ok (.aload_n 0, 1) := by decide +kernel
theorem dX7_counted_113 : decode cX7_counted 113 = .ok (.getfield 28, 3) := by decide +kernel
theorem dX7_counted_116 : decode cX7_counted 116 = .ok (.invokevirtual 317, 3) := by decide +kernel
theorem dX7_counted_119 : decode cX7_counted 119 = .ok (.ireturn, 1) := by decide +kernel
theorem dX7_counted_120 : decode cX7_counted 120 = .ok (.aload_n 0, 1) := by decide +kernel
theorem dX7_counted_121 : decode cX7_counted 121 = .ok (.getfield 49, 3) := by decide +kernel
theorem dX7_counted_124 : decode cX7_counted 124 = .ok (.getfield 230, 3) := by decide +kernel
theorem dX7_counted_127 : decode cX7_counted 127 = .ok (.ireturn, 1) := by decide +kernel
theorem dX7_mixed_0 : decode cX7_mixed 0 = .ok (.ldc2_w 320, 3) := by decide +kernel
theorem dX7_mixed_3 : decode cX7_mixed 3 = .ok (.lload_n 0, 1) := by decide +kernel
theorem dX7_mixed_4 : decode cX7_mixed 4 = .ok (.lmul, 1) := by decide +kernel
theorem dX7_mixed_5 : decode cX7_mixed 5 = .ok (.lload_n 2, 1) := by decide +kernel
theorem dX7_mixed_6 : decode cX7_mixed 6 = .ok (.ladd, 1) := by decide +kernel
theorem dX7_mixed_7 : decode cX7_mixed 7 = .ok (.lreturn, 1) := by decide +kernel
theorem dX7_mixedCells_0 : decode cX7_mixedCells 0 = .ok (.lload_n 1, 1) := by decide +kernel
theorem dX7_mixedCells_1 : decode cX7_mixedCells 1 = .ok (.lstore_n 3, 1) := by decide +kernel
theorem dX7_mixedCells_2 : decode cX7_mixedCells 2 = .ok (.iconst 0, 1) := by decide +kernel
theorem dX7_mixedCells_3 : decode cX7_mixedCells 3 = .ok (.istore 5, 2) := by decide +kernel
theorem dX7_mixedCells_5 : decode cX7_mixedCells 5 = .ok (.iload 5, 2) := by decide +kernel
theorem dX7_mixedCells_7 : decode cX7_mixedCells 7 = .ok (.aload_n 0, 1) := by decide +kernel
theorem dX7_mixedCells_8 : decode cX7_mixedCells 8 = .ok (.getfield 10, 3) := by decide +kernel
theorem dX7_mixedCells_11 : decode cX7_mixedCells 11 = .ok (.getfield 81, 3) := by decide +kernel
theorem dX7_mixedCells_14 : decode cX7_mixedCells 14 = .ok (.if_icmp .ge 47, 3) := by decide +kernel
theorem dX7_mixedCells_17 : decode cX7_mixedCells 17 = .ok (.iconst 0, 1) := by decide +kernel
theorem dX7_mixedCells_18 : decode cX7_mixedCells 18 = .ok (.istore 6, 2) := by decide +kernel
theorem dX7_mixedCells_20 : decode cX7_mixedCells 20 = .ok (.iload 6, 2) := by decide +kernel
theorem dX7_mixedCells_22 : decode cX7_mixedCells 22 = .ok (.aload_n 0, 1) := by decide +kernel
theorem dX7_mixedCells_23 : decode cX7_mixedCells 23 = .ok (.getfield 10, 3) := by decide +kernel
theorem dX7_mixedCells_26 : decode cX7_mixedCells 26 = .ok (.getfield 85, 3) := by decide +kernel
theorem dX7_mixedCells_29 : decode cX7_mixedCells 29 = .ok (.if_icmp .ge 26, 3) := by decide +kernel
theorem dX7_mixedCells_32 : decode cX7_mixedCells 32 = .ok (.lload_n 3, 1) := by decide +kernel
theorem dX7_mixedCells_33 : decode cX7_mixedCells 33 = .ok (.aload_n 0, 1) := by decide +kernel
theorem dX7_mixedCells_34 : decode cX7_mixedCells 34 = .ok (.getfield 10, 3) := by decide +kernel
theorem dX7_mixedCells_37 : decode cX7_mixedCells 37 = .ok (.iload 5, 2) := by decide +kernel
theorem dX7_mixedCells_39 : decode cX7_mixedCells 39 = .ok (.iload 6, 2) := by decide +kernel
theorem dX7_mixedCells_41 : decode cX7_mixedCells 41 = .ok (.invokevirtual 99, 3) := by decide +kernel
theorem dX7_mixedCells_44 : decode cX7_mixedCells 44 = .ok (.i2l, 1) := by decide +kernel
theorem dX7_mixedCells_45 : decode cX7_mixedCells 45 = .ok (.invokestatic 287, 3) := by decide +kernel
theorem dX7_mixedCells_48 : decode cX7_mixedCells 48 = .ok (.lstore_n 3, 1) := by decide +kernel
theorem dX7_mixedCells_49 : decode cX7_mixedCells 49 = .ok (.iinc 6 1, 3) := by decide +kernel
theorem dX7_mixedCells_52 : decode cX7_mixedCells 52 = .ok (.goto (-32), 3) := by decide +kernel
theorem dX7_mixedCells_55 : decode cX7_mixedCells 55 = .ok (.iinc 5 1, 3) := by decide +kernel
theorem dX7_mixedCells_58 : decode cX7_mixedCells 58 = .ok (.goto (-53), 3) := by decide +kernel
theorem dX7_mixedCells_61 : decode cX7_mixedCells 61 = .ok (.lload_n 3, 1) := by decide +kernel
theorem dX7_mixedCells_62 : decode cX7_mixedCells 62 = .ok (.lreturn, 1) := by decide +kernel
theorem dX7_seekByAllWays_0 : decode cX7_seekByAllWays 0 = .ok (.aload_n 0, 1) := by decide +kernel
theorem dX7_seekByAllWays_1 : decode cX7_seekByAllWays 1 = .ok (.getfield 21, 3) := by decide +kernel
theorem dX7_seekByAllWays_4 : decode cX7_seekByAllWays 4 = .ok (.invokevirtual 118, 3) := by decide +kernel
theorem dX7_seekByAllWays_7 : decode cX7_seekByAllWays 7 = .ok (.iconst 0, 1) := by decide +kernel
theorem dX7_seekByAllWays_8 : decode cX7_seekByAllWays 8 = .ok (.istore_n 1, 1) := by decide +kernel
theorem dX7_seekByAllWays_9 : decode cX7_seekByAllWays 9 = .ok (.iload_n 1, 1) := by decide +kernel
theorem dX7_seekByAllWays_10 : decode cX7_seekByAllWays 10 = .ok (.iconst 3, 1) := by decide +kernel
theorem dX7_seekByAllWays_11 : decode cX7_seekByAllWays 11 = .ok (.if_icmp .ge 42, 3) := by decide +kernel
theorem dX7_seekByAllWays_14 : decode cX7_seekByAllWays 14 = .ok (.iload_n 1, 1) := by decide +kernel
theorem dX7_seekByAllWays_15 : decode cX7_seekByAllWays 15 = .ok (.ifCond .eq 13, 3) := by decide +kernel
theorem dX7_seekByAllWays_18 : decode cX7_seekByAllWays 18 = .ok (.aload_n 0, 1) := by decide +kernel
theorem dX7_seekByAllWays_19 : decode cX7_seekByAllWays 19 = .ok (.getfield 21, 3) := by decide +kernel
theorem dX7_seekByAllWays_22 : decode cX7_seekByAllWays 22 = .ok (.getfield 121, 3) := by decide +kernel
theorem dX7_seekByAllWays_25 : decode cX7_seekByAllWays 25 = .ok (.ifCond .ne 14, 3) := by decide +kernel
theorem dX7_seekByAllWays_28 : decode cX7_seekByAllWays 28 = .ok (.aload_n 0, 1) := by decide +kernel
theorem dX7_seekByAllWays_29 : decode cX7_seekByAllWays 29 = .ok (.getfield 28, 3) := by decide +kernel
theorem dX7_seekByAllWays_32 : decode cX7_seekByAllWays 32 = .ok (.iload_n 1, 1) := by decide +kernel
theorem dX7_seekByAllWays_33 : decode cX7_seekByAllWays 33 = .ok (.invokevirtual 150, 3) := by decide +kernel
theorem dX7_seekByAllWays_36 : decode cX7_seekByAllWays 36 = .ok (.goto 11, 3) := by decide +kernel
theorem dX7_seekByAllWays_39 : decode cX7_seekByAllWays 39 = .ok (.aload_n 0, 1) := by decide +kernel
theorem dX7_seekByAllWays_40 : decode cX7_seekByAllWays 40 = .ok (.getfield 28, 3) := by decide +kernel
theorem dX7_seekByAllWays_43 : decode cX7_seekByAllWays 43 = .ok (.iload_n 1, 1) := by decide +kernel
theorem dX7_seekByAllWays_44 : decode cX7_seekByAllWays 44 = .ok (.invokevirtual 322, 3) := by decide +kernel
theorem dX7_seekByAllWays_47 : decode cX7_seekByAllWays 47 = .ok (.iinc 1 1, 3) := by decide +kernel
theorem dX7_seekByAllWays_50 : decode cX7_seekByAllWays 50 = .ok (.goto (-41), 3) := by decide +kernel
theorem dX7_seekByAllWays_53 : decode cX7_seekByAllWays 53 = .ok (.return_, 1) := by decide +kernel
theorem dX7_mixedPlaces_0 : decode cX7_mixedPlaces 0 = .ok (.lload_n 1, 1) := by decide +kernel
theorem dX7_mixedPlaces_1 : decode cX7_mixedPlaces 1 = .ok (.lstore_n 3, 1) := by decide +kernel
theorem dX7_mixedPlaces_2 : decode cX7_mixedPlaces 2 = .ok (.iconst 0, 1) := by decide +kernel
theorem dX7_mixedPlaces_3 : decode cX7_mixedPlaces 3 = .ok (.istore 5, 2) := by decide +kernel
theorem dX7_mixedPlaces_5 : decode cX7_mixedPlaces 5 = .ok (.iload 5, 2) := by decide +kernel
theorem dX7_mixedPlaces_7 : decode cX7_mixedPlaces 7 = .ok (.aload_n 0, 1) := by decide +kernel
theorem dX7_mixedPlaces_8 : decode cX7_mixedPlaces 8 = .ok (.getfield 10, 3) := by decide +kernel
theorem dX7_mixedPlaces_11 : decode cX7_mixedPlaces 11 = .ok (.getfield 81, 3) := by decide +kernel
theorem dX7_mixedPlaces_14 : decode cX7_mixedPlaces 14 = .ok (.if_icmp .ge 41, 3) := by decide +kernel
theorem dX7_mixedPlaces_17 : decode cX7_mixedPlaces 17 = .ok (.iconst 0, 1) := by decide +kernel
theorem dX7_mixedPlaces_18 : decode cX7_mixedPlaces 18 = .ok (.istore 6, 2) := by decide +kernel
theorem dX7_mixedPlaces_20 : decode cX7_mixedPlaces 20 = .ok (.iload 6, 2) := by decide +kernel
theorem dX7_mixedPlaces_22 : decode cX7_mixedPlaces 22 = .ok (.iconst 3, 1) := by decide +kernel
theorem dX7_mixedPlaces_23 : decode cX7_mixedPlaces 23 = .ok (.if_icmp .ge 26, 3) := by decide +kernel
theorem dX7_mixedPlaces_26 : decode cX7_mixedPlaces 26 = .ok (.lload_n 3, 1) := by decide +kernel
theorem dX7_mixedPlaces_27 : decode cX7_mixedPlaces 27 = .ok (.aload_n 0, 1) := by decide +kernel
theorem dX7_mixedPlaces_28 : decode cX7_mixedPlaces 28 = .ok (.getfield 28, 3) := by decide +kernel
theorem dX7_mixedPlaces_31 : decode cX7_mixedPlaces 31 = .ok (.iload 6, 2) := by decide +kernel
theorem dX7_mixedPlaces_33 : decode cX7_mixedPlaces 33 = .ok (.iload 5, 2) := by decide +kernel
theorem dX7_mixedPlaces_35 : decode cX7_mixedPlaces 35 = .ok (.invokevirtual 241, 3) := by decide +kernel
theorem dX7_mixedPlaces_38 : decode cX7_mixedPlaces 38 = .ok (.i2l, 1) := by decide +kernel
theorem dX7_mixedPlaces_39 : decode cX7_mixedPlaces 39 = .ok (.invokestatic 287, 3) := by decide +kernel
theorem dX7_mixedPlaces_42 : decode cX7_mixedPlaces 42 = .ok (.lstore_n 3, 1) := by decide +kernel
theorem dX7_mixedPlaces_43 : decode cX7_mixedPlaces 43 = .ok (.iinc 6 1, 3) := by decide +kernel
theorem dX7_mixedPlaces_46 : decode cX7_mixedPlaces 46 = .ok (.goto (-26), 3) := by decide +kernel
theorem dX7_mixedPlaces_49 : decode cX7_mixedPlaces 49 = .ok (.iinc 5 1, 3) := by decide +kernel
theorem dX7_mixedPlaces_52 : decode cX7_mixedPlaces 52 = .ok (.goto (-47), 3) := by decide +kernel
theorem dX7_mixedPlaces_55 : decode cX7_mixedPlaces 55 = .ok (.iconst 0, 1) := by decide +kernel
theorem dX7_mixedPlaces_56 : decode cX7_mixedPlaces 56 = .ok (.istore 5, 2) := by decide +kernel
theorem dX7_mixedPlaces_58 : decode cX7_mixedPlaces 58 = .ok (.iload 5, 2) := by decide +kernel
theorem dX7_mixedPlaces_60 : decode cX7_mixedPlaces 60 = .ok (.iconst 3, 1) := by decide +kernel
theorem dX7_mixedPlaces_61 : decode cX7_mixedPlaces 61 = .ok (.if_icmp .ge 24, 3) := by decide +kernel
theorem dX7_mixedPlaces_64 : decode cX7_mixedPlaces 64 = .ok (.lload_n 3, 1) := by decide +kernel
theorem dX7_mixedPlaces_65 : decode cX7_mixedPlaces 65 = .ok (.aload_n 0, 1) := by decide +kernel
theorem dX7_mixedPlaces_66 : decode cX7_mixedPlaces 66 = .ok (.getfield 28, 3) := by decide +kernel
theorem dX7_mixedPlaces_69 : decode cX7_mixedPlaces 69 = .ok (.iload 5, 2) := by decide +kernel
theorem dX7_mixedPlaces_71 : decode cX7_mixedPlaces 71 = .ok (.invokevirtual 154, 3) := by decide +kernel
theorem dX7_mixedPlaces_74 : decode cX7_mixedPlaces 74 = .ok (.i2l, 1) := by decide +kernel
theorem dX7_mixedPlaces_75 : decode cX7_mixedPlaces 75 = .ok (.invokestatic 287, 3) := by decide +kernel
theorem dX7_mixedPlaces_78 : decode cX7_mixedPlaces 78 = .ok (.lstore_n 3, 1) := by decide +kernel
theorem dX7_mixedPlaces_79 : decode cX7_mixedPlaces 79 = .ok (.iinc 5 1, 3) := by decide +kernel
theorem dX7_mixedPlaces_82 : decode cX7_mixedPlaces 82 = .ok (.goto (-24), 3) := by decide +kernel
theorem dX7_mixedPlaces_85 : decode cX7_mixedPlaces 85 = .ok (.lload_n 3, 1) := by decide +kernel
theorem dX7_mixedPlaces_86 : decode cX7_mixedPlaces 86 = .ok (.aload_n 0, 1) := by decide +kernel
theorem dX7_mixedPlaces_87 : decode cX7_mixedPlaces 87 = .ok (.invokevirtual 325, 3) := by decide +kernel
theorem dX7_mixedPlaces_90 : decode cX7_mixedPlaces 90 = .ok (.i2l, 1) := by decide +kernel
theorem dX7_mixedPlaces_91 : decode cX7_mixedPlaces 91 = .ok (.invokestatic 287, 3) := by decide +kernel
theorem dX7_mixedPlaces_94 : decode cX7_mixedPlaces 94 = .ok (.lstore_n 3, 1) := by decide +kernel
theorem dX7_mixedPlaces_95 : decode cX7_mixedPlaces 95 = .ok (.iconst 0, 1) := by decide +kernel
theorem dX7_mixedPlaces_96 : decode cX7_mixedPlaces 96 = .ok (.istore 5, 2) := by decide +kernel
theorem dX7_mixedPlaces_98 : decode cX7_mixedPlaces 98 = .ok (.iload 5, 2) := by decide +kernel
theorem dX7_mixedPlaces_100 : decode cX7_mixedPlaces 100 = .ok (.iconst 3, 1) := by decide +kernel
theorem dX7_mixedPlaces_101 : decode cX7_mixedPlaces 101 = .ok (.if_icmp .gt 24, 3) := by decide +kernel
theorem dX7_mixedPlaces_104 : decode cX7_mixedPlaces 104 = .ok (.lload_n 3, 1) := by decide +kernel
theorem dX7_mixedPlaces_105 : decode cX7_mixedPlaces 105 = .ok (.aload_n 0, 1) := by decide +kernel
theorem dX7_mixedPlaces_106 : decode cX7_mixedPlaces 106 = .ok (.getfield 21, 3) := by decide +kernel
theorem dX7_mixedPlaces_109 : decode cX7_mixedPlaces 109 = .ok (.iload 5, 2) := by decide +kernel
theorem dX7_mixedPlaces_111 : decode cX7_mixedPlaces 111 = .ok (.invokevirtual 246, 3) := by decide +kernel
theorem dX7_mixedPlaces_114 : decode cX7_mixedPlaces 114 = .ok (.i2l, 1) := by decide +kernel
theorem dX7_mixedPlaces_115 : decode cX7_mixedPlaces 115 = .ok (.invokestatic 287, 3) := by decide +kernel
theorem dX7_mixedPlaces_118 : decode cX7_mixedPlaces 118 = .ok (.lstore_n 3, 1) := by decide +kernel
theorem dX7_mixedPlaces_119 : decode cX7_mixedPlaces 119 = .ok (.iinc 5 1, 3) := by decide +kernel
theorem dX7_mixedPlaces_122 : decode cX7_mixedPlaces 122 = .ok (.goto (-24), 3) := by decide +kernel
theorem dX7_mixedPlaces_125 : decode cX7_mixedPlaces 125 = .ok (.lload_n 3, 1) := by decide +kernel
theorem dX7_mixedPlaces_126 : decode cX7_mixedPlaces 126 = .ok (.lreturn, 1) := by decide +kernel
theorem dX7_mixedWeights_0 : decode cX7_mixedWeights 0 = .ok (.lload_n 1, 1) := by decide +kernel
theorem dX7_mixedWeights_1 : decode cX7_mixedWeights 1 = .ok (.lstore_n 3, 1) := by decide +kernel
theorem dX7_mixedWeights_2 : decode cX7_mixedWeights 2 = .ok (.iconst 0, 1) := by decide +kernel
theorem dX7_mixedWeights_3 : decode cX7_mixedWeights 3 = .ok (.istore 5, 2) := by decide +kernel
theorem dX7_mixedWeights_5 : decode cX7_mixedWeights 5 = .ok (.iload 5, 2) := by decide +kernel
theorem dX7_mixedWeights_7 : decode cX7_mixedWeights 7 = .ok (.aload_n 0, 1) := by decide +kernel
theorem dX7_mixedWeights_8 : decode cX7_mixedWeights 8 = .ok (.getfield 10, 3) := by decide +kernel
theorem dX7_mixedWeights_11 : decode cX7_mixedWeights 11 = .ok (.getfield 166, 3) := by decide +kernel
theorem dX7_mixedWeights_14 : decode cX7_mixedWeights 14 = .ok (.if_icmp .ge 24, 3) := by decide +kernel
theorem dX7_mixedWeights_17 : decode cX7_mixedWeights 17 = .ok (.lload_n 3, 1) := by decide +kernel
theorem dX7_mixedWeights_18 : decode cX7_mixedWeights 18 = .ok (.aload_n 0, 1) := by decide +kernel
theorem dX7_mixedWeights_19 : decode cX7_mixedWeights 19 = .ok (.getfield 10, 3) := by decide +kernel
theorem dX7_mixedWeights_22 : decode cX7_mixedWeights 22 = .ok (.iload 5, 2) := by decide +kernel
theorem dX7_mixedWeights_24 : decode cX7_mixedWeights 24 = .ok (.invokevirtual 176, 3) := by decide +kernel
theorem dX7_mixedWeights_27 : decode cX7_mixedWeights 27 = .ok (.i2l, 1) := by decide +kernel
theorem dX7_mixedWeights_28 : decode cX7_mixedWeights 28 = .ok (.invokestatic 287, 3) := by decide +kernel
theorem dX7_mixedWeights_31 : decode cX7_mixedWeights 31 = .ok (.lstore_n 3, 1) := by decide +kernel
theorem dX7_mixedWeights_32 : decode cX7_mixedWeights 32 = .ok (.iinc 5 1, 3) := by decide +kernel
theorem dX7_mixedWeights_35 : decode cX7_mixedWeights 35 = .ok (.goto (-30), 3) := by decide +kernel
theorem dX7_mixedWeights_38 : decode cX7_mixedWeights 38 = .ok (.aload_n 0, 1) := by decide +kernel
theorem dX7_mixedWeights_39 : decode cX7_mixedWeights 39 = .ok (.getfield 35, 3) := by decide +kernel
theorem dX7_mixedWeights_42 : decode cX7_mixedWeights 42 = .ok (.invokevirtual 258, 3) := by decide +kernel
theorem dX7_mixedWeights_45 : decode cX7_mixedWeights 45 = .ok (.aload_n 0, 1) := by decide +kernel
theorem dX7_mixedWeights_46 : decode cX7_mixedWeights 46 = .ok (.getfield 35, 3) := by decide +kernel
theorem dX7_mixedWeights_49 : decode cX7_mixedWeights 49 = .ok (.invokevirtual 264, 3) := by decide +kernel
theorem dX7_mixedWeights_52 : decode cX7_mixedWeights 52 = .ok (.iconst 1, 1) := by decide +kernel
theorem dX7_mixedWeights_53 : decode cX7_mixedWeights 53 = .ok (.istore 5, 2) := by decide +kernel
theorem dX7_mixedWeights_55 : decode cX7_mixedWeights 55 = .ok (.iload 5, 2) := by decide +kernel
theorem dX7_mixedWeights_57 : decode cX7_mixedWeights 57 = .ok (.aload_n 0, 1) := by decide +kernel
theorem dX7_mixedWeights_58 : decode cX7_mixedWeights 58 = .ok (.getfield 10, 3) := by decide +kernel
theorem dX7_mixedWeights_61 : decode cX7_mixedWeights 61 = .ok (.getfield 166, 3) := by decide +kernel
theorem dX7_mixedWeights_64 : decode cX7_mixedWeights 64 = .ok (.if_icmp .gt 74, 3) := by decide +kernel
theorem dX7_mixedWeights_67 : decode cX7_mixedWeights 67 = .ok (.lload_n 3, 1) := by decide +kernel
theorem dX7_mixedWeights_68 : decode cX7_mixedWeights 68 = .ok (.aload_n 0, 1) := by decide +kernel
theorem dX7_mixedWeights_69 : decode cX7_mixedWeights 69 = .ok (.getfield 35, 3) := by decide +kernel
theorem dX7_mixedWeights_72 : decode cX7_mixedWeights 72 = .ok (.iload 5, 2) := by decide +kernel
theorem dX7_mixedWeights_74 : decode cX7_mixedWeights 74 = .ok (.invokevirtual 261, 3) := by decide +kernel
theorem dX7_mixedWeights_77 : decode cX7_mixedWeights 77 = .ok (.i2l, 1) := by decide +kernel
theorem dX7_mixedWeights_78 : decode cX7_mixedWeights 78 = .ok (.invokestatic 287, 3) := by decide +kernel
theorem dX7_mixedWeights_81 : decode cX7_mixedWeights 81 = .ok (.lstore_n 3, 1) := by decide +kernel
theorem dX7_mixedWeights_82 : decode cX7_mixedWeights 82 = .ok (.lload_n 3, 1) := by decide +kernel
theorem dX7_mixedWeights_83 : decode cX7_mixedWeights 83 = .ok (.aload_n 0, 1) := by decide +kernel
theorem dX7_mixedWeights_84 : decode cX7_mixedWeights 84 = .ok (.getfield 35, 3) := by decide +kernel
theorem dX7_mixedWeights_87 : decode cX7_mixedWeights 87 = .ok (.iload 5, 2) := by decide +kernel
theorem dX7_mixedWeights_89 : decode cX7_mixedWeights 89 = .ok (.invokevirtual 267, 3) := by decide +kernel
theorem dX7_mixedWeights_92 : decode cX7_mixedWeights 92 = .ok (.i2l, 1) := by decide +kernel
theorem dX7_mixedWeights_93 : decode cX7_mixedWeights 93 = .ok (.invokestatic 287, 3) := by decide +kernel
theorem dX7_mixedWeights_96 : decode cX7_mixedWeights 96 = .ok (.lstore_n 3, 1) := by decide +kernel
theorem dX7_mixedWeights_97 : decode cX7_mixedWeights 97 = .ok (.iconst 0, 1) := by decide +kernel
theorem dX7_mixedWeights_98 : decode cX7_mixedWeights 98 = .ok (.istore 6, 2) := by decide +kernel
theorem dX7_mixedWeights_100 : decode cX7_mixedWeights 100 = .ok (.iload 6, 2) := by decide +kernel
theorem dX7_mixedWeights_102 : decode cX7_mixedWeights 102 = .ok (.iload 5, 2) := by decide +kernel
theorem dX7_mixedWeights_104 : decode cX7_mixedWeights 104 = .ok (.iconst 1, 1) := by decide +kernel
theorem dX7_mixedWeights_105 : decode cX7_mixedWeights 105 = .ok (.isub, 1) := by decide +kernel
theorem dX7_mixedWeights_106 : decode cX7_mixedWeights 106 = .ok (.if_icmp .ge 26, 3) := by decide +kernel
theorem dX7_mixedWeights_109 : decode cX7_mixedWeights 109 = .ok (.lload_n 3, 1) := by decide +kernel
theorem dX7_mixedWeights_110 : decode cX7_mixedWeights 110 = .ok (.aload_n 0, 1) := by decide +kernel
theorem dX7_mixedWeights_111 : decode cX7_mixedWeights 111 = .ok (.getfield 35, 3) := by decide +kernel
theorem dX7_mixedWeights_114 : decode cX7_mixedWeights 114 = .ok (.iload 5, 2) := by decide +kernel
theorem dX7_mixedWeights_116 : decode cX7_mixedWeights 116 = .ok (.iload 6, 2) := by decide +kernel
theorem dX7_mixedWeights_118 : decode cX7_mixedWeights 118 = .ok (.invokevirtual 272, 3) := by decide +kernel
theorem dX7_mixedWeights_121 : decode cX7_mixedWeights 121 = .ok (.i2l, 1) := by decide +kernel
theorem dX7_mixedWeights_122 : decode cX7_mixedWeights 122 = .ok (.invokestatic 287, 3) := by decide +kernel
theorem dX7_mixedWeights_125 : decode cX7_mixedWeights 125 = .ok (.lstore_n 3, 1) := by decide +kernel
theorem dX7_mixedWeights_126 : decode cX7_mixedWeights 126 = .ok (.iinc 6 1, 3) := by decide +kernel
theorem dX7_mixedWeights_129 : decode cX7_mixedWeights 129 = .ok (.goto (-29), 3) := by decide +kernel
theorem dX7_mixedWeights_132 : decode cX7_mixedWeights 132 = .ok (.iinc 5 1, 3) := by decide +kernel
theorem dX7_mixedWeights_135 : decode cX7_mixedWeights 135 = .ok (.goto (-80), 3) := by decide +kernel
theorem dX7_mixedWeights_138 : decode cX7_mixedWeights 138 = .ok (.lload_n 3, 1) := by decide +kernel
theorem dX7_mixedWeights_139 : decode cX7_mixedWeights 139 = .ok (.aload_n 0, 1) := by decide +kernel
theorem dX7_mixedWeights_140 : decode cX7_mixedWeights 140 = .ok (.getfield 35, 3) := by decide +kernel
theorem dX7_mixedWeights_143 : decode cX7_mixedWeights 143 = .ok (.sipush 1000, 3) := by decide +kernel
theorem dX7_mixedWeights_146 : decode cX7_mixedWeights 146 = .ok (.invokevirtual 278, 3) := by decide +kernel
theorem dX7_mixedWeights_149 : decode cX7_mixedWeights 149 = .ok (.i2l, 1) := by decide +kernel
theorem dX7_mixedWeights_150 : decode cX7_mixedWeights 150 = .ok (.invokestatic 287, 3) := by decide +kernel
theorem dX7_mixedWeights_153 : decode cX7_mixedWeights 153 = .ok (.lreturn, 1) := by decide +kernel
theorem dX7_bitsOf_0 : decode cX7_bitsOf 0 = .ok (.dload_n 0, 1) := by decide +kernel
theorem dX7_bitsOf_1 : decode cX7_bitsOf 1 = .ok (.dconst 0, 1) := by decide +kernel
theorem dX7_bitsOf_2 : decode cX7_bitsOf 2 = .ok (.dcmp .l, 1) := by decide +kernel
theorem dX7_bitsOf_3 : decode cX7_bitsOf 3 = .ok (.ifCond .gt 5, 3) := by decide +kernel
theorem dX7_bitsOf_6 : decode cX7_bitsOf 6 = .ok (.lconst 0, 1) := by decide +kernel
theorem dX7_bitsOf_7 : decode cX7_bitsOf 7 = .ok (.lreturn, 1) := by decide +kernel
theorem dX7_bitsOf_8 : decode cX7_bitsOf 8 = .ok (.dload_n 0, 1) := by decide +kernel
theorem dX7_bitsOf_9 : decode cX7_bitsOf 9 = .ok (.dstore_n 2, 1) := by decide +kernel
theorem dX7_bitsOf_10 : decode cX7_bitsOf 10 = .ok (.ldc2_w 328, 3) := by decide +kernel
theorem dX7_bitsOf_13 : decode cX7_bitsOf 13 = .ok (.lstore 4, 2) := by decide +kernel
theorem dX7_bitsOf_15 : decode cX7_bitsOf 15 = .ok (.iconst 0, 1) := by decide +kernel
theorem dX7_bitsOf_16 : decode cX7_bitsOf 16 = .ok (.istore 6, 2) := by decide +kernel
theorem dX7_bitsOf_18 : decode cX7_bitsOf 18 = .ok (.iload 6, 2) := by decide +kernel
theorem dX7_bitsOf_20 : decode cX7_bitsOf 20 = .ok (.sipush 1022, 3) := by decide +kernel
theorem dX7_bitsOf_23 : decode cX7_bitsOf 23 = .ok (.if_icmp .ge 27, 3) := by decide +kernel
theorem dX7_bitsOf_26 : decode cX7_bitsOf 26 = .ok (.dload_n 2, 1) := by decide +kernel
theorem dX7_bitsOf_27 : decode cX7_bitsOf 27 = .ok (.dconst 1, 1) := by decide +kernel
theorem dX7_bitsOf_28 : decode cX7_bitsOf 28 = .ok (.dcmp .g, 1) := by decide +kernel
theorem dX7_bitsOf_29 : decode cX7_bitsOf 29 = .ok (.ifCond .ge 21, 3) := by decide +kernel
theorem dX7_bitsOf_32 : decode cX7_bitsOf 32 = .ok (.dload_n 2, 1) := by decide +kernel
theorem dX7_bitsOf_33 : decode cX7_bitsOf 33 = .ok (.ldc2_w 330, 3) := by decide +kernel
theorem dX7_bitsOf_36 : decode cX7_bitsOf 36 = .ok (.dmul, 1) := by decide +kernel
theorem dX7_bitsOf_37 : decode cX7_bitsOf 37 = .ok (.dstore_n 2, 1) := by decide +kernel
theorem dX7_bitsOf_38 : decode cX7_bitsOf 38 = .ok (.lload 4, 2) := by decide +kernel
theorem dX7_bitsOf_40 : decode cX7_bitsOf 40 = .ok (.lconst 1, 1) := by decide +kernel
theorem dX7_bitsOf_41 : decode cX7_bitsOf 41 = .ok (.lsub, 1) := by decide +kernel
theorem dX7_bitsOf_42 : decode cX7_bitsOf 42 = .ok (.lstore 4, 2) := by decide +kernel
theorem dX7_bitsOf_44 : decode cX7_bitsOf 44 = .ok (.iinc 6 1, 3) := by decide +kernel
theorem dX7_bitsOf_47 : decode cX7_bitsOf 47 = .ok (.goto (-29), 3) := by decide +kernel
theorem dX7_bitsOf_50 : decode cX7_bitsOf 50 = .ok (.dload_n 2, 1) := by decide +kernel
theorem dX7_bitsOf_51 : decode cX7_bitsOf 51 = .ok (.dconst 1, 1) := by decide +kernel
theorem dX7_bitsOf_52 : decode cX7_bitsOf 52 = .ok (.dsub, 1) := by decide +kernel
theorem dX7_bitsOf_53 : decode cX7_bitsOf 53 = .ok (.ldc2_w 332, 3) := by decide +kernel
theorem dX7_bitsOf_56 : decode cX7_bitsOf 56 = .ok (.dmul, 1) := by decide +kernel
theorem dX7_bitsOf_57 : decode cX7_bitsOf 57 = .ok (.d2l, 1) := by decide +kernel
theorem dX7_bitsOf_58 : decode cX7_bitsOf 58 = .ok (.lstore 6, 2) := by decide +kernel
theorem dX7_bitsOf_60 : decode cX7_bitsOf 60 = .ok (.lload 4, 2) := by decide +kernel
theorem dX7_bitsOf_62 : decode cX7_bitsOf 62 = .ok (.bipush 52, 2) := by decide +kernel
theorem dX7_bitsOf_64 : decode cX7_bitsOf 64 = .ok (.lshl, 1) := by decide +kernel
theorem dX7_bitsOf_65 : decode cX7_bitsOf 65 = .ok (.lload 6, 2) := by decide +kernel
theorem dX7_bitsOf_67 : decode cX7_bitsOf 67 = .ok (.ladd, 1) := by decide +kernel
theorem dX7_bitsOf_68 : decode cX7_bitsOf 68 = .ok (.lreturn, 1) := by decide +kernel
theorem dX7_numberIn_0 : decode cX7_numberIn 0 = .ok (.aload_n 0, 1) := by decide +kernel
theorem dX7_numberIn_1 : decode cX7_numberIn 1 = .ok (.ifnull 13, 3) := by decide +kernel
theorem dX7_numberIn_4 : decode cX7_numberIn 4 = .ok (.iload_n 1, 1) := by decide +kernel
theorem dX7_numberIn_5 : decode cX7_numberIn 5 = .ok (.ifCond .lt 9, 3) := by decide +kernel
theorem dX7_numberIn_8 : decode cX7_numberIn 8 = .ok (.iload_n 1, 1) := by decide +kernel
theorem dX7_numberIn_9 : decode cX7_numberIn 9 = .ok (.aload_n 0, 1) := by decide +kernel
theorem dX7_numberIn_10 : decode cX7_numberIn 10 = .ok (.arraylength, 1) := by decide +kernel
theorem dX7_numberIn_11 : decode cX7_numberIn 11 = .ok (.if_icmp .lt 7, 3) := by decide +kernel
theorem dX7_numberIn_14 : decode cX7_numberIn 14 = .ok (.iconst 0, 1) := by decide +kernel
theorem dX7_numberIn_15 : decode cX7_numberIn 15 = .ok (.goto 6, 3) := by decide +kernel
theorem dX7_numberIn_18 : decode cX7_numberIn 18 = .ok (.aload_n 0, 1) := by decide +kernel
theorem dX7_numberIn_19 : decode cX7_numberIn 19 = .ok (.iload_n 1, 1) := by decide +kernel
theorem dX7_numberIn_20 : decode cX7_numberIn 20 = .ok (.iaload, 1) := by decide +kernel
theorem dX7_numberIn_21 : decode cX7_numberIn 21 = .ok (.ireturn, 1) := by decide +kernel
theorem dX7_setIn_0 : decode cX7_setIn 0 = .ok (.aload_n 0, 1) := by decide +kernel
theorem dX7_setIn_1 : decode cX7_setIn 1 = .ok (.ifnull 17, 3) := by decide +kernel
theorem dX7_setIn_4 : decode cX7_setIn 4 = .ok (.iload_n 1, 1) := by decide +kernel
theorem dX7_setIn_5 : decode cX7_setIn 5 = .ok (.ifCond .lt 13, 3) := by decide +kernel
theorem dX7_setIn_8 : decode cX7_setIn 8 = .ok (.iload_n 1, 1) := by decide +kernel
theorem dX7_setIn_9 : decode cX7_setIn 9 = .ok (.aload_n 0, 1) := by decide +kernel
theorem dX7_setIn_10 : decode cX7_setIn 10 = .ok (.arraylength, 1) := by decide +kernel
theorem dX7_setIn_11 : decode cX7_setIn 11 = .ok (.if_icmp .ge 7, 3) := by decide +kernel
theorem dX7_setIn_14 : decode cX7_setIn 14 = .ok (.aload_n 0, 1) := by decide +kernel
theorem dX7_setIn_15 : decode cX7_setIn 15 = .ok (.iload_n 1, 1) := by decide +kernel
theorem dX7_setIn_16 : decode cX7_setIn 16 = .ok (.iload_n 2, 1) := by decide +kernel
theorem dX7_setIn_17 : decode cX7_setIn 17 = .ok (.iastore, 1) := by decide +kernel
theorem dX7_setIn_18 : decode cX7_setIn 18 = .ok (.return_, 1) := by decide +kernel
theorem dX7_copyAll_0 : decode cX7_copyAll 0 = .ok (.aload_n 0, 1) := by decide +kernel
theorem dX7_copyAll_1 : decode cX7_copyAll 1 = .ok (.ifnull 7, 3) := by decide +kernel
theorem dX7_copyAll_4 : decode cX7_copyAll 4 = .ok (.aload_n 1, 1) := by decide +kernel
theorem dX7_copyAll_5 : decode cX7_copyAll 5 = .ok (.ifnonnull 4, 3) := by decide +kernel
theorem dX7_copyAll_8 : decode cX7_copyAll 8 = .ok (.return_, 1) := by decide +kernel
theorem dX7_copyAll_9 : decode cX7_copyAll 9 = .ok (.iconst 0, 1) := by decide +kernel
theorem dX7_copyAll_10 : decode cX7_copyAll 10 = .ok (.istore_n 2, 1) := by decide +kernel
theorem dX7_copyAll_11 : decode cX7_copyAll 11 = .ok (.iload_n 2, 1) := by decide +kernel
theorem dX7_copyAll_12 : decode cX7_copyAll 12 = .ok (.aload_n 0, 1) := by decide +kernel
theorem dX7_copyAll_13 : decode cX7_copyAll 13 = .ok (.arraylength, 1) := by decide +kernel
theorem dX7_copyAll_14 : decode cX7_copyAll 14 = .ok (.if_icmp .ge 21, 3) := by decide +kernel
theorem dX7_copyAll_17 : decode cX7_copyAll 17 = .ok (.iload_n 2, 1) := by decide +kernel
theorem dX7_copyAll_18 : decode cX7_copyAll 18 = .ok (.aload_n 1, 1) := by decide +kernel
theorem dX7_copyAll_19 : decode cX7_copyAll 19 = .ok (.arraylength, 1) := by decide +kernel
theorem dX7_copyAll_20 : decode cX7_copyAll 20 = .ok (.if_icmp .ge 15, 3) := by decide +kernel
theorem dX7_copyAll_23 : decode cX7_copyAll 23 = .ok (.aload_n 1, 1) := by decide +kernel
theorem dX7_copyAll_24 : decode cX7_copyAll 24 = .ok (.iload_n 2, 1) := by decide +kernel
theorem dX7_copyAll_25 : decode cX7_copyAll 25 = .ok (.aload_n 0, 1) := by decide +kernel
theorem dX7_copyAll_26 : decode cX7_copyAll 26 = .ok (.iload_n 2, 1) := by decide +kernel
theorem dX7_copyAll_27 : decode cX7_copyAll 27 = .ok (.iaload, 1) := by decide +kernel
theorem dX7_copyAll_28 : decode cX7_copyAll 28 = .ok (.iastore, 1) := by decide +kernel
theorem dX7_copyAll_29 : decode cX7_copyAll 29 = .ok (.iinc 2 1, 3) := by decide +kernel
theorem dX7_copyAll_32 : decode cX7_copyAll 32 = .ok (.goto (-21), 3) := by decide +kernel
theorem dX7_copyAll_35 : decode cX7_copyAll 35 = .ok (.return_, 1) := by decide +kernel
theorem dX8_init_0 : decode cX8_init 0 = .ok (.aload_n 0, 1) := by decide +kernel
theorem dX8_init_1 : decode cX8_init 1 = .ok (.invokespecial 1, 3) := by decide +kernel
theorem dX8_init_4 : decode cX8_init 4 = .ok (.aload_n 0, 1) := by decide +kernel
theorem dX8_init_5 : decode cX8_init 5 = .ok (.bipush 116, 2) := by decide +kernel
theorem dX8_init_7 : decode cX8_init 7 = .ok (.newarray .int, 2) := by decide +kernel
theorem dX8_init_9 : decode cX8_init 9 = .ok (.putfield 7, 3) := by decide +kernel
theorem dX8_init_12 : decode cX8_init 12 = .ok (.aload_n 0, 1) := by decide +kernel
theorem dX8_init_13 : decode cX8_init 13 = .ok (.sipush 696, 3) := by decide +kernel
theorem dX8_init_16 : decode cX8_init 16 = .ok (.newarray .int, 2) := by decide +kernel
theorem dX8_init_18 : decode cX8_init 18 = .ok (.putfield 13, 3) := by decide +kernel
theorem dX8_init_21 : decode cX8_init 21 = .ok (.aload_n 0, 1) := by decide +kernel
theorem dX8_init_22 : decode cX8_init 22 = .ok (.sipush 232, 3) := by decide +kernel
theorem dX8_init_25 : decode cX8_init 25 = .ok (.newarray .int, 2) := by decide +kernel
theorem dX8_init_27 : decode cX8_init 27 = .ok (.putfield 16, 3) := by decide +kernel
theorem dX8_init_30 : decode cX8_init 30 = .ok (.aload_n 0, 1) := by decide +kernel
theorem dX8_init_31 : decode cX8_init 31 = .ok (.iconst 2, 1) := by decide +kernel
theorem dX8_init_32 : decode cX8_init 32 = .ok (.newarray .int, 2) := by decide +kernel
theorem dX8_init_34 : decode cX8_init 34 = .ok (.putfield 19, 3) := by decide +kernel
theorem dX8_init_37 : decode cX8_init 37 = .ok (.aload_n 0, 1) := by decide +kernel
theorem dX8_init_38 : decode cX8_init 38 = .ok (.bipush 60, 2) := by decide +kernel
theorem dX8_init_40 : decode cX8_init 40 = .ok (.newarray .int, 2) := by decide +kernel
theorem dX8_init_42 : decode cX8_init 42 = .ok (.putfield 22, 3) := by decide +kernel
theorem dX8_init_45 : decode cX8_init 45 = .ok (.aload_n 0, 1) := by decide +kernel
theorem dX8_init_46 : decode cX8_init 46 = .ok (.bipush 10, 2) := by decide +kernel
theorem dX8_init_48 : decode cX8_init 48 = .ok (.newarray .int, 2) := by decide +kernel
theorem dX8_init_50 : decode cX8_init 50 = .ok (.putfield 25, 3) := by decide +kernel
theorem dX8_init_53 : decode cX8_init 53 = .ok (.aload_n 0, 1) := by decide +kernel
theorem dX8_init_54 : decode cX8_init 54 = .ok (.bipush 48, 2) := by decide +kernel
theorem dX8_init_56 : decode cX8_init 56 = .ok (.newarray .int, 2) := by decide +kernel
theorem dX8_init_58 : decode cX8_init 58 = .ok (.putfield 28, 3) := by decide +kernel
theorem dX8_init_61 : decode cX8_init 61 = .ok (.aload_n 0, 1) := by decide +kernel
theorem dX8_init_62 : decode cX8_init 62 = .ok (.bipush 50, 2) := by decide +kernel
theorem dX8_init_64 : decode cX8_init 64 = .ok (.newarray .int, 2) := by decide +kernel
theorem dX8_init_66 : decode cX8_init 66 = .ok (.putfield 31, 3) := by decide +kernel
theorem dX8_init_69 : decode cX8_init 69 = .ok (.aload_n 0, 1) := by decide +kernel
theorem dX8_init_70 : decode cX8_init 70 = .ok (.iconst 5, 1) := by decide +kernel
theorem dX8_init_71 : decode cX8_init 71 = .ok (.newarray .int, 2) := by decide +kernel
theorem dX8_init_73 : decode cX8_init 73 = .ok (.putfield 34, 3) := by decide +kernel
theorem dX8_init_76 : decode cX8_init 76 = .ok (.aload_n 0, 1) := by decide +kernel
theorem dX8_init_77 : decode cX8_init 77 = .ok (.bipush 100, 2) := by decide +kernel
theorem dX8_init_79 : decode cX8_init 79 = .ok (.newarray .int, 2) := by decide +kernel
theorem dX8_init_81 : decode cX8_init 81 = .ok (.putfield 37, 3) := by decide +kernel
theorem dX8_init_84 : decode cX8_init 84 = .ok (.aload_n 0, 1) := by decide +kernel
theorem dX8_init_85 : decode cX8_init 85 = .ok (.bipush 121, 2) := by decide +kernel
theorem dX8_init_87 : decode cX8_init 87 = .ok (.newarray .int, 2) := by decide +kernel
theorem dX8_init_89 : decode cX8_init 89 = .ok (.putfield 40, 3) := by decide +kernel
theorem dX8_init_92 : decode cX8_init 92 = .ok (.aload_n 0, 1) := by decide +kernel
theorem dX8_init_93 : decode cX8_init 93 = .ok (.bipush 121, 2) := by decide +kernel
theorem dX8_init_95 : decode cX8_init 95 = .ok (.newarray .int, 2) := by decide +kernel
theorem dX8_init_97 : decode cX8_init 97 = .ok (.putfield 43, 3) := by decide +kernel
theorem dX8_init_100 : decode cX8_init 100 = .ok (.aload_n 0, 1) := by decide +kernel
theorem dX8_init_101 : decode cX8_init 101 = .ok (.getfield 7, 3) := by decide +kernel
theorem dX8_init_104 : decode cX8_init 104 = .ok (.iconst 0, 1) := by decide +kernel
theorem dX8_init_105 : decode cX8_init 105 = .ok (.iconst 4, 1) := by decide +kernel
theorem dX8_init_106 : decode cX8_init 106 = .ok (.iastore, 1) := by decide +kernel
theorem dX8_init_107 : decode cX8_init 107 = .ok (.aload_n 0, 1) := by decide +kernel
theorem dX8_init_108 : decode cX8_init 108 = .ok (.getfield 7, 3) := by decide +kernel
theorem dX8_init_111 : decode cX8_init 111 = .ok (.iconst 1, 1) := by decide +kernel
theorem dX8_init_112 : decode cX8_init 112 = .ok (.iconst 4, 1) := by decide +kernel
theorem dX8_init_113 : decode cX8_init 113 = .ok (.iastore, 1) := by decide +kernel
theorem dX8_init_114 : decode cX8_init 114 = .ok (.aload_n 0, 1) := by decide +kernel
theorem dX8_init_115 : decode cX8_init 115 = .ok (.getfield 7, 3) := by decide +kernel
theorem dX8_init_118 : decode cX8_init 118 = .ok (.iconst 5, 1) := by decide +kernel
theorem dX8_init_119 : decode cX8_init 119 = .ok (.iconst 1, 1) := by decide +kernel
theorem dX8_init_120 : decode cX8_init 120 = .ok (.iastore, 1) := by decide +kernel
theorem dX8_init_121 : decode cX8_init 121 = .ok (.aload_n 0, 1) := by decide +kernel
theorem dX8_init_122 : decode cX8_init 122 = .ok (.getfield 7, 3) := by decide +kernel
theorem dX8_init_125 : decode cX8_init 125 = .ok (.bipush 6, 2) := by decide +kernel
theorem dX8_init_127 : decode cX8_init 127 = .ok (.iconst 1, 1) := by decide +kernel
theorem dX8_init_128 : decode cX8_init 128 = .ok (.iastore, 1) := by decide +kernel
theorem dX8_init_129 : decode cX8_init 129 = .ok (.return_, 1) := by decide +kernel
theorem dX8_thrown_0 : decode cX8_thrown 0 = .ok (.aload_n 0, 1) := by decide +kernel
theorem dX8_thrown_1 : decode cX8_thrown 1 = .ok (.getfield 46, 3) := by decide +kernel
theorem dX8_thrown_4 : decode cX8_thrown 4 = .ok (.ireturn, 1) := by decide +kernel
theorem dX8_refuses_0 : decode cX8_refuses 0 = .ok (.aload_n 0, 1) := by decide +kernel
theorem dX8_refuses_1 : decode cX8_refuses 1 = .ok (.iload_n 1, 1) := by decide +kernel
theorem dX8_refuses_2 : decode cX8_refuses 2 = .ok (.putfield 46, 3) := by decide +kernel
theorem dX8_refuses_5 : decode cX8_refuses 5 = .ok (.iconst 0, 1) := by decide +kernel
theorem dX8_refuses_6 : decode cX8_refuses 6 = .ok (.ireturn, 1) := by decide +kernel
theorem dX8_in_0 : decode cX8_in 0 = .ok (.iload_n 0, 1) := by decide +kernel
theorem dX8_in_1 : decode cX8_in 1 = .ok (.iload_n 1, 1) := by decide +kernel
theorem dX8_in_2 : decode cX8_in 2 = .ok (.if_icmp .lt 12, 3) := by decide +kernel
theorem dX8_in_5 : decode cX8_in 5 = .ok (.iload_n 0, 1) := by decide +kernel
theorem dX8_in_6 : decode cX8_in 6 = .ok (.iload_n 2, 1) := by decide +kernel
theorem dX8_in_7 : decode cX8_in 7 = .ok (.if_icmp .gt 7, 3) := by decide +kernel
theorem dX8_in_10 : decode cX8_in 10 = .ok (.iconst 1, 1) := by decide +kernel
theorem dX8_in_11 : decode cX8_in 11 = .ok (.goto 4, 3) := by decide +kernel
theorem dX8_in_14 : decode cX8_in 14 = .ok (.iconst 0, 1) := by decide +kernel
theorem dX8_in_15 : decode cX8_in 15 = .ok (.ireturn, 1) := by decide +kernel
theorem dX8_lays_0 : decode cX8_lays 0 = .ok (.iconst 0, 1) := by decide +kernel
theorem dX8_lays_1 : decode cX8_lays 1 = .ok (.istore 4, 2) := by decide +kernel
theorem dX8_lays_3 : decode cX8_lays 3 = .ok (.iload 4, 2) := by decide +kernel
theorem dX8_lays_5 : decode cX8_lays 5 = .ok (.bipush 116, 2) := by decide +kernel
theorem dX8_lays_7 : decode cX8_lays 7 = .ok (.if_icmp .ge 21, 3) := by decide +kernel
theorem dX8_lays_10 : decode cX8_lays 10 = .ok (.aload_n 2, 1) := by decide +kernel
theorem dX8_lays_11 : decode cX8_lays 11 = .ok (.iload_n 3, 1) := by decide +kernel
theorem dX8_lays_12 : decode cX8_lays 12 = .ok (.iload 4, 2) := by decide +kernel
theorem dX8_lays_14 : decode cX8_lays 14 = .ok (.iadd, 1) := by decide +kernel
theorem dX8_lays_15 : decode cX8_lays 15 = .ok (.aload_n 0, 1) := by decide +kernel
theorem dX8_lays_16 : decode cX8_lays 16 = .ok (.iload_n 1, 1) := by decide +kernel
theorem dX8_lays_17 : decode cX8_lays 17 = .ok (.iload 4, 2) := by decide +kernel
theorem dX8_lays_19 : decode cX8_lays 19 = .ok (.iadd, 1) := by decide +kernel
theorem dX8_lays_20 : decode cX8_lays 20 = .ok (.iaload, 1) := by decide +kernel
theorem dX8_lays_21 : decode cX8_lays 21 = .ok (.iastore, 1) := by decide +kernel
theorem dX8_lays_22 : decode cX8_lays 22 = .ok (.iinc 4 1, 3) := by decide +kernel
theorem dX8_lays_25 : decode cX8_lays 25 = .ok (.goto (-22), 3) := by decide +kernel
theorem dX8_lays_28 : decode cX8_lays 28 = .ok (.return_, 1) := by decide +kernel
theorem dX8_saves_0 : decode cX8_saves 0 = .ok (.aload_n 0, 1) := by decide +kernel
theorem dX8_saves_1 : decode cX8_saves 1 = .ok (.getfield 50, 3) := by decide +kernel
theorem dX8_saves_4 : decode cX8_saves 4 = .ok (.bipush 6, 2) := by decide +kernel
theorem dX8_saves_6 : decode cX8_saves 6 = .ok (.if_icmp .ne 43, 3) := by decide +kernel
theorem dX8_saves_9 : decode cX8_saves 9 = .ok (.iconst 0, 1) := by decide +kernel
theorem dX8_saves_10 : decode cX8_saves 10 = .ok (.istore_n 1, 1) := by decide +kernel
theorem dX8_saves_11 : decode cX8_saves 11 = .ok (.iload_n 1, 1) := by decide +kernel
theorem dX8_saves_12 : decode cX8_saves 12 = .ok (.sipush 580, 3) := by decide +kernel
theorem dX8_saves_15 : decode cX8_saves 15 = .ok (.if_icmp .ge 24, 3) := by decide +kernel
theorem dX8_saves_18 : decode cX8_saves 18 = .ok (.aload_n 0, 1) := by decide +kernel
theorem dX8_saves_19 : decode cX8_saves 19 = .ok (.getfield 13, 3) := by decide +kernel
theorem dX8_saves_22 : decode cX8_saves 22 = .ok (.iload_n 1, 1) := by decide +kernel
theorem dX8_saves_23 : decode cX8_saves 23 = .ok (.aload_n 0, 1) := by decide +kernel
theorem dX8_saves_24 : decode cX8_saves 24 = .ok (.getfield 13, 3) := by decide +kernel
theorem dX8_saves_27 : decode cX8_saves 27 = .ok (.iload_n 1, 1) := by decide +kernel
theorem dX8_saves_28 : decode cX8_saves 28 = .ok (.bipush 116, 2) := by decide +kernel
theorem dX8_saves_30 : decode cX8_saves 30 = .ok (.iadd, 1) := by decide +kernel
theorem dX8_saves_31 : decode cX8_saves 31 = .ok (.iaload, 1) := by decide +kernel
theorem dX8_saves_32 : decode cX8_saves 32 = .ok (.iastore, 1) := by decide +kernel
theorem dX8_saves_33 : decode cX8_saves 33 = .ok (.iinc 1 1, 3) := by decide +kernel
theorem dX8_saves_36 : decode cX8_saves 36 = .ok (.goto (-25), 3) := by decide +kernel
theorem dX8_saves_39 : decode cX8_saves 39 = .ok (.aload_n 0, 1) := by decide +kernel
theorem dX8_saves_40 : decode cX8_saves 40 = .ok (.dup, 1) := by decide +kernel
theorem dX8_saves_41 : decode cX8_saves 41 = .ok (.getfield 50, 3) := by decide +kernel
theorem dX8_saves_44 : decode cX8_saves 44 = .ok (.iconst 1, 1) := by decide +kernel
theorem dX8_saves_45 : decode cX8_saves 45 = .ok (.isub, 1) := by decide +kernel
theorem dX8_saves_46 : decode cX8_saves 46 = .ok (.putfield 50, 3) := by decide +kernel
theorem dX8_saves_49 : decode cX8_saves 49 = .ok (.aload_n 0, 1) := by decide +kernel
theorem dX8_saves_50 : decode cX8_saves 50 = .ok (.getfield 7, 3) := by decide +kernel
theorem dX8_saves_53 : decode cX8_saves 53 = .ok (.iconst 0, 1) := by decide +kernel
theorem dX8_saves_54 : decode cX8_saves 54 = .ok (.aload_n 0, 1) := by decide +kernel
theorem dX8_saves_55 : decode cX8_saves 55 = .ok (.getfield 13, 3) := by decide +kernel
theorem dX8_saves_58 : decode cX8_saves 58 = .ok (.bipush 116, 2) := by decide +kernel
theorem dX8_saves_60 : decode cX8_saves 60 = .ok (.aload_n 0, 1) := by decide +kernel
theorem dX8_saves_61 : decode cX8_saves 61 = .ok (.getfield 50, 3) := by decide +kernel
theorem dX8_saves_64 : decode cX8_saves 64 = .ok (.imul, 1) := by decide +kernel
theorem dX8_saves_65 : decode cX8_saves 65 = .ok (.invokestatic 53, 3) := by decide +kernel
theorem dX8_saves_68 : decode cX8_saves 68 = .ok (.aload_n 0, 1) := by decide +kernel
theorem dX8_saves_69 : decode cX8_saves 69 = .ok (.dup, 1) := by decide +kernel
theorem dX8_saves_70 : decode cX8_saves 70 = .ok (.getfield 50, 3) := by decide +kernel
theorem dX8_saves_73 : decode cX8_saves 73 = .ok (.iconst 1, 1) := by decide +kernel
theorem dX8_saves_74 : decode cX8_saves 74 = .ok (.iadd, 1) := by decide +kernel
theorem dX8_saves_75 : decode cX8_saves 75 = .ok (.putfield 50, 3) := by decide +kernel
theorem dX8_saves_78 : decode cX8_saves 78 = .ok (.return_, 1) := by decide +kernel
theorem dX8_at_0 : decode cX8_at 0 = .ok (.aload_n 0, 1) := by decide +kernel
theorem dX8_at_1 : decode cX8_at 1 = .ok (.getfield 7, 3) := by decide +kernel
theorem dX8_at_4 : decode cX8_at 4 = .ok (.bipush 16, 2) := by decide +kernel
theorem dX8_at_6 : decode cX8_at 6 = .ok (.bipush 10, 2) := by decide +kernel
theorem dX8_at_8 : decode cX8_at 8 = .ok (.iload_n 1, 1) := by decide +kernel
theorem dX8_at_9 : decode cX8_at 9 = .ok (.imul, 1) := by decide +kernel
theorem dX8_at_10 : decode cX8_at 10 = .ok (.iadd, 1) := by decide +kernel
theorem dX8_at_11 : decode cX8_at 11 = .ok (.iload_n 2, 1) := by decide +kernel
theorem dX8_at_12 : decode cX8_at 12 = .ok (.iadd, 1) := by decide +kernel
theorem dX8_at_13 : decode cX8_at 13 = .ok (.iaload, 1) := by decide +kernel
theorem dX8_at_14 : decode cX8_at 14 = .ok (.ireturn, 1) := by decide +kernel
theorem dX8_becomes_0 : decode cX8_becomes 0 = .ok (.aload_n 0, 1) := by decide +kernel
theorem dX8_becomes_1 : decode cX8_becomes 1 = .ok (.getfield 7, 3) := by decide +kernel
theorem dX8_becomes_4 : decode cX8_becomes 4 = .ok (.bipush 16, 2) := by decide +kernel
theorem dX8_becomes_6 : decode cX8_becomes 6 = .ok (.bipush 10, 2) := by decide +kernel
theorem dX8_becomes_8 : decode cX8_becomes 8 = .ok (.iload_n 1, 1) := by decide +kernel
theorem dX8_becomes_9 : decode cX8_becomes 9 = .ok (.imul, 1) := by decide +kernel
theorem dX8_becomes_10 : decode cX8_becomes 10 = .ok (.iadd, 1) := by decide +kernel
theorem dX8_becomes_11 : decode cX8_becomes 11 = .ok (.iload_n 2, 1) := by decide +kernel
theorem dX8_becomes_12 : decode cX8_becomes 12 = .ok (.iadd, 1) := by decide +kernel
theorem dX8_becomes_13 : decode cX8_becomes 13 = .ok (.iload_n 3, 1) := by decide +kernel
theorem dX8_becomes_14 : decode cX8_becomes 14 = .ok (.iastore, 1) := by decide +kernel
theorem dX8_becomes_15 : decode cX8_becomes 15 = .ok (.return_, 1) := by decide +kernel
theorem dX8_isAgainst_0 : decode cX8_isAgainst 0 = .ok (.aload_n 0, 1) := by decide +kernel
theorem dX8_isAgainst_1 : decode cX8_isAgainst 1 = .ok (.iload_n 1, 1) := by decide +kernel
theorem dX8_isAgainst_2 : decode cX8_isAgainst 2 = .ok (.iload_n 2, 1) := by decide +kernel
theorem dX8_isAgainst_3 : decode cX8_isAgainst 3 = .ok (.invokevirtual 57, 3) := by decide +kernel
theorem dX8_isAgainst_6 : decode cX8_isAgainst 6 = .ok (.aload_n 0, 1) := by decide +kernel
theorem dX8_isAgainst_7 : decode cX8_isAgainst 7 = .ok (.iload_n 1, 1) := by decide +kernel
theorem dX8_isAgainst_8 : decode cX8_isAgainst 8 = .ok (.iload_n 3, 1) := by decide +kernel
theorem dX8_isAgainst_9 : decode cX8_isAgainst 9 = .ok (.invokevirtual 57, 3) := by decide +kernel
theorem dX8_isAgainst_12 : decode cX8_isAgainst 12 = .ok (.if_icmp .le 26, 3) := by decide +kernel
theorem dX8_isAgainst_15 : decode cX8_isAgainst 15 = .ok (.aload_n 0, 1) := by decide +kernel
theorem dX8_isAgainst_16 : decode cX8_isAgainst 16 = .ok (.iload_n 1, 1) := by decide +kernel
theorem dX8_isAgainst_17 : decode cX8_isAgainst 17 = .ok (.iconst 1, 1) := by decide +kernel
theorem dX8_isAgainst_18 : decode cX8_isAgainst 18 = .ok (.iadd, 1) := by decide +kernel
theorem dX8_isAgainst_19 : decode cX8_isAgainst 19 = .ok (.iload_n 2, 1) := by decide +kernel
theorem dX8_isAgainst_20 : decode cX8_isAgainst 20 = .ok (.invokevirtual 57, 3) := by decide +kernel
theorem dX8_isAgainst_23 : decode cX8_isAgainst 23 = .ok (.aload_n 0, 1) := by decide +kernel
theorem dX8_isAgainst_24 : decode cX8_isAgainst 24 = .ok (.iload_n 1, 1) := by decide +kernel
theorem dX8_isAgainst_25 : decode cX8_isAgainst 25 = .ok (.iconst 1, 1) := by decide +kernel
theorem dX8_isAgainst_26 : decode cX8_isAgainst 26 = .ok (.iadd, 1) := by decide +kernel
theorem dX8_isAgainst_27 : decode cX8_isAgainst 27 = .ok (.iload_n 3, 1) := by decide +kernel
theorem dX8_isAgainst_28 : decode cX8_isAgainst 28 = .ok (.invokevirtual 57, 3) := by decide +kernel
theorem dX8_isAgainst_31 : decode cX8_isAgainst 31 = .ok (.if_icmp .gt 7, 3) := by decide +kernel
theorem dX8_isAgainst_34 : decode cX8_isAgainst 34 = .ok (.iconst 1, 1) := by decide +kernel
theorem dX8_isAgainst_35 : decode cX8_isAgainst 35 = .ok (.goto 4, 3) := by decide +kernel
theorem dX8_isAgainst_38 : decode cX8_isAgainst 38 = .ok (.iconst 0, 1) := by decide +kernel
theorem dX8_isAgainst_39 : decode cX8_isAgainst 39 = .ok (.ireturn, 1) := by decide +kernel
theorem dX8_witnesses_0 : decode cX8_witnesses 0 = .ok (.iconst 0, 1) := by decide +kernel
theorem dX8_witnesses_1 : decode cX8_witnesses 1 = .ok (.istore_n 1, 1) := by decide +kernel
theorem dX8_witnesses_2 : decode cX8_witnesses 2 = .ok (.iconst 0, 1) := by decide +kernel
theorem dX8_witnesses_3 : decode cX8_witnesses 3 = .ok (.istore_n 2, 1) := by decide +kernel
theorem dX8_witnesses_4 : decode cX8_witnesses 4 = .ok (.iload_n 2, 1) := by decide +kernel
theorem dX8_witnesses_5 : decode cX8_witnesses 5 = .ok (.bipush 100, 2) := by decide +kernel
theorem dX8_witnesses_7 : decode cX8_witnesses 7 = .ok (.aload_n 0, 1) := by decide +kernel
theorem dX8_witnesses_8 : decode cX8_witnesses 8 = .ok (.getfield 7, 3) := by decide +kernel
theorem dX8_witnesses_11 : decode cX8_witnesses 11 = .ok (.iconst 0, 1) := by decide +kernel
theorem dX8_witnesses_12 : decode cX8_witnesses 12 = .ok (.iaload, 1) := by decide +kernel
theorem dX8_witnesses_13 : decode cX8_witnesses 13 = .ok (.iconst 1, 1) := by decide +kernel
theorem dX8_witnesses_14 : decode cX8_witnesses 14 = .ok (.isub, 1) := by decide +kernel
theorem dX8_witnesses_15 : decode cX8_witnesses 15 = .ok (.imul, 1) := by decide +kernel
theorem dX8_witnesses_16 : decode cX8_witnesses 16 = .ok (.if_icmp .ge 62, 3) := by decide +kernel
theorem dX8_witnesses_19 : decode cX8_witnesses 19 = .ok (.iload_n 2, 1) := by decide +kernel
theorem dX8_witnesses_20 : decode cX8_witnesses 20 = .ok (.bipush 10, 2) := by decide +kernel
theorem dX8_witnesses_22 : decode cX8_witnesses 22 = .ok (.idiv, 1) := by decide +kernel
theorem dX8_witnesses_23 : decode cX8_witnesses 23 = .ok (.bipush 10, 2) := by decide +kernel
theorem dX8_witnesses_25 : decode cX8_witnesses 25 = .ok (.irem, 1) := by decide +kernel
theorem dX8_witnesses_26 : decode cX8_witnesses 26 = .ok (.istore_n 3, 1) := by decide +kernel
theorem dX8_witnesses_27 : decode cX8_witnesses 27 = .ok (.iload_n 2, 1) := by decide +kernel
theorem dX8_witnesses_28 : decode cX8_witnesses 28 = .ok (.bipush 10, 2) := by decide +kernel
theorem dX8_witnesses_30 : decode cX8_witnesses 30 = .ok (.irem, 1) := by decide +kernel
theorem dX8_witnesses_31 : decode cX8_witnesses 31 = .ok (.istore 4, 2) := by decide +kernel
theorem dX8_witnesses_33 : decode cX8_witnesses 33 = .ok (.iload_n 1, 1) := by decide +kernel
theorem dX8_witnesses_34 : decode cX8_witnesses 34 = .ok (.iload_n 3, 1) := by decide +kernel
theorem dX8_witnesses_35 : decode cX8_witnesses 35 = .ok (.iload 4, 2) := by decide +kernel
theorem dX8_witnesses_37 : decode cX8_witnesses 37 = .ok (.if_icmp .ge 32, 3) := by decide +kernel
theorem dX8_witnesses_40 : decode cX8_witnesses 40 = .ok (.iload 4, 2) := by decide +kernel
theorem dX8_witnesses_42 : decode cX8_witnesses 42 = .ok (.aload_n 0, 1) := by decide +kernel
theorem dX8_witnesses_43 : decode cX8_witnesses 43 = .ok (.getfield 7, 3) := by decide +kernel
theorem dX8_witnesses_46 : decode cX8_witnesses 46 = .ok (.iconst 1, 1) := by decide +kernel
theorem dX8_witnesses_47 : decode cX8_witnesses 47 = .ok (.iaload, 1) := by decide +kernel
theorem dX8_witnesses_48 : decode cX8_witnesses 48 = .ok (.if_icmp .ge 21, 3) := by decide +kernel
theorem dX8_witnesses_51 : decode cX8_witnesses 51 = .ok (.aload_n 0, 1) := by decide +kernel
theorem dX8_witnesses_52 : decode cX8_witnesses 52 = .ok (.iload_n 2, 1) := by decide +kernel
theorem dX8_witnesses_53 : decode cX8_witnesses 53 = .ok (.bipush 100, 2) := by decide +kernel
theorem dX8_witnesses_55 : decode cX8_witnesses 55 = .ok (.idiv, 1) := by decide +kernel
theorem dX8_witnesses_56 : decode cX8_witnesses 56 = .ok (.iload_n 3, 1) := by decide +kernel
theorem dX8_witnesses_57 : decode cX8_witnesses 57 = .ok (.iload 4, 2) := by decide +kernel
theorem dX8_witnesses_59 : decode cX8_witnesses 59 = .ok (.invokevirtual 61, 3) := by decide +kernel
theorem dX8_witnesses_62 : decode cX8_witnesses 62 = .ok (.ifCond .eq 7, 3) := by decide +kernel
theorem dX8_witnesses_65 : decode cX8_witnesses 65 = .ok (.iconst 1, 1) := by decide +kernel
theorem dX8_witnesses_66 : decode cX8_witnesses 66 = .ok (.goto 4, 3) := by decide +kernel
theorem dX8_witnesses_69 : decode cX8_witnesses 69 = .ok (.iconst 0, 1) := by decide +kernel
theorem dX8_witnesses_70 : decode cX8_witnesses 70 = .ok (.iadd, 1) := by decide +kernel
theorem dX8_witnesses_71 : decode cX8_witnesses 71 = .ok (.istore_n 1, 1) := by decide +kernel
theorem dX8_witnesses_72 : decode cX8_witnesses 72 = .ok (.iinc 2 1, 3) := by decide +kernel
theorem dX8_witnesses_75 : decode cX8_witnesses 75 = .ok (.goto (-71), 3) := by decide +kernel
theorem dX8_witnesses_78 : decode cX8_witnesses 78 = .ok (.iload_n 1, 1) := by decide +kernel
theorem dX8_witnesses_79 : decode cX8_witnesses 79 = .ok (.ireturn, 1) := by decide +kernel
theorem dX8_first_0 : decode cX8_first 0 = .ok (.iconst 0, 1) := by decide +kernel
theorem dX8_first_1 : decode cX8_first 1 = .ok (.istore_n 1, 1) := by decide +kernel
theorem dX8_first_2 : decode cX8_first 2 = .ok (.iload_n 1, 1) := by decide +kernel
theorem dX8_first_3 : decode cX8_first 3 = .ok (.bipush 100, 2) := by decide +kernel
theorem dX8_first_5 : decode cX8_first 5 = .ok (.aload_n 0, 1) := by decide +kernel
theorem dX8_first_6 : decode cX8_first 6 = .ok (.getfield 7, 3) := by decide +kernel
theorem dX8_first_9 : decode cX8_first 9 = .ok (.iconst 0, 1) := by decide +kernel
theorem dX8_first_10 : decode cX8_first 10 = .ok (.iaload, 1) := by decide +kernel
theorem dX8_first_11 : decode cX8_first 11 = .ok (.iconst 1, 1) := by decide +kernel
theorem dX8_first_12 : decode cX8_first 12 = .ok (.isub, 1) := by decide +kernel
theorem dX8_first_13 : decode cX8_first 13 = .ok (.imul, 1) := by decide +kernel
theorem dX8_first_14 : decode cX8_first 14 = .ok (.if_icmp .ge 52, 3) := by decide +kernel
theorem dX8_first_17 : decode cX8_first 17 = .ok (.iload_n 1, 1) := by decide +kernel
theorem dX8_first_18 : decode cX8_first 18 = .ok (.bipush 10, 2) := by decide +kernel
theorem dX8_first_20 : decode cX8_first 20 = .ok (.idiv, 1) := by decide +kernel
theorem dX8_first_21 : decode cX8_first 21 = .ok (.bipush 10, 2) := by decide +kernel
theorem dX8_first_23 : decode cX8_first 23 = .ok (.irem, 1) := by decide +kernel
theorem dX8_first_24 : decode cX8_first 24 = .ok (.istore_n 2, 1) := by decide +kernel
theorem dX8_first_25 : decode cX8_first 25 = .ok (.iload_n 1, 1) := by decide +kernel
theorem dX8_first_26 : decode cX8_first 26 = .ok (.bipush 10, 2) := by decide +kernel
theorem dX8_first_28 : decode cX8_first 28 = .ok (.irem, 1) := by decide +kernel
theorem dX8_first_29 : decode cX8_first 29 = .ok (.istore_n 3, 1) := by decide +kernel
theorem dX8_first_30 : decode cX8_first 30 = .ok (.iload_n 2, 1) := by decide +kernel
theorem dX8_first_31 : decode cX8_first 31 = .ok (.iload_n 3, 1) := by decide +kernel
theorem dX8_first_32 : decode cX8_first 32 = .ok (.if_icmp .ge 28, 3) := by decide +kernel
theorem dX8_first_35 : decode cX8_first 35 = .ok (.iload_n 3, 1) := by decide +kernel
theorem dX8_first_36 : decode cX8_first 36 = .ok (.aload_n 0, 1) := by decide +kernel
theorem dX8_first_37 : decode cX8_first 37 = .ok (.getfield 7, 3) := by decide +kernel
theorem dX8_first_40 : decode cX8_first 40 = .ok (.iconst 1, 1) := by decide +kernel
theorem dX8_first_41 : decode cX8_first 41 = .ok (.iaload, 1) := by decide +kernel
theorem dX8_first_42 : decode cX8_first 42 = .ok (.if_icmp .ge 18, 3) := by decide +kernel
theorem dX8_first_45 : decode cX8_first 45 = .ok (.aload_n 0, 1) := by decide +kernel
theorem dX8_first_46 : decode cX8_first 46 = .ok (.iload_n 1, 1) := by decide +kernel
theorem dX8_first_47 : decode cX8_first 47 = .ok (.bipush 100, 2) := by decide +kernel
theorem dX8_first_49 : decode cX8_first 49 = .ok (.idiv, 1) := by decide +kernel
theorem dX8_first_50 : decode cX8_first 50 = .ok (.iload_n 2, 1) := by decide +kernel
theorem dX8_first_51 : decode cX8_first 51 = .ok (.iload_n 3, 1) := by decide +kernel
theorem dX8_first_52 : decode cX8_first 52 = .ok (.invokevirtual 61, 3) := by decide +kernel
theorem dX8_first_55 : decode cX8_first 55 = .ok (.ifCond .eq 5, 3) := by decide +kernel
theorem dX8_first_58 : decode cX8_first 58 = .ok (.iload_n 1, 1) := by decide +kernel
theorem dX8_first_59 : decode cX8_first 59 = .ok (.ireturn, 1) := by decide +kernel
theorem dX8_first_60 : decode cX8_first 60 = .ok (.iinc 1 1, 3) := by decide +kernel
theorem dX8_first_63 : decode cX8_first 63 = .ok (.goto (-61), 3) := by decide +kernel
theorem dX8_first_66 : decode cX8_first 66 = .ok (.iconst (-1), 1) := by decide +kernel
theorem dX8_first_67 : decode cX8_first 67 = .ok (.ireturn, 1) := by decide +kernel
theorem dX8_isKeeping_0 : decode cX8_isKeeping 0 = .ok (.aload_n 0, 1) := by decide +kernel
theorem dX8_isKeeping_1 : decode cX8_isKeeping 1 = .ok (.invokevirtual 65, 3) := by decide +kernel
theorem dX8_isKeeping_4 : decode cX8_isKeeping 4 = .ok (.iconst (-1), 1) := by decide +kernel
theorem dX8_isKeeping_5 : decode cX8_isKeeping 5 = .ok (.if_icmp .ne 7, 3) := by decide +kernel
theorem dX8_isKeeping_8 : decode cX8_isKeeping 8 = .ok (.iconst 1, 1) := by decide +kernel
theorem dX8_isKeeping_9 : decode cX8_isKeeping 9 = .ok (.goto 4, 3) := by decide +kernel
theorem dX8_isKeeping_12 : decode cX8_isKeeping 12 = .ok (.iconst 0, 1) := by decide +kernel
theorem dX8_isKeeping_13 : decode cX8_isKeeping 13 = .ok (.ireturn, 1) := by decide +kernel
theorem dX8_least_0 : decode cX8_least 0 = .ok (.iload_n 2, 1) := by decide +kernel
theorem dX8_least_1 : decode cX8_least 1 = .ok (.istore 4, 2) := by decide +kernel
theorem dX8_least_3 : decode cX8_least 3 = .ok (.iload_n 2, 1) := by decide +kernel
theorem dX8_least_4 : decode cX8_least 4 = .ok (.istore 5, 2) := by decide +kernel
theorem dX8_least_6 : decode cX8_least 6 = .ok (.iload 5, 2) := by decide +kernel
theorem dX8_least_8 : decode cX8_least 8 = .ok (.iload_n 3, 1) := by decide +kernel
theorem dX8_least_9 : decode cX8_least 9 = .ok (.if_icmp .gt 35, 3) := by decide +kernel
theorem dX8_least_12 : decode cX8_least 12 = .ok (.aload_n 0, 1) := by decide +kernel
theorem dX8_least_13 : decode cX8_least 13 = .ok (.iload_n 1, 1) := by decide +kernel
theorem dX8_least_14 : decode cX8_least 14 = .ok (.iload 5, 2) := by decide +kernel
theorem dX8_least_16 : decode cX8_least 16 = .ok (.invokevirtual 57, 3) := by decide +kernel
theorem dX8_least_19 : decode cX8_least 19 = .ok (.aload_n 0, 1) := by decide +kernel
theorem dX8_least_20 : decode cX8_least 20 = .ok (.iload_n 1, 1) := by decide +kernel
theorem dX8_least_21 : decode cX8_least 21 = .ok (.iload 4, 2) := by decide +kernel
theorem dX8_least_23 : decode cX8_least 23 = .ok (.invokevirtual 57, 3) := by decide +kernel
theorem dX8_least_26 : decode cX8_least 26 = .ok (.if_icmp .ge 8, 3) := by decide +kernel
theorem dX8_least_29 : decode cX8_least 29 = .ok (.iload 5, 2) := by decide +kernel
theorem dX8_least_31 : decode cX8_least 31 = .ok (.goto 5, 3) := by decide +kernel
theorem dX8_least_34 : decode cX8_least 34 = .ok (.iload 4, 2) := by decide +kernel
theorem dX8_least_36 : decode cX8_least 36 = .ok (.istore 4, 2) := by decide +kernel
theorem dX8_least_38 : decode cX8_least 38 = .ok (.iinc 5 1, 3) := by decide +kernel
theorem dX8_least_41 : decode cX8_least 41 = .ok (.goto (-35), 3) := by decide +kernel
theorem dX8_least_44 : decode cX8_least 44 = .ok (.aload_n 0, 1) := by decide +kernel
theorem dX8_least_45 : decode cX8_least 45 = .ok (.dup, 1) := by decide +kernel
theorem dX8_least_46 : decode cX8_least 46 = .ok (.getfield 69, 3) := by decide +kernel
theorem dX8_least_49 : decode cX8_least 49 = .ok (.iload_n 3, 1) := by decide +kernel
theorem dX8_least_50 : decode cX8_least 50 = .ok (.iload_n 2, 1) := by decide +kernel
theorem dX8_least_51 : decode cX8_least 51 = .ok (.isub, 1) := by decide +kernel
theorem dX8_least_52 : decode cX8_least 52 = .ok (.iconst 1, 1) := by decide +kernel
theorem dX8_least_53 : decode cX8_least 53 = .ok (.iadd, 1) := by decide +kernel
theorem dX8_least_54 : decode cX8_least 54 = .ok (.iadd, 1) := by decide +kernel
theorem dX8_least_55 : decode cX8_least 55 = .ok (.putfield 69, 3) := by decide +kernel
theorem dX8_least_58 : decode cX8_least 58 = .ok (.iload 4, 2) := by decide +kernel
theorem dX8_least_60 : decode cX8_least 60 = .ok (.ireturn, 1) := by decide +kernel
theorem dX8_byAll_0 : decode cX8_byAll 0 = .ok (.iconst 0, 1) := by decide +kernel
theorem dX8_byAll_1 : decode cX8_byAll 1 = .ok (.istore_n 1, 1) := by decide +kernel
theorem dX8_byAll_2 : decode cX8_byAll 2 = .ok (.iload_n 1, 1) := by decide +kernel
theorem dX8_byAll_3 : decode cX8_byAll 3 = .ok (.aload_n 0, 1) := by decide +kernel
theorem dX8_byAll_4 : decode cX8_byAll 4 = .ok (.getfield 7, 3) := by decide +kernel
theorem dX8_byAll_7 : decode cX8_byAll 7 = .ok (.iconst 0, 1) := by decide +kernel
theorem dX8_byAll_8 : decode cX8_byAll 8 = .ok (.iaload, 1) := by decide +kernel
theorem dX8_byAll_9 : decode cX8_byAll 9 = .ok (.if_icmp .ge 29, 3) := by decide +kernel
theorem dX8_byAll_12 : decode cX8_byAll 12 = .ok (.aload_n 0, 1) := by decide +kernel
theorem dX8_byAll_13 : decode cX8_byAll 13 = .ok (.getfield 25, 3) := by decide +kernel
theorem dX8_byAll_16 : decode cX8_byAll 16 = .ok (.iload_n 1, 1) := by decide +kernel
theorem dX8_byAll_17 : decode cX8_byAll 17 = .ok (.aload_n 0, 1) := by decide +kernel
theorem dX8_byAll_18 : decode cX8_byAll 18 = .ok (.iload_n 1, 1) := by decide +kernel
theorem dX8_byAll_19 : decode cX8_byAll 19 = .ok (.iconst 0, 1) := by decide +kernel
theorem dX8_byAll_20 : decode cX8_byAll 20 = .ok (.aload_n 0, 1) := by decide +kernel
theorem dX8_byAll_21 : decode cX8_byAll 21 = .ok (.getfield 7, 3) := by decide +kernel
theorem dX8_byAll_24 : decode cX8_byAll 24 = .ok (.iconst 1, 1) := by decide +kernel
theorem dX8_byAll_25 : decode cX8_byAll 25 = .ok (.iaload, 1) := by decide +kernel
theorem dX8_byAll_26 : decode cX8_byAll 26 = .ok (.iconst 1, 1) := by decide +kernel
theorem dX8_byAll_27 : decode cX8_byAll 27 = .ok (.isub, 1) := by decide +kernel
theorem dX8_byAll_28 : decode cX8_byAll 28 = .ok (.invokevirtual 72, 3) := by decide +kernel
theorem dX8_byAll_31 : decode cX8_byAll 31 = .ok (.iastore, 1) := by decide +kernel
theorem dX8_byAll_32 : decode cX8_byAll 32 = .ok (.iinc 1 1, 3) := by decide +kernel
theorem dX8_byAll_35 : decode cX8_byAll 35 = .ok (.goto (-33), 3) := by decide +kernel
theorem dX8_byAll_38 : decode cX8_byAll 38 = .ok (.return_, 1) := by decide +kernel
theorem dX8_opens_0 : decode cX8_opens 0 = .ok (.iload_n 1, 1) := by decide +kernel
theorem dX8_opens_1 : decode cX8_opens 1 = .ok (.iload_n 2, 1) := by decide +kernel
theorem dX8_opens_2 : decode cX8_opens 2 = .ok (.if_icmp .gt 68, 3) := by decide +kernel
theorem dX8_opens_5 : decode cX8_opens 5 = .ok (.aload_n 0, 1) := by decide +kernel
theorem dX8_opens_6 : decode cX8_opens 6 = .ok (.getfield 28, 3) := by decide +kernel
theorem dX8_opens_9 : decode cX8_opens 9 = .ok (.iconst 4, 1) := by decide +kernel
theorem dX8_opens_10 : decode cX8_opens 10 = .ok (.aload_n 0, 1) := by decide +kernel
theorem dX8_opens_11 : decode cX8_opens 11 = .ok (.getfield 76, 3) := by decide +kernel
theorem dX8_opens_14 : decode cX8_opens 14 = .ok (.imul, 1) := by decide +kernel
theorem dX8_opens_15 : decode cX8_opens 15 = .ok (.iload_n 1, 1) := by decide +kernel
theorem dX8_opens_16 : decode cX8_opens 16 = .ok (.iastore, 1) := by decide +kernel
theorem dX8_opens_17 : decode cX8_opens 17 = .ok (.aload_n 0, 1) := by decide +kernel
theorem dX8_opens_18 : decode cX8_opens 18 = .ok (.getfield 28, 3) := by decide +kernel
theorem dX8_opens_21 : decode cX8_opens 21 = .ok (.iconst 4, 1) := by decide +kernel
theorem dX8_opens_22 : decode cX8_opens 22 = .ok (.aload_n 0, 1) := by decide +kernel
theorem dX8_opens_23 : decode cX8_opens 23 = .ok (.getfield 76, 3) := by decide +kernel
theorem dX8_opens_26 : decode cX8_opens 26 = .ok (.imul, 1) := by decide +kernel
theorem dX8_opens_27 : decode cX8_opens 27 = .ok (.iconst 1, 1) := by decide +kernel
theorem dX8_opens_28 : decode cX8_opens 28 = .ok (.iadd, 1) := by decide +kernel
theorem dX8_opens_29 : decode cX8_opens 29 = .ok (.iload_n 2, 1) := by decide +kernel
theorem dX8_opens_30 : decode cX8_opens 30 = .ok (.iastore, 1) := by decide +kernel
theorem dX8_opens_31 : decode cX8_opens 31 = .ok (.aload_n 0, 1) := by decide +kernel
theorem dX8_opens_32 : decode cX8_opens 32 = .ok (.getfield 28, 3) := by decide +kernel
theorem dX8_opens_35 : decode cX8_opens 35 = .ok (.iconst 4, 1) := by decide +kernel
theorem dX8_opens_36 : decode cX8_opens 36 = .ok (.aload_n 0, 1) := by decide +kernel
theorem dX8_opens_37 : decode cX8_opens 37 = .ok (.getfield 76, 3) := by decide +kernel
theorem dX8_opens_40 : decode cX8_opens 40 = .ok (.imul, 1) := by decide +kernel
theorem dX8_opens_41 : decode cX8_opens 41 = .ok (.iconst 2, 1) := by decide +kernel
theorem dX8_opens_42 : decode cX8_opens 42 = .ok (.iadd, 1) := by decide +kernel
theorem dX8_opens_43 : decode cX8_opens 43 = .ok (.iload_n 3, 1) := by decide +kernel
theorem dX8_opens_44 : decode cX8_opens 44 = .ok (.iastore, 1) := by decide +kernel
theorem dX8_opens_45 : decode cX8_opens 45 = .ok (.aload_n 0, 1) := by decide +kernel
theorem dX8_opens_46 : decode cX8_opens 46 = .ok (.getfield 28, 3) := by decide +kernel
theorem dX8_opens_49 : decode cX8_opens 49 = .ok (.iconst 4, 1) := by decide +kernel
theorem dX8_opens_50 : decode cX8_opens 50 = .ok (.aload_n 0, 1) := by decide +kernel
theorem dX8_opens_51 : decode cX8_opens 51 = .ok (.getfield 76, 3) := by decide +kernel
theorem dX8_opens_54 : decode cX8_opens 54 = .ok (.imul, 1) := by decide +kernel
theorem dX8_opens_55 : decode cX8_opens 55 = .ok (.iconst 3, 1) := by decide +kernel
theorem dX8_opens_56 : decode cX8_opens 56 = .ok (.iadd, 1) := by decide +kernel
theorem dX8_opens_57 : decode cX8_opens 57 = .ok (.iload 4, 2) := by decide +kernel
theorem dX8_opens_59 : decode cX8_opens 59 = .ok (.iastore, 1) := by decide +kernel
theorem dX8_opens_60 : decode cX8_opens 60 = .ok (.aload_n 0, 1) := by decide +kernel
theorem dX8_opens_61 : decode cX8_opens 61 = .ok (.dup, 1) := by decide +kernel
theorem dX8_opens_62 : decode cX8_opens 62 = .ok (.getfield 76, 3) := by decide +kernel
theorem dX8_opens_65 : decode cX8_opens 65 = .ok (.iconst 1, 1) := by decide +kernel
theorem dX8_opens_66 : decode cX8_opens 66 = .ok (.iadd, 1) := by decide +kernel
theorem dX8_opens_67 : decode cX8_opens 67 = .ok (.putfield 76, 3) := by decide +kernel
theorem dX8_opens_70 : decode cX8_opens 70 = .ok (.return_, 1) := by decide +kernel
theorem dX8_byHalves_0 : decode cX8_byHalves 0 = .ok (.aload_n 0, 1) := by decide +kernel
theorem dX8_byHalves_1 : decode cX8_byHalves 1 = .ok (.iconst 0, 1) := by decide +kernel
theorem dX8_byHalves_2 : decode cX8_byHalves 2 = .ok (.putfield 76, 3) := by decide +kernel
theorem dX8_byHalves_5 : decode cX8_byHalves 5 = .ok (.aload_n 0, 1) := by decide +kernel
theorem dX8_byHalves_6 : decode cX8_byHalves 6 = .ok (.iconst 0, 1) := by decide +kernel
theorem dX8_byHalves_7 : decode cX8_byHalves 7 = .ok (.aload_n 0, 1) := by decide +kernel
theorem dX8_byHalves_8 : decode cX8_byHalves 8 = .ok (.getfield 7, 3) := by decide +kernel
theorem dX8_byHalves_11 : decode cX8_byHalves 11 = .ok (.iconst 0, 1) := by decide +kernel
theorem dX8_byHalves_12 : decode cX8_byHalves 12 = .ok (.iaload, 1) := by decide +kernel
end
section
theorem dX8_byHalves_13 : decode cX8_byHalves 13 = .ok (.iconst 1, 1) := by decide +kernel
theorem dX8_byHalves_14 : decode cX8_byHalves 14 = .ok (.isub, 1) := by decide +kernel
theorem dX8_byHalves_15 : decode cX8_byHalves 15 = .ok (.iconst 0, 1) := by decide +kernel
theorem dX8_byHalves_16 : decode cX8_byHalves 16 = .ok (.aload_n 0, 1) := by decide +kernel
theorem dX8_byHalves_17 : decode cX8_byHalves 17 = .ok (.getfield 7, 3) := by decide +kernel
theorem dX8_byHalves_20 : decode cX8_byHalves 20 = .ok (.iconst 1, 1) := by decide +kernel
theorem dX8_byHalves_21 : decode cX8_byHalves 21 = .ok (.iaload, 1) := by decide +kernel
theorem dX8_byHalves_22 : decode cX8_byHalves 22 = .ok (.iconst 1, 1) := by decide +kernel
theorem dX8_byHalves_23 : decode cX8_byHalves 23 = .ok (.isub, 1) := by decide +kernel
theorem dX8_byHalves_24 : decode cX8_byHalves 24 = .ok (.invokevirtual 79, 3) := by decide +kernel
theorem dX8_byHalves_27 : decode cX8_byHalves 27 = .ok (.aload_n 0, 1) := by decide +kernel
theorem dX8_byHalves_28 : decode cX8_byHalves 28 = .ok (.getfield 76, 3) := by decide +kernel
theorem dX8_byHalves_31 : decode cX8_byHalves 31 = .ok (.ifCond .le 129, 3) := by decide +kernel
theorem dX8_byHalves_34 : decode cX8_byHalves 34 = .ok (.aload_n 0, 1) := by decide +kernel
theorem dX8_byHalves_35 : decode cX8_byHalves 35 = .ok (.dup, 1) := by decide +kernel
theorem dX8_byHalves_36 : decode cX8_byHalves 36 = .ok (.getfield 76, 3) := by decide +kernel
theorem dX8_byHalves_39 : decode cX8_byHalves 39 = .ok (.iconst 1, 1) := by decide +kernel
theorem dX8_byHalves_40 : decode cX8_byHalves 40 = .ok (.isub, 1) := by decide +kernel
theorem dX8_byHalves_41 : decode cX8_byHalves 41 = .ok (.putfield 76, 3) := by decide +kernel
theorem dX8_byHalves_44 : decode cX8_byHalves 44 = .ok (.aload_n 0, 1) := by decide +kernel
theorem dX8_byHalves_45 : decode cX8_byHalves 45 = .ok (.getfield 28, 3) := by decide +kernel
theorem dX8_byHalves_48 : decode cX8_byHalves 48 = .ok (.iconst 4, 1) := by decide +kernel
theorem dX8_byHalves_49 : decode cX8_byHalves 49 = .ok (.aload_n 0, 1) := by decide +kernel
theorem dX8_byHalves_50 : decode cX8_byHalves 50 = .ok (.getfield 76, 3) := by decide +kernel
theorem dX8_byHalves_53 : decode cX8_byHalves 53 = .ok (.imul, 1) := by decide +kernel
theorem dX8_byHalves_54 : decode cX8_byHalves 54 = .ok (.iaload, 1) := by decide +kernel
theorem dX8_byHalves_55 : decode cX8_byHalves 55 = .ok (.istore_n 1, 1) := by decide +kernel
theorem dX8_byHalves_56 : decode cX8_byHalves 56 = .ok (.aload_n 0, 1) := by decide +kernel
theorem dX8_byHalves_57 : decode cX8_byHalves 57 = .ok (.getfield 28, 3) := by decide +kernel
theorem dX8_byHalves_60 : decode cX8_byHalves 60 = .ok (.iconst 4, 1) := by decide +kernel
theorem dX8_byHalves_61 : decode cX8_byHalves 61 = .ok (.aload_n 0, 1) := by decide +kernel
theorem dX8_byHalves_62 : decode cX8_byHalves 62 = .ok (.getfield 76, 3) := by decide +kernel
theorem dX8_byHalves_65 : decode cX8_byHalves 65 = .ok (.imul, 1) := by decide +kernel
theorem dX8_byHalves_66 : decode cX8_byHalves 66 = .ok (.iconst 1, 1) := by decide +kernel
theorem dX8_byHalves_67 : decode cX8_byHalves 67 = .ok (.iadd, 1) := by decide +kernel
theorem dX8_byHalves_68 : decode cX8_byHalves 68 = .ok (.iaload, 1) := by decide +kernel
theorem dX8_byHalves_69 : decode cX8_byHalves 69 = .ok (.istore_n 2, 1) := by decide +kernel
theorem dX8_byHalves_70 : decode cX8_byHalves 70 = .ok (.aload_n 0, 1) := by decide +kernel
theorem dX8_byHalves_71 : decode cX8_byHalves 71 = .ok (.getfield 28, 3) := by decide +kernel
theorem dX8_byHalves_74 : decode cX8_byHalves 74 = .ok (.iconst 4, 1) := by decide +kernel
theorem dX8_byHalves_75 : decode cX8_byHalves 75 = .ok (.aload_n 0, 1) := by decide +kernel
theorem dX8_byHalves_76 : decode cX8_byHalves 76 = .ok (.getfield 76, 3) := by decide +kernel
theorem dX8_byHalves_79 : decode cX8_byHalves 79 = .ok (.imul, 1) := by decide +kernel
theorem dX8_byHalves_80 : decode cX8_byHalves 80 = .ok (.iconst 2, 1) := by decide +kernel
theorem dX8_byHalves_81 : decode cX8_byHalves 81 = .ok (.iadd, 1) := by decide +kernel
theorem dX8_byHalves_82 : decode cX8_byHalves 82 = .ok (.iaload, 1) := by decide +kernel
theorem dX8_byHalves_83 : decode cX8_byHalves 83 = .ok (.istore_n 3, 1) := by decide +kernel
theorem dX8_byHalves_84 : decode cX8_byHalves 84 = .ok (.aload_n 0, 1) := by decide +kernel
theorem dX8_byHalves_85 : decode cX8_byHalves 85 = .ok (.getfield 28, 3) := by decide +kernel
theorem dX8_byHalves_88 : decode cX8_byHalves 88 = .ok (.iconst 4, 1) := by decide +kernel
theorem dX8_byHalves_89 : decode cX8_byHalves 89 = .ok (.aload_n 0, 1) := by decide +kernel
theorem dX8_byHalves_90 : decode cX8_byHalves 90 = .ok (.getfield 76, 3) := by decide +kernel
theorem dX8_byHalves_93 : decode cX8_byHalves 93 = .ok (.imul, 1) := by decide +kernel
theorem dX8_byHalves_94 : decode cX8_byHalves 94 = .ok (.iconst 3, 1) := by decide +kernel
theorem dX8_byHalves_95 : decode cX8_byHalves 95 = .ok (.iadd, 1) := by decide +kernel
theorem dX8_byHalves_96 : decode cX8_byHalves 96 = .ok (.iaload, 1) := by decide +kernel
theorem dX8_byHalves_97 : decode cX8_byHalves 97 = .ok (.istore 4, 2) := by decide +kernel
theorem dX8_byHalves_99 : decode cX8_byHalves 99 = .ok (.iload_n 1, 1) := by decide +kernel
theorem dX8_byHalves_100 : decode cX8_byHalves 100 = .ok (.iload_n 2, 1) := by decide +kernel
theorem dX8_byHalves_101 : decode cX8_byHalves 101 = .ok (.iadd, 1) := by decide +kernel
theorem dX8_byHalves_102 : decode cX8_byHalves 102 = .ok (.iconst 2, 1) := by decide +kernel
theorem dX8_byHalves_103 : decode cX8_byHalves 103 = .ok (.idiv, 1) := by decide +kernel
theorem dX8_byHalves_104 : decode cX8_byHalves 104 = .ok (.istore 5, 2) := by decide +kernel
theorem dX8_byHalves_106 : decode cX8_byHalves 106 = .ok (.aload_n 0, 1) := by decide +kernel
theorem dX8_byHalves_107 : decode cX8_byHalves 107 = .ok (.getfield 25, 3) := by decide +kernel
theorem dX8_byHalves_110 : decode cX8_byHalves 110 = .ok (.iload 5, 2) := by decide +kernel
theorem dX8_byHalves_112 : decode cX8_byHalves 112 = .ok (.aload_n 0, 1) := by decide +kernel
theorem dX8_byHalves_113 : decode cX8_byHalves 113 = .ok (.iload 5, 2) := by decide +kernel
theorem dX8_byHalves_115 : decode cX8_byHalves 115 = .ok (.iload_n 3, 1) := by decide +kernel
theorem dX8_byHalves_116 : decode cX8_byHalves 116 = .ok (.iload 4, 2) := by decide +kernel
theorem dX8_byHalves_118 : decode cX8_byHalves 118 = .ok (.invokevirtual 72, 3) := by decide +kernel
theorem dX8_byHalves_121 : decode cX8_byHalves 121 = .ok (.iastore, 1) := by decide +kernel
theorem dX8_byHalves_122 : decode cX8_byHalves 122 = .ok (.aload_n 0, 1) := by decide +kernel
theorem dX8_byHalves_123 : decode cX8_byHalves 123 = .ok (.iload_n 1, 1) := by decide +kernel
theorem dX8_byHalves_124 : decode cX8_byHalves 124 = .ok (.iload 5, 2) := by decide +kernel
theorem dX8_byHalves_126 : decode cX8_byHalves 126 = .ok (.iconst 1, 1) := by decide +kernel
theorem dX8_byHalves_127 : decode cX8_byHalves 127 = .ok (.isub, 1) := by decide +kernel
theorem dX8_byHalves_128 : decode cX8_byHalves 128 = .ok (.iload_n 3, 1) := by decide +kernel
theorem dX8_byHalves_129 : decode cX8_byHalves 129 = .ok (.aload_n 0, 1) := by decide +kernel
theorem dX8_byHalves_130 : decode cX8_byHalves 130 = .ok (.getfield 25, 3) := by decide +kernel
theorem dX8_byHalves_133 : decode cX8_byHalves 133 = .ok (.iload 5, 2) := by decide +kernel
theorem dX8_byHalves_135 : decode cX8_byHalves 135 = .ok (.iaload, 1) := by decide +kernel
theorem dX8_byHalves_136 : decode cX8_byHalves 136 = .ok (.invokevirtual 79, 3) := by decide +kernel
theorem dX8_byHalves_139 : decode cX8_byHalves 139 = .ok (.aload_n 0, 1) := by decide +kernel
theorem dX8_byHalves_140 : decode cX8_byHalves 140 = .ok (.iload 5, 2) := by decide +kernel
theorem dX8_byHalves_142 : decode cX8_byHalves 142 = .ok (.iconst 1, 1) := by decide +kernel
theorem dX8_byHalves_143 : decode cX8_byHalves 143 = .ok (.iadd, 1) := by decide +kernel
theorem dX8_byHalves_144 : decode cX8_byHalves 144 = .ok (.iload_n 2, 1) := by decide +kernel
theorem dX8_byHalves_145 : decode cX8_byHalves 145 = .ok (.aload_n 0, 1) := by decide +kernel
theorem dX8_byHalves_146 : decode cX8_byHalves 146 = .ok (.getfield 25, 3) := by decide +kernel
theorem dX8_byHalves_149 : decode cX8_byHalves 149 = .ok (.iload 5, 2) := by decide +kernel
theorem dX8_byHalves_151 : decode cX8_byHalves 151 = .ok (.iaload, 1) := by decide +kernel
theorem dX8_byHalves_152 : decode cX8_byHalves 152 = .ok (.iload 4, 2) := by decide +kernel
theorem dX8_byHalves_154 : decode cX8_byHalves 154 = .ok (.invokevirtual 79, 3) := by decide +kernel
theorem dX8_byHalves_157 : decode cX8_byHalves 157 = .ok (.goto (-130), 3) := by decide +kernel
theorem dX8_byHalves_160 : decode cX8_byHalves 160 = .ok (.return_, 1) := by decide +kernel
theorem dX8_rowAt_0 : decode cX8_rowAt 0 = .ok (.iload_n 1, 1) := by decide +kernel
theorem dX8_rowAt_1 : decode cX8_rowAt 1 = .ok (.iconst 1, 1) := by decide +kernel
theorem dX8_rowAt_2 : decode cX8_rowAt 2 = .ok (.iadd, 1) := by decide +kernel
theorem dX8_rowAt_3 : decode cX8_rowAt 3 = .ok (.iload_n 0, 1) := by decide +kernel
theorem dX8_rowAt_4 : decode cX8_rowAt 4 = .ok (.ishl, 1) := by decide +kernel
theorem dX8_rowAt_5 : decode cX8_rowAt 5 = .ok (.iconst 1, 1) := by decide +kernel
theorem dX8_rowAt_6 : decode cX8_rowAt 6 = .ok (.isub, 1) := by decide +kernel
theorem dX8_rowAt_7 : decode cX8_rowAt 7 = .ok (.ireturn, 1) := by decide +kernel
theorem dX8_piles_0 : decode cX8_piles 0 = .ok (.iload_n 2, 1) := by decide +kernel
theorem dX8_piles_1 : decode cX8_piles 1 = .ok (.istore 4, 2) := by decide +kernel
theorem dX8_piles_3 : decode cX8_piles 3 = .ok (.iload 4, 2) := by decide +kernel
theorem dX8_piles_5 : decode cX8_piles 5 = .ok (.ifCond .le 7, 3) := by decide +kernel
theorem dX8_piles_8 : decode cX8_piles 8 = .ok (.iconst 1, 1) := by decide +kernel
theorem dX8_piles_9 : decode cX8_piles 9 = .ok (.goto 4, 3) := by decide +kernel
theorem dX8_piles_12 : decode cX8_piles 12 = .ok (.iconst 0, 1) := by decide +kernel
theorem dX8_piles_13 : decode cX8_piles 13 = .ok (.istore 5, 2) := by decide +kernel
theorem dX8_piles_15 : decode cX8_piles 15 = .ok (.iload 5, 2) := by decide +kernel
theorem dX8_piles_17 : decode cX8_piles 17 = .ok (.ifCond .eq 95, 3) := by decide +kernel
theorem dX8_piles_20 : decode cX8_piles 20 = .ok (.iload_n 1, 1) := by decide +kernel
theorem dX8_piles_21 : decode cX8_piles 21 = .ok (.iload 4, 2) := by decide +kernel
theorem dX8_piles_23 : decode cX8_piles 23 = .ok (.iconst 1, 1) := by decide +kernel
theorem dX8_piles_24 : decode cX8_piles 24 = .ok (.isub, 1) := by decide +kernel
theorem dX8_piles_25 : decode cX8_piles 25 = .ok (.invokestatic 83, 3) := by decide +kernel
theorem dX8_piles_28 : decode cX8_piles 28 = .ok (.istore 6, 2) := by decide +kernel
theorem dX8_piles_30 : decode cX8_piles 30 = .ok (.aload_n 0, 1) := by decide +kernel
theorem dX8_piles_31 : decode cX8_piles 31 = .ok (.dup, 1) := by decide +kernel
theorem dX8_piles_32 : decode cX8_piles 32 = .ok (.getfield 69, 3) := by decide +kernel
theorem dX8_piles_35 : decode cX8_piles 35 = .ok (.iconst 2, 1) := by decide +kernel
theorem dX8_piles_36 : decode cX8_piles 36 = .ok (.iadd, 1) := by decide +kernel
theorem dX8_piles_37 : decode cX8_piles 37 = .ok (.putfield 69, 3) := by decide +kernel
theorem dX8_piles_40 : decode cX8_piles 40 = .ok (.aload_n 0, 1) := by decide +kernel
theorem dX8_piles_41 : decode cX8_piles 41 = .ok (.iload 6, 2) := by decide +kernel
theorem dX8_piles_43 : decode cX8_piles 43 = .ok (.aload_n 0, 1) := by decide +kernel
theorem dX8_piles_44 : decode cX8_piles 44 = .ok (.getfield 31, 3) := by decide +kernel
theorem dX8_piles_47 : decode cX8_piles 47 = .ok (.bipush 10, 2) := by decide +kernel
theorem dX8_piles_49 : decode cX8_piles 49 = .ok (.iload_n 1, 1) := by decide +kernel
theorem dX8_piles_50 : decode cX8_piles 50 = .ok (.imul, 1) := by decide +kernel
theorem dX8_piles_51 : decode cX8_piles 51 = .ok (.iload 4, 2) := by decide +kernel
theorem dX8_piles_53 : decode cX8_piles 53 = .ok (.iadd, 1) := by decide +kernel
theorem dX8_piles_54 : decode cX8_piles 54 = .ok (.iconst 1, 1) := by decide +kernel
theorem dX8_piles_55 : decode cX8_piles 55 = .ok (.isub, 1) := by decide +kernel
theorem dX8_piles_56 : decode cX8_piles 56 = .ok (.iaload, 1) := by decide +kernel
theorem dX8_piles_57 : decode cX8_piles 57 = .ok (.invokevirtual 57, 3) := by decide +kernel
theorem dX8_piles_60 : decode cX8_piles 60 = .ok (.aload_n 0, 1) := by decide +kernel
theorem dX8_piles_61 : decode cX8_piles 61 = .ok (.iload 6, 2) := by decide +kernel
theorem dX8_piles_63 : decode cX8_piles 63 = .ok (.iload_n 3, 1) := by decide +kernel
theorem dX8_piles_64 : decode cX8_piles 64 = .ok (.invokevirtual 57, 3) := by decide +kernel
theorem dX8_piles_67 : decode cX8_piles 67 = .ok (.if_icmp .le 7, 3) := by decide +kernel
theorem dX8_piles_70 : decode cX8_piles 70 = .ok (.iconst 1, 1) := by decide +kernel
theorem dX8_piles_71 : decode cX8_piles 71 = .ok (.goto 4, 3) := by decide +kernel
theorem dX8_piles_74 : decode cX8_piles 74 = .ok (.iconst 0, 1) := by decide +kernel
theorem dX8_piles_75 : decode cX8_piles 75 = .ok (.istore 7, 2) := by decide +kernel
theorem dX8_piles_77 : decode cX8_piles 77 = .ok (.iload 4, 2) := by decide +kernel
theorem dX8_piles_79 : decode cX8_piles 79 = .ok (.iload 7, 2) := by decide +kernel
theorem dX8_piles_81 : decode cX8_piles 81 = .ok (.ifCond .eq 7, 3) := by decide +kernel
theorem dX8_piles_84 : decode cX8_piles 84 = .ok (.iconst 1, 1) := by decide +kernel
theorem dX8_piles_85 : decode cX8_piles 85 = .ok (.goto 4, 3) := by decide +kernel
theorem dX8_piles_88 : decode cX8_piles 88 = .ok (.iconst 0, 1) := by decide +kernel
theorem dX8_piles_89 : decode cX8_piles 89 = .ok (.isub, 1) := by decide +kernel
theorem dX8_piles_90 : decode cX8_piles 90 = .ok (.istore 4, 2) := by decide +kernel
theorem dX8_piles_92 : decode cX8_piles 92 = .ok (.iload 7, 2) := by decide +kernel
theorem dX8_piles_94 : decode cX8_piles 94 = .ok (.ifCond .eq 12, 3) := by decide +kernel
theorem dX8_piles_97 : decode cX8_piles 97 = .ok (.iload 4, 2) := by decide +kernel
theorem dX8_piles_99 : decode cX8_piles 99 = .ok (.ifCond .le 7, 3) := by decide +kernel
theorem dX8_piles_102 : decode cX8_piles 102 = .ok (.iconst 1, 1) := by decide +kernel
theorem dX8_piles_103 : decode cX8_piles 103 = .ok (.goto 4, 3) := by decide +kernel
theorem dX8_piles_106 : decode cX8_piles 106 = .ok (.iconst 0, 1) := by decide +kernel
theorem dX8_piles_107 : decode cX8_piles 107 = .ok (.istore 5, 2) := by decide +kernel
theorem dX8_piles_109 : decode cX8_piles 109 = .ok (.goto (-94), 3) := by decide +kernel
theorem dX8_piles_112 : decode cX8_piles 112 = .ok (.iload 4, 2) := by decide +kernel
theorem dX8_piles_114 : decode cX8_piles 114 = .ok (.aload_n 0, 1) := by decide +kernel
theorem dX8_piles_115 : decode cX8_piles 115 = .ok (.getfield 7, 3) := by decide +kernel
theorem dX8_piles_118 : decode cX8_piles 118 = .ok (.iconst 0, 1) := by decide +kernel
theorem dX8_piles_119 : decode cX8_piles 119 = .ok (.iaload, 1) := by decide +kernel
theorem dX8_piles_120 : decode cX8_piles 120 = .ok (.iload_n 1, 1) := by decide +kernel
theorem dX8_piles_121 : decode cX8_piles 121 = .ok (.ishr, 1) := by decide +kernel
theorem dX8_piles_122 : decode cX8_piles 122 = .ok (.if_icmp .ge 19, 3) := by decide +kernel
theorem dX8_piles_125 : decode cX8_piles 125 = .ok (.aload_n 0, 1) := by decide +kernel
theorem dX8_piles_126 : decode cX8_piles 126 = .ok (.getfield 31, 3) := by decide +kernel
theorem dX8_piles_129 : decode cX8_piles 129 = .ok (.bipush 10, 2) := by decide +kernel
theorem dX8_piles_131 : decode cX8_piles 131 = .ok (.iload_n 1, 1) := by decide +kernel
theorem dX8_piles_132 : decode cX8_piles 132 = .ok (.imul, 1) := by decide +kernel
theorem dX8_piles_133 : decode cX8_piles 133 = .ok (.iload 4, 2) := by decide +kernel
theorem dX8_piles_135 : decode cX8_piles 135 = .ok (.iadd, 1) := by decide +kernel
theorem dX8_piles_136 : decode cX8_piles 136 = .ok (.iload_n 3, 1) := by decide +kernel
theorem dX8_piles_137 : decode cX8_piles 137 = .ok (.iastore, 1) := by decide +kernel
theorem dX8_piles_138 : decode cX8_piles 138 = .ok (.iinc 4 1, 3) := by decide +kernel
theorem dX8_piles_141 : decode cX8_piles 141 = .ok (.iload 4, 2) := by decide +kernel
theorem dX8_piles_143 : decode cX8_piles 143 = .ok (.ireturn, 1) := by decide +kernel
theorem dX8_throwsOut_0 : decode cX8_throwsOut 0 = .ok (.iload_n 1, 1) := by decide +kernel
theorem dX8_throwsOut_1 : decode cX8_throwsOut 1 = .ok (.ifCond .ne 12, 3) := by decide +kernel
theorem dX8_throwsOut_4 : decode cX8_throwsOut 4 = .ok (.aload_n 0, 1) := by decide +kernel
theorem dX8_throwsOut_5 : decode cX8_throwsOut 5 = .ok (.getfield 7, 3) := by decide +kernel
theorem dX8_throwsOut_8 : decode cX8_throwsOut 8 = .ok (.iconst 1, 1) := by decide +kernel
theorem dX8_throwsOut_9 : decode cX8_throwsOut 9 = .ok (.iaload, 1) := by decide +kernel
theorem dX8_throwsOut_10 : decode cX8_throwsOut 10 = .ok (.goto 11, 3) := by decide +kernel
theorem dX8_throwsOut_13 : decode cX8_throwsOut 13 = .ok (.aload_n 0, 1) := by decide +kernel
theorem dX8_throwsOut_14 : decode cX8_throwsOut 14 = .ok (.getfield 34, 3) := by decide +kernel
theorem dX8_throwsOut_17 : decode cX8_throwsOut 17 = .ok (.iload_n 1, 1) := by decide +kernel
theorem dX8_throwsOut_18 : decode cX8_throwsOut 18 = .ok (.iconst 1, 1) := by decide +kernel
theorem dX8_throwsOut_19 : decode cX8_throwsOut 19 = .ok (.isub, 1) := by decide +kernel
theorem dX8_throwsOut_20 : decode cX8_throwsOut 20 = .ok (.iaload, 1) := by decide +kernel
theorem dX8_throwsOut_21 : decode cX8_throwsOut 21 = .ok (.istore_n 2, 1) := by decide +kernel
theorem dX8_throwsOut_22 : decode cX8_throwsOut 22 = .ok (.iconst 0, 1) := by decide +kernel
theorem dX8_throwsOut_23 : decode cX8_throwsOut 23 = .ok (.istore_n 3, 1) := by decide +kernel
theorem dX8_throwsOut_24 : decode cX8_throwsOut 24 = .ok (.iconst 0, 1) := by decide +kernel
theorem dX8_throwsOut_25 : decode cX8_throwsOut 25 = .ok (.istore 4, 2) := by decide +kernel
theorem dX8_throwsOut_27 : decode cX8_throwsOut 27 = .ok (.iload 4, 2) := by decide +kernel
theorem dX8_throwsOut_29 : decode cX8_throwsOut 29 = .ok (.iload_n 2, 1) := by decide +kernel
theorem dX8_throwsOut_30 : decode cX8_throwsOut 30 = .ok (.if_icmp .ge 39, 3) := by decide +kernel
theorem dX8_throwsOut_33 : decode cX8_throwsOut 33 = .ok (.aload_n 0, 1) := by decide +kernel
theorem dX8_throwsOut_34 : decode cX8_throwsOut 34 = .ok (.iload_n 1, 1) := by decide +kernel
theorem dX8_throwsOut_35 : decode cX8_throwsOut 35 = .ok (.iload_n 3, 1) := by decide +kernel
theorem dX8_throwsOut_36 : decode cX8_throwsOut 36 = .ok (.iload_n 1, 1) := by decide +kernel
theorem dX8_throwsOut_37 : decode cX8_throwsOut 37 = .ok (.ifCond .ne 8, 3) := by decide +kernel
theorem dX8_throwsOut_40 : decode cX8_throwsOut 40 = .ok (.iload 4, 2) := by decide +kernel
theorem dX8_throwsOut_42 : decode cX8_throwsOut 42 = .ok (.goto 17, 3) := by decide +kernel
theorem dX8_throwsOut_45 : decode cX8_throwsOut 45 = .ok (.aload_n 0, 1) := by decide +kernel
theorem dX8_throwsOut_46 : decode cX8_throwsOut 46 = .ok (.getfield 31, 3) := by decide +kernel
theorem dX8_throwsOut_49 : decode cX8_throwsOut 49 = .ok (.bipush 10, 2) := by decide +kernel
theorem dX8_throwsOut_51 : decode cX8_throwsOut 51 = .ok (.iload_n 1, 1) := by decide +kernel
theorem dX8_throwsOut_52 : decode cX8_throwsOut 52 = .ok (.iconst 1, 1) := by decide +kernel
theorem dX8_throwsOut_53 : decode cX8_throwsOut 53 = .ok (.isub, 1) := by decide +kernel
theorem dX8_throwsOut_54 : decode cX8_throwsOut 54 = .ok (.imul, 1) := by decide +kernel
theorem dX8_throwsOut_55 : decode cX8_throwsOut 55 = .ok (.iload 4, 2) := by decide +kernel
theorem dX8_throwsOut_57 : decode cX8_throwsOut 57 = .ok (.iadd, 1) := by decide +kernel
theorem dX8_throwsOut_58 : decode cX8_throwsOut 58 = .ok (.iaload, 1) := by decide +kernel
theorem dX8_throwsOut_59 : decode cX8_throwsOut 59 = .ok (.invokevirtual 86, 3) := by decide +kernel
theorem dX8_throwsOut_62 : decode cX8_throwsOut 62 = .ok (.istore_n 3, 1) := by decide +kernel
theorem dX8_throwsOut_63 : decode cX8_throwsOut 63 = .ok (.iinc 4 1, 3) := by decide +kernel
theorem dX8_throwsOut_66 : decode cX8_throwsOut 66 = .ok (.goto (-39), 3) := by decide +kernel
theorem dX8_throwsOut_69 : decode cX8_throwsOut 69 = .ok (.aload_n 0, 1) := by decide +kernel
theorem dX8_throwsOut_70 : decode cX8_throwsOut 70 = .ok (.getfield 34, 3) := by decide +kernel
theorem dX8_throwsOut_73 : decode cX8_throwsOut 73 = .ok (.iload_n 1, 1) := by decide +kernel
theorem dX8_throwsOut_74 : decode cX8_throwsOut 74 = .ok (.iload_n 3, 1) := by decide +kernel
theorem dX8_throwsOut_75 : decode cX8_throwsOut 75 = .ok (.iastore, 1) := by decide +kernel
theorem dX8_throwsOut_76 : decode cX8_throwsOut 76 = .ok (.return_, 1) := by decide +kernel
theorem dX8_leastLeft_0 : decode cX8_leastLeft 0 = .ok (.iconst (-1), 1) := by decide +kernel
theorem dX8_leastLeft_1 : decode cX8_leastLeft 1 = .ok (.istore 5, 2) := by decide +kernel
theorem dX8_leastLeft_3 : decode cX8_leastLeft 3 = .ok (.iconst 0, 1) := by decide +kernel
theorem dX8_leastLeft_4 : decode cX8_leastLeft 4 = .ok (.istore 6, 2) := by decide +kernel
theorem dX8_leastLeft_6 : decode cX8_leastLeft 6 = .ok (.iload 6, 2) := by decide +kernel
theorem dX8_leastLeft_8 : decode cX8_leastLeft 8 = .ok (.aload_n 0, 1) := by decide +kernel
theorem dX8_leastLeft_9 : decode cX8_leastLeft 9 = .ok (.getfield 34, 3) := by decide +kernel
theorem dX8_leastLeft_12 : decode cX8_leastLeft 12 = .ok (.iload_n 1, 1) := by decide +kernel
theorem dX8_leastLeft_13 : decode cX8_leastLeft 13 = .ok (.iaload, 1) := by decide +kernel
theorem dX8_leastLeft_14 : decode cX8_leastLeft 14 = .ok (.if_icmp .ge 76, 3) := by decide +kernel
theorem dX8_leastLeft_17 : decode cX8_leastLeft 17 = .ok (.aload_n 0, 1) := by decide +kernel
theorem dX8_leastLeft_18 : decode cX8_leastLeft 18 = .ok (.getfield 31, 3) := by decide +kernel
theorem dX8_leastLeft_21 : decode cX8_leastLeft 21 = .ok (.bipush 10, 2) := by decide +kernel
theorem dX8_leastLeft_23 : decode cX8_leastLeft 23 = .ok (.iload_n 1, 1) := by decide +kernel
theorem dX8_leastLeft_24 : decode cX8_leastLeft 24 = .ok (.imul, 1) := by decide +kernel
theorem dX8_leastLeft_25 : decode cX8_leastLeft 25 = .ok (.iload 6, 2) := by decide +kernel
theorem dX8_leastLeft_27 : decode cX8_leastLeft 27 = .ok (.iadd, 1) := by decide +kernel
theorem dX8_leastLeft_28 : decode cX8_leastLeft 28 = .ok (.iaload, 1) := by decide +kernel
theorem dX8_leastLeft_29 : decode cX8_leastLeft 29 = .ok (.istore 7, 2) := by decide +kernel
theorem dX8_leastLeft_31 : decode cX8_leastLeft 31 = .ok (.iload 7, 2) := by decide +kernel
theorem dX8_leastLeft_33 : decode cX8_leastLeft 33 = .ok (.iload_n 3, 1) := by decide +kernel
theorem dX8_leastLeft_34 : decode cX8_leastLeft 34 = .ok (.iload 4, 2) := by decide +kernel
theorem dX8_leastLeft_36 : decode cX8_leastLeft 36 = .ok (.invokestatic 89, 3) := by decide +kernel
theorem dX8_leastLeft_39 : decode cX8_leastLeft 39 = .ok (.ifCond .eq 45, 3) := by decide +kernel
theorem dX8_leastLeft_42 : decode cX8_leastLeft 42 = .ok (.aload_n 0, 1) := by decide +kernel
theorem dX8_leastLeft_43 : decode cX8_leastLeft 43 = .ok (.dup, 1) := by decide +kernel
theorem dX8_leastLeft_44 : decode cX8_leastLeft 44 = .ok (.getfield 69, 3) := by decide +kernel
theorem dX8_leastLeft_47 : decode cX8_leastLeft 47 = .ok (.iconst 1, 1) := by decide +kernel
theorem dX8_leastLeft_48 : decode cX8_leastLeft 48 = .ok (.iadd, 1) := by decide +kernel
theorem dX8_leastLeft_49 : decode cX8_leastLeft 49 = .ok (.putfield 69, 3) := by decide +kernel
theorem dX8_leastLeft_52 : decode cX8_leastLeft 52 = .ok (.iload 5, 2) := by decide +kernel
theorem dX8_leastLeft_54 : decode cX8_leastLeft 54 = .ok (.iconst (-1), 1) := by decide +kernel
theorem dX8_leastLeft_55 : decode cX8_leastLeft 55 = .ok (.if_icmp .eq 20, 3) := by decide +kernel
theorem dX8_leastLeft_58 : decode cX8_leastLeft 58 = .ok (.aload_n 0, 1) := by decide +kernel
theorem dX8_leastLeft_59 : decode cX8_leastLeft 59 = .ok (.iload_n 2, 1) := by decide +kernel
theorem dX8_leastLeft_60 : decode cX8_leastLeft 60 = .ok (.iload 7, 2) := by decide +kernel
theorem dX8_leastLeft_62 : decode cX8_leastLeft 62 = .ok (.invokevirtual 57, 3) := by decide +kernel
theorem dX8_leastLeft_65 : decode cX8_leastLeft 65 = .ok (.aload_n 0, 1) := by decide +kernel
theorem dX8_leastLeft_66 : decode cX8_leastLeft 66 = .ok (.iload_n 2, 1) := by decide +kernel
theorem dX8_leastLeft_67 : decode cX8_leastLeft 67 = .ok (.iload 5, 2) := by decide +kernel
theorem dX8_leastLeft_69 : decode cX8_leastLeft 69 = .ok (.invokevirtual 57, 3) := by decide +kernel
theorem dX8_leastLeft_72 : decode cX8_leastLeft 72 = .ok (.if_icmp .ge 8, 3) := by decide +kernel
theorem dX8_leastLeft_75 : decode cX8_leastLeft 75 = .ok (.iload 7, 2) := by decide +kernel
theorem dX8_leastLeft_77 : decode cX8_leastLeft 77 = .ok (.goto 5, 3) := by decide +kernel
theorem dX8_leastLeft_80 : decode cX8_leastLeft 80 = .ok (.iload 5, 2) := by decide +kernel
theorem dX8_leastLeft_82 : decode cX8_leastLeft 82 = .ok (.istore 5, 2) := by decide +kernel
theorem dX8_leastLeft_84 : decode cX8_leastLeft 84 = .ok (.iinc 6 1, 3) := by decide +kernel
theorem dX8_leastLeft_87 : decode cX8_leastLeft 87 = .ok (.goto (-81), 3) := by decide +kernel
theorem dX8_leastLeft_90 : decode cX8_leastLeft 90 = .ok (.iload 5, 2) := by decide +kernel
theorem dX8_leastLeft_92 : decode cX8_leastLeft 92 = .ok (.ireturn, 1) := by decide +kernel
theorem dX8_fills_0 : decode cX8_fills 0 = .ok (.aload_n 0, 1) := by decide +kernel
theorem dX8_fills_1 : decode cX8_fills 1 = .ok (.getfield 7, 3) := by decide +kernel
theorem dX8_fills_4 : decode cX8_fills 4 = .ok (.iconst 0, 1) := by decide +kernel
theorem dX8_fills_5 : decode cX8_fills 5 = .ok (.iaload, 1) := by decide +kernel
theorem dX8_fills_6 : decode cX8_fills 6 = .ok (.iload_n 1, 1) := by decide +kernel
theorem dX8_fills_7 : decode cX8_fills 7 = .ok (.ishr, 1) := by decide +kernel
theorem dX8_fills_8 : decode cX8_fills 8 = .ok (.istore_n 2, 1) := by decide +kernel
theorem dX8_fills_9 : decode cX8_fills 9 = .ok (.iconst 0, 1) := by decide +kernel
theorem dX8_fills_10 : decode cX8_fills 10 = .ok (.istore_n 3, 1) := by decide +kernel
theorem dX8_fills_11 : decode cX8_fills 11 = .ok (.iload_n 3, 1) := by decide +kernel
theorem dX8_fills_12 : decode cX8_fills 12 = .ok (.iload_n 2, 1) := by decide +kernel
theorem dX8_fills_13 : decode cX8_fills 13 = .ok (.if_icmp .ge 82, 3) := by decide +kernel
theorem dX8_fills_16 : decode cX8_fills 16 = .ok (.iload_n 3, 1) := by decide +kernel
theorem dX8_fills_17 : decode cX8_fills 17 = .ok (.ifCond .ne 7, 3) := by decide +kernel
theorem dX8_fills_20 : decode cX8_fills 20 = .ok (.iconst 0, 1) := by decide +kernel
theorem dX8_fills_21 : decode cX8_fills 21 = .ok (.goto 15, 3) := by decide +kernel
theorem dX8_fills_24 : decode cX8_fills 24 = .ok (.aload_n 0, 1) := by decide +kernel
theorem dX8_fills_25 : decode cX8_fills 25 = .ok (.getfield 25, 3) := by decide +kernel
theorem dX8_fills_28 : decode cX8_fills 28 = .ok (.iload_n 1, 1) := by decide +kernel
theorem dX8_fills_29 : decode cX8_fills 29 = .ok (.iload_n 3, 1) := by decide +kernel
theorem dX8_fills_30 : decode cX8_fills 30 = .ok (.iconst 1, 1) := by decide +kernel
theorem dX8_fills_31 : decode cX8_fills 31 = .ok (.isub, 1) := by decide +kernel
theorem dX8_fills_32 : decode cX8_fills 32 = .ok (.invokestatic 83, 3) := by decide +kernel
theorem dX8_fills_35 : decode cX8_fills 35 = .ok (.iaload, 1) := by decide +kernel
theorem dX8_fills_36 : decode cX8_fills 36 = .ok (.istore 4, 2) := by decide +kernel
theorem dX8_fills_38 : decode cX8_fills 38 = .ok (.iload_n 3, 1) := by decide +kernel
theorem dX8_fills_39 : decode cX8_fills 39 = .ok (.iconst 1, 1) := by decide +kernel
theorem dX8_fills_40 : decode cX8_fills 40 = .ok (.iadd, 1) := by decide +kernel
theorem dX8_fills_41 : decode cX8_fills 41 = .ok (.iload_n 2, 1) := by decide +kernel
theorem dX8_fills_42 : decode cX8_fills 42 = .ok (.if_icmp .ge 18, 3) := by decide +kernel
theorem dX8_fills_45 : decode cX8_fills 45 = .ok (.aload_n 0, 1) := by decide +kernel
theorem dX8_fills_46 : decode cX8_fills 46 = .ok (.getfield 25, 3) := by decide +kernel
theorem dX8_fills_49 : decode cX8_fills 49 = .ok (.iload_n 1, 1) := by decide +kernel
theorem dX8_fills_50 : decode cX8_fills 50 = .ok (.iload_n 3, 1) := by decide +kernel
theorem dX8_fills_51 : decode cX8_fills 51 = .ok (.iconst 1, 1) := by decide +kernel
theorem dX8_fills_52 : decode cX8_fills 52 = .ok (.iadd, 1) := by decide +kernel
theorem dX8_fills_53 : decode cX8_fills 53 = .ok (.invokestatic 83, 3) := by decide +kernel
theorem dX8_fills_56 : decode cX8_fills 56 = .ok (.iaload, 1) := by decide +kernel
theorem dX8_fills_57 : decode cX8_fills 57 = .ok (.goto 5, 3) := by decide +kernel
theorem dX8_fills_60 : decode cX8_fills 60 = .ok (.bipush 10, 2) := by decide +kernel
theorem dX8_fills_62 : decode cX8_fills 62 = .ok (.istore 5, 2) := by decide +kernel
theorem dX8_fills_64 : decode cX8_fills 64 = .ok (.iload_n 1, 1) := by decide +kernel
theorem dX8_fills_65 : decode cX8_fills 65 = .ok (.iload_n 3, 1) := by decide +kernel
theorem dX8_fills_66 : decode cX8_fills 66 = .ok (.invokestatic 83, 3) := by decide +kernel
theorem dX8_fills_69 : decode cX8_fills 69 = .ok (.istore 6, 2) := by decide +kernel
theorem dX8_fills_71 : decode cX8_fills 71 = .ok (.aload_n 0, 1) := by decide +kernel
theorem dX8_fills_72 : decode cX8_fills 72 = .ok (.getfield 25, 3) := by decide +kernel
theorem dX8_fills_75 : decode cX8_fills 75 = .ok (.iload 6, 2) := by decide +kernel
theorem dX8_fills_77 : decode cX8_fills 77 = .ok (.aload_n 0, 1) := by decide +kernel
theorem dX8_fills_78 : decode cX8_fills 78 = .ok (.iload_n 1, 1) := by decide +kernel
theorem dX8_fills_79 : decode cX8_fills 79 = .ok (.iload 6, 2) := by decide +kernel
theorem dX8_fills_81 : decode cX8_fills 81 = .ok (.iload 4, 2) := by decide +kernel
theorem dX8_fills_83 : decode cX8_fills 83 = .ok (.iload 5, 2) := by decide +kernel
theorem dX8_fills_85 : decode cX8_fills 85 = .ok (.invokevirtual 92, 3) := by decide +kernel
theorem dX8_fills_88 : decode cX8_fills 88 = .ok (.iastore, 1) := by decide +kernel
theorem dX8_fills_89 : decode cX8_fills 89 = .ok (.iinc 3 2, 3) := by decide +kernel
theorem dX8_fills_92 : decode cX8_fills 92 = .ok (.goto (-81), 3) := by decide +kernel
theorem dX8_fills_95 : decode cX8_fills 95 = .ok (.return_, 1) := by decide +kernel
theorem dX8_byThrowing_0 : decode cX8_byThrowing 0 = .ok (.iconst 0, 1) := by decide +kernel
theorem dX8_byThrowing_1 : decode cX8_byThrowing 1 = .ok (.istore_n 1, 1) := by decide +kernel
theorem dX8_byThrowing_2 : decode cX8_byThrowing 2 = .ok (.aload_n 0, 1) := by decide +kernel
theorem dX8_byThrowing_3 : decode cX8_byThrowing 3 = .ok (.getfield 7, 3) := by decide +kernel
theorem dX8_byThrowing_6 : decode cX8_byThrowing 6 = .ok (.iconst 0, 1) := by decide +kernel
theorem dX8_byThrowing_7 : decode cX8_byThrowing 7 = .ok (.iaload, 1) := by decide +kernel
theorem dX8_byThrowing_8 : decode cX8_byThrowing 8 = .ok (.iload_n 1, 1) := by decide +kernel
theorem dX8_byThrowing_9 : decode cX8_byThrowing 9 = .ok (.ishr, 1) := by decide +kernel
theorem dX8_byThrowing_10 : decode cX8_byThrowing 10 = .ok (.ifCond .le 14, 3) := by decide +kernel
theorem dX8_byThrowing_13 : decode cX8_byThrowing 13 = .ok (.aload_n 0, 1) := by decide +kernel
theorem dX8_byThrowing_14 : decode cX8_byThrowing 14 = .ok (.iload_n 1, 1) := by decide +kernel
theorem dX8_byThrowing_15 : decode cX8_byThrowing 15 = .ok (.invokevirtual 96, 3) := by decide +kernel
theorem dX8_byThrowing_18 : decode cX8_byThrowing 18 = .ok (.iinc 1 1, 3) := by decide +kernel
theorem dX8_byThrowing_21 : decode cX8_byThrowing 21 = .ok (.goto (-19), 3) := by decide +kernel
theorem dX8_byThrowing_24 : decode cX8_byThrowing 24 = .ok (.iload_n 1, 1) := by decide +kernel
theorem dX8_byThrowing_25 : decode cX8_byThrowing 25 = .ok (.ifCond .le 14, 3) := by decide +kernel
theorem dX8_byThrowing_28 : decode cX8_byThrowing 28 = .ok (.iinc 1 (-1), 3) := by decide +kernel
theorem dX8_byThrowing_31 : decode cX8_byThrowing 31 = .ok (.aload_n 0, 1) := by decide +kernel
theorem dX8_byThrowing_32 : decode cX8_byThrowing 32 = .ok (.iload_n 1, 1) := by decide +kernel
theorem dX8_byThrowing_33 : decode cX8_byThrowing 33 = .ok (.invokevirtual 100, 3) := by decide +kernel
theorem dX8_byThrowing_36 : decode cX8_byThrowing 36 = .ok (.goto (-12), 3) := by decide +kernel
theorem dX8_byThrowing_39 : decode cX8_byThrowing 39 = .ok (.return_, 1) := by decide +kernel
theorem dX8_finds_0 : decode cX8_finds 0 = .ok (.aload_n 0, 1) := by decide +kernel
theorem dX8_finds_1 : decode cX8_finds 1 = .ok (.iconst 0, 1) := by decide +kernel
theorem dX8_finds_2 : decode cX8_finds 2 = .ok (.putfield 69, 3) := by decide +kernel
theorem dX8_finds_5 : decode cX8_finds 5 = .ok (.iload_n 1, 1) := by decide +kernel
theorem dX8_finds_6 : decode cX8_finds 6 = .ok (.ifCond .ne 10, 3) := by decide +kernel
theorem dX8_finds_9 : decode cX8_finds 9 = .ok (.aload_n 0, 1) := by decide +kernel
theorem dX8_finds_10 : decode cX8_finds 10 = .ok (.invokevirtual 103, 3) := by decide +kernel
theorem dX8_finds_13 : decode cX8_finds 13 = .ok (.goto 19, 3) := by decide +kernel
theorem dX8_finds_16 : decode cX8_finds 16 = .ok (.iload_n 1, 1) := by decide +kernel
theorem dX8_finds_17 : decode cX8_finds 17 = .ok (.iconst 1, 1) := by decide +kernel
theorem dX8_finds_18 : decode cX8_finds 18 = .ok (.if_icmp .ne 10, 3) := by decide +kernel
theorem dX8_finds_21 : decode cX8_finds 21 = .ok (.aload_n 0, 1) := by decide +kernel
theorem dX8_finds_22 : decode cX8_finds 22 = .ok (.invokevirtual 106, 3) := by decide +kernel
theorem dX8_finds_25 : decode cX8_finds 25 = .ok (.goto 7, 3) := by decide +kernel
theorem dX8_finds_28 : decode cX8_finds 28 = .ok (.aload_n 0, 1) := by decide +kernel
theorem dX8_finds_29 : decode cX8_finds 29 = .ok (.invokevirtual 109, 3) := by decide +kernel
theorem dX8_finds_32 : decode cX8_finds 32 = .ok (.return_, 1) := by decide +kernel
theorem dX8_canGo_0 : decode cX8_canGo 0 = .ok (.iload_n 1, 1) := by decide +kernel
theorem dX8_canGo_1 : decode cX8_canGo 1 = .ok (.ifCond .eq 10, 3) := by decide +kernel
theorem dX8_canGo_4 : decode cX8_canGo 4 = .ok (.aload_n 0, 1) := by decide +kernel
theorem dX8_canGo_5 : decode cX8_canGo 5 = .ok (.invokevirtual 112, 3) := by decide +kernel
theorem dX8_canGo_8 : decode cX8_canGo 8 = .ok (.ifCond .eq 7, 3) := by decide +kernel
theorem dX8_canGo_11 : decode cX8_canGo 11 = .ok (.iconst 1, 1) := by decide +kernel
theorem dX8_canGo_12 : decode cX8_canGo 12 = .ok (.goto 4, 3) := by decide +kernel
theorem dX8_canGo_15 : decode cX8_canGo 15 = .ok (.iconst 0, 1) := by decide +kernel
theorem dX8_canGo_16 : decode cX8_canGo 16 = .ok (.ireturn, 1) := by decide +kernel
theorem dX8_looksBy_0 : decode cX8_looksBy 0 = .ok (.aload_n 0, 1) := by decide +kernel
theorem dX8_looksBy_1 : decode cX8_looksBy 1 = .ok (.iload_n 1, 1) := by decide +kernel
theorem dX8_looksBy_2 : decode cX8_looksBy 2 = .ok (.invokevirtual 116, 3) := by decide +kernel
theorem dX8_looksBy_5 : decode cX8_looksBy 5 = .ok (.ifCond .ne 5, 3) := by decide +kernel
theorem dX8_looksBy_8 : decode cX8_looksBy 8 = .ok (.iconst (-1), 1) := by decide +kernel
theorem dX8_looksBy_9 : decode cX8_looksBy 9 = .ok (.ireturn, 1) := by decide +kernel
theorem dX8_looksBy_10 : decode cX8_looksBy 10 = .ok (.aload_n 0, 1) := by decide +kernel
theorem dX8_looksBy_11 : decode cX8_looksBy 11 = .ok (.iload_n 1, 1) := by decide +kernel
theorem dX8_looksBy_12 : decode cX8_looksBy 12 = .ok (.invokevirtual 120, 3) := by decide +kernel
theorem dX8_looksBy_15 : decode cX8_looksBy 15 = .ok (.aload_n 0, 1) := by decide +kernel
theorem dX8_looksBy_16 : decode cX8_looksBy 16 = .ok (.getfield 69, 3) := by decide +kernel
theorem dX8_looksBy_19 : decode cX8_looksBy 19 = .ok (.ireturn, 1) := by decide +kernel
theorem dX8_placeBy_0 : decode cX8_placeBy 0 = .ok (.aload_n 0, 1) := by decide +kernel
theorem dX8_placeBy_1 : decode cX8_placeBy 1 = .ok (.iload_n 2, 1) := by decide +kernel
theorem dX8_placeBy_2 : decode cX8_placeBy 2 = .ok (.invokevirtual 116, 3) := by decide +kernel
theorem dX8_placeBy_5 : decode cX8_placeBy 5 = .ok (.ifCond .ne 5, 3) := by decide +kernel
theorem dX8_placeBy_8 : decode cX8_placeBy 8 = .ok (.iconst (-1), 1) := by decide +kernel
theorem dX8_placeBy_9 : decode cX8_placeBy 9 = .ok (.ireturn, 1) := by decide +kernel
theorem dX8_placeBy_10 : decode cX8_placeBy 10 = .ok (.aload_n 0, 1) := by decide +kernel
theorem dX8_placeBy_11 : decode cX8_placeBy 11 = .ok (.iload_n 2, 1) := by decide +kernel
theorem dX8_placeBy_12 : decode cX8_placeBy 12 = .ok (.invokevirtual 120, 3) := by decide +kernel
theorem dX8_placeBy_15 : decode cX8_placeBy 15 = .ok (.aload_n 0, 1) := by decide +kernel
theorem dX8_placeBy_16 : decode cX8_placeBy 16 = .ok (.getfield 25, 3) := by decide +kernel
theorem dX8_placeBy_19 : decode cX8_placeBy 19 = .ok (.iload_n 1, 1) := by decide +kernel
theorem dX8_placeBy_20 : decode cX8_placeBy 20 = .ok (.iaload, 1) := by decide +kernel
theorem dX8_placeBy_21 : decode cX8_placeBy 21 = .ok (.ireturn, 1) := by decide +kernel
theorem dX8_isRow_0 : decode cX8_isRow 0 = .ok (.iload_n 1, 1) := by decide +kernel
theorem dX8_isRow_1 : decode cX8_isRow 1 = .ok (.iconst 0, 1) := by decide +kernel
theorem dX8_isRow_2 : decode cX8_isRow 2 = .ok (.aload_n 0, 1) := by decide +kernel
theorem dX8_isRow_3 : decode cX8_isRow 3 = .ok (.getfield 7, 3) := by decide +kernel
theorem dX8_isRow_6 : decode cX8_isRow 6 = .ok (.iconst 0, 1) := by decide +kernel
theorem dX8_isRow_7 : decode cX8_isRow 7 = .ok (.iaload, 1) := by decide +kernel
theorem dX8_isRow_8 : decode cX8_isRow 8 = .ok (.iconst 1, 1) := by decide +kernel
theorem dX8_isRow_9 : decode cX8_isRow 9 = .ok (.isub, 1) := by decide +kernel
theorem dX8_isRow_10 : decode cX8_isRow 10 = .ok (.invokestatic 89, 3) := by decide +kernel
theorem dX8_isRow_13 : decode cX8_isRow 13 = .ok (.ireturn, 1) := by decide +kernel
theorem dX8_isCell_0 : decode cX8_isCell 0 = .ok (.aload_n 0, 1) := by decide +kernel
theorem dX8_isCell_1 : decode cX8_isCell 1 = .ok (.iload_n 1, 1) := by decide +kernel
theorem dX8_isCell_2 : decode cX8_isCell 2 = .ok (.invokevirtual 123, 3) := by decide +kernel
theorem dX8_isCell_5 : decode cX8_isCell 5 = .ok (.ifCond .eq 23, 3) := by decide +kernel
theorem dX8_isCell_8 : decode cX8_isCell 8 = .ok (.iload_n 2, 1) := by decide +kernel
theorem dX8_isCell_9 : decode cX8_isCell 9 = .ok (.iconst 0, 1) := by decide +kernel
theorem dX8_isCell_10 : decode cX8_isCell 10 = .ok (.aload_n 0, 1) := by decide +kernel
theorem dX8_isCell_11 : decode cX8_isCell 11 = .ok (.getfield 7, 3) := by decide +kernel
theorem dX8_isCell_14 : decode cX8_isCell 14 = .ok (.iconst 1, 1) := by decide +kernel
theorem dX8_isCell_15 : decode cX8_isCell 15 = .ok (.iaload, 1) := by decide +kernel
theorem dX8_isCell_16 : decode cX8_isCell 16 = .ok (.iconst 1, 1) := by decide +kernel
theorem dX8_isCell_17 : decode cX8_isCell 17 = .ok (.isub, 1) := by decide +kernel
theorem dX8_isCell_18 : decode cX8_isCell 18 = .ok (.invokestatic 89, 3) := by decide +kernel
theorem dX8_isCell_21 : decode cX8_isCell 21 = .ok (.ifCond .eq 7, 3) := by decide +kernel
theorem dX8_isCell_24 : decode cX8_isCell 24 = .ok (.iconst 1, 1) := by decide +kernel
theorem dX8_isCell_25 : decode cX8_isCell 25 = .ok (.goto 4, 3) := by decide +kernel
theorem dX8_isCell_28 : decode cX8_isCell 28 = .ok (.iconst 0, 1) := by decide +kernel
theorem dX8_isCell_29 : decode cX8_isCell 29 = .ok (.ireturn, 1) := by decide +kernel
theorem dX8_size_0 : decode cX8_size 0 = .ok (.aload_n 0, 1) := by decide +kernel
theorem dX8_size_1 : decode cX8_size 1 = .ok (.iconst 0, 1) := by decide +kernel
theorem dX8_size_2 : decode cX8_size 2 = .ok (.putfield 46, 3) := by decide +kernel
theorem dX8_size_5 : decode cX8_size 5 = .ok (.iload_n 1, 1) := by decide +kernel
theorem dX8_size_6 : decode cX8_size 6 = .ok (.iconst 1, 1) := by decide +kernel
theorem dX8_size_7 : decode cX8_size 7 = .ok (.bipush 10, 2) := by decide +kernel
theorem dX8_size_9 : decode cX8_size 9 = .ok (.invokestatic 89, 3) := by decide +kernel
theorem dX8_size_12 : decode cX8_size 12 = .ok (.ifCond .eq 13, 3) := by decide +kernel
theorem dX8_size_15 : decode cX8_size 15 = .ok (.iload_n 2, 1) := by decide +kernel
theorem dX8_size_16 : decode cX8_size 16 = .ok (.iconst 1, 1) := by decide +kernel
theorem dX8_size_17 : decode cX8_size 17 = .ok (.bipush 10, 2) := by decide +kernel
theorem dX8_size_19 : decode cX8_size 19 = .ok (.invokestatic 89, 3) := by decide +kernel
theorem dX8_size_22 : decode cX8_size 22 = .ok (.ifCond .ne 9, 3) := by decide +kernel
theorem dX8_size_25 : decode cX8_size 25 = .ok (.aload_n 0, 1) := by decide +kernel
theorem dX8_size_26 : decode cX8_size 26 = .ok (.iconst 1, 1) := by decide +kernel
theorem dX8_size_27 : decode cX8_size 27 = .ok (.invokevirtual 126, 3) := by decide +kernel
theorem dX8_size_30 : decode cX8_size 30 = .ok (.ireturn, 1) := by decide +kernel
theorem dX8_size_31 : decode cX8_size 31 = .ok (.aload_n 0, 1) := by decide +kernel
theorem dX8_size_32 : decode cX8_size 32 = .ok (.invokevirtual 130, 3) := by decide +kernel
theorem dX8_size_35 : decode cX8_size 35 = .ok (.bipush 11, 2) := by decide +kernel
theorem dX8_size_37 : decode cX8_size 37 = .ok (.aload_n 0, 1) := by decide +kernel
theorem dX8_size_38 : decode cX8_size 38 = .ok (.getfield 7, 3) := by decide +kernel
theorem dX8_size_41 : decode cX8_size 41 = .ok (.iconst 0, 1) := by decide +kernel
theorem dX8_size_42 : decode cX8_size 42 = .ok (.iaload, 1) := by decide +kernel
theorem dX8_size_43 : decode cX8_size 43 = .ok (.imul, 1) := by decide +kernel
theorem dX8_size_44 : decode cX8_size 44 = .ok (.aload_n 0, 1) := by decide +kernel
theorem dX8_size_45 : decode cX8_size 45 = .ok (.getfield 7, 3) := by decide +kernel
theorem dX8_size_48 : decode cX8_size 48 = .ok (.iconst 1, 1) := by decide +kernel
theorem dX8_size_49 : decode cX8_size 49 = .ok (.iaload, 1) := by decide +kernel
theorem dX8_size_50 : decode cX8_size 50 = .ok (.iadd, 1) := by decide +kernel
theorem dX8_size_51 : decode cX8_size 51 = .ok (.istore_n 3, 1) := by decide +kernel
theorem dX8_size_52 : decode cX8_size 52 = .ok (.aload_n 0, 1) := by decide +kernel
theorem dX8_size_53 : decode cX8_size 53 = .ok (.getfield 7, 3) := by decide +kernel
theorem dX8_size_56 : decode cX8_size 56 = .ok (.iconst 0, 1) := by decide +kernel
theorem dX8_size_57 : decode cX8_size 57 = .ok (.iload_n 1, 1) := by decide +kernel
theorem dX8_size_58 : decode cX8_size 58 = .ok (.iastore, 1) := by decide +kernel
theorem dX8_size_59 : decode cX8_size 59 = .ok (.aload_n 0, 1) := by decide +kernel
theorem dX8_size_60 : decode cX8_size 60 = .ok (.getfield 7, 3) := by decide +kernel
theorem dX8_size_63 : decode cX8_size 63 = .ok (.iconst 1, 1) := by decide +kernel
theorem dX8_size_64 : decode cX8_size 64 = .ok (.iload_n 2, 1) := by decide +kernel
theorem dX8_size_65 : decode cX8_size 65 = .ok (.iastore, 1) := by decide +kernel
theorem dX8_size_66 : decode cX8_size 66 = .ok (.iload_n 3, 1) := by decide +kernel
theorem dX8_size_67 : decode cX8_size 67 = .ok (.ireturn, 1) := by decide +kernel
theorem dX8_put_0 : decode cX8_put 0 = .ok (.aload_n 0, 1) := by decide +kernel
theorem dX8_put_1 : decode cX8_put 1 = .ok (.iconst 0, 1) := by decide +kernel
theorem dX8_put_2 : decode cX8_put 2 = .ok (.putfield 46, 3) := by decide +kernel
theorem dX8_put_5 : decode cX8_put 5 = .ok (.aload_n 0, 1) := by decide +kernel
theorem dX8_put_6 : decode cX8_put 6 = .ok (.iload_n 1, 1) := by decide +kernel
theorem dX8_put_7 : decode cX8_put 7 = .ok (.iload_n 2, 1) := by decide +kernel
theorem dX8_put_8 : decode cX8_put 8 = .ok (.invokevirtual 133, 3) := by decide +kernel
theorem dX8_put_11 : decode cX8_put 11 = .ok (.ifCond .ne 9, 3) := by decide +kernel
theorem dX8_put_14 : decode cX8_put 14 = .ok (.aload_n 0, 1) := by decide +kernel
theorem dX8_put_15 : decode cX8_put 15 = .ok (.iconst 1, 1) := by decide +kernel
theorem dX8_put_16 : decode cX8_put 16 = .ok (.invokevirtual 126, 3) := by decide +kernel
theorem dX8_put_19 : decode cX8_put 19 = .ok (.ireturn, 1) := by decide +kernel
theorem dX8_put_20 : decode cX8_put 20 = .ok (.iload_n 3, 1) := by decide +kernel
theorem dX8_put_21 : decode cX8_put 21 = .ok (.iconst 0, 1) := by decide +kernel
theorem dX8_put_22 : decode cX8_put 22 = .ok (.sipush 9999, 3) := by decide +kernel
theorem dX8_put_25 : decode cX8_put 25 = .ok (.invokestatic 89, 3) := by decide +kernel
theorem dX8_put_28 : decode cX8_put 28 = .ok (.ifCond .ne 9, 3) := by decide +kernel
theorem dX8_put_31 : decode cX8_put 31 = .ok (.aload_n 0, 1) := by decide +kernel
theorem dX8_put_32 : decode cX8_put 32 = .ok (.iconst 2, 1) := by decide +kernel
theorem dX8_put_33 : decode cX8_put 33 = .ok (.invokevirtual 126, 3) := by decide +kernel
theorem dX8_put_36 : decode cX8_put 36 = .ok (.ireturn, 1) := by decide +kernel
theorem dX8_put_37 : decode cX8_put 37 = .ok (.aload_n 0, 1) := by decide +kernel
theorem dX8_put_38 : decode cX8_put 38 = .ok (.invokevirtual 130, 3) := by decide +kernel
theorem dX8_put_41 : decode cX8_put 41 = .ok (.aload_n 0, 1) := by decide +kernel
theorem dX8_put_42 : decode cX8_put 42 = .ok (.iload_n 1, 1) := by decide +kernel
theorem dX8_put_43 : decode cX8_put 43 = .ok (.iload_n 2, 1) := by decide +kernel
theorem dX8_put_44 : decode cX8_put 44 = .ok (.invokevirtual 57, 3) := by decide +kernel
theorem dX8_put_47 : decode cX8_put 47 = .ok (.istore 4, 2) := by decide +kernel
theorem dX8_put_49 : decode cX8_put 49 = .ok (.aload_n 0, 1) := by decide +kernel
theorem dX8_put_50 : decode cX8_put 50 = .ok (.iload_n 1, 1) := by decide +kernel
theorem dX8_put_51 : decode cX8_put 51 = .ok (.iload_n 2, 1) := by decide +kernel
theorem dX8_put_52 : decode cX8_put 52 = .ok (.iload_n 3, 1) := by decide +kernel
theorem dX8_put_53 : decode cX8_put 53 = .ok (.invokevirtual 137, 3) := by decide +kernel
theorem dX8_put_56 : decode cX8_put 56 = .ok (.iload 4, 2) := by decide +kernel
theorem dX8_put_58 : decode cX8_put 58 = .ok (.ireturn, 1) := by decide +kernel
theorem dX8_points_0 : decode cX8_points 0 = .ok (.aload_n 0, 1) := by decide +kernel
theorem dX8_points_1 : decode cX8_points 1 = .ok (.iconst 0, 1) := by decide +kernel
theorem dX8_points_2 : decode cX8_points 2 = .ok (.putfield 46, 3) := by decide +kernel
theorem dX8_points_5 : decode cX8_points 5 = .ok (.iload_n 1, 1) := by decide +kernel
theorem dX8_points_6 : decode cX8_points 6 = .ok (.iconst 0, 1) := by decide +kernel
theorem dX8_points_7 : decode cX8_points 7 = .ok (.bipush 50, 2) := by decide +kernel
theorem dX8_points_9 : decode cX8_points 9 = .ok (.invokestatic 89, 3) := by decide +kernel
theorem dX8_points_12 : decode cX8_points 12 = .ok (.ifCond .eq 34, 3) := by decide +kernel
theorem dX8_points_15 : decode cX8_points 15 = .ok (.iload_n 2, 1) := by decide +kernel
theorem dX8_points_16 : decode cX8_points 16 = .ok (.iconst 0, 1) := by decide +kernel
theorem dX8_points_17 : decode cX8_points 17 = .ok (.bipush 9, 2) := by decide +kernel
theorem dX8_points_19 : decode cX8_points 19 = .ok (.invokestatic 89, 3) := by decide +kernel
theorem dX8_points_22 : decode cX8_points 22 = .ok (.ifCond .eq 24, 3) := by decide +kernel
theorem dX8_points_25 : decode cX8_points 25 = .ok (.iload_n 3, 1) := by decide +kernel
theorem dX8_points_26 : decode cX8_points 26 = .ok (.iconst 0, 1) := by decide +kernel
theorem dX8_points_27 : decode cX8_points 27 = .ok (.bipush 50, 2) := by decide +kernel
theorem dX8_points_29 : decode cX8_points 29 = .ok (.invokestatic 89, 3) := by decide +kernel
theorem dX8_points_32 : decode cX8_points 32 = .ok (.ifCond .eq 14, 3) := by decide +kernel
theorem dX8_points_35 : decode cX8_points 35 = .ok (.iload 4, 2) := by decide +kernel
theorem dX8_points_37 : decode cX8_points 37 = .ok (.iconst 0, 1) := by decide +kernel
theorem dX8_points_38 : decode cX8_points 38 = .ok (.bipush 9, 2) := by decide +kernel
theorem dX8_points_40 : decode cX8_points 40 = .ok (.invokestatic 89, 3) := by decide +kernel
theorem dX8_points_43 : decode cX8_points 43 = .ok (.ifCond .ne 9, 3) := by decide +kernel
theorem dX8_points_46 : decode cX8_points 46 = .ok (.aload_n 0, 1) := by decide +kernel
theorem dX8_points_47 : decode cX8_points 47 = .ok (.iconst 1, 1) := by decide +kernel
theorem dX8_points_48 : decode cX8_points 48 = .ok (.invokevirtual 126, 3) := by decide +kernel
theorem dX8_points_51 : decode cX8_points 51 = .ok (.ireturn, 1) := by decide +kernel
theorem dX8_points_52 : decode cX8_points 52 = .ok (.aload_n 0, 1) := by decide +kernel
theorem dX8_points_53 : decode cX8_points 53 = .ok (.invokevirtual 130, 3) := by decide +kernel
theorem dX8_points_56 : decode cX8_points 56 = .ok (.iconst 0, 1) := by decide +kernel
theorem dX8_points_57 : decode cX8_points 57 = .ok (.istore 5, 2) := by decide +kernel
theorem dX8_points_59 : decode cX8_points 59 = .ok (.iload 5, 2) := by decide +kernel
theorem dX8_points_61 : decode cX8_points 61 = .ok (.bipush 10, 2) := by decide +kernel
theorem dX8_points_63 : decode cX8_points 63 = .ok (.aload_n 0, 1) := by decide +kernel
theorem dX8_points_64 : decode cX8_points 64 = .ok (.getfield 7, 3) := by decide +kernel
theorem dX8_points_67 : decode cX8_points 67 = .ok (.iconst 0, 1) := by decide +kernel
theorem dX8_points_68 : decode cX8_points 68 = .ok (.iaload, 1) := by decide +kernel
theorem dX8_points_69 : decode cX8_points 69 = .ok (.imul, 1) := by decide +kernel
theorem dX8_points_70 : decode cX8_points 70 = .ok (.if_icmp .ge 81, 3) := by decide +kernel
theorem dX8_points_73 : decode cX8_points 73 = .ok (.iload_n 1, 1) := by decide +kernel
theorem dX8_points_74 : decode cX8_points 74 = .ok (.iload_n 2, 1) := by decide +kernel
theorem dX8_points_75 : decode cX8_points 75 = .ok (.iload 5, 2) := by decide +kernel
theorem dX8_points_77 : decode cX8_points 77 = .ok (.bipush 10, 2) := by decide +kernel
theorem dX8_points_79 : decode cX8_points 79 = .ok (.idiv, 1) := by decide +kernel
theorem dX8_points_80 : decode cX8_points 80 = .ok (.imul, 1) := by decide +kernel
theorem dX8_points_81 : decode cX8_points 81 = .ok (.iadd, 1) := by decide +kernel
theorem dX8_points_82 : decode cX8_points 82 = .ok (.iload_n 3, 1) := by decide +kernel
theorem dX8_points_83 : decode cX8_points 83 = .ok (.isub, 1) := by decide +kernel
theorem dX8_points_84 : decode cX8_points 84 = .ok (.iload 4, 2) := by decide +kernel
theorem dX8_points_86 : decode cX8_points 86 = .ok (.iload 5, 2) := by decide +kernel
theorem dX8_points_88 : decode cX8_points 88 = .ok (.bipush 10, 2) := by decide +kernel
theorem dX8_points_90 : decode cX8_points 90 = .ok (.irem, 1) := by decide +kernel
theorem dX8_points_91 : decode cX8_points 91 = .ok (.imul, 1) := by decide +kernel
theorem dX8_points_92 : decode cX8_points 92 = .ok (.isub, 1) := by decide +kernel
theorem dX8_points_93 : decode cX8_points 93 = .ok (.istore 6, 2) := by decide +kernel
theorem dX8_points_95 : decode cX8_points 95 = .ok (.iload 5, 2) := by decide +kernel
theorem dX8_points_97 : decode cX8_points 97 = .ok (.bipush 10, 2) := by decide +kernel
theorem dX8_points_99 : decode cX8_points 99 = .ok (.irem, 1) := by decide +kernel
theorem dX8_points_100 : decode cX8_points 100 = .ok (.aload_n 0, 1) := by decide +kernel
theorem dX8_points_101 : decode cX8_points 101 = .ok (.getfield 7, 3) := by decide +kernel
theorem dX8_points_104 : decode cX8_points 104 = .ok (.iconst 1, 1) := by decide +kernel
theorem dX8_points_105 : decode cX8_points 105 = .ok (.iaload, 1) := by decide +kernel
theorem dX8_points_106 : decode cX8_points 106 = .ok (.if_icmp .ge 39, 3) := by decide +kernel
theorem dX8_points_109 : decode cX8_points 109 = .ok (.aload_n 0, 1) := by decide +kernel
theorem dX8_points_110 : decode cX8_points 110 = .ok (.iload 5, 2) := by decide +kernel
theorem dX8_points_112 : decode cX8_points 112 = .ok (.bipush 10, 2) := by decide +kernel
theorem dX8_points_114 : decode cX8_points 114 = .ok (.idiv, 1) := by decide +kernel
theorem dX8_points_115 : decode cX8_points 115 = .ok (.iload 5, 2) := by decide +kernel
theorem dX8_points_117 : decode cX8_points 117 = .ok (.bipush 10, 2) := by decide +kernel
theorem dX8_points_119 : decode cX8_points 119 = .ok (.irem, 1) := by decide +kernel
theorem dX8_points_120 : decode cX8_points 120 = .ok (.iload 6, 2) := by decide +kernel
theorem dX8_points_122 : decode cX8_points 122 = .ok (.iload 6, 2) := by decide +kernel
theorem dX8_points_124 : decode cX8_points 124 = .ok (.imul, 1) := by decide +kernel
theorem dX8_points_125 : decode cX8_points 125 = .ok (.sipush 9999, 3) := by decide +kernel
theorem dX8_points_128 : decode cX8_points 128 = .ok (.if_icmp .ge 11, 3) := by decide +kernel
theorem dX8_points_131 : decode cX8_points 131 = .ok (.iload 6, 2) := by decide +kernel
theorem dX8_points_133 : decode cX8_points 133 = .ok (.iload 6, 2) := by decide +kernel
theorem dX8_points_135 : decode cX8_points 135 = .ok (.imul, 1) := by decide +kernel
theorem dX8_points_136 : decode cX8_points 136 = .ok (.goto 6, 3) := by decide +kernel
theorem dX8_points_139 : decode cX8_points 139 = .ok (.sipush 9999, 3) := by decide +kernel
theorem dX8_points_142 : decode cX8_points 142 = .ok (.invokevirtual 137, 3) := by decide +kernel
theorem dX8_points_145 : decode cX8_points 145 = .ok (.iinc 5 1, 3) := by decide +kernel
theorem dX8_points_148 : decode cX8_points 148 = .ok (.goto (-89), 3) := by decide +kernel
theorem dX8_points_151 : decode cX8_points 151 = .ok (.aload_n 0, 1) := by decide +kernel
theorem dX8_points_152 : decode cX8_points 152 = .ok (.invokevirtual 112, 3) := by decide +kernel
theorem dX8_points_155 : decode cX8_points 155 = .ok (.ifCond .eq 7, 3) := by decide +kernel
theorem dX8_points_158 : decode cX8_points 158 = .ok (.iconst 1, 1) := by decide +kernel
theorem dX8_points_159 : decode cX8_points 159 = .ok (.goto 4, 3) := by decide +kernel
theorem dX8_points_162 : decode cX8_points 162 = .ok (.iconst 0, 1) := by decide +kernel
theorem dX8_points_163 : decode cX8_points 163 = .ok (.ireturn, 1) := by decide +kernel
theorem dX8_mend_0 : decode cX8_mend 0 = .ok (.aload_n 0, 1) := by decide +kernel
theorem dX8_mend_1 : decode cX8_mend 1 = .ok (.iconst 0, 1) := by decide +kernel
theorem dX8_mend_2 : decode cX8_mend 2 = .ok (.putfield 46, 3) := by decide +kernel
theorem dX8_mend_5 : decode cX8_mend 5 = .ok (.aload_n 0, 1) := by decide +kernel
theorem dX8_mend_6 : decode cX8_mend 6 = .ok (.invokevirtual 65, 3) := by decide +kernel
theorem dX8_mend_9 : decode cX8_mend 9 = .ok (.istore_n 1, 1) := by decide +kernel
theorem dX8_mend_10 : decode cX8_mend 10 = .ok (.aload_n 0, 1) := by decide +kernel
theorem dX8_mend_11 : decode cX8_mend 11 = .ok (.invokevirtual 130, 3) := by decide +kernel
theorem dX8_mend_14 : decode cX8_mend 14 = .ok (.iload_n 1, 1) := by decide +kernel
theorem dX8_mend_15 : decode cX8_mend 15 = .ok (.iconst (-1), 1) := by decide +kernel
theorem dX8_mend_16 : decode cX8_mend 16 = .ok (.if_icmp .ne 5, 3) := by decide +kernel
theorem dX8_mend_19 : decode cX8_mend 19 = .ok (.iconst (-1), 1) := by decide +kernel
theorem dX8_mend_20 : decode cX8_mend 20 = .ok (.ireturn, 1) := by decide +kernel
theorem dX8_mend_21 : decode cX8_mend 21 = .ok (.iload_n 1, 1) := by decide +kernel
theorem dX8_mend_22 : decode cX8_mend 22 = .ok (.bipush 100, 2) := by decide +kernel
theorem dX8_mend_24 : decode cX8_mend 24 = .ok (.idiv, 1) := by decide +kernel
theorem dX8_mend_25 : decode cX8_mend 25 = .ok (.istore_n 2, 1) := by decide +kernel
theorem dX8_mend_26 : decode cX8_mend 26 = .ok (.aload_n 0, 1) := by decide +kernel
theorem dX8_mend_27 : decode cX8_mend 27 = .ok (.iload_n 2, 1) := by decide +kernel
theorem dX8_mend_28 : decode cX8_mend 28 = .ok (.iconst 1, 1) := by decide +kernel
theorem dX8_mend_29 : decode cX8_mend 29 = .ok (.iadd, 1) := by decide +kernel
theorem dX8_mend_30 : decode cX8_mend 30 = .ok (.iload_n 1, 1) := by decide +kernel
theorem dX8_mend_31 : decode cX8_mend 31 = .ok (.bipush 10, 2) := by decide +kernel
theorem dX8_mend_33 : decode cX8_mend 33 = .ok (.irem, 1) := by decide +kernel
theorem dX8_mend_34 : decode cX8_mend 34 = .ok (.invokevirtual 57, 3) := by decide +kernel
theorem dX8_mend_37 : decode cX8_mend 37 = .ok (.iconst 1, 1) := by decide +kernel
theorem dX8_mend_38 : decode cX8_mend 38 = .ok (.iadd, 1) := by decide +kernel
theorem dX8_mend_39 : decode cX8_mend 39 = .ok (.istore_n 3, 1) := by decide +kernel
theorem dX8_mend_40 : decode cX8_mend 40 = .ok (.iload_n 3, 1) := by decide +kernel
theorem dX8_mend_41 : decode cX8_mend 41 = .ok (.sipush 9999, 3) := by decide +kernel
theorem dX8_mend_44 : decode cX8_mend 44 = .ok (.if_icmp .le 5, 3) := by decide +kernel
theorem dX8_mend_47 : decode cX8_mend 47 = .ok (.iconst (-1), 1) := by decide +kernel
theorem dX8_mend_48 : decode cX8_mend 48 = .ok (.ireturn, 1) := by decide +kernel
theorem dX8_mend_49 : decode cX8_mend 49 = .ok (.aload_n 0, 1) := by decide +kernel
theorem dX8_mend_50 : decode cX8_mend 50 = .ok (.iload_n 2, 1) := by decide +kernel
theorem dX8_mend_51 : decode cX8_mend 51 = .ok (.iconst 1, 1) := by decide +kernel
theorem dX8_mend_52 : decode cX8_mend 52 = .ok (.iadd, 1) := by decide +kernel
theorem dX8_mend_53 : decode cX8_mend 53 = .ok (.iload_n 1, 1) := by decide +kernel
theorem dX8_mend_54 : decode cX8_mend 54 = .ok (.bipush 10, 2) := by decide +kernel
theorem dX8_mend_56 : decode cX8_mend 56 = .ok (.idiv, 1) := by decide +kernel
theorem dX8_mend_57 : decode cX8_mend 57 = .ok (.bipush 10, 2) := by decide +kernel
theorem dX8_mend_59 : decode cX8_mend 59 = .ok (.irem, 1) := by decide +kernel
theorem dX8_mend_60 : decode cX8_mend 60 = .ok (.iload_n 3, 1) := by decide +kernel
theorem dX8_mend_61 : decode cX8_mend 61 = .ok (.invokevirtual 137, 3) := by decide +kernel
theorem dX8_mend_64 : decode cX8_mend 64 = .ok (.aload_n 0, 1) := by decide +kernel
theorem dX8_mend_65 : decode cX8_mend 65 = .ok (.getfield 7, 3) := by decide +kernel
theorem dX8_mend_68 : decode cX8_mend 68 = .ok (.iconst 4, 1) := by decide +kernel
theorem dX8_mend_69 : decode cX8_mend 69 = .ok (.dup2, 1) := by decide +kernel
theorem dX8_mend_70 : decode cX8_mend 70 = .ok (.iaload, 1) := by decide +kernel
theorem dX8_mend_71 : decode cX8_mend 71 = .ok (.iconst 1, 1) := by decide +kernel
theorem dX8_mend_72 : decode cX8_mend 72 = .ok (.iadd, 1) := by decide +kernel
theorem dX8_mend_73 : decode cX8_mend 73 = .ok (.iastore, 1) := by decide +kernel
theorem dX8_mend_74 : decode cX8_mend 74 = .ok (.iload_n 2, 1) := by decide +kernel
theorem dX8_mend_75 : decode cX8_mend 75 = .ok (.ireturn, 1) := by decide +kernel
theorem dX8_find_0 : decode cX8_find 0 = .ok (.aload_n 0, 1) := by decide +kernel
theorem dX8_find_1 : decode cX8_find 1 = .ok (.iconst 0, 1) := by decide +kernel
theorem dX8_find_2 : decode cX8_find 2 = .ok (.putfield 46, 3) := by decide +kernel
theorem dX8_find_5 : decode cX8_find 5 = .ok (.iload_n 1, 1) := by decide +kernel
theorem dX8_find_6 : decode cX8_find 6 = .ok (.iconst 0, 1) := by decide +kernel
theorem dX8_find_7 : decode cX8_find 7 = .ok (.iconst 2, 1) := by decide +kernel
theorem dX8_find_8 : decode cX8_find 8 = .ok (.invokestatic 89, 3) := by decide +kernel
theorem dX8_find_11 : decode cX8_find 11 = .ok (.ifCond .ne 9, 3) := by decide +kernel
theorem dX8_find_14 : decode cX8_find 14 = .ok (.aload_n 0, 1) := by decide +kernel
theorem dX8_find_15 : decode cX8_find 15 = .ok (.iconst 1, 1) := by decide +kernel
theorem dX8_find_16 : decode cX8_find 16 = .ok (.invokevirtual 126, 3) := by decide +kernel
theorem dX8_find_19 : decode cX8_find 19 = .ok (.ireturn, 1) := by decide +kernel
theorem dX8_find_20 : decode cX8_find 20 = .ok (.aload_n 0, 1) := by decide +kernel
theorem dX8_find_21 : decode cX8_find 21 = .ok (.iload_n 1, 1) := by decide +kernel
theorem dX8_find_22 : decode cX8_find 22 = .ok (.invokevirtual 116, 3) := by decide +kernel
theorem dX8_find_25 : decode cX8_find 25 = .ok (.ifCond .ne 9, 3) := by decide +kernel
theorem dX8_find_28 : decode cX8_find 28 = .ok (.aload_n 0, 1) := by decide +kernel
theorem dX8_find_29 : decode cX8_find 29 = .ok (.iconst 2, 1) := by decide +kernel
theorem dX8_find_30 : decode cX8_find 30 = .ok (.invokevirtual 126, 3) := by decide +kernel
theorem dX8_find_33 : decode cX8_find 33 = .ok (.ireturn, 1) := by decide +kernel
theorem dX8_find_34 : decode cX8_find 34 = .ok (.aload_n 0, 1) := by decide +kernel
theorem dX8_find_35 : decode cX8_find 35 = .ok (.invokevirtual 130, 3) := by decide +kernel
theorem dX8_find_38 : decode cX8_find 38 = .ok (.aload_n 0, 1) := by decide +kernel
theorem dX8_find_39 : decode cX8_find 39 = .ok (.iload_n 1, 1) := by decide +kernel
theorem dX8_find_40 : decode cX8_find 40 = .ok (.invokevirtual 120, 3) := by decide +kernel
theorem dX8_find_43 : decode cX8_find 43 = .ok (.aload_n 0, 1) := by decide +kernel
theorem dX8_find_44 : decode cX8_find 44 = .ok (.getfield 7, 3) := by decide +kernel
theorem dX8_find_47 : decode cX8_find 47 = .ok (.iconst 2, 1) := by decide +kernel
theorem dX8_find_48 : decode cX8_find 48 = .ok (.dup2, 1) := by decide +kernel
theorem dX8_find_49 : decode cX8_find 49 = .ok (.iaload, 1) := by decide +kernel
theorem dX8_find_50 : decode cX8_find 50 = .ok (.aload_n 0, 1) := by decide +kernel
theorem dX8_find_51 : decode cX8_find 51 = .ok (.getfield 69, 3) := by decide +kernel
theorem dX8_find_54 : decode cX8_find 54 = .ok (.iadd, 1) := by decide +kernel
theorem dX8_find_55 : decode cX8_find 55 = .ok (.iastore, 1) := by decide +kernel
theorem dX8_find_56 : decode cX8_find 56 = .ok (.aload_n 0, 1) := by decide +kernel
theorem dX8_find_57 : decode cX8_find 57 = .ok (.getfield 7, 3) := by decide +kernel
theorem dX8_find_60 : decode cX8_find 60 = .ok (.iconst 3, 1) := by decide +kernel
theorem dX8_find_61 : decode cX8_find 61 = .ok (.dup2, 1) := by decide +kernel
theorem dX8_find_62 : decode cX8_find 62 = .ok (.iaload, 1) := by decide +kernel
theorem dX8_find_63 : decode cX8_find 63 = .ok (.iconst 1, 1) := by decide +kernel
theorem dX8_find_64 : decode cX8_find 64 = .ok (.iadd, 1) := by decide +kernel
theorem dX8_find_65 : decode cX8_find 65 = .ok (.iastore, 1) := by decide +kernel
theorem dX8_find_66 : decode cX8_find 66 = .ok (.aload_n 0, 1) := by decide +kernel
theorem dX8_find_67 : decode cX8_find 67 = .ok (.getfield 69, 3) := by decide +kernel
theorem dX8_find_70 : decode cX8_find 70 = .ok (.ireturn, 1) := by decide +kernel
theorem dX8_weigh_0 : decode cX8_weigh 0 = .ok (.aload_n 0, 1) := by decide +kernel
theorem dX8_weigh_1 : decode cX8_weigh 1 = .ok (.iconst 0, 1) := by decide +kernel
theorem dX8_weigh_2 : decode cX8_weigh 2 = .ok (.putfield 46, 3) := by decide +kernel
theorem dX8_weigh_5 : decode cX8_weigh 5 = .ok (.iload_n 1, 1) := by decide +kernel
theorem dX8_weigh_6 : decode cX8_weigh 6 = .ok (.iconst 1, 1) := by decide +kernel
theorem dX8_weigh_7 : decode cX8_weigh 7 = .ok (.bipush 99, 2) := by decide +kernel
theorem dX8_weigh_9 : decode cX8_weigh 9 = .ok (.invokestatic 89, 3) := by decide +kernel
theorem dX8_weigh_12 : decode cX8_weigh 12 = .ok (.ifCond .ne 9, 3) := by decide +kernel
theorem dX8_weigh_15 : decode cX8_weigh 15 = .ok (.aload_n 0, 1) := by decide +kernel
theorem dX8_weigh_16 : decode cX8_weigh 16 = .ok (.iconst 1, 1) := by decide +kernel
theorem dX8_weigh_17 : decode cX8_weigh 17 = .ok (.invokevirtual 126, 3) := by decide +kernel
theorem dX8_weigh_20 : decode cX8_weigh 20 = .ok (.ireturn, 1) := by decide +kernel
theorem dX8_weigh_21 : decode cX8_weigh 21 = .ok (.aload_n 0, 1) := by decide +kernel
theorem dX8_weigh_22 : decode cX8_weigh 22 = .ok (.getfield 7, 3) := by decide +kernel
theorem dX8_weigh_25 : decode cX8_weigh 25 = .ok (.iconst 5, 1) := by decide +kernel
theorem dX8_weigh_26 : decode cX8_weigh 26 = .ok (.iaload, 1) := by decide +kernel
theorem dX8_weigh_27 : decode cX8_weigh 27 = .ok (.bipush 10, 2) := by decide +kernel
theorem dX8_weigh_29 : decode cX8_weigh 29 = .ok (.if_icmp .ne 9, 3) := by decide +kernel
theorem dX8_weigh_32 : decode cX8_weigh 32 = .ok (.aload_n 0, 1) := by decide +kernel
theorem dX8_weigh_33 : decode cX8_weigh 33 = .ok (.iconst 2, 1) := by decide +kernel
theorem dX8_weigh_34 : decode cX8_weigh 34 = .ok (.invokevirtual 126, 3) := by decide +kernel
theorem dX8_weigh_37 : decode cX8_weigh 37 = .ok (.ireturn, 1) := by decide +kernel
theorem dX8_weigh_38 : decode cX8_weigh 38 = .ok (.aload_n 0, 1) := by decide +kernel
theorem dX8_weigh_39 : decode cX8_weigh 39 = .ok (.invokevirtual 130, 3) := by decide +kernel
theorem dX8_weigh_42 : decode cX8_weigh 42 = .ok (.aload_n 0, 1) := by decide +kernel
theorem dX8_weigh_43 : decode cX8_weigh 43 = .ok (.getfield 7, 3) := by decide +kernel
theorem dX8_weigh_46 : decode cX8_weigh 46 = .ok (.bipush 6, 2) := by decide +kernel
theorem dX8_weigh_48 : decode cX8_weigh 48 = .ok (.aload_n 0, 1) := by decide +kernel
theorem dX8_weigh_49 : decode cX8_weigh 49 = .ok (.getfield 7, 3) := by decide +kernel
theorem dX8_weigh_52 : decode cX8_weigh 52 = .ok (.iconst 5, 1) := by decide +kernel
theorem dX8_weigh_53 : decode cX8_weigh 53 = .ok (.iaload, 1) := by decide +kernel
theorem dX8_weigh_54 : decode cX8_weigh 54 = .ok (.iadd, 1) := by decide +kernel
theorem dX8_weigh_55 : decode cX8_weigh 55 = .ok (.iload_n 1, 1) := by decide +kernel
theorem dX8_weigh_56 : decode cX8_weigh 56 = .ok (.iastore, 1) := by decide +kernel
theorem dX8_weigh_57 : decode cX8_weigh 57 = .ok (.aload_n 0, 1) := by decide +kernel
theorem dX8_weigh_58 : decode cX8_weigh 58 = .ok (.getfield 7, 3) := by decide +kernel
theorem dX8_weigh_61 : decode cX8_weigh 61 = .ok (.iconst 5, 1) := by decide +kernel
theorem dX8_weigh_62 : decode cX8_weigh 62 = .ok (.dup2, 1) := by decide +kernel
theorem dX8_weigh_63 : decode cX8_weigh 63 = .ok (.iaload, 1) := by decide +kernel
theorem dX8_weigh_64 : decode cX8_weigh 64 = .ok (.iconst 1, 1) := by decide +kernel
theorem dX8_weigh_65 : decode cX8_weigh 65 = .ok (.iadd, 1) := by decide +kernel
theorem dX8_weigh_66 : decode cX8_weigh 66 = .ok (.iastore, 1) := by decide +kernel
theorem dX8_weigh_67 : decode cX8_weigh 67 = .ok (.aload_n 0, 1) := by decide +kernel
theorem dX8_weigh_68 : decode cX8_weigh 68 = .ok (.getfield 7, 3) := by decide +kernel
theorem dX8_weigh_71 : decode cX8_weigh 71 = .ok (.iconst 5, 1) := by decide +kernel
theorem dX8_weigh_72 : decode cX8_weigh 72 = .ok (.iaload, 1) := by decide +kernel
theorem dX8_weigh_73 : decode cX8_weigh 73 = .ok (.ireturn, 1) := by decide +kernel
theorem dX8_unweigh_0 : decode cX8_unweigh 0 = .ok (.aload_n 0, 1) := by decide +kernel
theorem dX8_unweigh_1 : decode cX8_unweigh 1 = .ok (.iconst 0, 1) := by decide +kernel
theorem dX8_unweigh_2 : decode cX8_unweigh 2 = .ok (.putfield 46, 3) := by decide +kernel
theorem dX8_unweigh_5 : decode cX8_unweigh 5 = .ok (.aload_n 0, 1) := by decide +kernel
theorem dX8_unweigh_6 : decode cX8_unweigh 6 = .ok (.getfield 7, 3) := by decide +kernel
theorem dX8_unweigh_9 : decode cX8_unweigh 9 = .ok (.iconst 5, 1) := by decide +kernel
theorem dX8_unweigh_10 : decode cX8_unweigh 10 = .ok (.iaload, 1) := by decide +kernel
theorem dX8_unweigh_11 : decode cX8_unweigh 11 = .ok (.iconst 1, 1) := by decide +kernel
theorem dX8_unweigh_12 : decode cX8_unweigh 12 = .ok (.if_icmp .ne 9, 3) := by decide +kernel
theorem dX8_unweigh_15 : decode cX8_unweigh 15 = .ok (.aload_n 0, 1) := by decide +kernel
theorem dX8_unweigh_16 : decode cX8_unweigh 16 = .ok (.iconst 1, 1) := by decide +kernel
theorem dX8_unweigh_17 : decode cX8_unweigh 17 = .ok (.invokevirtual 126, 3) := by decide +kernel
theorem dX8_unweigh_20 : decode cX8_unweigh 20 = .ok (.ireturn, 1) := by decide +kernel
theorem dX8_unweigh_21 : decode cX8_unweigh 21 = .ok (.aload_n 0, 1) := by decide +kernel
theorem dX8_unweigh_22 : decode cX8_unweigh 22 = .ok (.invokevirtual 130, 3) := by decide +kernel
theorem dX8_unweigh_25 : decode cX8_unweigh 25 = .ok (.aload_n 0, 1) := by decide +kernel
theorem dX8_unweigh_26 : decode cX8_unweigh 26 = .ok (.getfield 7, 3) := by decide +kernel
theorem dX8_unweigh_29 : decode cX8_unweigh 29 = .ok (.iconst 5, 1) := by decide +kernel
theorem dX8_unweigh_30 : decode cX8_unweigh 30 = .ok (.dup2, 1) := by decide +kernel
theorem dX8_unweigh_31 : decode cX8_unweigh 31 = .ok (.iaload, 1) := by decide +kernel
theorem dX8_unweigh_32 : decode cX8_unweigh 32 = .ok (.iconst 1, 1) := by decide +kernel
theorem dX8_unweigh_33 : decode cX8_unweigh 33 = .ok (.isub, 1) := by decide +kernel
theorem dX8_unweigh_34 : decode cX8_unweigh 34 = .ok (.iastore, 1) := by decide +kernel
theorem dX8_unweigh_35 : decode cX8_unweigh 35 = .ok (.aload_n 0, 1) := by decide +kernel
theorem dX8_unweigh_36 : decode cX8_unweigh 36 = .ok (.getfield 7, 3) := by decide +kernel
theorem dX8_unweigh_39 : decode cX8_unweigh 39 = .ok (.bipush 6, 2) := by decide +kernel
theorem dX8_unweigh_41 : decode cX8_unweigh 41 = .ok (.aload_n 0, 1) := by decide +kernel
theorem dX8_unweigh_42 : decode cX8_unweigh 42 = .ok (.getfield 7, 3) := by decide +kernel
theorem dX8_unweigh_45 : decode cX8_unweigh 45 = .ok (.iconst 5, 1) := by decide +kernel
theorem dX8_unweigh_46 : decode cX8_unweigh 46 = .ok (.iaload, 1) := by decide +kernel
theorem dX8_unweigh_47 : decode cX8_unweigh 47 = .ok (.iadd, 1) := by decide +kernel
theorem dX8_unweigh_48 : decode cX8_unweigh 48 = .ok (.iaload, 1) := by decide +kernel
theorem dX8_unweigh_49 : decode cX8_unweigh 49 = .ok (.istore_n 1, 1) := by decide +kernel
theorem dX8_unweigh_50 : decode cX8_unweigh 50 = .ok (.aload_n 0, 1) := by decide +kernel
theorem dX8_unweigh_51 : decode cX8_unweigh 51 = .ok (.getfield 7, 3) := by decide +kernel
theorem dX8_unweigh_54 : decode cX8_unweigh 54 = .ok (.bipush 6, 2) := by decide +kernel
theorem dX8_unweigh_56 : decode cX8_unweigh 56 = .ok (.aload_n 0, 1) := by decide +kernel
theorem dX8_unweigh_57 : decode cX8_unweigh 57 = .ok (.getfield 7, 3) := by decide +kernel
theorem dX8_unweigh_60 : decode cX8_unweigh 60 = .ok (.iconst 5, 1) := by decide +kernel
theorem dX8_unweigh_61 : decode cX8_unweigh 61 = .ok (.iaload, 1) := by decide +kernel
theorem dX8_unweigh_62 : decode cX8_unweigh 62 = .ok (.iadd, 1) := by decide +kernel
theorem dX8_unweigh_63 : decode cX8_unweigh 63 = .ok (.iconst 0, 1) := by decide +kernel
theorem dX8_unweigh_64 : decode cX8_unweigh 64 = .ok (.iastore, 1) := by decide +kernel
theorem dX8_unweigh_65 : decode cX8_unweigh 65 = .ok (.iload_n 1, 1) := by decide +kernel
theorem dX8_unweigh_66 : decode cX8_unweigh 66 = .ok (.ireturn, 1) := by decide +kernel
theorem dX8_append_0 : decode cX8_append 0 = .ok (.aload_n 0, 1) := by decide +kernel
theorem dX8_append_1 : decode cX8_append 1 = .ok (.iconst 0, 1) := by decide +kernel
theorem dX8_append_2 : decode cX8_append 2 = .ok (.putfield 46, 3) := by decide +kernel
theorem dX8_append_5 : decode cX8_append 5 = .ok (.iload_n 1, 1) := by decide +kernel
theorem dX8_append_6 : decode cX8_append 6 = .ok (.bipush 33, 2) := by decide +kernel
theorem dX8_append_8 : decode cX8_append 8 = .ok (.bipush 126, 2) := by decide +kernel
theorem dX8_append_10 : decode cX8_append 10 = .ok (.invokestatic 89, 3) := by decide +kernel
theorem dX8_append_13 : decode cX8_append 13 = .ok (.ifCond .ne 9, 3) := by decide +kernel
theorem dX8_append_16 : decode cX8_append 16 = .ok (.aload_n 0, 1) := by decide +kernel
theorem dX8_append_17 : decode cX8_append 17 = .ok (.iconst 1, 1) := by decide +kernel
theorem dX8_append_18 : decode cX8_append 18 = .ok (.invokevirtual 126, 3) := by decide +kernel
theorem dX8_append_21 : decode cX8_append 21 = .ok (.ireturn, 1) := by decide +kernel
theorem dX8_append_22 : decode cX8_append 22 = .ok (.aload_n 0, 1) := by decide +kernel
theorem dX8_append_23 : decode cX8_append 23 = .ok (.getfield 141, 3) := by decide +kernel
theorem dX8_append_26 : decode cX8_append 26 = .ok (.bipush 60, 2) := by decide +kernel
theorem dX8_append_28 : decode cX8_append 28 = .ok (.if_icmp .ne 9, 3) := by decide +kernel
theorem dX8_append_31 : decode cX8_append 31 = .ok (.aload_n 0, 1) := by decide +kernel
theorem dX8_append_32 : decode cX8_append 32 = .ok (.iconst 2, 1) := by decide +kernel
theorem dX8_append_33 : decode cX8_append 33 = .ok (.invokevirtual 126, 3) := by decide +kernel
theorem dX8_append_36 : decode cX8_append 36 = .ok (.ireturn, 1) := by decide +kernel
theorem dX8_append_37 : decode cX8_append 37 = .ok (.aload_n 0, 1) := by decide +kernel
theorem dX8_append_38 : decode cX8_append 38 = .ok (.getfield 22, 3) := by decide +kernel
theorem dX8_append_41 : decode cX8_append 41 = .ok (.aload_n 0, 1) := by decide +kernel
theorem dX8_append_42 : decode cX8_append 42 = .ok (.getfield 141, 3) := by decide +kernel
theorem dX8_append_45 : decode cX8_append 45 = .ok (.iload_n 1, 1) := by decide +kernel
theorem dX8_append_46 : decode cX8_append 46 = .ok (.iastore, 1) := by decide +kernel
theorem dX8_append_47 : decode cX8_append 47 = .ok (.aload_n 0, 1) := by decide +kernel
theorem dX8_append_48 : decode cX8_append 48 = .ok (.dup, 1) := by decide +kernel
theorem dX8_append_49 : decode cX8_append 49 = .ok (.getfield 141, 3) := by decide +kernel
theorem dX8_append_52 : decode cX8_append 52 = .ok (.iconst 1, 1) := by decide +kernel
theorem dX8_append_53 : decode cX8_append 53 = .ok (.iadd, 1) := by decide +kernel
theorem dX8_append_54 : decode cX8_append 54 = .ok (.putfield 141, 3) := by decide +kernel
theorem dX8_append_57 : decode cX8_append 57 = .ok (.aload_n 0, 1) := by decide +kernel
theorem dX8_append_58 : decode cX8_append 58 = .ok (.getfield 141, 3) := by decide +kernel
theorem dX8_append_61 : decode cX8_append 61 = .ok (.ireturn, 1) := by decide +kernel
theorem dX8_clearBuffer_0 : decode cX8_clearBuffer 0 = .ok (.aload_n 0, 1) := by decide +kernel
theorem dX8_clearBuffer_1 : decode cX8_clearBuffer 1 = .ok (.iconst 0, 1) := by decide +kernel
theorem dX8_clearBuffer_2 : decode cX8_clearBuffer 2 = .ok (.putfield 46, 3) := by decide +kernel
theorem dX8_clearBuffer_5 : decode cX8_clearBuffer 5 = .ok (.aload_n 0, 1) := by decide +kernel
theorem dX8_clearBuffer_6 : decode cX8_clearBuffer 6 = .ok (.getfield 141, 3) := by decide +kernel
theorem dX8_clearBuffer_9 : decode cX8_clearBuffer 9 = .ok (.istore_n 1, 1) := by decide +kernel
theorem dX8_clearBuffer_10 : decode cX8_clearBuffer 10 = .ok (.aload_n 0, 1) := by decide +kernel
theorem dX8_clearBuffer_11 : decode cX8_clearBuffer 11 = .ok (.iconst 0, 1) := by decide +kernel
theorem dX8_clearBuffer_12 : decode cX8_clearBuffer 12 = .ok (.putfield 141, 3) := by decide +kernel
theorem dX8_clearBuffer_15 : decode cX8_clearBuffer 15 = .ok (.iload_n 1, 1) := by decide +kernel
theorem dX8_clearBuffer_16 : decode cX8_clearBuffer 16 = .ok (.ireturn, 1) := by decide +kernel
theorem dX8_sees_0 : decode cX8_sees 0 = .ok (.aload_n 0, 1) := by decide +kernel
theorem dX8_sees_1 : decode cX8_sees 1 = .ok (.getfield 144, 3) := by decide +kernel
theorem dX8_sees_4 : decode cX8_sees 4 = .ok (.aload_n 0, 1) := by decide +kernel
theorem dX8_sees_5 : decode cX8_sees 5 = .ok (.getfield 141, 3) := by decide +kernel
theorem dX8_sees_8 : decode cX8_sees 8 = .ok (.if_icmp .ge 24, 3) := by decide +kernel
theorem dX8_sees_11 : decode cX8_sees 11 = .ok (.aload_n 0, 1) := by decide +kernel
theorem dX8_sees_12 : decode cX8_sees 12 = .ok (.getfield 22, 3) := by decide +kernel
theorem dX8_sees_15 : decode cX8_sees 15 = .ok (.aload_n 0, 1) := by decide +kernel
theorem dX8_sees_16 : decode cX8_sees 16 = .ok (.getfield 144, 3) := by decide +kernel
theorem dX8_sees_19 : decode cX8_sees 19 = .ok (.iaload, 1) := by decide +kernel
theorem dX8_sees_20 : decode cX8_sees 20 = .ok (.iload_n 1, 1) := by decide +kernel
theorem dX8_sees_21 : decode cX8_sees 21 = .ok (.iload_n 2, 1) := by decide +kernel
theorem dX8_sees_22 : decode cX8_sees 22 = .ok (.invokestatic 89, 3) := by decide +kernel
theorem dX8_sees_25 : decode cX8_sees 25 = .ok (.ifCond .eq 7, 3) := by decide +kernel
theorem dX8_sees_28 : decode cX8_sees 28 = .ok (.iconst 1, 1) := by decide +kernel
theorem dX8_sees_29 : decode cX8_sees 29 = .ok (.goto 4, 3) := by decide +kernel
theorem dX8_sees_32 : decode cX8_sees 32 = .ok (.iconst 0, 1) := by decide +kernel
theorem dX8_sees_33 : decode cX8_sees 33 = .ok (.ireturn, 1) := by decide +kernel
theorem dX8_takes_0 : decode cX8_takes 0 = .ok (.aload_n 0, 1) := by decide +kernel
theorem dX8_takes_1 : decode cX8_takes 1 = .ok (.iload_n 1, 1) := by decide +kernel
theorem dX8_takes_2 : decode cX8_takes 2 = .ok (.iload_n 1, 1) := by decide +kernel
theorem dX8_takes_3 : decode cX8_takes 3 = .ok (.invokevirtual 147, 3) := by decide +kernel
theorem dX8_takes_6 : decode cX8_takes 6 = .ok (.istore_n 2, 1) := by decide +kernel
theorem dX8_takes_7 : decode cX8_takes 7 = .ok (.aload_n 0, 1) := by decide +kernel
theorem dX8_takes_8 : decode cX8_takes 8 = .ok (.dup, 1) := by decide +kernel
theorem dX8_takes_9 : decode cX8_takes 9 = .ok (.getfield 144, 3) := by decide +kernel
theorem dX8_takes_12 : decode cX8_takes 12 = .ok (.iload_n 2, 1) := by decide +kernel
theorem dX8_takes_13 : decode cX8_takes 13 = .ok (.ifCond .eq 7, 3) := by decide +kernel
theorem dX8_takes_16 : decode cX8_takes 16 = .ok (.iconst 1, 1) := by decide +kernel
theorem dX8_takes_17 : decode cX8_takes 17 = .ok (.goto 4, 3) := by decide +kernel
theorem dX8_takes_20 : decode cX8_takes 20 = .ok (.iconst 0, 1) := by decide +kernel
theorem dX8_takes_21 : decode cX8_takes 21 = .ok (.iadd, 1) := by decide +kernel
theorem dX8_takes_22 : decode cX8_takes 22 = .ok (.putfield 144, 3) := by decide +kernel
theorem dX8_takes_25 : decode cX8_takes 25 = .ok (.iload_n 2, 1) := by decide +kernel
theorem dX8_takes_26 : decode cX8_takes 26 = .ok (.ireturn, 1) := by decide +kernel
theorem dX8_isNumber_0 : decode cX8_isNumber 0 = .ok (.aload_n 0, 1) := by decide +kernel
theorem dX8_isNumber_1 : decode cX8_isNumber 1 = .ok (.bipush 48, 2) := by decide +kernel
theorem dX8_isNumber_3 : decode cX8_isNumber 3 = .ok (.bipush 57, 2) := by decide +kernel
theorem dX8_isNumber_5 : decode cX8_isNumber 5 = .ok (.invokevirtual 147, 3) := by decide +kernel
theorem dX8_isNumber_8 : decode cX8_isNumber 8 = .ok (.ifCond .ne 5, 3) := by decide +kernel
theorem dX8_isNumber_11 : decode cX8_isNumber 11 = .ok (.iconst 0, 1) := by decide +kernel
theorem dX8_isNumber_12 : decode cX8_isNumber 12 = .ok (.ireturn, 1) := by decide +kernel
theorem dX8_isNumber_13 : decode cX8_isNumber 13 = .ok (.aload_n 0, 1) := by decide +kernel
theorem dX8_isNumber_14 : decode cX8_isNumber 14 = .ok (.getfield 22, 3) := by decide +kernel
theorem dX8_isNumber_17 : decode cX8_isNumber 17 = .ok (.aload_n 0, 1) := by decide +kernel
theorem dX8_isNumber_18 : decode cX8_isNumber 18 = .ok (.getfield 144, 3) := by decide +kernel
theorem dX8_isNumber_21 : decode cX8_isNumber 21 = .ok (.iaload, 1) := by decide +kernel
theorem dX8_isNumber_22 : decode cX8_isNumber 22 = .ok (.bipush 48, 2) := by decide +kernel
theorem dX8_isNumber_24 : decode cX8_isNumber 24 = .ok (.isub, 1) := by decide +kernel
theorem dX8_isNumber_25 : decode cX8_isNumber 25 = .ok (.istore_n 3, 1) := by decide +kernel
theorem dX8_isNumber_26 : decode cX8_isNumber 26 = .ok (.aload_n 0, 1) := by decide +kernel
theorem dX8_isNumber_27 : decode cX8_isNumber 27 = .ok (.dup, 1) := by decide +kernel
theorem dX8_isNumber_28 : decode cX8_isNumber 28 = .ok (.getfield 144, 3) := by decide +kernel
theorem dX8_isNumber_31 : decode cX8_isNumber 31 = .ok (.iconst 1, 1) := by decide +kernel
theorem dX8_isNumber_32 : decode cX8_isNumber 32 = .ok (.iadd, 1) := by decide +kernel
theorem dX8_isNumber_33 : decode cX8_isNumber 33 = .ok (.putfield 144, 3) := by decide +kernel
theorem dX8_isNumber_36 : decode cX8_isNumber 36 = .ok (.iload_n 3, 1) := by decide +kernel
theorem dX8_isNumber_37 : decode cX8_isNumber 37 = .ok (.ifCond .le 52, 3) := by decide +kernel
theorem dX8_isNumber_40 : decode cX8_isNumber 40 = .ok (.iload_n 3, 1) := by decide +kernel
theorem dX8_isNumber_41 : decode cX8_isNumber 41 = .ok (.sipush 1000, 3) := by decide +kernel
theorem dX8_isNumber_44 : decode cX8_isNumber 44 = .ok (.if_icmp .ge 45, 3) := by decide +kernel
theorem dX8_isNumber_47 : decode cX8_isNumber 47 = .ok (.aload_n 0, 1) := by decide +kernel
theorem dX8_isNumber_48 : decode cX8_isNumber 48 = .ok (.bipush 48, 2) := by decide +kernel
theorem dX8_isNumber_50 : decode cX8_isNumber 50 = .ok (.bipush 57, 2) := by decide +kernel
theorem dX8_isNumber_52 : decode cX8_isNumber 52 = .ok (.invokevirtual 147, 3) := by decide +kernel
theorem dX8_isNumber_55 : decode cX8_isNumber 55 = .ok (.ifCond .eq 34, 3) := by decide +kernel
theorem dX8_isNumber_58 : decode cX8_isNumber 58 = .ok (.bipush 10, 2) := by decide +kernel
theorem dX8_isNumber_60 : decode cX8_isNumber 60 = .ok (.iload_n 3, 1) := by decide +kernel
theorem dX8_isNumber_61 : decode cX8_isNumber 61 = .ok (.imul, 1) := by decide +kernel
theorem dX8_isNumber_62 : decode cX8_isNumber 62 = .ok (.aload_n 0, 1) := by decide +kernel
theorem dX8_isNumber_63 : decode cX8_isNumber 63 = .ok (.getfield 22, 3) := by decide +kernel
theorem dX8_isNumber_66 : decode cX8_isNumber 66 = .ok (.aload_n 0, 1) := by decide +kernel
theorem dX8_isNumber_67 : decode cX8_isNumber 67 = .ok (.getfield 144, 3) := by decide +kernel
theorem dX8_isNumber_70 : decode cX8_isNumber 70 = .ok (.iaload, 1) := by decide +kernel
theorem dX8_isNumber_71 : decode cX8_isNumber 71 = .ok (.iadd, 1) := by decide +kernel
theorem dX8_isNumber_72 : decode cX8_isNumber 72 = .ok (.bipush 48, 2) := by decide +kernel
theorem dX8_isNumber_74 : decode cX8_isNumber 74 = .ok (.isub, 1) := by decide +kernel
theorem dX8_isNumber_75 : decode cX8_isNumber 75 = .ok (.istore_n 3, 1) := by decide +kernel
theorem dX8_isNumber_76 : decode cX8_isNumber 76 = .ok (.aload_n 0, 1) := by decide +kernel
theorem dX8_isNumber_77 : decode cX8_isNumber 77 = .ok (.dup, 1) := by decide +kernel
theorem dX8_isNumber_78 : decode cX8_isNumber 78 = .ok (.getfield 144, 3) := by decide +kernel
theorem dX8_isNumber_81 : decode cX8_isNumber 81 = .ok (.iconst 1, 1) := by decide +kernel
theorem dX8_isNumber_82 : decode cX8_isNumber 82 = .ok (.iadd, 1) := by decide +kernel
theorem dX8_isNumber_83 : decode cX8_isNumber 83 = .ok (.putfield 144, 3) := by decide +kernel
theorem dX8_isNumber_86 : decode cX8_isNumber 86 = .ok (.goto (-50), 3) := by decide +kernel
theorem dX8_isNumber_89 : decode cX8_isNumber 89 = .ok (.aload_n 0, 1) := by decide +kernel
theorem dX8_isNumber_90 : decode cX8_isNumber 90 = .ok (.getfield 37, 3) := by decide +kernel
theorem dX8_isNumber_93 : decode cX8_isNumber 93 = .ok (.bipush 10, 2) := by decide +kernel
theorem dX8_isNumber_95 : decode cX8_isNumber 95 = .ok (.iload_n 1, 1) := by decide +kernel
theorem dX8_isNumber_96 : decode cX8_isNumber 96 = .ok (.imul, 1) := by decide +kernel
theorem dX8_isNumber_97 : decode cX8_isNumber 97 = .ok (.iload_n 2, 1) := by decide +kernel
theorem dX8_isNumber_98 : decode cX8_isNumber 98 = .ok (.iadd, 1) := by decide +kernel
theorem dX8_isNumber_99 : decode cX8_isNumber 99 = .ok (.iload_n 3, 1) := by decide +kernel
theorem dX8_isNumber_100 : decode cX8_isNumber 100 = .ok (.iastore, 1) := by decide +kernel
theorem dX8_isNumber_101 : decode cX8_isNumber 101 = .ok (.iconst 1, 1) := by decide +kernel
theorem dX8_isNumber_102 : decode cX8_isNumber 102 = .ok (.ireturn, 1) := by decide +kernel
theorem dX8_isLine_0 : decode cX8_isLine 0 = .ok (.iload_n 1, 1) := by decide +kernel
theorem dX8_isLine_1 : decode cX8_isLine 1 = .ok (.ifCond .ne 8, 3) := by decide +kernel
theorem dX8_isLine_4 : decode cX8_isLine 4 = .ok (.bipush 10, 2) := by decide +kernel
theorem dX8_isLine_6 : decode cX8_isLine 6 = .ok (.goto 7, 3) := by decide +kernel
theorem dX8_isLine_9 : decode cX8_isLine 9 = .ok (.aload_n 0, 1) := by decide +kernel
theorem dX8_isLine_10 : decode cX8_isLine 10 = .ok (.getfield 150, 3) := by decide +kernel
theorem dX8_isLine_13 : decode cX8_isLine 13 = .ok (.istore_n 2, 1) := by decide +kernel
theorem dX8_isLine_14 : decode cX8_isLine 14 = .ok (.iconst 0, 1) := by decide +kernel
theorem dX8_isLine_15 : decode cX8_isLine 15 = .ok (.istore_n 3, 1) := by decide +kernel
theorem dX8_isLine_16 : decode cX8_isLine 16 = .ok (.iconst 1, 1) := by decide +kernel
theorem dX8_isLine_17 : decode cX8_isLine 17 = .ok (.istore 4, 2) := by decide +kernel
theorem dX8_isLine_19 : decode cX8_isLine 19 = .ok (.iload 4, 2) := by decide +kernel
theorem dX8_isLine_21 : decode cX8_isLine 21 = .ok (.ifCond .eq 41, 3) := by decide +kernel
theorem dX8_isLine_24 : decode cX8_isLine 24 = .ok (.aload_n 0, 1) := by decide +kernel
theorem dX8_isLine_25 : decode cX8_isLine 25 = .ok (.iload_n 1, 1) := by decide +kernel
theorem dX8_isLine_26 : decode cX8_isLine 26 = .ok (.iload_n 3, 1) := by decide +kernel
theorem dX8_isLine_27 : decode cX8_isLine 27 = .ok (.invokevirtual 153, 3) := by decide +kernel
theorem dX8_isLine_30 : decode cX8_isLine 30 = .ok (.ifCond .ne 5, 3) := by decide +kernel
theorem dX8_isLine_33 : decode cX8_isLine 33 = .ok (.iconst (-1), 1) := by decide +kernel
theorem dX8_isLine_34 : decode cX8_isLine 34 = .ok (.ireturn, 1) := by decide +kernel
theorem dX8_isLine_35 : decode cX8_isLine 35 = .ok (.iinc 3 1, 3) := by decide +kernel
theorem dX8_isLine_38 : decode cX8_isLine 38 = .ok (.iload_n 3, 1) := by decide +kernel
theorem dX8_isLine_39 : decode cX8_isLine 39 = .ok (.iload_n 2, 1) := by decide +kernel
theorem dX8_isLine_40 : decode cX8_isLine 40 = .ok (.if_icmp .ge 16, 3) := by decide +kernel
theorem dX8_isLine_43 : decode cX8_isLine 43 = .ok (.aload_n 0, 1) := by decide +kernel
theorem dX8_isLine_44 : decode cX8_isLine 44 = .ok (.bipush 44, 2) := by decide +kernel
theorem dX8_isLine_46 : decode cX8_isLine 46 = .ok (.invokevirtual 156, 3) := by decide +kernel
theorem dX8_isLine_49 : decode cX8_isLine 49 = .ok (.ifCond .eq 7, 3) := by decide +kernel
theorem dX8_isLine_52 : decode cX8_isLine 52 = .ok (.iconst 1, 1) := by decide +kernel
theorem dX8_isLine_53 : decode cX8_isLine 53 = .ok (.goto 4, 3) := by decide +kernel
theorem dX8_isLine_56 : decode cX8_isLine 56 = .ok (.iconst 0, 1) := by decide +kernel
theorem dX8_isLine_57 : decode cX8_isLine 57 = .ok (.istore 4, 2) := by decide +kernel
theorem dX8_isLine_59 : decode cX8_isLine 59 = .ok (.goto (-40), 3) := by decide +kernel
theorem dX8_isLine_62 : decode cX8_isLine 62 = .ok (.iload_n 1, 1) := by decide +kernel
theorem dX8_isLine_63 : decode cX8_isLine 63 = .ok (.ifCond .le 12, 3) := by decide +kernel
theorem dX8_isLine_66 : decode cX8_isLine 66 = .ok (.iload_n 3, 1) := by decide +kernel
theorem dX8_isLine_67 : decode cX8_isLine 67 = .ok (.iload_n 2, 1) := by decide +kernel
theorem dX8_isLine_68 : decode cX8_isLine 68 = .ok (.if_icmp .ge 7, 3) := by decide +kernel
theorem dX8_isLine_71 : decode cX8_isLine 71 = .ok (.iconst (-1), 1) := by decide +kernel
theorem dX8_isLine_72 : decode cX8_isLine 72 = .ok (.goto 4, 3) := by decide +kernel
theorem dX8_isLine_75 : decode cX8_isLine 75 = .ok (.iload_n 3, 1) := by decide +kernel
theorem dX8_isLine_76 : decode cX8_isLine 76 = .ok (.ireturn, 1) := by decide +kernel
theorem dX8_isWhole_0 : decode cX8_isWhole 0 = .ok (.aload_n 0, 1) := by decide +kernel
theorem dX8_isWhole_1 : decode cX8_isWhole 1 = .ok (.iconst 0, 1) := by decide +kernel
theorem dX8_isWhole_2 : decode cX8_isWhole 2 = .ok (.putfield 144, 3) := by decide +kernel
theorem dX8_isWhole_5 : decode cX8_isWhole 5 = .ok (.aload_n 0, 1) := by decide +kernel
theorem dX8_isWhole_6 : decode cX8_isWhole 6 = .ok (.iconst 0, 1) := by decide +kernel
theorem dX8_isWhole_7 : decode cX8_isWhole 7 = .ok (.putfield 159, 3) := by decide +kernel
theorem dX8_isWhole_10 : decode cX8_isWhole 10 = .ok (.iconst 1, 1) := by decide +kernel
theorem dX8_isWhole_11 : decode cX8_isWhole 11 = .ok (.istore_n 1, 1) := by decide +kernel
theorem dX8_isWhole_12 : decode cX8_isWhole 12 = .ok (.iload_n 1, 1) := by decide +kernel
theorem dX8_isWhole_13 : decode cX8_isWhole 13 = .ok (.ifCond .eq 61, 3) := by decide +kernel
theorem dX8_isWhole_16 : decode cX8_isWhole 16 = .ok (.aload_n 0, 1) := by decide +kernel
theorem dX8_isWhole_17 : decode cX8_isWhole 17 = .ok (.aload_n 0, 1) := by decide +kernel
theorem dX8_isWhole_18 : decode cX8_isWhole 18 = .ok (.getfield 159, 3) := by decide +kernel
theorem dX8_isWhole_21 : decode cX8_isWhole 21 = .ok (.invokevirtual 162, 3) := by decide +kernel
theorem dX8_isWhole_24 : decode cX8_isWhole 24 = .ok (.istore_n 2, 1) := by decide +kernel
theorem dX8_isWhole_25 : decode cX8_isWhole 25 = .ok (.iload_n 2, 1) := by decide +kernel
theorem dX8_isWhole_26 : decode cX8_isWhole 26 = .ok (.iconst (-1), 1) := by decide +kernel
theorem dX8_isWhole_27 : decode cX8_isWhole 27 = .ok (.if_icmp .ne 5, 3) := by decide +kernel
theorem dX8_isWhole_30 : decode cX8_isWhole 30 = .ok (.iconst 0, 1) := by decide +kernel
theorem dX8_isWhole_31 : decode cX8_isWhole 31 = .ok (.ireturn, 1) := by decide +kernel
theorem dX8_isWhole_32 : decode cX8_isWhole 32 = .ok (.aload_n 0, 1) := by decide +kernel
theorem dX8_isWhole_33 : decode cX8_isWhole 33 = .ok (.iload_n 2, 1) := by decide +kernel
theorem dX8_isWhole_34 : decode cX8_isWhole 34 = .ok (.putfield 150, 3) := by decide +kernel
theorem dX8_isWhole_37 : decode cX8_isWhole 37 = .ok (.aload_n 0, 1) := by decide +kernel
theorem dX8_isWhole_38 : decode cX8_isWhole 38 = .ok (.dup, 1) := by decide +kernel
theorem dX8_isWhole_39 : decode cX8_isWhole 39 = .ok (.getfield 159, 3) := by decide +kernel
theorem dX8_isWhole_42 : decode cX8_isWhole 42 = .ok (.iconst 1, 1) := by decide +kernel
theorem dX8_isWhole_43 : decode cX8_isWhole 43 = .ok (.iadd, 1) := by decide +kernel
theorem dX8_isWhole_44 : decode cX8_isWhole 44 = .ok (.putfield 159, 3) := by decide +kernel
theorem dX8_isWhole_47 : decode cX8_isWhole 47 = .ok (.aload_n 0, 1) := by decide +kernel
theorem dX8_isWhole_48 : decode cX8_isWhole 48 = .ok (.getfield 159, 3) := by decide +kernel
theorem dX8_isWhole_51 : decode cX8_isWhole 51 = .ok (.bipush 10, 2) := by decide +kernel
theorem dX8_isWhole_53 : decode cX8_isWhole 53 = .ok (.if_icmp .ge 16, 3) := by decide +kernel
theorem dX8_isWhole_56 : decode cX8_isWhole 56 = .ok (.aload_n 0, 1) := by decide +kernel
theorem dX8_isWhole_57 : decode cX8_isWhole 57 = .ok (.bipush 47, 2) := by decide +kernel
theorem dX8_isWhole_59 : decode cX8_isWhole 59 = .ok (.invokevirtual 156, 3) := by decide +kernel
theorem dX8_isWhole_62 : decode cX8_isWhole 62 = .ok (.ifCond .eq 7, 3) := by decide +kernel
theorem dX8_isWhole_65 : decode cX8_isWhole 65 = .ok (.iconst 1, 1) := by decide +kernel
theorem dX8_isWhole_66 : decode cX8_isWhole 66 = .ok (.goto 4, 3) := by decide +kernel
theorem dX8_isWhole_69 : decode cX8_isWhole 69 = .ok (.iconst 0, 1) := by decide +kernel
theorem dX8_isWhole_70 : decode cX8_isWhole 70 = .ok (.istore_n 1, 1) := by decide +kernel
theorem dX8_isWhole_71 : decode cX8_isWhole 71 = .ok (.goto (-59), 3) := by decide +kernel
theorem dX8_isWhole_74 : decode cX8_isWhole 74 = .ok (.aload_n 0, 1) := by decide +kernel
theorem dX8_isWhole_75 : decode cX8_isWhole 75 = .ok (.getfield 144, 3) := by decide +kernel
theorem dX8_isWhole_78 : decode cX8_isWhole 78 = .ok (.aload_n 0, 1) := by decide +kernel
theorem dX8_isWhole_79 : decode cX8_isWhole 79 = .ok (.getfield 141, 3) := by decide +kernel
theorem dX8_isWhole_82 : decode cX8_isWhole 82 = .ok (.if_icmp .ne 7, 3) := by decide +kernel
theorem dX8_isWhole_85 : decode cX8_isWhole 85 = .ok (.iconst 1, 1) := by decide +kernel
theorem dX8_isWhole_86 : decode cX8_isWhole 86 = .ok (.goto 4, 3) := by decide +kernel
theorem dX8_isWhole_89 : decode cX8_isWhole 89 = .ok (.iconst 0, 1) := by decide +kernel
theorem dX8_isWhole_90 : decode cX8_isWhole 90 = .ok (.ireturn, 1) := by decide +kernel
theorem dX8_firstError_0 : decode cX8_firstError 0 = .ok (.aload_n 0, 1) := by decide +kernel
theorem dX8_firstError_1 : decode cX8_firstError 1 = .ok (.iconst 0, 1) := by decide +kernel
theorem dX8_firstError_2 : decode cX8_firstError 2 = .ok (.putfield 46, 3) := by decide +kernel
theorem dX8_firstError_5 : decode cX8_firstError 5 = .ok (.aload_n 0, 1) := by decide +kernel
theorem dX8_firstError_6 : decode cX8_firstError 6 = .ok (.invokevirtual 165, 3) := by decide +kernel
theorem dX8_firstError_9 : decode cX8_firstError 9 = .ok (.ifCond .eq 10, 3) := by decide +kernel
theorem dX8_firstError_12 : decode cX8_firstError 12 = .ok (.aload_n 0, 1) := by decide +kernel
theorem dX8_firstError_13 : decode cX8_firstError 13 = .ok (.getfield 141, 3) := by decide +kernel
theorem dX8_firstError_16 : decode cX8_firstError 16 = .ok (.goto 7, 3) := by decide +kernel
theorem dX8_firstError_19 : decode cX8_firstError 19 = .ok (.aload_n 0, 1) := by decide +kernel
theorem dX8_firstError_20 : decode cX8_firstError 20 = .ok (.getfield 144, 3) := by decide +kernel
theorem dX8_firstError_23 : decode cX8_firstError 23 = .ok (.ireturn, 1) := by decide +kernel
theorem dX8_load_0 : decode cX8_load 0 = .ok (.aload_n 0, 1) := by decide +kernel
theorem dX8_load_1 : decode cX8_load 1 = .ok (.iconst 0, 1) := by decide +kernel
theorem dX8_load_2 : decode cX8_load 2 = .ok (.putfield 46, 3) := by decide +kernel
theorem dX8_load_5 : decode cX8_load 5 = .ok (.aload_n 0, 1) := by decide +kernel
theorem dX8_load_6 : decode cX8_load 6 = .ok (.invokevirtual 165, 3) := by decide +kernel
theorem dX8_load_9 : decode cX8_load 9 = .ok (.ifCond .ne 9, 3) := by decide +kernel
theorem dX8_load_12 : decode cX8_load 12 = .ok (.aload_n 0, 1) := by decide +kernel
theorem dX8_load_13 : decode cX8_load 13 = .ok (.iconst 1, 1) := by decide +kernel
theorem dX8_load_14 : decode cX8_load 14 = .ok (.invokevirtual 126, 3) := by decide +kernel
theorem dX8_load_17 : decode cX8_load 17 = .ok (.ireturn, 1) := by decide +kernel
theorem dX8_load_18 : decode cX8_load 18 = .ok (.aload_n 0, 1) := by decide +kernel
theorem dX8_load_19 : decode cX8_load 19 = .ok (.invokevirtual 130, 3) := by decide +kernel
theorem dX8_load_22 : decode cX8_load 22 = .ok (.aload_n 0, 1) := by decide +kernel
theorem dX8_load_23 : decode cX8_load 23 = .ok (.iconst 0, 1) := by decide +kernel
theorem dX8_load_24 : decode cX8_load 24 = .ok (.putfield 141, 3) := by decide +kernel
theorem dX8_load_27 : decode cX8_load 27 = .ok (.aload_n 0, 1) := by decide +kernel
theorem dX8_load_28 : decode cX8_load 28 = .ok (.getfield 7, 3) := by decide +kernel
theorem dX8_load_31 : decode cX8_load 31 = .ok (.iconst 0, 1) := by decide +kernel
theorem dX8_load_32 : decode cX8_load 32 = .ok (.aload_n 0, 1) := by decide +kernel
theorem dX8_load_33 : decode cX8_load 33 = .ok (.getfield 159, 3) := by decide +kernel
theorem dX8_load_36 : decode cX8_load 36 = .ok (.iastore, 1) := by decide +kernel
theorem dX8_load_37 : decode cX8_load 37 = .ok (.aload_n 0, 1) := by decide +kernel
theorem dX8_load_38 : decode cX8_load 38 = .ok (.getfield 7, 3) := by decide +kernel
theorem dX8_load_41 : decode cX8_load 41 = .ok (.iconst 1, 1) := by decide +kernel
theorem dX8_load_42 : decode cX8_load 42 = .ok (.aload_n 0, 1) := by decide +kernel
theorem dX8_load_43 : decode cX8_load 43 = .ok (.getfield 150, 3) := by decide +kernel
theorem dX8_load_46 : decode cX8_load 46 = .ok (.iastore, 1) := by decide +kernel
theorem dX8_load_47 : decode cX8_load 47 = .ok (.iconst 0, 1) := by decide +kernel
theorem dX8_load_48 : decode cX8_load 48 = .ok (.istore_n 1, 1) := by decide +kernel
theorem dX8_load_49 : decode cX8_load 49 = .ok (.iload_n 1, 1) := by decide +kernel
theorem dX8_load_50 : decode cX8_load 50 = .ok (.bipush 10, 2) := by decide +kernel
theorem dX8_load_52 : decode cX8_load 52 = .ok (.aload_n 0, 1) := by decide +kernel
theorem dX8_load_53 : decode cX8_load 53 = .ok (.getfield 159, 3) := by decide +kernel
theorem dX8_load_56 : decode cX8_load 56 = .ok (.imul, 1) := by decide +kernel
theorem dX8_load_57 : decode cX8_load 57 = .ok (.if_icmp .ge 38, 3) := by decide +kernel
theorem dX8_load_60 : decode cX8_load 60 = .ok (.iload_n 1, 1) := by decide +kernel
theorem dX8_load_61 : decode cX8_load 61 = .ok (.bipush 10, 2) := by decide +kernel
theorem dX8_load_63 : decode cX8_load 63 = .ok (.irem, 1) := by decide +kernel
theorem dX8_load_64 : decode cX8_load 64 = .ok (.aload_n 0, 1) := by decide +kernel
theorem dX8_load_65 : decode cX8_load 65 = .ok (.getfield 150, 3) := by decide +kernel
theorem dX8_load_68 : decode cX8_load 68 = .ok (.if_icmp .ge 21, 3) := by decide +kernel
theorem dX8_load_71 : decode cX8_load 71 = .ok (.aload_n 0, 1) := by decide +kernel
theorem dX8_load_72 : decode cX8_load 72 = .ok (.iload_n 1, 1) := by decide +kernel
theorem dX8_load_73 : decode cX8_load 73 = .ok (.bipush 10, 2) := by decide +kernel
theorem dX8_load_75 : decode cX8_load 75 = .ok (.idiv, 1) := by decide +kernel
theorem dX8_load_76 : decode cX8_load 76 = .ok (.iload_n 1, 1) := by decide +kernel
theorem dX8_load_77 : decode cX8_load 77 = .ok (.bipush 10, 2) := by decide +kernel
theorem dX8_load_79 : decode cX8_load 79 = .ok (.irem, 1) := by decide +kernel
theorem dX8_load_80 : decode cX8_load 80 = .ok (.aload_n 0, 1) := by decide +kernel
theorem dX8_load_81 : decode cX8_load 81 = .ok (.getfield 37, 3) := by decide +kernel
theorem dX8_load_84 : decode cX8_load 84 = .ok (.iload_n 1, 1) := by decide +kernel
theorem dX8_load_85 : decode cX8_load 85 = .ok (.iaload, 1) := by decide +kernel
theorem dX8_load_86 : decode cX8_load 86 = .ok (.invokevirtual 137, 3) := by decide +kernel
theorem dX8_load_89 : decode cX8_load 89 = .ok (.iinc 1 1, 3) := by decide +kernel
theorem dX8_load_92 : decode cX8_load 92 = .ok (.goto (-43), 3) := by decide +kernel
theorem dX8_load_95 : decode cX8_load 95 = .ok (.bipush 11, 2) := by decide +kernel
theorem dX8_load_97 : decode cX8_load 97 = .ok (.aload_n 0, 1) := by decide +kernel
theorem dX8_load_98 : decode cX8_load 98 = .ok (.getfield 159, 3) := by decide +kernel
theorem dX8_load_101 : decode cX8_load 101 = .ok (.imul, 1) := by decide +kernel
theorem dX8_load_102 : decode cX8_load 102 = .ok (.aload_n 0, 1) := by decide +kernel
theorem dX8_load_103 : decode cX8_load 103 = .ok (.getfield 150, 3) := by decide +kernel
theorem dX8_load_106 : decode cX8_load 106 = .ok (.iadd, 1) := by decide +kernel
theorem dX8_load_107 : decode cX8_load 107 = .ok (.ireturn, 1) := by decide +kernel
theorem dX8_keep_0 : decode cX8_keep 0 = .ok (.aload_n 0, 1) := by decide +kernel
theorem dX8_keep_1 : decode cX8_keep 1 = .ok (.iconst 0, 1) := by decide +kernel
theorem dX8_keep_2 : decode cX8_keep 2 = .ok (.putfield 46, 3) := by decide +kernel
theorem dX8_keep_5 : decode cX8_keep 5 = .ok (.iload_n 1, 1) := by decide +kernel
theorem dX8_keep_6 : decode cX8_keep 6 = .ok (.iconst 0, 1) := by decide +kernel
theorem dX8_keep_7 : decode cX8_keep 7 = .ok (.iconst 1, 1) := by decide +kernel
theorem dX8_keep_8 : decode cX8_keep 8 = .ok (.invokestatic 89, 3) := by decide +kernel
theorem dX8_keep_11 : decode cX8_keep 11 = .ok (.ifCond .ne 9, 3) := by decide +kernel
theorem dX8_keep_14 : decode cX8_keep 14 = .ok (.aload_n 0, 1) := by decide +kernel
theorem dX8_keep_15 : decode cX8_keep 15 = .ok (.iconst 1, 1) := by decide +kernel
theorem dX8_keep_16 : decode cX8_keep 16 = .ok (.invokevirtual 126, 3) := by decide +kernel
theorem dX8_keep_19 : decode cX8_keep 19 = .ok (.ireturn, 1) := by decide +kernel
theorem dX8_keep_20 : decode cX8_keep 20 = .ok (.aload_n 0, 1) := by decide +kernel
theorem dX8_keep_21 : decode cX8_keep 21 = .ok (.getfield 7, 3) := by decide +kernel
theorem dX8_keep_24 : decode cX8_keep 24 = .ok (.iconst 0, 1) := by decide +kernel
theorem dX8_keep_25 : decode cX8_keep 25 = .ok (.aload_n 0, 1) := by decide +kernel
theorem dX8_keep_26 : decode cX8_keep 26 = .ok (.getfield 16, 3) := by decide +kernel
theorem dX8_keep_29 : decode cX8_keep 29 = .ok (.bipush 116, 2) := by decide +kernel
theorem dX8_keep_31 : decode cX8_keep 31 = .ok (.iload_n 1, 1) := by decide +kernel
theorem dX8_keep_32 : decode cX8_keep 32 = .ok (.imul, 1) := by decide +kernel
theorem dX8_keep_33 : decode cX8_keep 33 = .ok (.invokestatic 53, 3) := by decide +kernel
theorem dX8_keep_36 : decode cX8_keep 36 = .ok (.aload_n 0, 1) := by decide +kernel
theorem dX8_keep_37 : decode cX8_keep 37 = .ok (.getfield 19, 3) := by decide +kernel
theorem dX8_keep_40 : decode cX8_keep 40 = .ok (.iload_n 1, 1) := by decide +kernel
theorem dX8_keep_41 : decode cX8_keep 41 = .ok (.iconst 1, 1) := by decide +kernel
theorem dX8_keep_42 : decode cX8_keep 42 = .ok (.iastore, 1) := by decide +kernel
theorem dX8_keep_43 : decode cX8_keep 43 = .ok (.aload_n 0, 1) := by decide +kernel
theorem dX8_keep_44 : decode cX8_keep 44 = .ok (.getfield 7, 3) := by decide +kernel
theorem dX8_keep_47 : decode cX8_keep 47 = .ok (.iconst 0, 1) := by decide +kernel
theorem dX8_keep_48 : decode cX8_keep 48 = .ok (.iaload, 1) := by decide +kernel
theorem dX8_keep_49 : decode cX8_keep 49 = .ok (.ireturn, 1) := by decide +kernel
theorem dX8_goBack_0 : decode cX8_goBack 0 = .ok (.aload_n 0, 1) := by decide +kernel
theorem dX8_goBack_1 : decode cX8_goBack 1 = .ok (.iconst 0, 1) := by decide +kernel
theorem dX8_goBack_2 : decode cX8_goBack 2 = .ok (.putfield 46, 3) := by decide +kernel
theorem dX8_goBack_5 : decode cX8_goBack 5 = .ok (.iload_n 1, 1) := by decide +kernel
theorem dX8_goBack_6 : decode cX8_goBack 6 = .ok (.iconst 0, 1) := by decide +kernel
theorem dX8_goBack_7 : decode cX8_goBack 7 = .ok (.iconst 1, 1) := by decide +kernel
theorem dX8_goBack_8 : decode cX8_goBack 8 = .ok (.invokestatic 89, 3) := by decide +kernel
theorem dX8_goBack_11 : decode cX8_goBack 11 = .ok (.ifCond .ne 9, 3) := by decide +kernel
theorem dX8_goBack_14 : decode cX8_goBack 14 = .ok (.aload_n 0, 1) := by decide +kernel
theorem dX8_goBack_15 : decode cX8_goBack 15 = .ok (.iconst 1, 1) := by decide +kernel
theorem dX8_goBack_16 : decode cX8_goBack 16 = .ok (.invokevirtual 126, 3) := by decide +kernel
theorem dX8_goBack_19 : decode cX8_goBack 19 = .ok (.ireturn, 1) := by decide +kernel
theorem dX8_goBack_20 : decode cX8_goBack 20 = .ok (.aload_n 0, 1) := by decide +kernel
theorem dX8_goBack_21 : decode cX8_goBack 21 = .ok (.getfield 19, 3) := by decide +kernel
theorem dX8_goBack_24 : decode cX8_goBack 24 = .ok (.iload_n 1, 1) := by decide +kernel
theorem dX8_goBack_25 : decode cX8_goBack 25 = .ok (.iaload, 1) := by decide +kernel
theorem dX8_goBack_26 : decode cX8_goBack 26 = .ok (.ifCond .ne 9, 3) := by decide +kernel
theorem dX8_goBack_29 : decode cX8_goBack 29 = .ok (.aload_n 0, 1) := by decide +kernel
theorem dX8_goBack_30 : decode cX8_goBack 30 = .ok (.iconst 2, 1) := by decide +kernel
theorem dX8_goBack_31 : decode cX8_goBack 31 = .ok (.invokevirtual 126, 3) := by decide +kernel
theorem dX8_goBack_34 : decode cX8_goBack 34 = .ok (.ireturn, 1) := by decide +kernel
theorem dX8_goBack_35 : decode cX8_goBack 35 = .ok (.aload_n 0, 1) := by decide +kernel
theorem dX8_goBack_36 : decode cX8_goBack 36 = .ok (.invokevirtual 130, 3) := by decide +kernel
theorem dX8_goBack_39 : decode cX8_goBack 39 = .ok (.aload_n 0, 1) := by decide +kernel
theorem dX8_goBack_40 : decode cX8_goBack 40 = .ok (.getfield 16, 3) := by decide +kernel
theorem dX8_goBack_43 : decode cX8_goBack 43 = .ok (.bipush 116, 2) := by decide +kernel
theorem dX8_goBack_45 : decode cX8_goBack 45 = .ok (.iload_n 1, 1) := by decide +kernel
theorem dX8_goBack_46 : decode cX8_goBack 46 = .ok (.imul, 1) := by decide +kernel
theorem dX8_goBack_47 : decode cX8_goBack 47 = .ok (.aload_n 0, 1) := by decide +kernel
theorem dX8_goBack_48 : decode cX8_goBack 48 = .ok (.getfield 7, 3) := by decide +kernel
theorem dX8_goBack_51 : decode cX8_goBack 51 = .ok (.iconst 0, 1) := by decide +kernel
theorem dX8_goBack_52 : decode cX8_goBack 52 = .ok (.invokestatic 53, 3) := by decide +kernel
theorem dX8_goBack_55 : decode cX8_goBack 55 = .ok (.aload_n 0, 1) := by decide +kernel
theorem dX8_goBack_56 : decode cX8_goBack 56 = .ok (.getfield 7, 3) := by decide +kernel
theorem dX8_goBack_59 : decode cX8_goBack 59 = .ok (.iconst 0, 1) := by decide +kernel
theorem dX8_goBack_60 : decode cX8_goBack 60 = .ok (.iaload, 1) := by decide +kernel
theorem dX8_goBack_61 : decode cX8_goBack 61 = .ok (.ireturn, 1) := by decide +kernel
theorem dX8_undo_0 : decode cX8_undo 0 = .ok (.aload_n 0, 1) := by decide +kernel
theorem dX8_undo_1 : decode cX8_undo 1 = .ok (.iconst 0, 1) := by decide +kernel
theorem dX8_undo_2 : decode cX8_undo 2 = .ok (.putfield 46, 3) := by decide +kernel
theorem dX8_undo_5 : decode cX8_undo 5 = .ok (.aload_n 0, 1) := by decide +kernel
theorem dX8_undo_6 : decode cX8_undo 6 = .ok (.getfield 50, 3) := by decide +kernel
theorem dX8_undo_9 : decode cX8_undo 9 = .ok (.ifCond .ne 9, 3) := by decide +kernel
theorem dX8_undo_12 : decode cX8_undo 12 = .ok (.aload_n 0, 1) := by decide +kernel
theorem dX8_undo_13 : decode cX8_undo 13 = .ok (.iconst 1, 1) := by decide +kernel
theorem dX8_undo_14 : decode cX8_undo 14 = .ok (.invokevirtual 126, 3) := by decide +kernel
theorem dX8_undo_17 : decode cX8_undo 17 = .ok (.ireturn, 1) := by decide +kernel
theorem dX8_undo_18 : decode cX8_undo 18 = .ok (.aload_n 0, 1) := by decide +kernel
theorem dX8_undo_19 : decode cX8_undo 19 = .ok (.dup, 1) := by decide +kernel
theorem dX8_undo_20 : decode cX8_undo 20 = .ok (.getfield 50, 3) := by decide +kernel
theorem dX8_undo_23 : decode cX8_undo 23 = .ok (.iconst 1, 1) := by decide +kernel
theorem dX8_undo_24 : decode cX8_undo 24 = .ok (.isub, 1) := by decide +kernel
theorem dX8_undo_25 : decode cX8_undo 25 = .ok (.putfield 50, 3) := by decide +kernel
theorem dX8_undo_28 : decode cX8_undo 28 = .ok (.aload_n 0, 1) := by decide +kernel
theorem dX8_undo_29 : decode cX8_undo 29 = .ok (.getfield 13, 3) := by decide +kernel
theorem dX8_undo_32 : decode cX8_undo 32 = .ok (.bipush 116, 2) := by decide +kernel
theorem dX8_undo_34 : decode cX8_undo 34 = .ok (.aload_n 0, 1) := by decide +kernel
theorem dX8_undo_35 : decode cX8_undo 35 = .ok (.getfield 50, 3) := by decide +kernel
theorem dX8_undo_38 : decode cX8_undo 38 = .ok (.imul, 1) := by decide +kernel
theorem dX8_undo_39 : decode cX8_undo 39 = .ok (.aload_n 0, 1) := by decide +kernel
theorem dX8_undo_40 : decode cX8_undo 40 = .ok (.getfield 7, 3) := by decide +kernel
theorem dX8_undo_43 : decode cX8_undo 43 = .ok (.iconst 0, 1) := by decide +kernel
theorem dX8_undo_44 : decode cX8_undo 44 = .ok (.invokestatic 53, 3) := by decide +kernel
theorem dX8_undo_47 : decode cX8_undo 47 = .ok (.aload_n 0, 1) := by decide +kernel
theorem dX8_undo_48 : decode cX8_undo 48 = .ok (.getfield 50, 3) := by decide +kernel
theorem dX8_undo_51 : decode cX8_undo 51 = .ok (.ireturn, 1) := by decide +kernel
theorem dX8_cell_0 : decode cX8_cell 0 = .ok (.aload_n 0, 1) := by decide +kernel
theorem dX8_cell_1 : decode cX8_cell 1 = .ok (.iconst 0, 1) := by decide +kernel
theorem dX8_cell_2 : decode cX8_cell 2 = .ok (.putfield 46, 3) := by decide +kernel
theorem dX8_cell_5 : decode cX8_cell 5 = .ok (.aload_n 0, 1) := by decide +kernel
theorem dX8_cell_6 : decode cX8_cell 6 = .ok (.iload_n 1, 1) := by decide +kernel
theorem dX8_cell_7 : decode cX8_cell 7 = .ok (.iload_n 2, 1) := by decide +kernel
theorem dX8_cell_8 : decode cX8_cell 8 = .ok (.invokevirtual 133, 3) := by decide +kernel
theorem dX8_cell_11 : decode cX8_cell 11 = .ok (.ifCond .eq 12, 3) := by decide +kernel
theorem dX8_cell_14 : decode cX8_cell 14 = .ok (.aload_n 0, 1) := by decide +kernel
theorem dX8_cell_15 : decode cX8_cell 15 = .ok (.iload_n 1, 1) := by decide +kernel
theorem dX8_cell_16 : decode cX8_cell 16 = .ok (.iload_n 2, 1) := by decide +kernel
theorem dX8_cell_17 : decode cX8_cell 17 = .ok (.invokevirtual 57, 3) := by decide +kernel
theorem dX8_cell_20 : decode cX8_cell 20 = .ok (.goto 8, 3) := by decide +kernel
theorem dX8_cell_23 : decode cX8_cell 23 = .ok (.aload_n 0, 1) := by decide +kernel
theorem dX8_cell_24 : decode cX8_cell 24 = .ok (.iconst 1, 1) := by decide +kernel
theorem dX8_cell_25 : decode cX8_cell 25 = .ok (.invokevirtual 126, 3) := by decide +kernel
theorem dX8_cell_28 : decode cX8_cell 28 = .ok (.ireturn, 1) := by decide +kernel
theorem dX8_place_0 : decode cX8_place 0 = .ok (.aload_n 0, 1) := by decide +kernel
theorem dX8_place_1 : decode cX8_place 1 = .ok (.iconst 0, 1) := by decide +kernel
theorem dX8_place_2 : decode cX8_place 2 = .ok (.putfield 46, 3) := by decide +kernel
theorem dX8_place_5 : decode cX8_place 5 = .ok (.aload_n 0, 1) := by decide +kernel
theorem dX8_place_6 : decode cX8_place 6 = .ok (.iload_n 1, 1) := by decide +kernel
theorem dX8_place_7 : decode cX8_place 7 = .ok (.invokevirtual 123, 3) := by decide +kernel
theorem dX8_place_10 : decode cX8_place 10 = .ok (.ifCond .ne 9, 3) := by decide +kernel
theorem dX8_place_13 : decode cX8_place 13 = .ok (.aload_n 0, 1) := by decide +kernel
theorem dX8_place_14 : decode cX8_place 14 = .ok (.iconst 1, 1) := by decide +kernel
theorem dX8_place_15 : decode cX8_place 15 = .ok (.invokevirtual 126, 3) := by decide +kernel
theorem dX8_place_18 : decode cX8_place 18 = .ok (.ireturn, 1) := by decide +kernel
theorem dX8_place_19 : decode cX8_place 19 = .ok (.iload_n 2, 1) := by decide +kernel
theorem dX8_place_20 : decode cX8_place 20 = .ok (.iconst 0, 1) := by decide +kernel
theorem dX8_place_21 : decode cX8_place 21 = .ok (.iconst 2, 1) := by decide +kernel
theorem dX8_place_22 : decode cX8_place 22 = .ok (.invokestatic 89, 3) := by decide +kernel
theorem dX8_place_25 : decode cX8_place 25 = .ok (.ifCond .eq 12, 3) := by decide +kernel
theorem dX8_place_28 : decode cX8_place 28 = .ok (.aload_n 0, 1) := by decide +kernel
theorem dX8_place_29 : decode cX8_place 29 = .ok (.iload_n 1, 1) := by decide +kernel
theorem dX8_place_30 : decode cX8_place 30 = .ok (.iload_n 2, 1) := by decide +kernel
theorem dX8_place_31 : decode cX8_place 31 = .ok (.invokevirtual 168, 3) := by decide +kernel
theorem dX8_place_34 : decode cX8_place 34 = .ok (.goto 8, 3) := by decide +kernel
theorem dX8_place_37 : decode cX8_place 37 = .ok (.aload_n 0, 1) := by decide +kernel
theorem dX8_place_38 : decode cX8_place 38 = .ok (.iconst 2, 1) := by decide +kernel
theorem dX8_place_39 : decode cX8_place 39 = .ok (.invokevirtual 126, 3) := by decide +kernel
theorem dX8_place_42 : decode cX8_place 42 = .ok (.ireturn, 1) := by decide +kernel
theorem dX8_looks_0 : decode cX8_looks 0 = .ok (.aload_n 0, 1) := by decide +kernel
theorem dX8_looks_1 : decode cX8_looks 1 = .ok (.iconst 0, 1) := by decide +kernel
theorem dX8_looks_2 : decode cX8_looks 2 = .ok (.putfield 46, 3) := by decide +kernel
theorem dX8_looks_5 : decode cX8_looks 5 = .ok (.iload_n 1, 1) := by decide +kernel
theorem dX8_looks_6 : decode cX8_looks 6 = .ok (.iconst 0, 1) := by decide +kernel
theorem dX8_looks_7 : decode cX8_looks 7 = .ok (.iconst 2, 1) := by decide +kernel
theorem dX8_looks_8 : decode cX8_looks 8 = .ok (.invokestatic 89, 3) := by decide +kernel
theorem dX8_looks_11 : decode cX8_looks 11 = .ok (.ifCond .eq 11, 3) := by decide +kernel
theorem dX8_looks_14 : decode cX8_looks 14 = .ok (.aload_n 0, 1) := by decide +kernel
theorem dX8_looks_15 : decode cX8_looks 15 = .ok (.iload_n 1, 1) := by decide +kernel
theorem dX8_looks_16 : decode cX8_looks 16 = .ok (.invokevirtual 171, 3) := by decide +kernel
theorem dX8_looks_19 : decode cX8_looks 19 = .ok (.goto 8, 3) := by decide +kernel
theorem dX8_looks_22 : decode cX8_looks 22 = .ok (.aload_n 0, 1) := by decide +kernel
theorem dX8_looks_23 : decode cX8_looks 23 = .ok (.iconst 1, 1) := by decide +kernel
theorem dX8_looks_24 : decode cX8_looks 24 = .ok (.invokevirtual 126, 3) := by decide +kernel
theorem dX8_looks_27 : decode cX8_looks 27 = .ok (.ireturn, 1) := by decide +kernel
theorem dX8_bounds_0 : decode cX8_bounds 0 = .ok (.iconst 0, 1) := by decide +kernel
theorem dX8_bounds_1 : decode cX8_bounds 1 = .ok (.istore_n 1, 1) := by decide +kernel
theorem dX8_bounds_2 : decode cX8_bounds 2 = .ok (.aload_n 0, 1) := by decide +kernel
theorem dX8_bounds_3 : decode cX8_bounds 3 = .ok (.getfield 7, 3) := by decide +kernel
theorem dX8_bounds_6 : decode cX8_bounds 6 = .ok (.iconst 0, 1) := by decide +kernel
theorem dX8_bounds_7 : decode cX8_bounds 7 = .ok (.iaload, 1) := by decide +kernel
theorem dX8_bounds_8 : decode cX8_bounds 8 = .ok (.istore_n 2, 1) := by decide +kernel
theorem dX8_bounds_9 : decode cX8_bounds 9 = .ok (.iload_n 2, 1) := by decide +kernel
theorem dX8_bounds_10 : decode cX8_bounds 10 = .ok (.ifCond .le 13, 3) := by decide +kernel
theorem dX8_bounds_13 : decode cX8_bounds 13 = .ok (.iinc 1 1, 3) := by decide +kernel
theorem dX8_bounds_16 : decode cX8_bounds 16 = .ok (.iload_n 2, 1) := by decide +kernel
theorem dX8_bounds_17 : decode cX8_bounds 17 = .ok (.iconst 2, 1) := by decide +kernel
theorem dX8_bounds_18 : decode cX8_bounds 18 = .ok (.idiv, 1) := by decide +kernel
theorem dX8_bounds_19 : decode cX8_bounds 19 = .ok (.istore_n 2, 1) := by decide +kernel
theorem dX8_bounds_20 : decode cX8_bounds 20 = .ok (.goto (-11), 3) := by decide +kernel
theorem dX8_bounds_23 : decode cX8_bounds 23 = .ok (.aload_n 0, 1) := by decide +kernel
theorem dX8_bounds_24 : decode cX8_bounds 24 = .ok (.getfield 7, 3) := by decide +kernel
theorem dX8_bounds_27 : decode cX8_bounds 27 = .ok (.iconst 0, 1) := by decide +kernel
theorem dX8_bounds_28 : decode cX8_bounds 28 = .ok (.iaload, 1) := by decide +kernel
theorem dX8_bounds_29 : decode cX8_bounds 29 = .ok (.aload_n 0, 1) := by decide +kernel
theorem dX8_bounds_30 : decode cX8_bounds 30 = .ok (.getfield 7, 3) := by decide +kernel
theorem dX8_bounds_33 : decode cX8_bounds 33 = .ok (.iconst 1, 1) := by decide +kernel
theorem dX8_bounds_34 : decode cX8_bounds 34 = .ok (.iaload, 1) := by decide +kernel
theorem dX8_bounds_35 : decode cX8_bounds 35 = .ok (.iadd, 1) := by decide +kernel
theorem dX8_bounds_36 : decode cX8_bounds 36 = .ok (.iload_n 1, 1) := by decide +kernel
theorem dX8_bounds_37 : decode cX8_bounds 37 = .ok (.imul, 1) := by decide +kernel
theorem dX8_bounds_38 : decode cX8_bounds 38 = .ok (.ireturn, 1) := by decide +kernel
theorem dX8_bound_0 : decode cX8_bound 0 = .ok (.aload_n 0, 1) := by decide +kernel
theorem dX8_bound_1 : decode cX8_bound 1 = .ok (.iconst 0, 1) := by decide +kernel
theorem dX8_bound_2 : decode cX8_bound 2 = .ok (.putfield 46, 3) := by decide +kernel
theorem dX8_bound_5 : decode cX8_bound 5 = .ok (.aload_n 0, 1) := by decide +kernel
theorem dX8_bound_6 : decode cX8_bound 6 = .ok (.invokevirtual 174, 3) := by decide +kernel
theorem dX8_bound_9 : decode cX8_bound 9 = .ok (.ireturn, 1) := by decide +kernel
theorem dX8_testified_0 : decode cX8_testified 0 = .ok (.iload_n 1, 1) := by decide +kernel
theorem dX8_testified_1 : decode cX8_testified 1 = .ok (.iconst 3, 1) := by decide +kernel
theorem dX8_testified_2 : decode cX8_testified 2 = .ok (.if_icmp .ne 8, 3) := by decide +kernel
theorem dX8_testified_5 : decode cX8_testified 5 = .ok (.aload_n 0, 1) := by decide +kernel
theorem dX8_testified_6 : decode cX8_testified 6 = .ok (.invokevirtual 177, 3) := by decide +kernel
theorem dX8_testified_9 : decode cX8_testified 9 = .ok (.ireturn, 1) := by decide +kernel
theorem dX8_testified_10 : decode cX8_testified 10 = .ok (.aload_n 0, 1) := by decide +kernel
theorem dX8_testified_11 : decode cX8_testified 11 = .ok (.invokevirtual 65, 3) := by decide +kernel
theorem dX8_testified_14 : decode cX8_testified 14 = .ok (.istore_n 2, 1) := by decide +kernel
theorem dX8_testified_15 : decode cX8_testified 15 = .ok (.iload_n 2, 1) := by decide +kernel
theorem dX8_testified_16 : decode cX8_testified 16 = .ok (.iconst (-1), 1) := by decide +kernel
theorem dX8_testified_17 : decode cX8_testified 17 = .ok (.if_icmp .ne 5, 3) := by decide +kernel
theorem dX8_testified_20 : decode cX8_testified 20 = .ok (.iconst (-1), 1) := by decide +kernel
theorem dX8_testified_21 : decode cX8_testified 21 = .ok (.ireturn, 1) := by decide +kernel
theorem dX8_testified_22 : decode cX8_testified 22 = .ok (.iload_n 1, 1) := by decide +kernel
theorem dX8_testified_23 : decode cX8_testified 23 = .ok (.ifCond .ne 10, 3) := by decide +kernel
theorem dX8_testified_26 : decode cX8_testified 26 = .ok (.iload_n 2, 1) := by decide +kernel
theorem dX8_testified_27 : decode cX8_testified 27 = .ok (.bipush 100, 2) := by decide +kernel
theorem dX8_testified_29 : decode cX8_testified 29 = .ok (.idiv, 1) := by decide +kernel
theorem dX8_testified_30 : decode cX8_testified 30 = .ok (.goto 22, 3) := by decide +kernel
theorem dX8_testified_33 : decode cX8_testified 33 = .ok (.iload_n 1, 1) := by decide +kernel
theorem dX8_testified_34 : decode cX8_testified 34 = .ok (.iconst 1, 1) := by decide +kernel
theorem dX8_testified_35 : decode cX8_testified 35 = .ok (.if_icmp .ne 13, 3) := by decide +kernel
theorem dX8_testified_38 : decode cX8_testified 38 = .ok (.iload_n 2, 1) := by decide +kernel
theorem dX8_testified_39 : decode cX8_testified 39 = .ok (.bipush 10, 2) := by decide +kernel
theorem dX8_testified_41 : decode cX8_testified 41 = .ok (.idiv, 1) := by decide +kernel
theorem dX8_testified_42 : decode cX8_testified 42 = .ok (.bipush 10, 2) := by decide +kernel
theorem dX8_testified_44 : decode cX8_testified 44 = .ok (.irem, 1) := by decide +kernel
theorem dX8_testified_45 : decode cX8_testified 45 = .ok (.goto 7, 3) := by decide +kernel
theorem dX8_testified_48 : decode cX8_testified 48 = .ok (.iload_n 2, 1) := by decide +kernel
theorem dX8_testified_49 : decode cX8_testified 49 = .ok (.bipush 10, 2) := by decide +kernel
theorem dX8_testified_51 : decode cX8_testified 51 = .ok (.irem, 1) := by decide +kernel
theorem dX8_testified_52 : decode cX8_testified 52 = .ok (.ireturn, 1) := by decide +kernel
theorem dX8_witness_0 : decode cX8_witness 0 = .ok (.aload_n 0, 1) := by decide +kernel
theorem dX8_witness_1 : decode cX8_witness 1 = .ok (.iconst 0, 1) := by decide +kernel
theorem dX8_witness_2 : decode cX8_witness 2 = .ok (.putfield 46, 3) := by decide +kernel
theorem dX8_witness_5 : decode cX8_witness 5 = .ok (.iload_n 1, 1) := by decide +kernel
theorem dX8_witness_6 : decode cX8_witness 6 = .ok (.iconst 0, 1) := by decide +kernel
theorem dX8_witness_7 : decode cX8_witness 7 = .ok (.iconst 3, 1) := by decide +kernel
theorem dX8_witness_8 : decode cX8_witness 8 = .ok (.invokestatic 89, 3) := by decide +kernel
theorem dX8_witness_11 : decode cX8_witness 11 = .ok (.ifCond .eq 11, 3) := by decide +kernel
theorem dX8_witness_14 : decode cX8_witness 14 = .ok (.aload_n 0, 1) := by decide +kernel
theorem dX8_witness_15 : decode cX8_witness 15 = .ok (.iload_n 1, 1) := by decide +kernel
theorem dX8_witness_16 : decode cX8_witness 16 = .ok (.invokevirtual 180, 3) := by decide +kernel
theorem dX8_witness_19 : decode cX8_witness 19 = .ok (.goto 8, 3) := by decide +kernel
theorem dX8_witness_22 : decode cX8_witness 22 = .ok (.aload_n 0, 1) := by decide +kernel
theorem dX8_witness_23 : decode cX8_witness 23 = .ok (.iconst 1, 1) := by decide +kernel
theorem dX8_witness_24 : decode cX8_witness 24 = .ok (.invokevirtual 126, 3) := by decide +kernel
theorem dX8_witness_27 : decode cX8_witness 27 = .ok (.ireturn, 1) := by decide +kernel
theorem dX8_weighs_0 : decode cX8_weighs 0 = .ok (.iconst 0, 1) := by decide +kernel
theorem dX8_weighs_1 : decode cX8_weighs 1 = .ok (.istore_n 3, 1) := by decide +kernel
theorem dX8_weighs_2 : decode cX8_weighs 2 = .ok (.iload_n 1, 1) := by decide +kernel
theorem dX8_weighs_3 : decode cX8_weighs 3 = .ok (.istore 4, 2) := by decide +kernel
theorem dX8_weighs_5 : decode cX8_weighs 5 = .ok (.iload 4, 2) := by decide +kernel
theorem dX8_weighs_7 : decode cX8_weighs 7 = .ok (.iload_n 2, 1) := by decide +kernel
theorem dX8_weighs_8 : decode cX8_weighs 8 = .ok (.if_icmp .ge 22, 3) := by decide +kernel
theorem dX8_weighs_11 : decode cX8_weighs 11 = .ok (.iload_n 3, 1) := by decide +kernel
theorem dX8_weighs_12 : decode cX8_weighs 12 = .ok (.aload_n 0, 1) := by decide +kernel
theorem dX8_weighs_13 : decode cX8_weighs 13 = .ok (.getfield 7, 3) := by decide +kernel
theorem dX8_weighs_16 : decode cX8_weighs 16 = .ok (.bipush 6, 2) := by decide +kernel
theorem dX8_weighs_18 : decode cX8_weighs 18 = .ok (.iload 4, 2) := by decide +kernel
theorem dX8_weighs_20 : decode cX8_weighs 20 = .ok (.iadd, 1) := by decide +kernel
theorem dX8_weighs_21 : decode cX8_weighs 21 = .ok (.iaload, 1) := by decide +kernel
theorem dX8_weighs_22 : decode cX8_weighs 22 = .ok (.iadd, 1) := by decide +kernel
theorem dX8_weighs_23 : decode cX8_weighs 23 = .ok (.istore_n 3, 1) := by decide +kernel
theorem dX8_weighs_24 : decode cX8_weighs 24 = .ok (.iinc 4 1, 3) := by decide +kernel
theorem dX8_weighs_27 : decode cX8_weighs 27 = .ok (.goto (-22), 3) := by decide +kernel
theorem dX8_weighs_30 : decode cX8_weighs 30 = .ok (.iload_n 3, 1) := by decide +kernel
theorem dX8_weighs_31 : decode cX8_weighs 31 = .ok (.ireturn, 1) := by decide +kernel
theorem dX8_goingBack_0 : decode cX8_goingBack 0 = .ok (.aload_n 0, 1) := by decide +kernel
theorem dX8_goingBack_1 : decode cX8_goingBack 1 = .ok (.iconst 0, 1) := by decide +kernel
theorem dX8_goingBack_2 : decode cX8_goingBack 2 = .ok (.invokevirtual 120, 3) := by decide +kernel
theorem dX8_goingBack_5 : decode cX8_goingBack 5 = .ok (.iconst 0, 1) := by decide +kernel
theorem dX8_goingBack_6 : decode cX8_goingBack 6 = .ok (.istore_n 1, 1) := by decide +kernel
theorem dX8_goingBack_7 : decode cX8_goingBack 7 = .ok (.iconst 1, 1) := by decide +kernel
theorem dX8_goingBack_8 : decode cX8_goingBack 8 = .ok (.istore_n 2, 1) := by decide +kernel
theorem dX8_goingBack_9 : decode cX8_goingBack 9 = .ok (.iload_n 2, 1) := by decide +kernel
theorem dX8_goingBack_10 : decode cX8_goingBack 10 = .ok (.aload_n 0, 1) := by decide +kernel
theorem dX8_goingBack_11 : decode cX8_goingBack 11 = .ok (.getfield 7, 3) := by decide +kernel
theorem dX8_goingBack_14 : decode cX8_goingBack 14 = .ok (.iconst 0, 1) := by decide +kernel
theorem dX8_goingBack_15 : decode cX8_goingBack 15 = .ok (.iaload, 1) := by decide +kernel
theorem dX8_goingBack_16 : decode cX8_goingBack 16 = .ok (.if_icmp .ge 34, 3) := by decide +kernel
theorem dX8_goingBack_19 : decode cX8_goingBack 19 = .ok (.iload_n 1, 1) := by decide +kernel
theorem dX8_goingBack_20 : decode cX8_goingBack 20 = .ok (.aload_n 0, 1) := by decide +kernel
theorem dX8_goingBack_21 : decode cX8_goingBack 21 = .ok (.getfield 25, 3) := by decide +kernel
theorem dX8_goingBack_24 : decode cX8_goingBack 24 = .ok (.iload_n 2, 1) := by decide +kernel
theorem dX8_goingBack_25 : decode cX8_goingBack 25 = .ok (.iaload, 1) := by decide +kernel
theorem dX8_goingBack_26 : decode cX8_goingBack 26 = .ok (.aload_n 0, 1) := by decide +kernel
theorem dX8_goingBack_27 : decode cX8_goingBack 27 = .ok (.getfield 25, 3) := by decide +kernel
theorem dX8_goingBack_30 : decode cX8_goingBack 30 = .ok (.iload_n 2, 1) := by decide +kernel
theorem dX8_goingBack_31 : decode cX8_goingBack 31 = .ok (.iconst 1, 1) := by decide +kernel
theorem dX8_goingBack_32 : decode cX8_goingBack 32 = .ok (.isub, 1) := by decide +kernel
theorem dX8_goingBack_33 : decode cX8_goingBack 33 = .ok (.iaload, 1) := by decide +kernel
theorem dX8_goingBack_34 : decode cX8_goingBack 34 = .ok (.if_icmp .ge 7, 3) := by decide +kernel
theorem dX8_goingBack_37 : decode cX8_goingBack 37 = .ok (.iconst 1, 1) := by decide +kernel
theorem dX8_goingBack_38 : decode cX8_goingBack 38 = .ok (.goto 4, 3) := by decide +kernel
theorem dX8_goingBack_41 : decode cX8_goingBack 41 = .ok (.iconst 0, 1) := by decide +kernel
theorem dX8_goingBack_42 : decode cX8_goingBack 42 = .ok (.iadd, 1) := by decide +kernel
theorem dX8_goingBack_43 : decode cX8_goingBack 43 = .ok (.istore_n 1, 1) := by decide +kernel
theorem dX8_goingBack_44 : decode cX8_goingBack 44 = .ok (.iinc 2 1, 3) := by decide +kernel
theorem dX8_goingBack_47 : decode cX8_goingBack 47 = .ok (.goto (-38), 3) := by decide +kernel
theorem dX8_goingBack_50 : decode cX8_goingBack 50 = .ok (.iload_n 1, 1) := by decide +kernel
theorem dX8_goingBack_51 : decode cX8_goingBack 51 = .ok (.ireturn, 1) := by decide +kernel
theorem dX8_counted_0 : decode cX8_counted 0 = .ok (.iload_n 1, 1) := by decide +kernel
theorem dX8_counted_1 : decode cX8_counted 1 = .ok (.tableswitch 87 0 8 #[51, 51, 58, 65, 87, 87, 87, 77, 82], 51) := by decide +kernel
theorem dX8_counted_52 : decode cX8_counted 52 = .ok (.aload_n 0, 1) := by decide +kernel
theorem dX8_counted_53 : decode cX8_counted 53 = .ok (.getfield 7, 3) := by decide +kernel
theorem dX8_counted_56 : decode cX8_counted 56 = .ok (.iload_n 1, 1) := by decide +kernel
theorem dX8_counted_57 : decode cX8_counted 57 = .ok (.iaload, 1) := by decide +kernel
theorem dX8_counted_58 : decode cX8_counted 58 = .ok (.ireturn, 1) := by decide +kernel
theorem dX8_counted_59 : decode cX8_counted 59 = .ok (.aload_n 0, 1) := by decide +kernel
theorem dX8_counted_60 : decode cX8_counted 60 = .ok (.getfield 7, 3) := by decide +kernel
theorem dX8_counted_63 : decode cX8_counted 63 = .ok (.iconst 5, 1) := by decide +kernel
theorem dX8_counted_64 : decode cX8_counted 64 = .ok (.iaload, 1) := by decide +kernel
theorem dX8_counted_65 : decode cX8_counted 65 = .ok (.ireturn, 1) := by decide +kernel
theorem dX8_counted_66 : decode cX8_counted 66 = .ok (.aload_n 0, 1) := by decide +kernel
theorem dX8_counted_67 : decode cX8_counted 67 = .ok (.iconst 0, 1) := by decide +kernel
theorem dX8_counted_68 : decode cX8_counted 68 = .ok (.aload_n 0, 1) := by decide +kernel
theorem dX8_counted_69 : decode cX8_counted 69 = .ok (.getfield 7, 3) := by decide +kernel
theorem dX8_counted_72 : decode cX8_counted 72 = .ok (.iconst 5, 1) := by decide +kernel
theorem dX8_counted_73 : decode cX8_counted 73 = .ok (.iaload, 1) := by decide +kernel
theorem dX8_counted_74 : decode cX8_counted 74 = .ok (.invokevirtual 183, 3) := by decide +kernel
theorem dX8_counted_77 : decode cX8_counted 77 = .ok (.ireturn, 1) := by decide +kernel
theorem dX8_counted_78 : decode cX8_counted 78 = .ok (.aload_n 0, 1) := by decide +kernel
theorem dX8_counted_79 : decode cX8_counted 79 = .ok (.invokevirtual 186, 3) := by decide +kernel
theorem dX8_counted_82 : decode cX8_counted 82 = .ok (.ireturn, 1) := by decide +kernel
theorem dX8_counted_83 : decode cX8_counted 83 = .ok (.aload_n 0, 1) := by decide +kernel
theorem dX8_counted_84 : decode cX8_counted 84 = .ok (.getfield 50, 3) := by decide +kernel
theorem dX8_counted_87 : decode cX8_counted 87 = .ok (.ireturn, 1) := by decide +kernel
theorem dX8_counted_88 : decode cX8_counted 88 = .ok (.aload_n 0, 1) := by decide +kernel
theorem dX8_counted_89 : decode cX8_counted 89 = .ok (.getfield 7, 3) := by decide +kernel
theorem dX8_counted_92 : decode cX8_counted 92 = .ok (.iconst 2, 1) := by decide +kernel
theorem dX8_counted_93 : decode cX8_counted 93 = .ok (.iload_n 1, 1) := by decide +kernel
theorem dX8_counted_94 : decode cX8_counted 94 = .ok (.iadd, 1) := by decide +kernel
theorem dX8_counted_95 : decode cX8_counted 95 = .ok (.iconst 4, 1) := by decide +kernel
theorem dX8_counted_96 : decode cX8_counted 96 = .ok (.isub, 1) := by decide +kernel
theorem dX8_counted_97 : decode cX8_counted 97 = .ok (.iaload, 1) := by decide +kernel
theorem dX8_counted_98 : decode cX8_counted 98 = .ok (.ireturn, 1) := by decide +kernel
theorem dX8_count_0 : decode cX8_count 0 = .ok (.aload_n 0, 1) := by decide +kernel
theorem dX8_count_1 : decode cX8_count 1 = .ok (.iconst 0, 1) := by decide +kernel
theorem dX8_count_2 : decode cX8_count 2 = .ok (.putfield 46, 3) := by decide +kernel
theorem dX8_count_5 : decode cX8_count 5 = .ok (.iload_n 1, 1) := by decide +kernel
theorem dX8_count_6 : decode cX8_count 6 = .ok (.iconst 0, 1) := by decide +kernel
theorem dX8_count_7 : decode cX8_count 7 = .ok (.bipush 8, 2) := by decide +kernel
theorem dX8_count_9 : decode cX8_count 9 = .ok (.invokestatic 89, 3) := by decide +kernel
theorem dX8_count_12 : decode cX8_count 12 = .ok (.ifCond .eq 11, 3) := by decide +kernel
theorem dX8_count_15 : decode cX8_count 15 = .ok (.aload_n 0, 1) := by decide +kernel
theorem dX8_count_16 : decode cX8_count 16 = .ok (.iload_n 1, 1) := by decide +kernel
theorem dX8_count_17 : decode cX8_count 17 = .ok (.invokevirtual 189, 3) := by decide +kernel
theorem dX8_count_20 : decode cX8_count 20 = .ok (.goto 8, 3) := by decide +kernel
theorem dX8_count_23 : decode cX8_count 23 = .ok (.aload_n 0, 1) := by decide +kernel
theorem dX8_count_24 : decode cX8_count 24 = .ok (.iconst 1, 1) := by decide +kernel
theorem dX8_count_25 : decode cX8_count 25 = .ok (.invokevirtual 126, 3) := by decide +kernel
theorem dX8_count_28 : decode cX8_count 28 = .ok (.ireturn, 1) := by decide +kernel
theorem dX8_weight_0 : decode cX8_weight 0 = .ok (.aload_n 0, 1) := by decide +kernel
theorem dX8_weight_1 : decode cX8_weight 1 = .ok (.iconst 0, 1) := by decide +kernel
theorem dX8_weight_2 : decode cX8_weight 2 = .ok (.putfield 46, 3) := by decide +kernel
theorem dX8_weight_5 : decode cX8_weight 5 = .ok (.iload_n 1, 1) := by decide +kernel
theorem dX8_weight_6 : decode cX8_weight 6 = .ok (.iconst 0, 1) := by decide +kernel
theorem dX8_weight_7 : decode cX8_weight 7 = .ok (.aload_n 0, 1) := by decide +kernel
theorem dX8_weight_8 : decode cX8_weight 8 = .ok (.getfield 7, 3) := by decide +kernel
theorem dX8_weight_11 : decode cX8_weight 11 = .ok (.iconst 5, 1) := by decide +kernel
theorem dX8_weight_12 : decode cX8_weight 12 = .ok (.iaload, 1) := by decide +kernel
theorem dX8_weight_13 : decode cX8_weight 13 = .ok (.iconst 1, 1) := by decide +kernel
theorem dX8_weight_14 : decode cX8_weight 14 = .ok (.isub, 1) := by decide +kernel
theorem dX8_weight_15 : decode cX8_weight 15 = .ok (.invokestatic 89, 3) := by decide +kernel
theorem dX8_weight_18 : decode cX8_weight 18 = .ok (.ifCond .eq 15, 3) := by decide +kernel
theorem dX8_weight_21 : decode cX8_weight 21 = .ok (.aload_n 0, 1) := by decide +kernel
theorem dX8_weight_22 : decode cX8_weight 22 = .ok (.getfield 7, 3) := by decide +kernel
theorem dX8_weight_25 : decode cX8_weight 25 = .ok (.bipush 6, 2) := by decide +kernel
theorem dX8_weight_27 : decode cX8_weight 27 = .ok (.iload_n 1, 1) := by decide +kernel
theorem dX8_weight_28 : decode cX8_weight 28 = .ok (.iadd, 1) := by decide +kernel
theorem dX8_weight_29 : decode cX8_weight 29 = .ok (.iaload, 1) := by decide +kernel
theorem dX8_weight_30 : decode cX8_weight 30 = .ok (.goto 8, 3) := by decide +kernel
theorem dX8_weight_33 : decode cX8_weight 33 = .ok (.aload_n 0, 1) := by decide +kernel
theorem dX8_weight_34 : decode cX8_weight 34 = .ok (.iconst 1, 1) := by decide +kernel
theorem dX8_weight_35 : decode cX8_weight 35 = .ok (.invokevirtual 126, 3) := by decide +kernel
theorem dX8_weight_38 : decode cX8_weight 38 = .ok (.ireturn, 1) := by decide +kernel
theorem dX8_part_0 : decode cX8_part 0 = .ok (.bipush 11, 2) := by decide +kernel
theorem dX8_part_2 : decode cX8_part 2 = .ok (.iload_n 1, 1) := by decide +kernel
theorem dX8_part_3 : decode cX8_part 3 = .ok (.imul, 1) := by decide +kernel
theorem dX8_part_4 : decode cX8_part 4 = .ok (.iload_n 2, 1) := by decide +kernel
theorem dX8_part_5 : decode cX8_part 5 = .ok (.iadd, 1) := by decide +kernel
theorem dX8_part_6 : decode cX8_part 6 = .ok (.istore_n 3, 1) := by decide +kernel
theorem dX8_part_7 : decode cX8_part 7 = .ok (.aload_n 0, 1) := by decide +kernel
theorem dX8_part_8 : decode cX8_part 8 = .ok (.getfield 40, 3) := by decide +kernel
theorem dX8_part_11 : decode cX8_part 11 = .ok (.iload_n 3, 1) := by decide +kernel
theorem dX8_part_12 : decode cX8_part 12 = .ok (.iconst (-1), 1) := by decide +kernel
theorem dX8_part_13 : decode cX8_part 13 = .ok (.iastore, 1) := by decide +kernel
theorem dX8_part_14 : decode cX8_part 14 = .ok (.iload_n 1, 1) := by decide +kernel
theorem dX8_part_15 : decode cX8_part 15 = .ok (.iconst 1, 1) := by decide +kernel
theorem dX8_part_16 : decode cX8_part 16 = .ok (.isub, 1) := by decide +kernel
theorem dX8_part_17 : decode cX8_part 17 = .ok (.istore 4, 2) := by decide +kernel
theorem dX8_part_19 : decode cX8_part 19 = .ok (.iload 4, 2) := by decide +kernel
theorem dX8_part_21 : decode cX8_part 21 = .ok (.iload_n 2, 1) := by decide +kernel
theorem dX8_part_22 : decode cX8_part 22 = .ok (.if_icmp .ge 142, 3) := by decide +kernel
theorem dX8_part_25 : decode cX8_part 25 = .ok (.aload_n 0, 1) := by decide +kernel
theorem dX8_part_26 : decode cX8_part 26 = .ok (.iload 4, 2) := by decide +kernel
theorem dX8_part_28 : decode cX8_part 28 = .ok (.iload_n 2, 1) := by decide +kernel
theorem dX8_part_29 : decode cX8_part 29 = .ok (.invokevirtual 183, 3) := by decide +kernel
theorem dX8_part_32 : decode cX8_part 32 = .ok (.istore 5, 2) := by decide +kernel
theorem dX8_part_34 : decode cX8_part 34 = .ok (.iload_n 1, 1) := by decide +kernel
theorem dX8_part_35 : decode cX8_part 35 = .ok (.iconst 1, 1) := by decide +kernel
theorem dX8_part_36 : decode cX8_part 36 = .ok (.if_icmp .ne 16, 3) := by decide +kernel
theorem dX8_part_39 : decode cX8_part 39 = .ok (.iload 4, 2) := by decide +kernel
theorem dX8_part_41 : decode cX8_part 41 = .ok (.ifCond .ne 7, 3) := by decide +kernel
theorem dX8_part_44 : decode cX8_part 44 = .ok (.iconst 0, 1) := by decide +kernel
theorem dX8_part_45 : decode cX8_part 45 = .ok (.goto 21, 3) := by decide +kernel
theorem dX8_part_48 : decode cX8_part 48 = .ok (.iconst (-1), 1) := by decide +kernel
theorem dX8_part_49 : decode cX8_part 49 = .ok (.goto 17, 3) := by decide +kernel
theorem dX8_part_52 : decode cX8_part 52 = .ok (.aload_n 0, 1) := by decide +kernel
theorem dX8_part_53 : decode cX8_part 53 = .ok (.getfield 40, 3) := by decide +kernel
theorem dX8_part_56 : decode cX8_part 56 = .ok (.bipush 11, 2) := by decide +kernel
theorem dX8_part_58 : decode cX8_part 58 = .ok (.iload_n 1, 1) := by decide +kernel
theorem dX8_part_59 : decode cX8_part 59 = .ok (.iconst 1, 1) := by decide +kernel
theorem dX8_part_60 : decode cX8_part 60 = .ok (.isub, 1) := by decide +kernel
theorem dX8_part_61 : decode cX8_part 61 = .ok (.imul, 1) := by decide +kernel
theorem dX8_part_62 : decode cX8_part 62 = .ok (.iload 4, 2) := by decide +kernel
theorem dX8_part_64 : decode cX8_part 64 = .ok (.iadd, 1) := by decide +kernel
theorem dX8_part_65 : decode cX8_part 65 = .ok (.iaload, 1) := by decide +kernel
theorem dX8_part_66 : decode cX8_part 66 = .ok (.istore 6, 2) := by decide +kernel
theorem dX8_part_68 : decode cX8_part 68 = .ok (.iload 6, 2) := by decide +kernel
theorem dX8_part_70 : decode cX8_part 70 = .ok (.iconst (-1), 1) := by decide +kernel
theorem dX8_part_71 : decode cX8_part 71 = .ok (.if_icmp .eq 34, 3) := by decide +kernel
theorem dX8_part_74 : decode cX8_part 74 = .ok (.aload_n 0, 1) := by decide +kernel
theorem dX8_part_75 : decode cX8_part 75 = .ok (.getfield 40, 3) := by decide +kernel
theorem dX8_part_78 : decode cX8_part 78 = .ok (.iload_n 3, 1) := by decide +kernel
theorem dX8_part_79 : decode cX8_part 79 = .ok (.iaload, 1) := by decide +kernel
theorem dX8_part_80 : decode cX8_part 80 = .ok (.iconst (-1), 1) := by decide +kernel
theorem dX8_part_81 : decode cX8_part 81 = .ok (.if_icmp .eq 20, 3) := by decide +kernel
theorem dX8_part_84 : decode cX8_part 84 = .ok (.iload 6, 2) := by decide +kernel
theorem dX8_part_86 : decode cX8_part 86 = .ok (.iload 5, 2) := by decide +kernel
theorem dX8_part_88 : decode cX8_part 88 = .ok (.iload 5, 2) := by decide +kernel
theorem dX8_part_90 : decode cX8_part 90 = .ok (.imul, 1) := by decide +kernel
theorem dX8_part_91 : decode cX8_part 91 = .ok (.iadd, 1) := by decide +kernel
theorem dX8_part_92 : decode cX8_part 92 = .ok (.aload_n 0, 1) := by decide +kernel
theorem dX8_part_93 : decode cX8_part 93 = .ok (.getfield 40, 3) := by decide +kernel
theorem dX8_part_96 : decode cX8_part 96 = .ok (.iload_n 3, 1) := by decide +kernel
theorem dX8_part_97 : decode cX8_part 97 = .ok (.iaload, 1) := by decide +kernel
theorem dX8_part_98 : decode cX8_part 98 = .ok (.if_icmp .ge 7, 3) := by decide +kernel
theorem dX8_part_101 : decode cX8_part 101 = .ok (.iconst 1, 1) := by decide +kernel
theorem dX8_part_102 : decode cX8_part 102 = .ok (.goto 4, 3) := by decide +kernel
theorem dX8_part_105 : decode cX8_part 105 = .ok (.iconst 0, 1) := by decide +kernel
theorem dX8_part_106 : decode cX8_part 106 = .ok (.istore 7, 2) := by decide +kernel
theorem dX8_part_108 : decode cX8_part 108 = .ok (.aload_n 0, 1) := by decide +kernel
theorem dX8_part_109 : decode cX8_part 109 = .ok (.getfield 40, 3) := by decide +kernel
theorem dX8_part_112 : decode cX8_part 112 = .ok (.iload_n 3, 1) := by decide +kernel
theorem dX8_part_113 : decode cX8_part 113 = .ok (.iload 7, 2) := by decide +kernel
theorem dX8_part_115 : decode cX8_part 115 = .ok (.ifCond .eq 14, 3) := by decide +kernel
theorem dX8_part_118 : decode cX8_part 118 = .ok (.iload 6, 2) := by decide +kernel
theorem dX8_part_120 : decode cX8_part 120 = .ok (.iload 5, 2) := by decide +kernel
theorem dX8_part_122 : decode cX8_part 122 = .ok (.iload 5, 2) := by decide +kernel
theorem dX8_part_124 : decode cX8_part 124 = .ok (.imul, 1) := by decide +kernel
theorem dX8_part_125 : decode cX8_part 125 = .ok (.iadd, 1) := by decide +kernel
theorem dX8_part_126 : decode cX8_part 126 = .ok (.goto 9, 3) := by decide +kernel
theorem dX8_part_129 : decode cX8_part 129 = .ok (.aload_n 0, 1) := by decide +kernel
theorem dX8_part_130 : decode cX8_part 130 = .ok (.getfield 40, 3) := by decide +kernel
theorem dX8_part_133 : decode cX8_part 133 = .ok (.iload_n 3, 1) := by decide +kernel
theorem dX8_part_134 : decode cX8_part 134 = .ok (.iaload, 1) := by decide +kernel
theorem dX8_part_135 : decode cX8_part 135 = .ok (.iastore, 1) := by decide +kernel
theorem dX8_part_136 : decode cX8_part 136 = .ok (.aload_n 0, 1) := by decide +kernel
theorem dX8_part_137 : decode cX8_part 137 = .ok (.getfield 43, 3) := by decide +kernel
theorem dX8_part_140 : decode cX8_part 140 = .ok (.iload_n 3, 1) := by decide +kernel
theorem dX8_part_141 : decode cX8_part 141 = .ok (.iload 7, 2) := by decide +kernel
theorem dX8_part_143 : decode cX8_part 143 = .ok (.ifCond .eq 8, 3) := by decide +kernel
theorem dX8_part_146 : decode cX8_part 146 = .ok (.iload 4, 2) := by decide +kernel
theorem dX8_part_148 : decode cX8_part 148 = .ok (.goto 9, 3) := by decide +kernel
theorem dX8_part_151 : decode cX8_part 151 = .ok (.aload_n 0, 1) := by decide +kernel
theorem dX8_part_152 : decode cX8_part 152 = .ok (.getfield 43, 3) := by decide +kernel
theorem dX8_part_155 : decode cX8_part 155 = .ok (.iload_n 3, 1) := by decide +kernel
theorem dX8_part_156 : decode cX8_part 156 = .ok (.iaload, 1) := by decide +kernel
theorem dX8_part_157 : decode cX8_part 157 = .ok (.iastore, 1) := by decide +kernel
theorem dX8_part_158 : decode cX8_part 158 = .ok (.iinc 4 1, 3) := by decide +kernel
theorem dX8_part_161 : decode cX8_part 161 = .ok (.goto (-142), 3) := by decide +kernel
theorem dX8_part_164 : decode cX8_part 164 = .ok (.return_, 1) := by decide +kernel
end
section
theorem dX8_cuts_0 : decode cX8_cuts 0 = .ok (.iconst 1, 1) := by decide +kernel
theorem dX8_cuts_1 : decode cX8_cuts 1 = .ok (.istore_n 1, 1) := by decide +kernel
theorem dX8_cuts_2 : decode cX8_cuts 2 = .ok (.iload_n 1, 1) := by decide +kernel
theorem dX8_cuts_3 : decode cX8_cuts 3 = .ok (.aload_n 0, 1) := by decide +kernel
theorem dX8_cuts_4 : decode cX8_cuts 4 = .ok (.getfield 7, 3) := by decide +kernel
theorem dX8_cuts_7 : decode cX8_cuts 7 = .ok (.iconst 5, 1) := by decide +kernel
theorem dX8_cuts_8 : decode cX8_cuts 8 = .ok (.iaload, 1) := by decide +kernel
theorem dX8_cuts_9 : decode cX8_cuts 9 = .ok (.if_icmp .gt 33, 3) := by decide +kernel
theorem dX8_cuts_12 : decode cX8_cuts 12 = .ok (.iload_n 1, 1) := by decide +kernel
theorem dX8_cuts_13 : decode cX8_cuts 13 = .ok (.istore_n 2, 1) := by decide +kernel
theorem dX8_cuts_14 : decode cX8_cuts 14 = .ok (.iload_n 2, 1) := by decide +kernel
theorem dX8_cuts_15 : decode cX8_cuts 15 = .ok (.aload_n 0, 1) := by decide +kernel
theorem dX8_cuts_16 : decode cX8_cuts 16 = .ok (.getfield 7, 3) := by decide +kernel
theorem dX8_cuts_19 : decode cX8_cuts 19 = .ok (.iconst 5, 1) := by decide +kernel
theorem dX8_cuts_20 : decode cX8_cuts 20 = .ok (.iaload, 1) := by decide +kernel
theorem dX8_cuts_21 : decode cX8_cuts 21 = .ok (.if_icmp .gt 15, 3) := by decide +kernel
theorem dX8_cuts_24 : decode cX8_cuts 24 = .ok (.aload_n 0, 1) := by decide +kernel
theorem dX8_cuts_25 : decode cX8_cuts 25 = .ok (.iload_n 1, 1) := by decide +kernel
theorem dX8_cuts_26 : decode cX8_cuts 26 = .ok (.iload_n 2, 1) := by decide +kernel
theorem dX8_cuts_27 : decode cX8_cuts 27 = .ok (.invokevirtual 192, 3) := by decide +kernel
theorem dX8_cuts_30 : decode cX8_cuts 30 = .ok (.iinc 2 1, 3) := by decide +kernel
theorem dX8_cuts_33 : decode cX8_cuts 33 = .ok (.goto (-19), 3) := by decide +kernel
theorem dX8_cuts_36 : decode cX8_cuts 36 = .ok (.iinc 1 1, 3) := by decide +kernel
theorem dX8_cuts_39 : decode cX8_cuts 39 = .ok (.goto (-37), 3) := by decide +kernel
theorem dX8_cuts_42 : decode cX8_cuts 42 = .ok (.return_, 1) := by decide +kernel
theorem dX8_leastCost_0 : decode cX8_leastCost 0 = .ok (.aload_n 0, 1) := by decide +kernel
theorem dX8_leastCost_1 : decode cX8_leastCost 1 = .ok (.invokevirtual 196, 3) := by decide +kernel
theorem dX8_leastCost_4 : decode cX8_leastCost 4 = .ok (.aload_n 0, 1) := by decide +kernel
theorem dX8_leastCost_5 : decode cX8_leastCost 5 = .ok (.getfield 40, 3) := by decide +kernel
theorem dX8_leastCost_8 : decode cX8_leastCost 8 = .ok (.bipush 11, 2) := by decide +kernel
theorem dX8_leastCost_10 : decode cX8_leastCost 10 = .ok (.iload_n 1, 1) := by decide +kernel
theorem dX8_leastCost_11 : decode cX8_leastCost 11 = .ok (.imul, 1) := by decide +kernel
theorem dX8_leastCost_12 : decode cX8_leastCost 12 = .ok (.aload_n 0, 1) := by decide +kernel
theorem dX8_leastCost_13 : decode cX8_leastCost 13 = .ok (.getfield 7, 3) := by decide +kernel
theorem dX8_leastCost_16 : decode cX8_leastCost 16 = .ok (.iconst 5, 1) := by decide +kernel
theorem dX8_leastCost_17 : decode cX8_leastCost 17 = .ok (.iaload, 1) := by decide +kernel
theorem dX8_leastCost_18 : decode cX8_leastCost 18 = .ok (.iadd, 1) := by decide +kernel
theorem dX8_leastCost_19 : decode cX8_leastCost 19 = .ok (.iaload, 1) := by decide +kernel
theorem dX8_leastCost_20 : decode cX8_leastCost 20 = .ok (.ireturn, 1) := by decide +kernel
theorem dX8_isParts_0 : decode cX8_isParts 0 = .ok (.iload_n 1, 1) := by decide +kernel
theorem dX8_isParts_1 : decode cX8_isParts 1 = .ok (.iconst 1, 1) := by decide +kernel
theorem dX8_isParts_2 : decode cX8_isParts 2 = .ok (.aload_n 0, 1) := by decide +kernel
theorem dX8_isParts_3 : decode cX8_isParts 3 = .ok (.getfield 7, 3) := by decide +kernel
theorem dX8_isParts_6 : decode cX8_isParts 6 = .ok (.iconst 5, 1) := by decide +kernel
theorem dX8_isParts_7 : decode cX8_isParts 7 = .ok (.iaload, 1) := by decide +kernel
theorem dX8_isParts_8 : decode cX8_isParts 8 = .ok (.invokestatic 89, 3) := by decide +kernel
theorem dX8_isParts_11 : decode cX8_isParts 11 = .ok (.ireturn, 1) := by decide +kernel
theorem dX8_cost_0 : decode cX8_cost 0 = .ok (.aload_n 0, 1) := by decide +kernel
theorem dX8_cost_1 : decode cX8_cost 1 = .ok (.iconst 0, 1) := by decide +kernel
theorem dX8_cost_2 : decode cX8_cost 2 = .ok (.putfield 46, 3) := by decide +kernel
theorem dX8_cost_5 : decode cX8_cost 5 = .ok (.aload_n 0, 1) := by decide +kernel
theorem dX8_cost_6 : decode cX8_cost 6 = .ok (.iload_n 1, 1) := by decide +kernel
theorem dX8_cost_7 : decode cX8_cost 7 = .ok (.invokevirtual 199, 3) := by decide +kernel
theorem dX8_cost_10 : decode cX8_cost 10 = .ok (.ifCond .eq 20, 3) := by decide +kernel
theorem dX8_cost_13 : decode cX8_cost 13 = .ok (.iload_n 2, 1) := by decide +kernel
theorem dX8_cost_14 : decode cX8_cost 14 = .ok (.iconst 0, 1) := by decide +kernel
theorem dX8_cost_15 : decode cX8_cost 15 = .ok (.iconst 1, 1) := by decide +kernel
theorem dX8_cost_16 : decode cX8_cost 16 = .ok (.invokestatic 89, 3) := by decide +kernel
theorem dX8_cost_19 : decode cX8_cost 19 = .ok (.ifCond .eq 11, 3) := by decide +kernel
theorem dX8_cost_22 : decode cX8_cost 22 = .ok (.aload_n 0, 1) := by decide +kernel
theorem dX8_cost_23 : decode cX8_cost 23 = .ok (.iload_n 1, 1) := by decide +kernel
theorem dX8_cost_24 : decode cX8_cost 24 = .ok (.invokevirtual 202, 3) := by decide +kernel
theorem dX8_cost_27 : decode cX8_cost 27 = .ok (.goto 8, 3) := by decide +kernel
theorem dX8_cost_30 : decode cX8_cost 30 = .ok (.aload_n 0, 1) := by decide +kernel
theorem dX8_cost_31 : decode cX8_cost 31 = .ok (.iconst 1, 1) := by decide +kernel
theorem dX8_cost_32 : decode cX8_cost 32 = .ok (.invokevirtual 126, 3) := by decide +kernel
theorem dX8_cost_35 : decode cX8_cost 35 = .ok (.ireturn, 1) := by decide +kernel
theorem dX8_cutAt_0 : decode cX8_cutAt 0 = .ok (.iload_n 2, 1) := by decide +kernel
theorem dX8_cutAt_1 : decode cX8_cutAt 1 = .ok (.iload_n 1, 1) := by decide +kernel
theorem dX8_cutAt_2 : decode cX8_cutAt 2 = .ok (.iconst 1, 1) := by decide +kernel
theorem dX8_cutAt_3 : decode cX8_cutAt 3 = .ok (.isub, 1) := by decide +kernel
theorem dX8_cutAt_4 : decode cX8_cutAt 4 = .ok (.if_icmp .lt 5, 3) := by decide +kernel
theorem dX8_cutAt_7 : decode cX8_cutAt 7 = .ok (.iconst (-1), 1) := by decide +kernel
theorem dX8_cutAt_8 : decode cX8_cutAt 8 = .ok (.ireturn, 1) := by decide +kernel
theorem dX8_cutAt_9 : decode cX8_cutAt 9 = .ok (.aload_n 0, 1) := by decide +kernel
theorem dX8_cutAt_10 : decode cX8_cutAt 10 = .ok (.invokevirtual 196, 3) := by decide +kernel
theorem dX8_cutAt_13 : decode cX8_cutAt 13 = .ok (.aload_n 0, 1) := by decide +kernel
theorem dX8_cutAt_14 : decode cX8_cutAt 14 = .ok (.getfield 7, 3) := by decide +kernel
theorem dX8_cutAt_17 : decode cX8_cutAt 17 = .ok (.iconst 5, 1) := by decide +kernel
theorem dX8_cutAt_18 : decode cX8_cutAt 18 = .ok (.iaload, 1) := by decide +kernel
theorem dX8_cutAt_19 : decode cX8_cutAt 19 = .ok (.istore_n 3, 1) := by decide +kernel
theorem dX8_cutAt_20 : decode cX8_cutAt 20 = .ok (.iload_n 1, 1) := by decide +kernel
theorem dX8_cutAt_21 : decode cX8_cutAt 21 = .ok (.istore 4, 2) := by decide +kernel
theorem dX8_cutAt_23 : decode cX8_cutAt 23 = .ok (.iload 4, 2) := by decide +kernel
theorem dX8_cutAt_25 : decode cX8_cutAt 25 = .ok (.iload_n 2, 1) := by decide +kernel
theorem dX8_cutAt_26 : decode cX8_cutAt 26 = .ok (.iconst 1, 1) := by decide +kernel
theorem dX8_cutAt_27 : decode cX8_cutAt 27 = .ok (.iadd, 1) := by decide +kernel
theorem dX8_cutAt_28 : decode cX8_cutAt 28 = .ok (.if_icmp .le 22, 3) := by decide +kernel
theorem dX8_cutAt_31 : decode cX8_cutAt 31 = .ok (.aload_n 0, 1) := by decide +kernel
theorem dX8_cutAt_32 : decode cX8_cutAt 32 = .ok (.getfield 43, 3) := by decide +kernel
theorem dX8_cutAt_35 : decode cX8_cutAt 35 = .ok (.bipush 11, 2) := by decide +kernel
theorem dX8_cutAt_37 : decode cX8_cutAt 37 = .ok (.iload 4, 2) := by decide +kernel
theorem dX8_cutAt_39 : decode cX8_cutAt 39 = .ok (.imul, 1) := by decide +kernel
theorem dX8_cutAt_40 : decode cX8_cutAt 40 = .ok (.iload_n 3, 1) := by decide +kernel
theorem dX8_cutAt_41 : decode cX8_cutAt 41 = .ok (.iadd, 1) := by decide +kernel
theorem dX8_cutAt_42 : decode cX8_cutAt 42 = .ok (.iaload, 1) := by decide +kernel
theorem dX8_cutAt_43 : decode cX8_cutAt 43 = .ok (.istore_n 3, 1) := by decide +kernel
theorem dX8_cutAt_44 : decode cX8_cutAt 44 = .ok (.iinc 4 (-1), 3) := by decide +kernel
theorem dX8_cutAt_47 : decode cX8_cutAt 47 = .ok (.goto (-24), 3) := by decide +kernel
theorem dX8_cutAt_50 : decode cX8_cutAt 50 = .ok (.iload_n 3, 1) := by decide +kernel
theorem dX8_cutAt_51 : decode cX8_cutAt 51 = .ok (.ireturn, 1) := by decide +kernel
theorem dX8_cut_0 : decode cX8_cut 0 = .ok (.aload_n 0, 1) := by decide +kernel
theorem dX8_cut_1 : decode cX8_cut 1 = .ok (.iconst 0, 1) := by decide +kernel
theorem dX8_cut_2 : decode cX8_cut 2 = .ok (.putfield 46, 3) := by decide +kernel
theorem dX8_cut_5 : decode cX8_cut 5 = .ok (.aload_n 0, 1) := by decide +kernel
theorem dX8_cut_6 : decode cX8_cut 6 = .ok (.iload_n 1, 1) := by decide +kernel
theorem dX8_cut_7 : decode cX8_cut 7 = .ok (.invokevirtual 199, 3) := by decide +kernel
theorem dX8_cut_10 : decode cX8_cut 10 = .ok (.ifCond .eq 16, 3) := by decide +kernel
theorem dX8_cut_13 : decode cX8_cut 13 = .ok (.iload_n 2, 1) := by decide +kernel
theorem dX8_cut_14 : decode cX8_cut 14 = .ok (.ifCond .lt 12, 3) := by decide +kernel
theorem dX8_cut_17 : decode cX8_cut 17 = .ok (.aload_n 0, 1) := by decide +kernel
theorem dX8_cut_18 : decode cX8_cut 18 = .ok (.iload_n 1, 1) := by decide +kernel
theorem dX8_cut_19 : decode cX8_cut 19 = .ok (.iload_n 2, 1) := by decide +kernel
theorem dX8_cut_20 : decode cX8_cut 20 = .ok (.invokevirtual 205, 3) := by decide +kernel
theorem dX8_cut_23 : decode cX8_cut 23 = .ok (.goto 8, 3) := by decide +kernel
theorem dX8_cut_26 : decode cX8_cut 26 = .ok (.aload_n 0, 1) := by decide +kernel
theorem dX8_cut_27 : decode cX8_cut 27 = .ok (.iconst 1, 1) := by decide +kernel
theorem dX8_cut_28 : decode cX8_cut 28 = .ok (.invokevirtual 126, 3) := by decide +kernel
theorem dX8_cut_31 : decode cX8_cut 31 = .ok (.ireturn, 1) := by decide +kernel
theorem dX8_fewest_0 : decode cX8_fewest 0 = .ok (.iconst 1, 1) := by decide +kernel
theorem dX8_fewest_1 : decode cX8_fewest 1 = .ok (.istore_n 2, 1) := by decide +kernel
theorem dX8_fewest_2 : decode cX8_fewest 2 = .ok (.iload_n 2, 1) := by decide +kernel
theorem dX8_fewest_3 : decode cX8_fewest 3 = .ok (.aload_n 0, 1) := by decide +kernel
theorem dX8_fewest_4 : decode cX8_fewest 4 = .ok (.getfield 7, 3) := by decide +kernel
theorem dX8_fewest_7 : decode cX8_fewest 7 = .ok (.iconst 5, 1) := by decide +kernel
theorem dX8_fewest_8 : decode cX8_fewest 8 = .ok (.iaload, 1) := by decide +kernel
theorem dX8_fewest_9 : decode cX8_fewest 9 = .ok (.if_icmp .gt 20, 3) := by decide +kernel
theorem dX8_fewest_12 : decode cX8_fewest 12 = .ok (.aload_n 0, 1) := by decide +kernel
theorem dX8_fewest_13 : decode cX8_fewest 13 = .ok (.iload_n 2, 1) := by decide +kernel
theorem dX8_fewest_14 : decode cX8_fewest 14 = .ok (.invokevirtual 202, 3) := by decide +kernel
theorem dX8_fewest_17 : decode cX8_fewest 17 = .ok (.iload_n 1, 1) := by decide +kernel
theorem dX8_fewest_18 : decode cX8_fewest 18 = .ok (.if_icmp .gt 5, 3) := by decide +kernel
theorem dX8_fewest_21 : decode cX8_fewest 21 = .ok (.iload_n 2, 1) := by decide +kernel
theorem dX8_fewest_22 : decode cX8_fewest 22 = .ok (.ireturn, 1) := by decide +kernel
theorem dX8_fewest_23 : decode cX8_fewest 23 = .ok (.iinc 2 1, 3) := by decide +kernel
theorem dX8_fewest_26 : decode cX8_fewest 26 = .ok (.goto (-24), 3) := by decide +kernel
theorem dX8_fewest_29 : decode cX8_fewest 29 = .ok (.iconst (-1), 1) := by decide +kernel
theorem dX8_fewest_30 : decode cX8_fewest 30 = .ok (.ireturn, 1) := by decide +kernel
theorem dX8_fewestParts_0 : decode cX8_fewestParts 0 = .ok (.aload_n 0, 1) := by decide +kernel
theorem dX8_fewestParts_1 : decode cX8_fewestParts 1 = .ok (.iconst 0, 1) := by decide +kernel
theorem dX8_fewestParts_2 : decode cX8_fewestParts 2 = .ok (.putfield 46, 3) := by decide +kernel
theorem dX8_fewestParts_5 : decode cX8_fewestParts 5 = .ok (.iload_n 1, 1) := by decide +kernel
theorem dX8_fewestParts_6 : decode cX8_fewestParts 6 = .ok (.iconst 1, 1) := by decide +kernel
theorem dX8_fewestParts_7 : decode cX8_fewestParts 7 = .ok (.ldc 208, 2) := by decide +kernel
theorem dX8_fewestParts_9 : decode cX8_fewestParts 9 = .ok (.invokestatic 89, 3) := by decide +kernel
theorem dX8_fewestParts_12 : decode cX8_fewestParts 12 = .ok (.ifCond .eq 11, 3) := by decide +kernel
theorem dX8_fewestParts_15 : decode cX8_fewestParts 15 = .ok (.aload_n 0, 1) := by decide +kernel
theorem dX8_fewestParts_16 : decode cX8_fewestParts 16 = .ok (.iload_n 1, 1) := by decide +kernel
theorem dX8_fewestParts_17 : decode cX8_fewestParts 17 = .ok (.invokevirtual 209, 3) := by decide +kernel
theorem dX8_fewestParts_20 : decode cX8_fewestParts 20 = .ok (.goto 8, 3) := by decide +kernel
theorem dX8_fewestParts_23 : decode cX8_fewestParts 23 = .ok (.aload_n 0, 1) := by decide +kernel
theorem dX8_fewestParts_24 : decode cX8_fewestParts 24 = .ok (.iconst 1, 1) := by decide +kernel
theorem dX8_fewestParts_25 : decode cX8_fewestParts 25 = .ok (.invokevirtual 126, 3) := by decide +kernel
theorem dX8_fewestParts_28 : decode cX8_fewestParts 28 = .ok (.ireturn, 1) := by decide +kernel
theorem dX8_share_0 : decode cX8_share 0 = .ok (.aload_n 0, 1) := by decide +kernel
theorem dX8_share_1 : decode cX8_share 1 = .ok (.iconst 1, 1) := by decide +kernel
theorem dX8_share_2 : decode cX8_share 2 = .ok (.invokevirtual 171, 3) := by decide +kernel
theorem dX8_share_5 : decode cX8_share 5 = .ok (.istore_n 1, 1) := by decide +kernel
theorem dX8_share_6 : decode cX8_share 6 = .ok (.iload_n 1, 1) := by decide +kernel
theorem dX8_share_7 : decode cX8_share 7 = .ok (.iconst (-1), 1) := by decide +kernel
theorem dX8_share_8 : decode cX8_share 8 = .ok (.if_icmp .ne 5, 3) := by decide +kernel
theorem dX8_share_11 : decode cX8_share 11 = .ok (.dconst 0, 1) := by decide +kernel
theorem dX8_share_12 : decode cX8_share 12 = .ok (.dreturn, 1) := by decide +kernel
theorem dX8_share_13 : decode cX8_share 13 = .ok (.iload_n 1, 1) := by decide +kernel
theorem dX8_share_14 : decode cX8_share 14 = .ok (.i2d, 1) := by decide +kernel
theorem dX8_share_15 : decode cX8_share 15 = .ok (.dstore_n 2, 1) := by decide +kernel
theorem dX8_share_16 : decode cX8_share 16 = .ok (.dload_n 2, 1) := by decide +kernel
theorem dX8_share_17 : decode cX8_share 17 = .ok (.aload_n 0, 1) := by decide +kernel
theorem dX8_share_18 : decode cX8_share 18 = .ok (.getfield 7, 3) := by decide +kernel
theorem dX8_share_21 : decode cX8_share 21 = .ok (.iconst 0, 1) := by decide +kernel
theorem dX8_share_22 : decode cX8_share 22 = .ok (.iaload, 1) := by decide +kernel
theorem dX8_share_23 : decode cX8_share 23 = .ok (.aload_n 0, 1) := by decide +kernel
theorem dX8_share_24 : decode cX8_share 24 = .ok (.getfield 7, 3) := by decide +kernel
theorem dX8_share_27 : decode cX8_share 27 = .ok (.iconst 1, 1) := by decide +kernel
theorem dX8_share_28 : decode cX8_share 28 = .ok (.iaload, 1) := by decide +kernel
theorem dX8_share_29 : decode cX8_share 29 = .ok (.imul, 1) := by decide +kernel
theorem dX8_share_30 : decode cX8_share 30 = .ok (.i2d, 1) := by decide +kernel
theorem dX8_share_31 : decode cX8_share 31 = .ok (.ddiv, 1) := by decide +kernel
theorem dX8_share_32 : decode cX8_share 32 = .ok (.dreturn, 1) := by decide +kernel
theorem dX8_halfShare_0 : decode cX8_halfShare 0 = .ok (.aload_n 0, 1) := by decide +kernel
theorem dX8_halfShare_1 : decode cX8_halfShare 1 = .ok (.iconst 0, 1) := by decide +kernel
theorem dX8_halfShare_2 : decode cX8_halfShare 2 = .ok (.putfield 46, 3) := by decide +kernel
theorem dX8_halfShare_5 : decode cX8_halfShare 5 = .ok (.aload_n 0, 1) := by decide +kernel
theorem dX8_halfShare_6 : decode cX8_halfShare 6 = .ok (.invokevirtual 212, 3) := by decide +kernel
theorem dX8_halfShare_9 : decode cX8_halfShare 9 = .ok (.dreturn, 1) := by decide +kernel
theorem dX8_mixes_0 : decode cX8_mixes 0 = .ok (.aload_n 0, 1) := by decide +kernel
theorem dX8_mixes_1 : decode cX8_mixes 1 = .ok (.ldc2_w 216, 3) := by decide +kernel
theorem dX8_mixes_4 : decode cX8_mixes 4 = .ok (.aload_n 0, 1) := by decide +kernel
theorem dX8_mixes_5 : decode cX8_mixes 5 = .ok (.getfield 218, 3) := by decide +kernel
theorem dX8_mixes_8 : decode cX8_mixes 8 = .ok (.lmul, 1) := by decide +kernel
theorem dX8_mixes_9 : decode cX8_mixes 9 = .ok (.lload_n 1, 1) := by decide +kernel
theorem dX8_mixes_10 : decode cX8_mixes 10 = .ok (.ladd, 1) := by decide +kernel
theorem dX8_mixes_11 : decode cX8_mixes 11 = .ok (.putfield 218, 3) := by decide +kernel
theorem dX8_mixes_14 : decode cX8_mixes 14 = .ok (.return_, 1) := by decide +kernel
theorem dX8_mixesTable_0 : decode cX8_mixesTable 0 = .ok (.iconst 0, 1) := by decide +kernel
theorem dX8_mixesTable_1 : decode cX8_mixesTable 1 = .ok (.istore_n 1, 1) := by decide +kernel
theorem dX8_mixesTable_2 : decode cX8_mixesTable 2 = .ok (.iload_n 1, 1) := by decide +kernel
theorem dX8_mixesTable_3 : decode cX8_mixesTable 3 = .ok (.bipush 10, 2) := by decide +kernel
theorem dX8_mixesTable_5 : decode cX8_mixesTable 5 = .ok (.aload_n 0, 1) := by decide +kernel
theorem dX8_mixesTable_6 : decode cX8_mixesTable 6 = .ok (.getfield 7, 3) := by decide +kernel
theorem dX8_mixesTable_9 : decode cX8_mixesTable 9 = .ok (.iconst 0, 1) := by decide +kernel
theorem dX8_mixesTable_10 : decode cX8_mixesTable 10 = .ok (.iaload, 1) := by decide +kernel
theorem dX8_mixesTable_11 : decode cX8_mixesTable 11 = .ok (.imul, 1) := by decide +kernel
theorem dX8_mixesTable_12 : decode cX8_mixesTable 12 = .ok (.if_icmp .ge 36, 3) := by decide +kernel
theorem dX8_mixesTable_15 : decode cX8_mixesTable 15 = .ok (.iload_n 1, 1) := by decide +kernel
theorem dX8_mixesTable_16 : decode cX8_mixesTable 16 = .ok (.bipush 10, 2) := by decide +kernel
theorem dX8_mixesTable_18 : decode cX8_mixesTable 18 = .ok (.irem, 1) := by decide +kernel
theorem dX8_mixesTable_19 : decode cX8_mixesTable 19 = .ok (.aload_n 0, 1) := by decide +kernel
theorem dX8_mixesTable_20 : decode cX8_mixesTable 20 = .ok (.getfield 7, 3) := by decide +kernel
theorem dX8_mixesTable_23 : decode cX8_mixesTable 23 = .ok (.iconst 1, 1) := by decide +kernel
theorem dX8_mixesTable_24 : decode cX8_mixesTable 24 = .ok (.iaload, 1) := by decide +kernel
theorem dX8_mixesTable_25 : decode cX8_mixesTable 25 = .ok (.if_icmp .ge 17, 3) := by decide +kernel
theorem dX8_mixesTable_28 : decode cX8_mixesTable 28 = .ok (.aload_n 0, 1) := by decide +kernel
theorem dX8_mixesTable_29 : decode cX8_mixesTable 29 = .ok (.aload_n 0, 1) := by decide +kernel
theorem dX8_mixesTable_30 : decode cX8_mixesTable 30 = .ok (.getfield 7, 3) := by decide +kernel
theorem dX8_mixesTable_33 : decode cX8_mixesTable 33 = .ok (.bipush 16, 2) := by decide +kernel
theorem dX8_mixesTable_35 : decode cX8_mixesTable 35 = .ok (.iload_n 1, 1) := by decide +kernel
theorem dX8_mixesTable_36 : decode cX8_mixesTable 36 = .ok (.iadd, 1) := by decide +kernel
theorem dX8_mixesTable_37 : decode cX8_mixesTable 37 = .ok (.iaload, 1) := by decide +kernel
theorem dX8_mixesTable_38 : decode cX8_mixesTable 38 = .ok (.i2l, 1) := by decide +kernel
theorem dX8_mixesTable_39 : decode cX8_mixesTable 39 = .ok (.invokevirtual 222, 3) := by decide +kernel
theorem dX8_mixesTable_42 : decode cX8_mixesTable 42 = .ok (.iinc 1 1, 3) := by decide +kernel
theorem dX8_mixesTable_45 : decode cX8_mixesTable 45 = .ok (.goto (-43), 3) := by decide +kernel
theorem dX8_mixesTable_48 : decode cX8_mixesTable 48 = .ok (.iconst 0, 1) := by decide +kernel
theorem dX8_mixesTable_49 : decode cX8_mixesTable 49 = .ok (.istore_n 1, 1) := by decide +kernel
theorem dX8_mixesTable_50 : decode cX8_mixesTable 50 = .ok (.iload_n 1, 1) := by decide +kernel
theorem dX8_mixesTable_51 : decode cX8_mixesTable 51 = .ok (.iconst 3, 1) := by decide +kernel
theorem dX8_mixesTable_52 : decode cX8_mixesTable 52 = .ok (.aload_n 0, 1) := by decide +kernel
theorem dX8_mixesTable_53 : decode cX8_mixesTable 53 = .ok (.getfield 7, 3) := by decide +kernel
theorem dX8_mixesTable_56 : decode cX8_mixesTable 56 = .ok (.iconst 0, 1) := by decide +kernel
theorem dX8_mixesTable_57 : decode cX8_mixesTable 57 = .ok (.iaload, 1) := by decide +kernel
theorem dX8_mixesTable_58 : decode cX8_mixesTable 58 = .ok (.imul, 1) := by decide +kernel
theorem dX8_mixesTable_59 : decode cX8_mixesTable 59 = .ok (.if_icmp .ge 24, 3) := by decide +kernel
theorem dX8_mixesTable_62 : decode cX8_mixesTable 62 = .ok (.aload_n 0, 1) := by decide +kernel
theorem dX8_mixesTable_63 : decode cX8_mixesTable 63 = .ok (.aload_n 0, 1) := by decide +kernel
theorem dX8_mixesTable_64 : decode cX8_mixesTable 64 = .ok (.iload_n 1, 1) := by decide +kernel
theorem dX8_mixesTable_65 : decode cX8_mixesTable 65 = .ok (.iconst 3, 1) := by decide +kernel
theorem dX8_mixesTable_66 : decode cX8_mixesTable 66 = .ok (.idiv, 1) := by decide +kernel
theorem dX8_mixesTable_67 : decode cX8_mixesTable 67 = .ok (.iload_n 1, 1) := by decide +kernel
theorem dX8_mixesTable_68 : decode cX8_mixesTable 68 = .ok (.iconst 3, 1) := by decide +kernel
theorem dX8_mixesTable_69 : decode cX8_mixesTable 69 = .ok (.irem, 1) := by decide +kernel
theorem dX8_mixesTable_70 : decode cX8_mixesTable 70 = .ok (.invokevirtual 168, 3) := by decide +kernel
theorem dX8_mixesTable_73 : decode cX8_mixesTable 73 = .ok (.i2l, 1) := by decide +kernel
theorem dX8_mixesTable_74 : decode cX8_mixesTable 74 = .ok (.invokevirtual 222, 3) := by decide +kernel
theorem dX8_mixesTable_77 : decode cX8_mixesTable 77 = .ok (.iinc 1 1, 3) := by decide +kernel
theorem dX8_mixesTable_80 : decode cX8_mixesTable 80 = .ok (.goto (-30), 3) := by decide +kernel
theorem dX8_mixesTable_83 : decode cX8_mixesTable 83 = .ok (.iconst 0, 1) := by decide +kernel
theorem dX8_mixesTable_84 : decode cX8_mixesTable 84 = .ok (.istore_n 1, 1) := by decide +kernel
theorem dX8_mixesTable_85 : decode cX8_mixesTable 85 = .ok (.iload_n 1, 1) := by decide +kernel
theorem dX8_mixesTable_86 : decode cX8_mixesTable 86 = .ok (.iconst 3, 1) := by decide +kernel
theorem dX8_mixesTable_87 : decode cX8_mixesTable 87 = .ok (.if_icmp .ge 19, 3) := by decide +kernel
theorem dX8_mixesTable_90 : decode cX8_mixesTable 90 = .ok (.aload_n 0, 1) := by decide +kernel
theorem dX8_mixesTable_91 : decode cX8_mixesTable 91 = .ok (.aload_n 0, 1) := by decide +kernel
theorem dX8_mixesTable_92 : decode cX8_mixesTable 92 = .ok (.iload_n 1, 1) := by decide +kernel
theorem dX8_mixesTable_93 : decode cX8_mixesTable 93 = .ok (.invokevirtual 171, 3) := by decide +kernel
theorem dX8_mixesTable_96 : decode cX8_mixesTable 96 = .ok (.i2l, 1) := by decide +kernel
theorem dX8_mixesTable_97 : decode cX8_mixesTable 97 = .ok (.invokevirtual 222, 3) := by decide +kernel
theorem dX8_mixesTable_100 : decode cX8_mixesTable 100 = .ok (.iinc 1 1, 3) := by decide +kernel
theorem dX8_mixesTable_103 : decode cX8_mixesTable 103 = .ok (.goto (-18), 3) := by decide +kernel
theorem dX8_mixesTable_106 : decode cX8_mixesTable 106 = .ok (.aload_n 0, 1) := by decide +kernel
theorem dX8_mixesTable_107 : decode cX8_mixesTable 107 = .ok (.aload_n 0, 1) := by decide +kernel
theorem dX8_mixesTable_108 : decode cX8_mixesTable 108 = .ok (.invokevirtual 174, 3) := by decide +kernel
theorem dX8_mixesTable_111 : decode cX8_mixesTable 111 = .ok (.i2l, 1) := by decide +kernel
theorem dX8_mixesTable_112 : decode cX8_mixesTable 112 = .ok (.invokevirtual 222, 3) := by decide +kernel
theorem dX8_mixesTable_115 : decode cX8_mixesTable 115 = .ok (.iconst 0, 1) := by decide +kernel
theorem dX8_mixesTable_116 : decode cX8_mixesTable 116 = .ok (.istore_n 1, 1) := by decide +kernel
theorem dX8_mixesTable_117 : decode cX8_mixesTable 117 = .ok (.iload_n 1, 1) := by decide +kernel
theorem dX8_mixesTable_118 : decode cX8_mixesTable 118 = .ok (.iconst 4, 1) := by decide +kernel
theorem dX8_mixesTable_119 : decode cX8_mixesTable 119 = .ok (.if_icmp .ge 19, 3) := by decide +kernel
theorem dX8_mixesTable_122 : decode cX8_mixesTable 122 = .ok (.aload_n 0, 1) := by decide +kernel
theorem dX8_mixesTable_123 : decode cX8_mixesTable 123 = .ok (.aload_n 0, 1) := by decide +kernel
theorem dX8_mixesTable_124 : decode cX8_mixesTable 124 = .ok (.iload_n 1, 1) := by decide +kernel
theorem dX8_mixesTable_125 : decode cX8_mixesTable 125 = .ok (.invokevirtual 180, 3) := by decide +kernel
theorem dX8_mixesTable_128 : decode cX8_mixesTable 128 = .ok (.i2l, 1) := by decide +kernel
theorem dX8_mixesTable_129 : decode cX8_mixesTable 129 = .ok (.invokevirtual 222, 3) := by decide +kernel
theorem dX8_mixesTable_132 : decode cX8_mixesTable 132 = .ok (.iinc 1 1, 3) := by decide +kernel
theorem dX8_mixesTable_135 : decode cX8_mixesTable 135 = .ok (.goto (-18), 3) := by decide +kernel
theorem dX8_mixesTable_138 : decode cX8_mixesTable 138 = .ok (.return_, 1) := by decide +kernel
theorem dX8_mixesCuts_0 : decode cX8_mixesCuts 0 = .ok (.aload_n 0, 1) := by decide +kernel
theorem dX8_mixesCuts_1 : decode cX8_mixesCuts 1 = .ok (.aload_n 0, 1) := by decide +kernel
theorem dX8_mixesCuts_2 : decode cX8_mixesCuts 2 = .ok (.iload_n 1, 1) := by decide +kernel
theorem dX8_mixesCuts_3 : decode cX8_mixesCuts 3 = .ok (.invokevirtual 202, 3) := by decide +kernel
theorem dX8_mixesCuts_6 : decode cX8_mixesCuts 6 = .ok (.i2l, 1) := by decide +kernel
theorem dX8_mixesCuts_7 : decode cX8_mixesCuts 7 = .ok (.invokevirtual 222, 3) := by decide +kernel
theorem dX8_mixesCuts_10 : decode cX8_mixesCuts 10 = .ok (.aload_n 0, 1) := by decide +kernel
theorem dX8_mixesCuts_11 : decode cX8_mixesCuts 11 = .ok (.aload_n 0, 1) := by decide +kernel
theorem dX8_mixesCuts_12 : decode cX8_mixesCuts 12 = .ok (.iload_n 1, 1) := by decide +kernel
theorem dX8_mixesCuts_13 : decode cX8_mixesCuts 13 = .ok (.invokevirtual 202, 3) := by decide +kernel
theorem dX8_mixesCuts_16 : decode cX8_mixesCuts 16 = .ok (.i2l, 1) := by decide +kernel
theorem dX8_mixesCuts_17 : decode cX8_mixesCuts 17 = .ok (.invokevirtual 222, 3) := by decide +kernel
theorem dX8_mixesCuts_20 : decode cX8_mixesCuts 20 = .ok (.iconst 0, 1) := by decide +kernel
theorem dX8_mixesCuts_21 : decode cX8_mixesCuts 21 = .ok (.istore_n 2, 1) := by decide +kernel
theorem dX8_mixesCuts_22 : decode cX8_mixesCuts 22 = .ok (.iload_n 2, 1) := by decide +kernel
theorem dX8_mixesCuts_23 : decode cX8_mixesCuts 23 = .ok (.iload_n 1, 1) := by decide +kernel
theorem dX8_mixesCuts_24 : decode cX8_mixesCuts 24 = .ok (.iconst 1, 1) := by decide +kernel
theorem dX8_mixesCuts_25 : decode cX8_mixesCuts 25 = .ok (.isub, 1) := by decide +kernel
theorem dX8_mixesCuts_26 : decode cX8_mixesCuts 26 = .ok (.if_icmp .ge 20, 3) := by decide +kernel
theorem dX8_mixesCuts_29 : decode cX8_mixesCuts 29 = .ok (.aload_n 0, 1) := by decide +kernel
theorem dX8_mixesCuts_30 : decode cX8_mixesCuts 30 = .ok (.aload_n 0, 1) := by decide +kernel
theorem dX8_mixesCuts_31 : decode cX8_mixesCuts 31 = .ok (.iload_n 1, 1) := by decide +kernel
theorem dX8_mixesCuts_32 : decode cX8_mixesCuts 32 = .ok (.iload_n 2, 1) := by decide +kernel
theorem dX8_mixesCuts_33 : decode cX8_mixesCuts 33 = .ok (.invokevirtual 205, 3) := by decide +kernel
theorem dX8_mixesCuts_36 : decode cX8_mixesCuts 36 = .ok (.i2l, 1) := by decide +kernel
theorem dX8_mixesCuts_37 : decode cX8_mixesCuts 37 = .ok (.invokevirtual 222, 3) := by decide +kernel
theorem dX8_mixesCuts_40 : decode cX8_mixesCuts 40 = .ok (.iinc 2 1, 3) := by decide +kernel
theorem dX8_mixesCuts_43 : decode cX8_mixesCuts 43 = .ok (.goto (-21), 3) := by decide +kernel
theorem dX8_mixesCuts_46 : decode cX8_mixesCuts 46 = .ok (.return_, 1) := by decide +kernel
theorem dX8_digest_0 : decode cX8_digest 0 = .ok (.aload_n 0, 1) := by decide +kernel
theorem dX8_digest_1 : decode cX8_digest 1 = .ok (.iconst 0, 1) := by decide +kernel
theorem dX8_digest_2 : decode cX8_digest 2 = .ok (.putfield 46, 3) := by decide +kernel
theorem dX8_digest_5 : decode cX8_digest 5 = .ok (.aload_n 0, 1) := by decide +kernel
theorem dX8_digest_6 : decode cX8_digest 6 = .ok (.ldc2_w 226, 3) := by decide +kernel
theorem dX8_digest_9 : decode cX8_digest 9 = .ok (.putfield 218, 3) := by decide +kernel
theorem dX8_digest_12 : decode cX8_digest 12 = .ok (.iconst 0, 1) := by decide +kernel
theorem dX8_digest_13 : decode cX8_digest 13 = .ok (.istore_n 1, 1) := by decide +kernel
theorem dX8_digest_14 : decode cX8_digest 14 = .ok (.iload_n 1, 1) := by decide +kernel
theorem dX8_digest_15 : decode cX8_digest 15 = .ok (.bipush 9, 2) := by decide +kernel
theorem dX8_digest_17 : decode cX8_digest 17 = .ok (.if_icmp .ge 19, 3) := by decide +kernel
theorem dX8_digest_20 : decode cX8_digest 20 = .ok (.aload_n 0, 1) := by decide +kernel
theorem dX8_digest_21 : decode cX8_digest 21 = .ok (.aload_n 0, 1) := by decide +kernel
theorem dX8_digest_22 : decode cX8_digest 22 = .ok (.iload_n 1, 1) := by decide +kernel
theorem dX8_digest_23 : decode cX8_digest 23 = .ok (.invokevirtual 189, 3) := by decide +kernel
theorem dX8_digest_26 : decode cX8_digest 26 = .ok (.i2l, 1) := by decide +kernel
theorem dX8_digest_27 : decode cX8_digest 27 = .ok (.invokevirtual 222, 3) := by decide +kernel
theorem dX8_digest_30 : decode cX8_digest 30 = .ok (.iinc 1 1, 3) := by decide +kernel
theorem dX8_digest_33 : decode cX8_digest 33 = .ok (.goto (-19), 3) := by decide +kernel
theorem dX8_digest_36 : decode cX8_digest 36 = .ok (.aload_n 0, 1) := by decide +kernel
theorem dX8_digest_37 : decode cX8_digest 37 = .ok (.invokevirtual 228, 3) := by decide +kernel
theorem dX8_digest_40 : decode cX8_digest 40 = .ok (.iconst 0, 1) := by decide +kernel
theorem dX8_digest_41 : decode cX8_digest 41 = .ok (.istore_n 1, 1) := by decide +kernel
theorem dX8_digest_42 : decode cX8_digest 42 = .ok (.iload_n 1, 1) := by decide +kernel
theorem dX8_digest_43 : decode cX8_digest 43 = .ok (.aload_n 0, 1) := by decide +kernel
theorem dX8_digest_44 : decode cX8_digest 44 = .ok (.getfield 7, 3) := by decide +kernel
theorem dX8_digest_47 : decode cX8_digest 47 = .ok (.iconst 5, 1) := by decide +kernel
theorem dX8_digest_48 : decode cX8_digest 48 = .ok (.iaload, 1) := by decide +kernel
theorem dX8_digest_49 : decode cX8_digest 49 = .ok (.if_icmp .ge 23, 3) := by decide +kernel
theorem dX8_digest_52 : decode cX8_digest 52 = .ok (.aload_n 0, 1) := by decide +kernel
theorem dX8_digest_53 : decode cX8_digest 53 = .ok (.aload_n 0, 1) := by decide +kernel
theorem dX8_digest_54 : decode cX8_digest 54 = .ok (.getfield 7, 3) := by decide +kernel
theorem dX8_digest_57 : decode cX8_digest 57 = .ok (.bipush 6, 2) := by decide +kernel
theorem dX8_digest_59 : decode cX8_digest 59 = .ok (.iload_n 1, 1) := by decide +kernel
theorem dX8_digest_60 : decode cX8_digest 60 = .ok (.iadd, 1) := by decide +kernel
theorem dX8_digest_61 : decode cX8_digest 61 = .ok (.iaload, 1) := by decide +kernel
theorem dX8_digest_62 : decode cX8_digest 62 = .ok (.i2l, 1) := by decide +kernel
theorem dX8_digest_63 : decode cX8_digest 63 = .ok (.invokevirtual 222, 3) := by decide +kernel
theorem dX8_digest_66 : decode cX8_digest 66 = .ok (.iinc 1 1, 3) := by decide +kernel
theorem dX8_digest_69 : decode cX8_digest 69 = .ok (.goto (-27), 3) := by decide +kernel
theorem dX8_digest_72 : decode cX8_digest 72 = .ok (.iconst 1, 1) := by decide +kernel
theorem dX8_digest_73 : decode cX8_digest 73 = .ok (.istore_n 1, 1) := by decide +kernel
theorem dX8_digest_74 : decode cX8_digest 74 = .ok (.iload_n 1, 1) := by decide +kernel
theorem dX8_digest_75 : decode cX8_digest 75 = .ok (.aload_n 0, 1) := by decide +kernel
theorem dX8_digest_76 : decode cX8_digest 76 = .ok (.getfield 7, 3) := by decide +kernel
theorem dX8_digest_79 : decode cX8_digest 79 = .ok (.iconst 5, 1) := by decide +kernel
theorem dX8_digest_80 : decode cX8_digest 80 = .ok (.iaload, 1) := by decide +kernel
theorem dX8_digest_81 : decode cX8_digest 81 = .ok (.if_icmp .gt 14, 3) := by decide +kernel
theorem dX8_digest_84 : decode cX8_digest 84 = .ok (.aload_n 0, 1) := by decide +kernel
theorem dX8_digest_85 : decode cX8_digest 85 = .ok (.iload_n 1, 1) := by decide +kernel
theorem dX8_digest_86 : decode cX8_digest 86 = .ok (.invokevirtual 231, 3) := by decide +kernel
theorem dX8_digest_89 : decode cX8_digest 89 = .ok (.iinc 1 1, 3) := by decide +kernel
theorem dX8_digest_92 : decode cX8_digest 92 = .ok (.goto (-18), 3) := by decide +kernel
theorem dX8_digest_95 : decode cX8_digest 95 = .ok (.aload_n 0, 1) := by decide +kernel
theorem dX8_digest_96 : decode cX8_digest 96 = .ok (.aload_n 0, 1) := by decide +kernel
theorem dX8_digest_97 : decode cX8_digest 97 = .ok (.sipush 1000, 3) := by decide +kernel
theorem dX8_digest_100 : decode cX8_digest 100 = .ok (.invokevirtual 209, 3) := by decide +kernel
theorem dX8_digest_103 : decode cX8_digest 103 = .ok (.i2l, 1) := by decide +kernel
theorem dX8_digest_104 : decode cX8_digest 104 = .ok (.invokevirtual 222, 3) := by decide +kernel
theorem dX8_digest_107 : decode cX8_digest 107 = .ok (.aload_n 0, 1) := by decide +kernel
theorem dX8_digest_108 : decode cX8_digest 108 = .ok (.aload_n 0, 1) := by decide +kernel
theorem dX8_digest_109 : decode cX8_digest 109 = .ok (.invokevirtual 212, 3) := by decide +kernel
theorem dX8_digest_112 : decode cX8_digest 112 = .ok (.invokestatic 234, 3) := by decide +kernel
theorem dX8_digest_115 : decode cX8_digest 115 = .ok (.invokevirtual 222, 3) := by decide +kernel
theorem dX8_digest_118 : decode cX8_digest 118 = .ok (.aload_n 0, 1) := by decide +kernel
theorem dX8_digest_119 : decode cX8_digest 119 = .ok (.aload_n 0, 1) := by decide +kernel
theorem dX8_digest_120 : decode cX8_digest 120 = .ok (.getfield 19, 3) := by decide +kernel
theorem dX8_digest_123 : decode cX8_digest 123 = .ok (.iconst 0, 1) := by decide +kernel
theorem dX8_digest_124 : decode cX8_digest 124 = .ok (.iaload, 1) := by decide +kernel
theorem dX8_digest_125 : decode cX8_digest 125 = .ok (.i2l, 1) := by decide +kernel
theorem dX8_digest_126 : decode cX8_digest 126 = .ok (.invokevirtual 222, 3) := by decide +kernel
theorem dX8_digest_129 : decode cX8_digest 129 = .ok (.aload_n 0, 1) := by decide +kernel
theorem dX8_digest_130 : decode cX8_digest 130 = .ok (.aload_n 0, 1) := by decide +kernel
theorem dX8_digest_131 : decode cX8_digest 131 = .ok (.getfield 19, 3) := by decide +kernel
theorem dX8_digest_134 : decode cX8_digest 134 = .ok (.iconst 1, 1) := by decide +kernel
theorem dX8_digest_135 : decode cX8_digest 135 = .ok (.iaload, 1) := by decide +kernel
theorem dX8_digest_136 : decode cX8_digest 136 = .ok (.i2l, 1) := by decide +kernel
theorem dX8_digest_137 : decode cX8_digest 137 = .ok (.invokevirtual 222, 3) := by decide +kernel
theorem dX8_digest_140 : decode cX8_digest 140 = .ok (.aload_n 0, 1) := by decide +kernel
theorem dX8_digest_141 : decode cX8_digest 141 = .ok (.aload_n 0, 1) := by decide +kernel
theorem dX8_digest_142 : decode cX8_digest 142 = .ok (.getfield 141, 3) := by decide +kernel
theorem dX8_digest_145 : decode cX8_digest 145 = .ok (.i2l, 1) := by decide +kernel
theorem dX8_digest_146 : decode cX8_digest 146 = .ok (.invokevirtual 222, 3) := by decide +kernel
theorem dX8_digest_149 : decode cX8_digest 149 = .ok (.iconst 0, 1) := by decide +kernel
theorem dX8_digest_150 : decode cX8_digest 150 = .ok (.istore_n 1, 1) := by decide +kernel
theorem dX8_digest_151 : decode cX8_digest 151 = .ok (.iload_n 1, 1) := by decide +kernel
theorem dX8_digest_152 : decode cX8_digest 152 = .ok (.aload_n 0, 1) := by decide +kernel
theorem dX8_digest_153 : decode cX8_digest 153 = .ok (.getfield 141, 3) := by decide +kernel
theorem dX8_digest_156 : decode cX8_digest 156 = .ok (.if_icmp .ge 20, 3) := by decide +kernel
theorem dX8_digest_159 : decode cX8_digest 159 = .ok (.aload_n 0, 1) := by decide +kernel
theorem dX8_digest_160 : decode cX8_digest 160 = .ok (.aload_n 0, 1) := by decide +kernel
theorem dX8_digest_161 : decode cX8_digest 161 = .ok (.getfield 22, 3) := by decide +kernel
theorem dX8_digest_164 : decode cX8_digest 164 = .ok (.iload_n 1, 1) := by decide +kernel
theorem dX8_digest_165 : decode cX8_digest 165 = .ok (.iaload, 1) := by decide +kernel
theorem dX8_digest_166 : decode cX8_digest 166 = .ok (.i2l, 1) := by decide +kernel
theorem dX8_digest_167 : decode cX8_digest 167 = .ok (.invokevirtual 222, 3) := by decide +kernel
theorem dX8_digest_170 : decode cX8_digest 170 = .ok (.iinc 1 1, 3) := by decide +kernel
theorem dX8_digest_173 : decode cX8_digest 173 = .ok (.goto (-22), 3) := by decide +kernel
theorem dX8_digest_176 : decode cX8_digest 176 = .ok (.aload_n 0, 1) := by decide +kernel
theorem dX8_digest_177 : decode cX8_digest 177 = .ok (.getfield 218, 3) := by decide +kernel
theorem dX8_digest_180 : decode cX8_digest 180 = .ok (.lreturn, 1) := by decide +kernel
theorem dJxe99ae_isNaN_b9ae7_0 : decode cJxe99ae_isNaN_b9ae7 0 = .ok (.dload_n 0, 1) := by decide +kernel
theorem dJxe99ae_isNaN_b9ae7_1 : decode cJxe99ae_isNaN_b9ae7 1 = .ok (.dload_n 0, 1) := by decide +kernel
theorem dJxe99ae_isNaN_b9ae7_2 : decode cJxe99ae_isNaN_b9ae7 2 = .ok (.dcmp .l, 1) := by decide +kernel
theorem dJxe99ae_isNaN_b9ae7_3 : decode cJxe99ae_isNaN_b9ae7 3 = .ok (.ifCond .eq 7, 3) := by decide +kernel
theorem dJxe99ae_isNaN_b9ae7_6 : decode cJxe99ae_isNaN_b9ae7 6 = .ok (.iconst 1, 1) := by decide +kernel
theorem dJxe99ae_isNaN_b9ae7_7 : decode cJxe99ae_isNaN_b9ae7 7 = .ok (.goto 4, 3) := by decide +kernel
theorem dJxe99ae_isNaN_b9ae7_10 : decode cJxe99ae_isNaN_b9ae7 10 = .ok (.iconst 0, 1) := by decide +kernel
theorem dJxe99ae_isNaN_b9ae7_11 : decode cJxe99ae_isNaN_b9ae7 11 = .ok (.ireturn, 1) := by decide +kernel
theorem dJxe99ae_doubleToLongBits_ccdee_0 : decode cJxe99ae_doubleToLongBits_ccdee 0 = .ok (.dload_n 0, 1) := by decide +kernel
theorem dJxe99ae_doubleToLongBits_ccdee_1 : decode cJxe99ae_doubleToLongBits_ccdee 1 = .ok (.invokestatic 122, 3) := by decide +kernel
theorem dJxe99ae_doubleToLongBits_ccdee_4 : decode cJxe99ae_doubleToLongBits_ccdee 4 = .ok (.ifCond .ne 8, 3) := by decide +kernel
theorem dJxe99ae_doubleToLongBits_ccdee_7 : decode cJxe99ae_doubleToLongBits_ccdee 7 = .ok (.dload_n 0, 1) := by decide +kernel
theorem dJxe99ae_doubleToLongBits_ccdee_8 : decode cJxe99ae_doubleToLongBits_ccdee 8 = .ok (.invokestatic 134, 3) := by decide +kernel
theorem dJxe99ae_doubleToLongBits_ccdee_11 : decode cJxe99ae_doubleToLongBits_ccdee 11 = .ok (.lreturn, 1) := by decide +kernel
theorem dJxe99ae_doubleToLongBits_ccdee_12 : decode cJxe99ae_doubleToLongBits_ccdee 12 = .ok (.ldc2_w 137, 3) := by decide +kernel
theorem dJxe99ae_doubleToLongBits_ccdee_15 : decode cJxe99ae_doubleToLongBits_ccdee 15 = .ok (.lreturn, 1) := by decide +kernel
theorem dJ9_min_7cf53_0 : decode cJ9_min_7cf53 0 = .ok (.iload_n 0, 1) := by decide +kernel
theorem dJ9_min_7cf53_1 : decode cJ9_min_7cf53 1 = .ok (.iload_n 1, 1) := by decide +kernel
theorem dJ9_min_7cf53_2 : decode cJ9_min_7cf53 2 = .ok (.if_icmp .gt 7, 3) := by decide +kernel
theorem dJ9_min_7cf53_5 : decode cJ9_min_7cf53 5 = .ok (.iload_n 0, 1) := by decide +kernel
theorem dJ9_min_7cf53_6 : decode cJ9_min_7cf53 6 = .ok (.goto 4, 3) := by decide +kernel
theorem dJ9_min_7cf53_9 : decode cJ9_min_7cf53 9 = .ok (.iload_n 1, 1) := by decide +kernel
theorem dJ9_min_7cf53_10 : decode cJ9_min_7cf53 10 = .ok (.ireturn, 1) := by decide +kernel
theorem dL_size_0 : decode cL_size 0 = .ok (.aload_n 3, 1) := by decide +kernel
theorem dL_size_1 : decode cL_size 1 = .ok (.iconst 0, 1) := by decide +kernel
theorem dL_size_2 : decode cL_size 2 = .ok (.aload_n 0, 1) := by decide +kernel
theorem dL_size_3 : decode cL_size 3 = .ok (.iload_n 1, 1) := by decide +kernel
theorem dL_size_4 : decode cL_size 4 = .ok (.iload_n 2, 1) := by decide +kernel
theorem dL_size_5 : decode cL_size 5 = .ok (.invokevirtual 7, 3) := by decide +kernel
theorem dL_size_8 : decode cL_size 8 = .ok (.i2l, 1) := by decide +kernel
theorem dL_size_9 : decode cL_size 9 = .ok (.lastore, 1) := by decide +kernel
theorem dL_size_10 : decode cL_size 10 = .ok (.goto 7, 3) := by decide +kernel
theorem dL_size_13 : decode cL_size 13 = .ok (.astore 4, 2) := by decide +kernel
theorem dL_size_15 : decode cL_size 15 = .ok (.iconst 1, 1) := by decide +kernel
theorem dL_size_16 : decode cL_size 16 = .ok (.ireturn, 1) := by decide +kernel
theorem dL_size_17 : decode cL_size 17 = .ok (.iconst 0, 1) := by decide +kernel
theorem dL_size_18 : decode cL_size 18 = .ok (.ireturn, 1) := by decide +kernel
theorem dL_put_0 : decode cL_put 0 = .ok (.aload 4, 2) := by decide +kernel
theorem dL_put_2 : decode cL_put 2 = .ok (.iconst 0, 1) := by decide +kernel
theorem dL_put_3 : decode cL_put 3 = .ok (.aload_n 0, 1) := by decide +kernel
theorem dL_put_4 : decode cL_put 4 = .ok (.iload_n 1, 1) := by decide +kernel
theorem dL_put_5 : decode cL_put 5 = .ok (.iload_n 2, 1) := by decide +kernel
theorem dL_put_6 : decode cL_put 6 = .ok (.iload_n 3, 1) := by decide +kernel
theorem dL_put_7 : decode cL_put 7 = .ok (.invokevirtual 15, 3) := by decide +kernel
theorem dL_put_10 : decode cL_put 10 = .ok (.i2l, 1) := by decide +kernel
theorem dL_put_11 : decode cL_put 11 = .ok (.lastore, 1) := by decide +kernel
theorem dL_put_12 : decode cL_put 12 = .ok (.goto 11, 3) := by decide +kernel
theorem dL_put_15 : decode cL_put 15 = .ok (.astore 5, 2) := by decide +kernel
theorem dL_put_17 : decode cL_put 17 = .ok (.iconst 1, 1) := by decide +kernel
theorem dL_put_18 : decode cL_put 18 = .ok (.ireturn, 1) := by decide +kernel
theorem dL_put_19 : decode cL_put 19 = .ok (.astore 5, 2) := by decide +kernel
theorem dL_put_21 : decode cL_put 21 = .ok (.iconst 2, 1) := by decide +kernel
theorem dL_put_22 : decode cL_put 22 = .ok (.ireturn, 1) := by decide +kernel
theorem dL_put_23 : decode cL_put 23 = .ok (.iconst 0, 1) := by decide +kernel
theorem dL_put_24 : decode cL_put 24 = .ok (.ireturn, 1) := by decide +kernel
theorem dL_points_0 : decode cL_points 0 = .ok (.aload 5, 2) := by decide +kernel
theorem dL_points_2 : decode cL_points 2 = .ok (.iconst 0, 1) := by decide +kernel
theorem dL_points_3 : decode cL_points 3 = .ok (.aload_n 0, 1) := by decide +kernel
theorem dL_points_4 : decode cL_points 4 = .ok (.iload_n 1, 1) := by decide +kernel
theorem dL_points_5 : decode cL_points 5 = .ok (.iload_n 2, 1) := by decide +kernel
theorem dL_points_6 : decode cL_points 6 = .ok (.iload_n 3, 1) := by decide +kernel
theorem dL_points_7 : decode cL_points 7 = .ok (.iload 4, 2) := by decide +kernel
theorem dL_points_9 : decode cL_points 9 = .ok (.invokevirtual 21, 3) := by decide +kernel
theorem dL_points_12 : decode cL_points 12 = .ok (.i2l, 1) := by decide +kernel
theorem dL_points_13 : decode cL_points 13 = .ok (.lastore, 1) := by decide +kernel
theorem dL_points_14 : decode cL_points 14 = .ok (.goto 7, 3) := by decide +kernel
theorem dL_points_17 : decode cL_points 17 = .ok (.astore 6, 2) := by decide +kernel
theorem dL_points_19 : decode cL_points 19 = .ok (.iconst 1, 1) := by decide +kernel
theorem dL_points_20 : decode cL_points 20 = .ok (.ireturn, 1) := by decide +kernel
theorem dL_points_21 : decode cL_points 21 = .ok (.iconst 0, 1) := by decide +kernel
theorem dL_points_22 : decode cL_points 22 = .ok (.ireturn, 1) := by decide +kernel
theorem dL_find_0 : decode cL_find 0 = .ok (.aload_n 2, 1) := by decide +kernel
theorem dL_find_1 : decode cL_find 1 = .ok (.iconst 0, 1) := by decide +kernel
theorem dL_find_2 : decode cL_find 2 = .ok (.aload_n 0, 1) := by decide +kernel
theorem dL_find_3 : decode cL_find 3 = .ok (.iload_n 1, 1) := by decide +kernel
theorem dL_find_4 : decode cL_find 4 = .ok (.invokevirtual 25, 3) := by decide +kernel
theorem dL_find_7 : decode cL_find 7 = .ok (.i2l, 1) := by decide +kernel
theorem dL_find_8 : decode cL_find 8 = .ok (.lastore, 1) := by decide +kernel
theorem dL_find_9 : decode cL_find 9 = .ok (.goto 9, 3) := by decide +kernel
theorem dL_find_12 : decode cL_find 12 = .ok (.astore_n 3, 1) := by decide +kernel
theorem dL_find_13 : decode cL_find 13 = .ok (.iconst 1, 1) := by decide +kernel
theorem dL_find_14 : decode cL_find 14 = .ok (.ireturn, 1) := by decide +kernel
theorem dL_find_15 : decode cL_find 15 = .ok (.astore_n 3, 1) := by decide +kernel
theorem dL_find_16 : decode cL_find 16 = .ok (.iconst 2, 1) := by decide +kernel
theorem dL_find_17 : decode cL_find 17 = .ok (.ireturn, 1) := by decide +kernel
theorem dL_find_18 : decode cL_find 18 = .ok (.iconst 0, 1) := by decide +kernel
theorem dL_find_19 : decode cL_find 19 = .ok (.ireturn, 1) := by decide +kernel
theorem dL_weigh_0 : decode cL_weigh 0 = .ok (.aload_n 2, 1) := by decide +kernel
theorem dL_weigh_1 : decode cL_weigh 1 = .ok (.iconst 0, 1) := by decide +kernel
theorem dL_weigh_2 : decode cL_weigh 2 = .ok (.aload_n 0, 1) := by decide +kernel
theorem dL_weigh_3 : decode cL_weigh 3 = .ok (.iload_n 1, 1) := by decide +kernel
theorem dL_weigh_4 : decode cL_weigh 4 = .ok (.invokevirtual 31, 3) := by decide +kernel
theorem dL_weigh_7 : decode cL_weigh 7 = .ok (.i2l, 1) := by decide +kernel
theorem dL_weigh_8 : decode cL_weigh 8 = .ok (.lastore, 1) := by decide +kernel
theorem dL_weigh_9 : decode cL_weigh 9 = .ok (.goto 9, 3) := by decide +kernel
theorem dL_weigh_12 : decode cL_weigh 12 = .ok (.astore_n 3, 1) := by decide +kernel
theorem dL_weigh_13 : decode cL_weigh 13 = .ok (.iconst 1, 1) := by decide +kernel
theorem dL_weigh_14 : decode cL_weigh 14 = .ok (.ireturn, 1) := by decide +kernel
theorem dL_weigh_15 : decode cL_weigh 15 = .ok (.astore_n 3, 1) := by decide +kernel
theorem dL_weigh_16 : decode cL_weigh 16 = .ok (.iconst 2, 1) := by decide +kernel
theorem dL_weigh_17 : decode cL_weigh 17 = .ok (.ireturn, 1) := by decide +kernel
theorem dL_weigh_18 : decode cL_weigh 18 = .ok (.iconst 0, 1) := by decide +kernel
theorem dL_weigh_19 : decode cL_weigh 19 = .ok (.ireturn, 1) := by decide +kernel
theorem dL_unweigh_0 : decode cL_unweigh 0 = .ok (.aload_n 1, 1) := by decide +kernel
theorem dL_unweigh_1 : decode cL_unweigh 1 = .ok (.iconst 0, 1) := by decide +kernel
theorem dL_unweigh_2 : decode cL_unweigh 2 = .ok (.aload_n 0, 1) := by decide +kernel
theorem dL_unweigh_3 : decode cL_unweigh 3 = .ok (.invokevirtual 34, 3) := by decide +kernel
theorem dL_unweigh_6 : decode cL_unweigh 6 = .ok (.i2l, 1) := by decide +kernel
theorem dL_unweigh_7 : decode cL_unweigh 7 = .ok (.lastore, 1) := by decide +kernel
theorem dL_unweigh_8 : decode cL_unweigh 8 = .ok (.goto 6, 3) := by decide +kernel
theorem dL_unweigh_11 : decode cL_unweigh 11 = .ok (.astore_n 2, 1) := by decide +kernel
theorem dL_unweigh_12 : decode cL_unweigh 12 = .ok (.iconst 1, 1) := by decide +kernel
theorem dL_unweigh_13 : decode cL_unweigh 13 = .ok (.ireturn, 1) := by decide +kernel
theorem dL_unweigh_14 : decode cL_unweigh 14 = .ok (.iconst 0, 1) := by decide +kernel
theorem dL_unweigh_15 : decode cL_unweigh 15 = .ok (.ireturn, 1) := by decide +kernel
theorem dL_append_0 : decode cL_append 0 = .ok (.aload_n 2, 1) := by decide +kernel
theorem dL_append_1 : decode cL_append 1 = .ok (.iconst 0, 1) := by decide +kernel
theorem dL_append_2 : decode cL_append 2 = .ok (.aload_n 0, 1) := by decide +kernel
theorem dL_append_3 : decode cL_append 3 = .ok (.iload_n 1, 1) := by decide +kernel
theorem dL_append_4 : decode cL_append 4 = .ok (.invokevirtual 38, 3) := by decide +kernel
theorem dL_append_7 : decode cL_append 7 = .ok (.i2l, 1) := by decide +kernel
theorem dL_append_8 : decode cL_append 8 = .ok (.lastore, 1) := by decide +kernel
theorem dL_append_9 : decode cL_append 9 = .ok (.goto 9, 3) := by decide +kernel
theorem dL_append_12 : decode cL_append 12 = .ok (.astore_n 3, 1) := by decide +kernel
theorem dL_append_13 : decode cL_append 13 = .ok (.iconst 1, 1) := by decide +kernel
theorem dL_append_14 : decode cL_append 14 = .ok (.ireturn, 1) := by decide +kernel
theorem dL_append_15 : decode cL_append 15 = .ok (.astore_n 3, 1) := by decide +kernel
theorem dL_append_16 : decode cL_append 16 = .ok (.iconst 2, 1) := by decide +kernel
theorem dL_append_17 : decode cL_append 17 = .ok (.ireturn, 1) := by decide +kernel
theorem dL_append_18 : decode cL_append 18 = .ok (.iconst 0, 1) := by decide +kernel
theorem dL_append_19 : decode cL_append 19 = .ok (.ireturn, 1) := by decide +kernel
theorem dL_load_0 : decode cL_load 0 = .ok (.aload_n 1, 1) := by decide +kernel
theorem dL_load_1 : decode cL_load 1 = .ok (.iconst 0, 1) := by decide +kernel
theorem dL_load_2 : decode cL_load 2 = .ok (.aload_n 0, 1) := by decide +kernel
theorem dL_load_3 : decode cL_load 3 = .ok (.invokevirtual 41, 3) := by decide +kernel
theorem dL_load_6 : decode cL_load 6 = .ok (.i2l, 1) := by decide +kernel
theorem dL_load_7 : decode cL_load 7 = .ok (.lastore, 1) := by decide +kernel
theorem dL_load_8 : decode cL_load 8 = .ok (.goto 6, 3) := by decide +kernel
theorem dL_load_11 : decode cL_load 11 = .ok (.astore_n 2, 1) := by decide +kernel
theorem dL_load_12 : decode cL_load 12 = .ok (.iconst 1, 1) := by decide +kernel
theorem dL_load_13 : decode cL_load 13 = .ok (.ireturn, 1) := by decide +kernel
theorem dL_load_14 : decode cL_load 14 = .ok (.iconst 0, 1) := by decide +kernel
theorem dL_load_15 : decode cL_load 15 = .ok (.ireturn, 1) := by decide +kernel
theorem dL_keep_0 : decode cL_keep 0 = .ok (.aload_n 2, 1) := by decide +kernel
theorem dL_keep_1 : decode cL_keep 1 = .ok (.iconst 0, 1) := by decide +kernel
theorem dL_keep_2 : decode cL_keep 2 = .ok (.aload_n 0, 1) := by decide +kernel
theorem dL_keep_3 : decode cL_keep 3 = .ok (.iload_n 1, 1) := by decide +kernel
theorem dL_keep_4 : decode cL_keep 4 = .ok (.invokevirtual 44, 3) := by decide +kernel
theorem dL_keep_7 : decode cL_keep 7 = .ok (.i2l, 1) := by decide +kernel
theorem dL_keep_8 : decode cL_keep 8 = .ok (.lastore, 1) := by decide +kernel
theorem dL_keep_9 : decode cL_keep 9 = .ok (.goto 6, 3) := by decide +kernel
theorem dL_keep_12 : decode cL_keep 12 = .ok (.astore_n 3, 1) := by decide +kernel
theorem dL_keep_13 : decode cL_keep 13 = .ok (.iconst 1, 1) := by decide +kernel
theorem dL_keep_14 : decode cL_keep 14 = .ok (.ireturn, 1) := by decide +kernel
theorem dL_keep_15 : decode cL_keep 15 = .ok (.iconst 0, 1) := by decide +kernel
theorem dL_keep_16 : decode cL_keep 16 = .ok (.ireturn, 1) := by decide +kernel
theorem dL_goBack_0 : decode cL_goBack 0 = .ok (.aload_n 2, 1) := by decide +kernel
theorem dL_goBack_1 : decode cL_goBack 1 = .ok (.iconst 0, 1) := by decide +kernel
theorem dL_goBack_2 : decode cL_goBack 2 = .ok (.aload_n 0, 1) := by decide +kernel
theorem dL_goBack_3 : decode cL_goBack 3 = .ok (.iload_n 1, 1) := by decide +kernel
theorem dL_goBack_4 : decode cL_goBack 4 = .ok (.invokevirtual 47, 3) := by decide +kernel
theorem dL_goBack_7 : decode cL_goBack 7 = .ok (.i2l, 1) := by decide +kernel
theorem dL_goBack_8 : decode cL_goBack 8 = .ok (.lastore, 1) := by decide +kernel
theorem dL_goBack_9 : decode cL_goBack 9 = .ok (.goto 9, 3) := by decide +kernel
theorem dL_goBack_12 : decode cL_goBack 12 = .ok (.astore_n 3, 1) := by decide +kernel
theorem dL_goBack_13 : decode cL_goBack 13 = .ok (.iconst 1, 1) := by decide +kernel
theorem dL_goBack_14 : decode cL_goBack 14 = .ok (.ireturn, 1) := by decide +kernel
theorem dL_goBack_15 : decode cL_goBack 15 = .ok (.astore_n 3, 1) := by decide +kernel
theorem dL_goBack_16 : decode cL_goBack 16 = .ok (.iconst 2, 1) := by decide +kernel
theorem dL_goBack_17 : decode cL_goBack 17 = .ok (.ireturn, 1) := by decide +kernel
theorem dL_goBack_18 : decode cL_goBack 18 = .ok (.iconst 0, 1) := by decide +kernel
theorem dL_goBack_19 : decode cL_goBack 19 = .ok (.ireturn, 1) := by decide +kernel
theorem dL_undo_0 : decode cL_undo 0 = .ok (.aload_n 1, 1) := by decide +kernel
theorem dL_undo_1 : decode cL_undo 1 = .ok (.iconst 0, 1) := by decide +kernel
theorem dL_undo_2 : decode cL_undo 2 = .ok (.aload_n 0, 1) := by decide +kernel
theorem dL_undo_3 : decode cL_undo 3 = .ok (.invokevirtual 50, 3) := by decide +kernel
theorem dL_undo_6 : decode cL_undo 6 = .ok (.i2l, 1) := by decide +kernel
theorem dL_undo_7 : decode cL_undo 7 = .ok (.lastore, 1) := by decide +kernel
theorem dL_undo_8 : decode cL_undo 8 = .ok (.goto 6, 3) := by decide +kernel
theorem dL_undo_11 : decode cL_undo 11 = .ok (.astore_n 2, 1) := by decide +kernel
theorem dL_undo_12 : decode cL_undo 12 = .ok (.iconst 1, 1) := by decide +kernel
theorem dL_undo_13 : decode cL_undo 13 = .ok (.ireturn, 1) := by decide +kernel
theorem dL_undo_14 : decode cL_undo 14 = .ok (.iconst 0, 1) := by decide +kernel
theorem dL_undo_15 : decode cL_undo 15 = .ok (.ireturn, 1) := by decide +kernel
theorem dL_cell_0 : decode cL_cell 0 = .ok (.aload_n 3, 1) := by decide +kernel
theorem dL_cell_1 : decode cL_cell 1 = .ok (.iconst 0, 1) := by decide +kernel
theorem dL_cell_2 : decode cL_cell 2 = .ok (.aload_n 0, 1) := by decide +kernel
theorem dL_cell_3 : decode cL_cell 3 = .ok (.iload_n 1, 1) := by decide +kernel
theorem dL_cell_4 : decode cL_cell 4 = .ok (.iload_n 2, 1) := by decide +kernel
theorem dL_cell_5 : decode cL_cell 5 = .ok (.invokevirtual 53, 3) := by decide +kernel
theorem dL_cell_8 : decode cL_cell 8 = .ok (.i2l, 1) := by decide +kernel
theorem dL_cell_9 : decode cL_cell 9 = .ok (.lastore, 1) := by decide +kernel
theorem dL_cell_10 : decode cL_cell 10 = .ok (.goto 7, 3) := by decide +kernel
theorem dL_cell_13 : decode cL_cell 13 = .ok (.astore 4, 2) := by decide +kernel
theorem dL_cell_15 : decode cL_cell 15 = .ok (.iconst 1, 1) := by decide +kernel
theorem dL_cell_16 : decode cL_cell 16 = .ok (.ireturn, 1) := by decide +kernel
theorem dL_cell_17 : decode cL_cell 17 = .ok (.iconst 0, 1) := by decide +kernel
theorem dL_cell_18 : decode cL_cell 18 = .ok (.ireturn, 1) := by decide +kernel
theorem dL_place_0 : decode cL_place 0 = .ok (.aload_n 3, 1) := by decide +kernel
theorem dL_place_1 : decode cL_place 1 = .ok (.iconst 0, 1) := by decide +kernel
theorem dL_place_2 : decode cL_place 2 = .ok (.aload_n 0, 1) := by decide +kernel
theorem dL_place_3 : decode cL_place 3 = .ok (.iload_n 1, 1) := by decide +kernel
theorem dL_place_4 : decode cL_place 4 = .ok (.iload_n 2, 1) := by decide +kernel
theorem dL_place_5 : decode cL_place 5 = .ok (.invokevirtual 56, 3) := by decide +kernel
theorem dL_place_8 : decode cL_place 8 = .ok (.i2l, 1) := by decide +kernel
theorem dL_place_9 : decode cL_place 9 = .ok (.lastore, 1) := by decide +kernel
theorem dL_place_10 : decode cL_place 10 = .ok (.goto 11, 3) := by decide +kernel
theorem dL_place_13 : decode cL_place 13 = .ok (.astore 4, 2) := by decide +kernel
theorem dL_place_15 : decode cL_place 15 = .ok (.iconst 1, 1) := by decide +kernel
theorem dL_place_16 : decode cL_place 16 = .ok (.ireturn, 1) := by decide +kernel
theorem dL_place_17 : decode cL_place 17 = .ok (.astore 4, 2) := by decide +kernel
theorem dL_place_19 : decode cL_place 19 = .ok (.iconst 2, 1) := by decide +kernel
theorem dL_place_20 : decode cL_place 20 = .ok (.ireturn, 1) := by decide +kernel
theorem dL_place_21 : decode cL_place 21 = .ok (.iconst 0, 1) := by decide +kernel
theorem dL_place_22 : decode cL_place 22 = .ok (.ireturn, 1) := by decide +kernel
theorem dL_looks_0 : decode cL_looks 0 = .ok (.aload_n 2, 1) := by decide +kernel
theorem dL_looks_1 : decode cL_looks 1 = .ok (.iconst 0, 1) := by decide +kernel
theorem dL_looks_2 : decode cL_looks 2 = .ok (.aload_n 0, 1) := by decide +kernel
theorem dL_looks_3 : decode cL_looks 3 = .ok (.iload_n 1, 1) := by decide +kernel
theorem dL_looks_4 : decode cL_looks 4 = .ok (.invokevirtual 59, 3) := by decide +kernel
theorem dL_looks_7 : decode cL_looks 7 = .ok (.i2l, 1) := by decide +kernel
theorem dL_looks_8 : decode cL_looks 8 = .ok (.lastore, 1) := by decide +kernel
theorem dL_looks_9 : decode cL_looks 9 = .ok (.goto 6, 3) := by decide +kernel
theorem dL_looks_12 : decode cL_looks 12 = .ok (.astore_n 3, 1) := by decide +kernel
theorem dL_looks_13 : decode cL_looks 13 = .ok (.iconst 1, 1) := by decide +kernel
theorem dL_looks_14 : decode cL_looks 14 = .ok (.ireturn, 1) := by decide +kernel
theorem dL_looks_15 : decode cL_looks 15 = .ok (.iconst 0, 1) := by decide +kernel
theorem dL_looks_16 : decode cL_looks 16 = .ok (.ireturn, 1) := by decide +kernel
theorem dL_witness_0 : decode cL_witness 0 = .ok (.aload_n 2, 1) := by decide +kernel
theorem dL_witness_1 : decode cL_witness 1 = .ok (.iconst 0, 1) := by decide +kernel
theorem dL_witness_2 : decode cL_witness 2 = .ok (.aload_n 0, 1) := by decide +kernel
theorem dL_witness_3 : decode cL_witness 3 = .ok (.iload_n 1, 1) := by decide +kernel
theorem dL_witness_4 : decode cL_witness 4 = .ok (.invokevirtual 62, 3) := by decide +kernel
theorem dL_witness_7 : decode cL_witness 7 = .ok (.i2l, 1) := by decide +kernel
theorem dL_witness_8 : decode cL_witness 8 = .ok (.lastore, 1) := by decide +kernel
theorem dL_witness_9 : decode cL_witness 9 = .ok (.goto 6, 3) := by decide +kernel
theorem dL_witness_12 : decode cL_witness 12 = .ok (.astore_n 3, 1) := by decide +kernel
theorem dL_witness_13 : decode cL_witness 13 = .ok (.iconst 1, 1) := by decide +kernel
theorem dL_witness_14 : decode cL_witness 14 = .ok (.ireturn, 1) := by decide +kernel
theorem dL_witness_15 : decode cL_witness 15 = .ok (.iconst 0, 1) := by decide +kernel
theorem dL_witness_16 : decode cL_witness 16 = .ok (.ireturn, 1) := by decide +kernel
theorem dL_count_0 : decode cL_count 0 = .ok (.aload_n 2, 1) := by decide +kernel
theorem dL_count_1 : decode cL_count 1 = .ok (.iconst 0, 1) := by decide +kernel
theorem dL_count_2 : decode cL_count 2 = .ok (.aload_n 0, 1) := by decide +kernel
theorem dL_count_3 : decode cL_count 3 = .ok (.iload_n 1, 1) := by decide +kernel
theorem dL_count_4 : decode cL_count 4 = .ok (.invokevirtual 65, 3) := by decide +kernel
theorem dL_count_7 : decode cL_count 7 = .ok (.i2l, 1) := by decide +kernel
theorem dL_count_8 : decode cL_count 8 = .ok (.lastore, 1) := by decide +kernel
theorem dL_count_9 : decode cL_count 9 = .ok (.goto 6, 3) := by decide +kernel
theorem dL_count_12 : decode cL_count 12 = .ok (.astore_n 3, 1) := by decide +kernel
theorem dL_count_13 : decode cL_count 13 = .ok (.iconst 1, 1) := by decide +kernel
theorem dL_count_14 : decode cL_count 14 = .ok (.ireturn, 1) := by decide +kernel
theorem dL_count_15 : decode cL_count 15 = .ok (.iconst 0, 1) := by decide +kernel
theorem dL_count_16 : decode cL_count 16 = .ok (.ireturn, 1) := by decide +kernel
theorem dL_weight_0 : decode cL_weight 0 = .ok (.aload_n 2, 1) := by decide +kernel
theorem dL_weight_1 : decode cL_weight 1 = .ok (.iconst 0, 1) := by decide +kernel
theorem dL_weight_2 : decode cL_weight 2 = .ok (.aload_n 0, 1) := by decide +kernel
theorem dL_weight_3 : decode cL_weight 3 = .ok (.iload_n 1, 1) := by decide +kernel
theorem dL_weight_4 : decode cL_weight 4 = .ok (.invokevirtual 68, 3) := by decide +kernel
theorem dL_weight_7 : decode cL_weight 7 = .ok (.i2l, 1) := by decide +kernel
theorem dL_weight_8 : decode cL_weight 8 = .ok (.lastore, 1) := by decide +kernel
theorem dL_weight_9 : decode cL_weight 9 = .ok (.goto 6, 3) := by decide +kernel
theorem dL_weight_12 : decode cL_weight 12 = .ok (.astore_n 3, 1) := by decide +kernel
theorem dL_weight_13 : decode cL_weight 13 = .ok (.iconst 1, 1) := by decide +kernel
theorem dL_weight_14 : decode cL_weight 14 = .ok (.ireturn, 1) := by decide +kernel
theorem dL_weight_15 : decode cL_weight 15 = .ok (.iconst 0, 1) := by decide +kernel
theorem dL_weight_16 : decode cL_weight 16 = .ok (.ireturn, 1) := by decide +kernel
theorem dL_cost_0 : decode cL_cost 0 = .ok (.aload_n 3, 1) := by decide +kernel
theorem dL_cost_1 : decode cL_cost 1 = .ok (.iconst 0, 1) := by decide +kernel
theorem dL_cost_2 : decode cL_cost 2 = .ok (.aload_n 0, 1) := by decide +kernel
theorem dL_cost_3 : decode cL_cost 3 = .ok (.iload_n 1, 1) := by decide +kernel
theorem dL_cost_4 : decode cL_cost 4 = .ok (.iload_n 2, 1) := by decide +kernel
theorem dL_cost_5 : decode cL_cost 5 = .ok (.invokevirtual 71, 3) := by decide +kernel
theorem dL_cost_8 : decode cL_cost 8 = .ok (.i2l, 1) := by decide +kernel
theorem dL_cost_9 : decode cL_cost 9 = .ok (.lastore, 1) := by decide +kernel
theorem dL_cost_10 : decode cL_cost 10 = .ok (.goto 7, 3) := by decide +kernel
theorem dL_cost_13 : decode cL_cost 13 = .ok (.astore 4, 2) := by decide +kernel
theorem dL_cost_15 : decode cL_cost 15 = .ok (.iconst 1, 1) := by decide +kernel
theorem dL_cost_16 : decode cL_cost 16 = .ok (.ireturn, 1) := by decide +kernel
theorem dL_cost_17 : decode cL_cost 17 = .ok (.iconst 0, 1) := by decide +kernel
theorem dL_cost_18 : decode cL_cost 18 = .ok (.ireturn, 1) := by decide +kernel
theorem dL_cut_0 : decode cL_cut 0 = .ok (.aload_n 3, 1) := by decide +kernel
theorem dL_cut_1 : decode cL_cut 1 = .ok (.iconst 0, 1) := by decide +kernel
theorem dL_cut_2 : decode cL_cut 2 = .ok (.aload_n 0, 1) := by decide +kernel
theorem dL_cut_3 : decode cL_cut 3 = .ok (.iload_n 1, 1) := by decide +kernel
theorem dL_cut_4 : decode cL_cut 4 = .ok (.iload_n 2, 1) := by decide +kernel
theorem dL_cut_5 : decode cL_cut 5 = .ok (.invokevirtual 74, 3) := by decide +kernel
theorem dL_cut_8 : decode cL_cut 8 = .ok (.i2l, 1) := by decide +kernel
theorem dL_cut_9 : decode cL_cut 9 = .ok (.lastore, 1) := by decide +kernel
theorem dL_cut_10 : decode cL_cut 10 = .ok (.goto 7, 3) := by decide +kernel
theorem dL_cut_13 : decode cL_cut 13 = .ok (.astore 4, 2) := by decide +kernel
theorem dL_cut_15 : decode cL_cut 15 = .ok (.iconst 1, 1) := by decide +kernel
theorem dL_cut_16 : decode cL_cut 16 = .ok (.ireturn, 1) := by decide +kernel
theorem dL_cut_17 : decode cL_cut 17 = .ok (.iconst 0, 1) := by decide +kernel
theorem dL_cut_18 : decode cL_cut 18 = .ok (.ireturn, 1) := by decide +kernel
theorem dL_fewestParts_0 : decode cL_fewestParts 0 = .ok (.aload_n 2, 1) := by decide +kernel
theorem dL_fewestParts_1 : decode cL_fewestParts 1 = .ok (.iconst 0, 1) := by decide +kernel
theorem dL_fewestParts_2 : decode cL_fewestParts 2 = .ok (.aload_n 0, 1) := by decide +kernel
theorem dL_fewestParts_3 : decode cL_fewestParts 3 = .ok (.iload_n 1, 1) := by decide +kernel
theorem dL_fewestParts_4 : decode cL_fewestParts 4 = .ok (.invokevirtual 77, 3) := by decide +kernel
theorem dL_fewestParts_7 : decode cL_fewestParts 7 = .ok (.i2l, 1) := by decide +kernel
theorem dL_fewestParts_8 : decode cL_fewestParts 8 = .ok (.lastore, 1) := by decide +kernel
theorem dL_fewestParts_9 : decode cL_fewestParts 9 = .ok (.goto 6, 3) := by decide +kernel
theorem dL_fewestParts_12 : decode cL_fewestParts 12 = .ok (.astore_n 3, 1) := by decide +kernel
theorem dL_fewestParts_13 : decode cL_fewestParts 13 = .ok (.iconst 1, 1) := by decide +kernel
theorem dL_fewestParts_14 : decode cL_fewestParts 14 = .ok (.ireturn, 1) := by decide +kernel
theorem dL_fewestParts_15 : decode cL_fewestParts 15 = .ok (.iconst 0, 1) := by decide +kernel
theorem dL_fewestParts_16 : decode cL_fewestParts 16 = .ok (.ireturn, 1) := by decide +kernel
theorem dL_law_0 : decode cL_law 0 = .ok (.new 8, 3) := by decide +kernel
theorem dL_law_3 : decode cL_law 3 = .ok (.dup, 1) := by decide +kernel
theorem dL_law_4 : decode cL_law 4 = .ok (.invokespecial 80, 3) := by decide +kernel
theorem dL_law_7 : decode cL_law 7 = .ok (.astore_n 1, 1) := by decide +kernel
theorem dL_law_8 : decode cL_law 8 = .ok (.new 81, 3) := by decide +kernel
theorem dL_law_11 : decode cL_law 11 = .ok (.dup, 1) := by decide +kernel
theorem dL_law_12 : decode cL_law 12 = .ok (.invokespecial 83, 3) := by decide +kernel
theorem dL_law_15 : decode cL_law 15 = .ok (.astore_n 2, 1) := by decide +kernel
theorem dL_law_16 : decode cL_law 16 = .ok (.iconst 1, 1) := by decide +kernel
theorem dL_law_17 : decode cL_law 17 = .ok (.newarray .long, 2) := by decide +kernel
theorem dL_law_19 : decode cL_law 19 = .ok (.astore_n 3, 1) := by decide +kernel
theorem dL_law_20 : decode cL_law 20 = .ok (.iconst 0, 1) := by decide +kernel
theorem dL_law_21 : decode cL_law 21 = .ok (.istore 4, 2) := by decide +kernel
theorem dL_law_23 : decode cL_law 23 = .ok (.iload 4, 2) := by decide +kernel
theorem dL_law_25 : decode cL_law 25 = .ok (.aload_n 0, 1) := by decide +kernel
theorem dL_law_26 : decode cL_law 26 = .ok (.arraylength, 1) := by decide +kernel
theorem dL_law_27 : decode cL_law 27 = .ok (.iconst 5, 1) := by decide +kernel
theorem dL_law_28 : decode cL_law 28 = .ok (.isub, 1) := by decide +kernel
theorem dL_law_29 : decode cL_law 29 = .ok (.if_icmp .gt 1444, 3) := by decide +kernel
theorem dL_law_32 : decode cL_law 32 = .ok (.aload_n 0, 1) := by decide +kernel
theorem dL_law_33 : decode cL_law 33 = .ok (.iload 4, 2) := by decide +kernel
theorem dL_law_35 : decode cL_law 35 = .ok (.iaload, 1) := by decide +kernel
theorem dL_law_36 : decode cL_law 36 = .ok (.bipush 31, 2) := by decide +kernel
theorem dL_law_38 : decode cL_law 38 = .ok (.iand, 1) := by decide +kernel
theorem dL_law_39 : decode cL_law 39 = .ok (.tableswitch 1428 0 25 #[117, 185, 265, 357, 370, 426, 482, 526, 582, 595, 608, 652, 708, 764, 808, 876, 944, 1000, 1013, 1069, 1125, 1181, 1249, 1317, 1373, 1414], 117) := by decide +kernel
theorem dL_law_156 : decode cL_law 156 = .ok (.aload_n 1, 1) := by decide +kernel
theorem dL_law_157 : decode cL_law 157 = .ok (.aload_n 0, 1) := by decide +kernel
theorem dL_law_158 : decode cL_law 158 = .ok (.iload 4, 2) := by decide +kernel
theorem dL_law_160 : decode cL_law 160 = .ok (.iconst 1, 1) := by decide +kernel
theorem dL_law_161 : decode cL_law 161 = .ok (.iadd, 1) := by decide +kernel
theorem dL_law_162 : decode cL_law 162 = .ok (.iaload, 1) := by decide +kernel
theorem dL_law_163 : decode cL_law 163 = .ok (.aload_n 0, 1) := by decide +kernel
theorem dL_law_164 : decode cL_law 164 = .ok (.iload 4, 2) := by decide +kernel
theorem dL_law_166 : decode cL_law 166 = .ok (.iconst 2, 1) := by decide +kernel
theorem dL_law_167 : decode cL_law 167 = .ok (.iadd, 1) := by decide +kernel
theorem dL_law_168 : decode cL_law 168 = .ok (.iaload, 1) := by decide +kernel
theorem dL_law_169 : decode cL_law 169 = .ok (.aload_n 3, 1) := by decide +kernel
theorem dL_law_170 : decode cL_law 170 = .ok (.invokestatic 84, 3) := by decide +kernel
theorem dL_law_173 : decode cL_law 173 = .ok (.istore 5, 2) := by decide +kernel
theorem dL_law_175 : decode cL_law 175 = .ok (.aload_n 2, 1) := by decide +kernel
theorem dL_law_176 : decode cL_law 176 = .ok (.aload_n 0, 1) := by decide +kernel
theorem dL_law_177 : decode cL_law 177 = .ok (.iload 4, 2) := by decide +kernel
theorem dL_law_179 : decode cL_law 179 = .ok (.iconst 1, 1) := by decide +kernel
theorem dL_law_180 : decode cL_law 180 = .ok (.iadd, 1) := by decide +kernel
theorem dL_law_181 : decode cL_law 181 = .ok (.iaload, 1) := by decide +kernel
theorem dL_law_182 : decode cL_law 182 = .ok (.aload_n 0, 1) := by decide +kernel
theorem dL_law_183 : decode cL_law 183 = .ok (.iload 4, 2) := by decide +kernel
theorem dL_law_185 : decode cL_law 185 = .ok (.iconst 2, 1) := by decide +kernel
theorem dL_law_186 : decode cL_law 186 = .ok (.iadd, 1) := by decide +kernel
theorem dL_law_187 : decode cL_law 187 = .ok (.iaload, 1) := by decide +kernel
theorem dL_law_188 : decode cL_law 188 = .ok (.invokevirtual 89, 3) := by decide +kernel
theorem dL_law_191 : decode cL_law 191 = .ok (.istore 6, 2) := by decide +kernel
theorem dL_law_193 : decode cL_law 193 = .ok (.aload_n 2, 1) := by decide +kernel
theorem dL_law_194 : decode cL_law 194 = .ok (.invokevirtual 90, 3) := by decide +kernel
theorem dL_law_197 : decode cL_law 197 = .ok (.iload 5, 2) := by decide +kernel
theorem dL_law_199 : decode cL_law 199 = .ok (.if_icmp .eq 5, 3) := by decide +kernel
theorem dL_law_202 : decode cL_law 202 = .ok (.iconst 0, 1) := by decide +kernel
theorem dL_law_203 : decode cL_law 203 = .ok (.ireturn, 1) := by decide +kernel
theorem dL_law_204 : decode cL_law 204 = .ok (.iload 5, 2) := by decide +kernel
theorem dL_law_206 : decode cL_law 206 = .ok (.ifCond .ne 15, 3) := by decide +kernel
theorem dL_law_209 : decode cL_law 209 = .ok (.aload_n 3, 1) := by decide +kernel
theorem dL_law_210 : decode cL_law 210 = .ok (.iconst 0, 1) := by decide +kernel
theorem dL_law_211 : decode cL_law 211 = .ok (.laload, 1) := by decide +kernel
theorem dL_law_212 : decode cL_law 212 = .ok (.iload 6, 2) := by decide +kernel
theorem dL_law_214 : decode cL_law 214 = .ok (.i2l, 1) := by decide +kernel
theorem dL_law_215 : decode cL_law 215 = .ok (.lcmp, 1) := by decide +kernel
theorem dL_law_216 : decode cL_law 216 = .ok (.ifCond .eq 5, 3) := by decide +kernel
theorem dL_law_219 : decode cL_law 219 = .ok (.iconst 0, 1) := by decide +kernel
theorem dL_law_220 : decode cL_law 220 = .ok (.ireturn, 1) := by decide +kernel
theorem dL_law_221 : decode cL_law 221 = .ok (.goto 1246, 3) := by decide +kernel
theorem dL_law_224 : decode cL_law 224 = .ok (.aload_n 1, 1) := by decide +kernel
theorem dL_law_225 : decode cL_law 225 = .ok (.aload_n 0, 1) := by decide +kernel
theorem dL_law_226 : decode cL_law 226 = .ok (.iload 4, 2) := by decide +kernel
theorem dL_law_228 : decode cL_law 228 = .ok (.iconst 1, 1) := by decide +kernel
theorem dL_law_229 : decode cL_law 229 = .ok (.iadd, 1) := by decide +kernel
theorem dL_law_230 : decode cL_law 230 = .ok (.iaload, 1) := by decide +kernel
theorem dL_law_231 : decode cL_law 231 = .ok (.aload_n 0, 1) := by decide +kernel
theorem dL_law_232 : decode cL_law 232 = .ok (.iload 4, 2) := by decide +kernel
theorem dL_law_234 : decode cL_law 234 = .ok (.iconst 2, 1) := by decide +kernel
theorem dL_law_235 : decode cL_law 235 = .ok (.iadd, 1) := by decide +kernel
theorem dL_law_236 : decode cL_law 236 = .ok (.iaload, 1) := by decide +kernel
theorem dL_law_237 : decode cL_law 237 = .ok (.aload_n 0, 1) := by decide +kernel
theorem dL_law_238 : decode cL_law 238 = .ok (.iload 4, 2) := by decide +kernel
theorem dL_law_240 : decode cL_law 240 = .ok (.iconst 3, 1) := by decide +kernel
theorem dL_law_241 : decode cL_law 241 = .ok (.iadd, 1) := by decide +kernel
theorem dL_law_242 : decode cL_law 242 = .ok (.iaload, 1) := by decide +kernel
theorem dL_law_243 : decode cL_law 243 = .ok (.aload_n 3, 1) := by decide +kernel
theorem dL_law_244 : decode cL_law 244 = .ok (.invokestatic 93, 3) := by decide +kernel
theorem dL_law_247 : decode cL_law 247 = .ok (.istore 5, 2) := by decide +kernel
theorem dL_law_249 : decode cL_law 249 = .ok (.aload_n 2, 1) := by decide +kernel
theorem dL_law_250 : decode cL_law 250 = .ok (.aload_n 0, 1) := by decide +kernel
theorem dL_law_251 : decode cL_law 251 = .ok (.iload 4, 2) := by decide +kernel
theorem dL_law_253 : decode cL_law 253 = .ok (.iconst 1, 1) := by decide +kernel
theorem dL_law_254 : decode cL_law 254 = .ok (.iadd, 1) := by decide +kernel
theorem dL_law_255 : decode cL_law 255 = .ok (.iaload, 1) := by decide +kernel
theorem dL_law_256 : decode cL_law 256 = .ok (.aload_n 0, 1) := by decide +kernel
theorem dL_law_257 : decode cL_law 257 = .ok (.iload 4, 2) := by decide +kernel
theorem dL_law_259 : decode cL_law 259 = .ok (.iconst 2, 1) := by decide +kernel
theorem dL_law_260 : decode cL_law 260 = .ok (.iadd, 1) := by decide +kernel
theorem dL_law_261 : decode cL_law 261 = .ok (.iaload, 1) := by decide +kernel
theorem dL_law_262 : decode cL_law 262 = .ok (.aload_n 0, 1) := by decide +kernel
theorem dL_law_263 : decode cL_law 263 = .ok (.iload 4, 2) := by decide +kernel
theorem dL_law_265 : decode cL_law 265 = .ok (.iconst 3, 1) := by decide +kernel
theorem dL_law_266 : decode cL_law 266 = .ok (.iadd, 1) := by decide +kernel
theorem dL_law_267 : decode cL_law 267 = .ok (.iaload, 1) := by decide +kernel
theorem dL_law_268 : decode cL_law 268 = .ok (.invokevirtual 96, 3) := by decide +kernel
theorem dL_law_271 : decode cL_law 271 = .ok (.istore 6, 2) := by decide +kernel
theorem dL_law_273 : decode cL_law 273 = .ok (.aload_n 2, 1) := by decide +kernel
theorem dL_law_274 : decode cL_law 274 = .ok (.invokevirtual 90, 3) := by decide +kernel
theorem dL_law_277 : decode cL_law 277 = .ok (.iload 5, 2) := by decide +kernel
theorem dL_law_279 : decode cL_law 279 = .ok (.if_icmp .eq 5, 3) := by decide +kernel
theorem dL_law_282 : decode cL_law 282 = .ok (.iconst 0, 1) := by decide +kernel
theorem dL_law_283 : decode cL_law 283 = .ok (.ireturn, 1) := by decide +kernel
theorem dL_law_284 : decode cL_law 284 = .ok (.iload 5, 2) := by decide +kernel
theorem dL_law_286 : decode cL_law 286 = .ok (.ifCond .ne 15, 3) := by decide +kernel
theorem dL_law_289 : decode cL_law 289 = .ok (.aload_n 3, 1) := by decide +kernel
theorem dL_law_290 : decode cL_law 290 = .ok (.iconst 0, 1) := by decide +kernel
theorem dL_law_291 : decode cL_law 291 = .ok (.laload, 1) := by decide +kernel
theorem dL_law_292 : decode cL_law 292 = .ok (.iload 6, 2) := by decide +kernel
theorem dL_law_294 : decode cL_law 294 = .ok (.i2l, 1) := by decide +kernel
theorem dL_law_295 : decode cL_law 295 = .ok (.lcmp, 1) := by decide +kernel
theorem dL_law_296 : decode cL_law 296 = .ok (.ifCond .eq 5, 3) := by decide +kernel
theorem dL_law_299 : decode cL_law 299 = .ok (.iconst 0, 1) := by decide +kernel
theorem dL_law_300 : decode cL_law 300 = .ok (.ireturn, 1) := by decide +kernel
theorem dL_law_301 : decode cL_law 301 = .ok (.goto 1166, 3) := by decide +kernel
theorem dL_law_304 : decode cL_law 304 = .ok (.aload_n 1, 1) := by decide +kernel
theorem dL_law_305 : decode cL_law 305 = .ok (.aload_n 0, 1) := by decide +kernel
theorem dL_law_306 : decode cL_law 306 = .ok (.iload 4, 2) := by decide +kernel
theorem dL_law_308 : decode cL_law 308 = .ok (.iconst 1, 1) := by decide +kernel
theorem dL_law_309 : decode cL_law 309 = .ok (.iadd, 1) := by decide +kernel
theorem dL_law_310 : decode cL_law 310 = .ok (.iaload, 1) := by decide +kernel
theorem dL_law_311 : decode cL_law 311 = .ok (.aload_n 0, 1) := by decide +kernel
theorem dL_law_312 : decode cL_law 312 = .ok (.iload 4, 2) := by decide +kernel
theorem dL_law_314 : decode cL_law 314 = .ok (.iconst 2, 1) := by decide +kernel
theorem dL_law_315 : decode cL_law 315 = .ok (.iadd, 1) := by decide +kernel
theorem dL_law_316 : decode cL_law 316 = .ok (.iaload, 1) := by decide +kernel
theorem dL_law_317 : decode cL_law 317 = .ok (.aload_n 0, 1) := by decide +kernel
theorem dL_law_318 : decode cL_law 318 = .ok (.iload 4, 2) := by decide +kernel
theorem dL_law_320 : decode cL_law 320 = .ok (.iconst 3, 1) := by decide +kernel
theorem dL_law_321 : decode cL_law 321 = .ok (.iadd, 1) := by decide +kernel
theorem dL_law_322 : decode cL_law 322 = .ok (.iaload, 1) := by decide +kernel
theorem dL_law_323 : decode cL_law 323 = .ok (.aload_n 0, 1) := by decide +kernel
theorem dL_law_324 : decode cL_law 324 = .ok (.iload 4, 2) := by decide +kernel
theorem dL_law_326 : decode cL_law 326 = .ok (.iconst 4, 1) := by decide +kernel
theorem dL_law_327 : decode cL_law 327 = .ok (.iadd, 1) := by decide +kernel
theorem dL_law_328 : decode cL_law 328 = .ok (.iaload, 1) := by decide +kernel
theorem dL_law_329 : decode cL_law 329 = .ok (.aload_n 3, 1) := by decide +kernel
theorem dL_law_330 : decode cL_law 330 = .ok (.invokestatic 97, 3) := by decide +kernel
theorem dL_law_333 : decode cL_law 333 = .ok (.istore 5, 2) := by decide +kernel
theorem dL_law_335 : decode cL_law 335 = .ok (.aload_n 2, 1) := by decide +kernel
theorem dL_law_336 : decode cL_law 336 = .ok (.aload_n 0, 1) := by decide +kernel
theorem dL_law_337 : decode cL_law 337 = .ok (.iload 4, 2) := by decide +kernel
theorem dL_law_339 : decode cL_law 339 = .ok (.iconst 1, 1) := by decide +kernel
theorem dL_law_340 : decode cL_law 340 = .ok (.iadd, 1) := by decide +kernel
theorem dL_law_341 : decode cL_law 341 = .ok (.iaload, 1) := by decide +kernel
theorem dL_law_342 : decode cL_law 342 = .ok (.aload_n 0, 1) := by decide +kernel
theorem dL_law_343 : decode cL_law 343 = .ok (.iload 4, 2) := by decide +kernel
theorem dL_law_345 : decode cL_law 345 = .ok (.iconst 2, 1) := by decide +kernel
theorem dL_law_346 : decode cL_law 346 = .ok (.iadd, 1) := by decide +kernel
theorem dL_law_347 : decode cL_law 347 = .ok (.iaload, 1) := by decide +kernel
theorem dL_law_348 : decode cL_law 348 = .ok (.aload_n 0, 1) := by decide +kernel
theorem dL_law_349 : decode cL_law 349 = .ok (.iload 4, 2) := by decide +kernel
theorem dL_law_351 : decode cL_law 351 = .ok (.iconst 3, 1) := by decide +kernel
theorem dL_law_352 : decode cL_law 352 = .ok (.iadd, 1) := by decide +kernel
theorem dL_law_353 : decode cL_law 353 = .ok (.iaload, 1) := by decide +kernel
theorem dL_law_354 : decode cL_law 354 = .ok (.aload_n 0, 1) := by decide +kernel
theorem dL_law_355 : decode cL_law 355 = .ok (.iload 4, 2) := by decide +kernel
theorem dL_law_357 : decode cL_law 357 = .ok (.iconst 4, 1) := by decide +kernel
theorem dL_law_358 : decode cL_law 358 = .ok (.iadd, 1) := by decide +kernel
theorem dL_law_359 : decode cL_law 359 = .ok (.iaload, 1) := by decide +kernel
theorem dL_law_360 : decode cL_law 360 = .ok (.invokevirtual 100, 3) := by decide +kernel
theorem dL_law_363 : decode cL_law 363 = .ok (.istore 6, 2) := by decide +kernel
theorem dL_law_365 : decode cL_law 365 = .ok (.aload_n 2, 1) := by decide +kernel
theorem dL_law_366 : decode cL_law 366 = .ok (.invokevirtual 90, 3) := by decide +kernel
theorem dL_law_369 : decode cL_law 369 = .ok (.iload 5, 2) := by decide +kernel
theorem dL_law_371 : decode cL_law 371 = .ok (.if_icmp .eq 5, 3) := by decide +kernel
theorem dL_law_374 : decode cL_law 374 = .ok (.iconst 0, 1) := by decide +kernel
theorem dL_law_375 : decode cL_law 375 = .ok (.ireturn, 1) := by decide +kernel
theorem dL_law_376 : decode cL_law 376 = .ok (.iload 5, 2) := by decide +kernel
theorem dL_law_378 : decode cL_law 378 = .ok (.ifCond .ne 15, 3) := by decide +kernel
theorem dL_law_381 : decode cL_law 381 = .ok (.aload_n 3, 1) := by decide +kernel
theorem dL_law_382 : decode cL_law 382 = .ok (.iconst 0, 1) := by decide +kernel
theorem dL_law_383 : decode cL_law 383 = .ok (.laload, 1) := by decide +kernel
theorem dL_law_384 : decode cL_law 384 = .ok (.iload 6, 2) := by decide +kernel
theorem dL_law_386 : decode cL_law 386 = .ok (.i2l, 1) := by decide +kernel
theorem dL_law_387 : decode cL_law 387 = .ok (.lcmp, 1) := by decide +kernel
theorem dL_law_388 : decode cL_law 388 = .ok (.ifCond .eq 5, 3) := by decide +kernel
theorem dL_law_391 : decode cL_law 391 = .ok (.iconst 0, 1) := by decide +kernel
theorem dL_law_392 : decode cL_law 392 = .ok (.ireturn, 1) := by decide +kernel
theorem dL_law_393 : decode cL_law 393 = .ok (.goto 1074, 3) := by decide +kernel
theorem dL_law_396 : decode cL_law 396 = .ok (.aload_n 1, 1) := by decide +kernel
theorem dL_law_397 : decode cL_law 397 = .ok (.invokevirtual 101, 3) := by decide +kernel
theorem dL_law_400 : decode cL_law 400 = .ok (.aload_n 2, 1) := by decide +kernel
theorem dL_law_401 : decode cL_law 401 = .ok (.invokevirtual 104, 3) := by decide +kernel
theorem dL_law_404 : decode cL_law 404 = .ok (.if_icmp .eq 1063, 3) := by decide +kernel
theorem dL_law_407 : decode cL_law 407 = .ok (.iconst 0, 1) := by decide +kernel
theorem dL_law_408 : decode cL_law 408 = .ok (.ireturn, 1) := by decide +kernel
theorem dL_law_409 : decode cL_law 409 = .ok (.aload_n 1, 1) := by decide +kernel
theorem dL_law_410 : decode cL_law 410 = .ok (.aload_n 0, 1) := by decide +kernel
theorem dL_law_411 : decode cL_law 411 = .ok (.iload 4, 2) := by decide +kernel
theorem dL_law_413 : decode cL_law 413 = .ok (.iconst 1, 1) := by decide +kernel
theorem dL_law_414 : decode cL_law 414 = .ok (.iadd, 1) := by decide +kernel
theorem dL_law_415 : decode cL_law 415 = .ok (.iaload, 1) := by decide +kernel
theorem dL_law_416 : decode cL_law 416 = .ok (.aload_n 3, 1) := by decide +kernel
theorem dL_law_417 : decode cL_law 417 = .ok (.invokestatic 105, 3) := by decide +kernel
theorem dL_law_420 : decode cL_law 420 = .ok (.istore 5, 2) := by decide +kernel
theorem dL_law_422 : decode cL_law 422 = .ok (.aload_n 2, 1) := by decide +kernel
theorem dL_law_423 : decode cL_law 423 = .ok (.aload_n 0, 1) := by decide +kernel
theorem dL_law_424 : decode cL_law 424 = .ok (.iload 4, 2) := by decide +kernel
theorem dL_law_426 : decode cL_law 426 = .ok (.iconst 1, 1) := by decide +kernel
theorem dL_law_427 : decode cL_law 427 = .ok (.iadd, 1) := by decide +kernel
theorem dL_law_428 : decode cL_law 428 = .ok (.iaload, 1) := by decide +kernel
theorem dL_law_429 : decode cL_law 429 = .ok (.invokevirtual 108, 3) := by decide +kernel
theorem dL_law_432 : decode cL_law 432 = .ok (.istore 6, 2) := by decide +kernel
theorem dL_law_434 : decode cL_law 434 = .ok (.aload_n 2, 1) := by decide +kernel
theorem dL_law_435 : decode cL_law 435 = .ok (.invokevirtual 90, 3) := by decide +kernel
theorem dL_law_438 : decode cL_law 438 = .ok (.iload 5, 2) := by decide +kernel
theorem dL_law_440 : decode cL_law 440 = .ok (.if_icmp .eq 5, 3) := by decide +kernel
theorem dL_law_443 : decode cL_law 443 = .ok (.iconst 0, 1) := by decide +kernel
theorem dL_law_444 : decode cL_law 444 = .ok (.ireturn, 1) := by decide +kernel
theorem dL_law_445 : decode cL_law 445 = .ok (.iload 5, 2) := by decide +kernel
theorem dL_law_447 : decode cL_law 447 = .ok (.ifCond .ne 15, 3) := by decide +kernel
theorem dL_law_450 : decode cL_law 450 = .ok (.aload_n 3, 1) := by decide +kernel
theorem dL_law_451 : decode cL_law 451 = .ok (.iconst 0, 1) := by decide +kernel
theorem dL_law_452 : decode cL_law 452 = .ok (.laload, 1) := by decide +kernel
theorem dL_law_453 : decode cL_law 453 = .ok (.iload 6, 2) := by decide +kernel
theorem dL_law_455 : decode cL_law 455 = .ok (.i2l, 1) := by decide +kernel
theorem dL_law_456 : decode cL_law 456 = .ok (.lcmp, 1) := by decide +kernel
theorem dL_law_457 : decode cL_law 457 = .ok (.ifCond .eq 5, 3) := by decide +kernel
theorem dL_law_460 : decode cL_law 460 = .ok (.iconst 0, 1) := by decide +kernel
theorem dL_law_461 : decode cL_law 461 = .ok (.ireturn, 1) := by decide +kernel
theorem dL_law_462 : decode cL_law 462 = .ok (.goto 1005, 3) := by decide +kernel
theorem dL_law_465 : decode cL_law 465 = .ok (.aload_n 1, 1) := by decide +kernel
theorem dL_law_466 : decode cL_law 466 = .ok (.aload_n 0, 1) := by decide +kernel
theorem dL_law_467 : decode cL_law 467 = .ok (.iload 4, 2) := by decide +kernel
theorem dL_law_469 : decode cL_law 469 = .ok (.iconst 1, 1) := by decide +kernel
theorem dL_law_470 : decode cL_law 470 = .ok (.iadd, 1) := by decide +kernel
theorem dL_law_471 : decode cL_law 471 = .ok (.iaload, 1) := by decide +kernel
theorem dL_law_472 : decode cL_law 472 = .ok (.aload_n 3, 1) := by decide +kernel
theorem dL_law_473 : decode cL_law 473 = .ok (.invokestatic 109, 3) := by decide +kernel
theorem dL_law_476 : decode cL_law 476 = .ok (.istore 5, 2) := by decide +kernel
theorem dL_law_478 : decode cL_law 478 = .ok (.aload_n 2, 1) := by decide +kernel
theorem dL_law_479 : decode cL_law 479 = .ok (.aload_n 0, 1) := by decide +kernel
theorem dL_law_480 : decode cL_law 480 = .ok (.iload 4, 2) := by decide +kernel
theorem dL_law_482 : decode cL_law 482 = .ok (.iconst 1, 1) := by decide +kernel
theorem dL_law_483 : decode cL_law 483 = .ok (.iadd, 1) := by decide +kernel
theorem dL_law_484 : decode cL_law 484 = .ok (.iaload, 1) := by decide +kernel
theorem dL_law_485 : decode cL_law 485 = .ok (.invokevirtual 111, 3) := by decide +kernel
theorem dL_law_488 : decode cL_law 488 = .ok (.istore 6, 2) := by decide +kernel
theorem dL_law_490 : decode cL_law 490 = .ok (.aload_n 2, 1) := by decide +kernel
theorem dL_law_491 : decode cL_law 491 = .ok (.invokevirtual 90, 3) := by decide +kernel
theorem dL_law_494 : decode cL_law 494 = .ok (.iload 5, 2) := by decide +kernel
theorem dL_law_496 : decode cL_law 496 = .ok (.if_icmp .eq 5, 3) := by decide +kernel
theorem dL_law_499 : decode cL_law 499 = .ok (.iconst 0, 1) := by decide +kernel
theorem dL_law_500 : decode cL_law 500 = .ok (.ireturn, 1) := by decide +kernel
theorem dL_law_501 : decode cL_law 501 = .ok (.iload 5, 2) := by decide +kernel
theorem dL_law_503 : decode cL_law 503 = .ok (.ifCond .ne 15, 3) := by decide +kernel
theorem dL_law_506 : decode cL_law 506 = .ok (.aload_n 3, 1) := by decide +kernel
theorem dL_law_507 : decode cL_law 507 = .ok (.iconst 0, 1) := by decide +kernel
theorem dL_law_508 : decode cL_law 508 = .ok (.laload, 1) := by decide +kernel
theorem dL_law_509 : decode cL_law 509 = .ok (.iload 6, 2) := by decide +kernel
theorem dL_law_511 : decode cL_law 511 = .ok (.i2l, 1) := by decide +kernel
theorem dL_law_512 : decode cL_law 512 = .ok (.lcmp, 1) := by decide +kernel
theorem dL_law_513 : decode cL_law 513 = .ok (.ifCond .eq 5, 3) := by decide +kernel
theorem dL_law_516 : decode cL_law 516 = .ok (.iconst 0, 1) := by decide +kernel
theorem dL_law_517 : decode cL_law 517 = .ok (.ireturn, 1) := by decide +kernel
theorem dL_law_518 : decode cL_law 518 = .ok (.goto 949, 3) := by decide +kernel
theorem dL_law_521 : decode cL_law 521 = .ok (.aload_n 1, 1) := by decide +kernel
theorem dL_law_522 : decode cL_law 522 = .ok (.aload_n 3, 1) := by decide +kernel
theorem dL_law_523 : decode cL_law 523 = .ok (.invokestatic 112, 3) := by decide +kernel
theorem dL_law_526 : decode cL_law 526 = .ok (.istore 5, 2) := by decide +kernel
theorem dL_law_528 : decode cL_law 528 = .ok (.aload_n 2, 1) := by decide +kernel
theorem dL_law_529 : decode cL_law 529 = .ok (.invokevirtual 115, 3) := by decide +kernel
theorem dL_law_532 : decode cL_law 532 = .ok (.istore 6, 2) := by decide +kernel
theorem dL_law_534 : decode cL_law 534 = .ok (.aload_n 2, 1) := by decide +kernel
theorem dL_law_535 : decode cL_law 535 = .ok (.invokevirtual 90, 3) := by decide +kernel
theorem dL_law_538 : decode cL_law 538 = .ok (.iload 5, 2) := by decide +kernel
theorem dL_law_540 : decode cL_law 540 = .ok (.if_icmp .eq 5, 3) := by decide +kernel
theorem dL_law_543 : decode cL_law 543 = .ok (.iconst 0, 1) := by decide +kernel
theorem dL_law_544 : decode cL_law 544 = .ok (.ireturn, 1) := by decide +kernel
theorem dL_law_545 : decode cL_law 545 = .ok (.iload 5, 2) := by decide +kernel
theorem dL_law_547 : decode cL_law 547 = .ok (.ifCond .ne 15, 3) := by decide +kernel
theorem dL_law_550 : decode cL_law 550 = .ok (.aload_n 3, 1) := by decide +kernel
theorem dL_law_551 : decode cL_law 551 = .ok (.iconst 0, 1) := by decide +kernel
theorem dL_law_552 : decode cL_law 552 = .ok (.laload, 1) := by decide +kernel
theorem dL_law_553 : decode cL_law 553 = .ok (.iload 6, 2) := by decide +kernel
theorem dL_law_555 : decode cL_law 555 = .ok (.i2l, 1) := by decide +kernel
theorem dL_law_556 : decode cL_law 556 = .ok (.lcmp, 1) := by decide +kernel
theorem dL_law_557 : decode cL_law 557 = .ok (.ifCond .eq 5, 3) := by decide +kernel
theorem dL_law_560 : decode cL_law 560 = .ok (.iconst 0, 1) := by decide +kernel
theorem dL_law_561 : decode cL_law 561 = .ok (.ireturn, 1) := by decide +kernel
theorem dL_law_562 : decode cL_law 562 = .ok (.goto 905, 3) := by decide +kernel
theorem dL_law_565 : decode cL_law 565 = .ok (.aload_n 1, 1) := by decide +kernel
theorem dL_law_566 : decode cL_law 566 = .ok (.aload_n 0, 1) := by decide +kernel
theorem dL_law_567 : decode cL_law 567 = .ok (.iload 4, 2) := by decide +kernel
theorem dL_law_569 : decode cL_law 569 = .ok (.iconst 1, 1) := by decide +kernel
theorem dL_law_570 : decode cL_law 570 = .ok (.iadd, 1) := by decide +kernel
theorem dL_law_571 : decode cL_law 571 = .ok (.iaload, 1) := by decide +kernel
theorem dL_law_572 : decode cL_law 572 = .ok (.aload_n 3, 1) := by decide +kernel
theorem dL_law_573 : decode cL_law 573 = .ok (.invokestatic 116, 3) := by decide +kernel
theorem dL_law_576 : decode cL_law 576 = .ok (.istore 5, 2) := by decide +kernel
theorem dL_law_578 : decode cL_law 578 = .ok (.aload_n 2, 1) := by decide +kernel
theorem dL_law_579 : decode cL_law 579 = .ok (.aload_n 0, 1) := by decide +kernel
theorem dL_law_580 : decode cL_law 580 = .ok (.iload 4, 2) := by decide +kernel
theorem dL_law_582 : decode cL_law 582 = .ok (.iconst 1, 1) := by decide +kernel
theorem dL_law_583 : decode cL_law 583 = .ok (.iadd, 1) := by decide +kernel
theorem dL_law_584 : decode cL_law 584 = .ok (.iaload, 1) := by decide +kernel
theorem dL_law_585 : decode cL_law 585 = .ok (.invokevirtual 118, 3) := by decide +kernel
theorem dL_law_588 : decode cL_law 588 = .ok (.istore 6, 2) := by decide +kernel
theorem dL_law_590 : decode cL_law 590 = .ok (.aload_n 2, 1) := by decide +kernel
theorem dL_law_591 : decode cL_law 591 = .ok (.invokevirtual 90, 3) := by decide +kernel
theorem dL_law_594 : decode cL_law 594 = .ok (.iload 5, 2) := by decide +kernel
theorem dL_law_596 : decode cL_law 596 = .ok (.if_icmp .eq 5, 3) := by decide +kernel
theorem dL_law_599 : decode cL_law 599 = .ok (.iconst 0, 1) := by decide +kernel
theorem dL_law_600 : decode cL_law 600 = .ok (.ireturn, 1) := by decide +kernel
theorem dL_law_601 : decode cL_law 601 = .ok (.iload 5, 2) := by decide +kernel
theorem dL_law_603 : decode cL_law 603 = .ok (.ifCond .ne 15, 3) := by decide +kernel
theorem dL_law_606 : decode cL_law 606 = .ok (.aload_n 3, 1) := by decide +kernel
theorem dL_law_607 : decode cL_law 607 = .ok (.iconst 0, 1) := by decide +kernel
theorem dL_law_608 : decode cL_law 608 = .ok (.laload, 1) := by decide +kernel
theorem dL_law_609 : decode cL_law 609 = .ok (.iload 6, 2) := by decide +kernel
theorem dL_law_611 : decode cL_law 611 = .ok (.i2l, 1) := by decide +kernel
theorem dL_law_612 : decode cL_law 612 = .ok (.lcmp, 1) := by decide +kernel
theorem dL_law_613 : decode cL_law 613 = .ok (.ifCond .eq 5, 3) := by decide +kernel
theorem dL_law_616 : decode cL_law 616 = .ok (.iconst 0, 1) := by decide +kernel
theorem dL_law_617 : decode cL_law 617 = .ok (.ireturn, 1) := by decide +kernel
theorem dL_law_618 : decode cL_law 618 = .ok (.goto 849, 3) := by decide +kernel
theorem dL_law_621 : decode cL_law 621 = .ok (.aload_n 1, 1) := by decide +kernel
theorem dL_law_622 : decode cL_law 622 = .ok (.invokevirtual 119, 3) := by decide +kernel
theorem dL_law_625 : decode cL_law 625 = .ok (.aload_n 2, 1) := by decide +kernel
theorem dL_law_626 : decode cL_law 626 = .ok (.invokevirtual 122, 3) := by decide +kernel
theorem dL_law_629 : decode cL_law 629 = .ok (.if_icmp .eq 838, 3) := by decide +kernel
theorem dL_law_632 : decode cL_law 632 = .ok (.iconst 0, 1) := by decide +kernel
theorem dL_law_633 : decode cL_law 633 = .ok (.ireturn, 1) := by decide +kernel
theorem dL_law_634 : decode cL_law 634 = .ok (.aload_n 1, 1) := by decide +kernel
theorem dL_law_635 : decode cL_law 635 = .ok (.invokevirtual 123, 3) := by decide +kernel
theorem dL_law_638 : decode cL_law 638 = .ok (.aload_n 2, 1) := by decide +kernel
theorem dL_law_639 : decode cL_law 639 = .ok (.invokevirtual 126, 3) := by decide +kernel
theorem dL_law_642 : decode cL_law 642 = .ok (.if_icmp .eq 825, 3) := by decide +kernel
theorem dL_law_645 : decode cL_law 645 = .ok (.iconst 0, 1) := by decide +kernel
theorem dL_law_646 : decode cL_law 646 = .ok (.ireturn, 1) := by decide +kernel
theorem dL_law_647 : decode cL_law 647 = .ok (.aload_n 1, 1) := by decide +kernel
theorem dL_law_648 : decode cL_law 648 = .ok (.aload_n 3, 1) := by decide +kernel
theorem dL_law_649 : decode cL_law 649 = .ok (.invokestatic 127, 3) := by decide +kernel
theorem dL_law_652 : decode cL_law 652 = .ok (.istore 5, 2) := by decide +kernel
theorem dL_law_654 : decode cL_law 654 = .ok (.aload_n 2, 1) := by decide +kernel
theorem dL_law_655 : decode cL_law 655 = .ok (.invokevirtual 129, 3) := by decide +kernel
theorem dL_law_658 : decode cL_law 658 = .ok (.istore 6, 2) := by decide +kernel
theorem dL_law_660 : decode cL_law 660 = .ok (.aload_n 2, 1) := by decide +kernel
theorem dL_law_661 : decode cL_law 661 = .ok (.invokevirtual 90, 3) := by decide +kernel
theorem dL_law_664 : decode cL_law 664 = .ok (.iload 5, 2) := by decide +kernel
theorem dL_law_666 : decode cL_law 666 = .ok (.if_icmp .eq 5, 3) := by decide +kernel
theorem dL_law_669 : decode cL_law 669 = .ok (.iconst 0, 1) := by decide +kernel
theorem dL_law_670 : decode cL_law 670 = .ok (.ireturn, 1) := by decide +kernel
theorem dL_law_671 : decode cL_law 671 = .ok (.iload 5, 2) := by decide +kernel
theorem dL_law_673 : decode cL_law 673 = .ok (.ifCond .ne 15, 3) := by decide +kernel
theorem dL_law_676 : decode cL_law 676 = .ok (.aload_n 3, 1) := by decide +kernel
theorem dL_law_677 : decode cL_law 677 = .ok (.iconst 0, 1) := by decide +kernel
theorem dL_law_678 : decode cL_law 678 = .ok (.laload, 1) := by decide +kernel
theorem dL_law_679 : decode cL_law 679 = .ok (.iload 6, 2) := by decide +kernel
theorem dL_law_681 : decode cL_law 681 = .ok (.i2l, 1) := by decide +kernel
theorem dL_law_682 : decode cL_law 682 = .ok (.lcmp, 1) := by decide +kernel
theorem dL_law_683 : decode cL_law 683 = .ok (.ifCond .eq 5, 3) := by decide +kernel
theorem dL_law_686 : decode cL_law 686 = .ok (.iconst 0, 1) := by decide +kernel
theorem dL_law_687 : decode cL_law 687 = .ok (.ireturn, 1) := by decide +kernel
theorem dL_law_688 : decode cL_law 688 = .ok (.goto 779, 3) := by decide +kernel
theorem dL_law_691 : decode cL_law 691 = .ok (.aload_n 1, 1) := by decide +kernel
theorem dL_law_692 : decode cL_law 692 = .ok (.aload_n 0, 1) := by decide +kernel
theorem dL_law_693 : decode cL_law 693 = .ok (.iload 4, 2) := by decide +kernel
theorem dL_law_695 : decode cL_law 695 = .ok (.iconst 1, 1) := by decide +kernel
theorem dL_law_696 : decode cL_law 696 = .ok (.iadd, 1) := by decide +kernel
theorem dL_law_697 : decode cL_law 697 = .ok (.iaload, 1) := by decide +kernel
theorem dL_law_698 : decode cL_law 698 = .ok (.aload_n 3, 1) := by decide +kernel
theorem dL_law_699 : decode cL_law 699 = .ok (.invokestatic 130, 3) := by decide +kernel
theorem dL_law_702 : decode cL_law 702 = .ok (.istore 5, 2) := by decide +kernel
theorem dL_law_704 : decode cL_law 704 = .ok (.aload_n 2, 1) := by decide +kernel
theorem dL_law_705 : decode cL_law 705 = .ok (.aload_n 0, 1) := by decide +kernel
theorem dL_law_706 : decode cL_law 706 = .ok (.iload 4, 2) := by decide +kernel
theorem dL_law_708 : decode cL_law 708 = .ok (.iconst 1, 1) := by decide +kernel
theorem dL_law_709 : decode cL_law 709 = .ok (.iadd, 1) := by decide +kernel
theorem dL_law_710 : decode cL_law 710 = .ok (.iaload, 1) := by decide +kernel
theorem dL_law_711 : decode cL_law 711 = .ok (.invokevirtual 132, 3) := by decide +kernel
theorem dL_law_714 : decode cL_law 714 = .ok (.istore 6, 2) := by decide +kernel
theorem dL_law_716 : decode cL_law 716 = .ok (.aload_n 2, 1) := by decide +kernel
theorem dL_law_717 : decode cL_law 717 = .ok (.invokevirtual 90, 3) := by decide +kernel
theorem dL_law_720 : decode cL_law 720 = .ok (.iload 5, 2) := by decide +kernel
theorem dL_law_722 : decode cL_law 722 = .ok (.if_icmp .eq 5, 3) := by decide +kernel
theorem dL_law_725 : decode cL_law 725 = .ok (.iconst 0, 1) := by decide +kernel
theorem dL_law_726 : decode cL_law 726 = .ok (.ireturn, 1) := by decide +kernel
theorem dL_law_727 : decode cL_law 727 = .ok (.iload 5, 2) := by decide +kernel
theorem dL_law_729 : decode cL_law 729 = .ok (.ifCond .ne 15, 3) := by decide +kernel
theorem dL_law_732 : decode cL_law 732 = .ok (.aload_n 3, 1) := by decide +kernel
theorem dL_law_733 : decode cL_law 733 = .ok (.iconst 0, 1) := by decide +kernel
theorem dL_law_734 : decode cL_law 734 = .ok (.laload, 1) := by decide +kernel
theorem dL_law_735 : decode cL_law 735 = .ok (.iload 6, 2) := by decide +kernel
theorem dL_law_737 : decode cL_law 737 = .ok (.i2l, 1) := by decide +kernel
theorem dL_law_738 : decode cL_law 738 = .ok (.lcmp, 1) := by decide +kernel
theorem dL_law_739 : decode cL_law 739 = .ok (.ifCond .eq 5, 3) := by decide +kernel
theorem dL_law_742 : decode cL_law 742 = .ok (.iconst 0, 1) := by decide +kernel
theorem dL_law_743 : decode cL_law 743 = .ok (.ireturn, 1) := by decide +kernel
theorem dL_law_744 : decode cL_law 744 = .ok (.goto 723, 3) := by decide +kernel
theorem dL_law_747 : decode cL_law 747 = .ok (.aload_n 1, 1) := by decide +kernel
theorem dL_law_748 : decode cL_law 748 = .ok (.aload_n 0, 1) := by decide +kernel
theorem dL_law_749 : decode cL_law 749 = .ok (.iload 4, 2) := by decide +kernel
theorem dL_law_751 : decode cL_law 751 = .ok (.iconst 1, 1) := by decide +kernel
theorem dL_law_752 : decode cL_law 752 = .ok (.iadd, 1) := by decide +kernel
theorem dL_law_753 : decode cL_law 753 = .ok (.iaload, 1) := by decide +kernel
theorem dL_law_754 : decode cL_law 754 = .ok (.aload_n 3, 1) := by decide +kernel
theorem dL_law_755 : decode cL_law 755 = .ok (.invokestatic 133, 3) := by decide +kernel
theorem dL_law_758 : decode cL_law 758 = .ok (.istore 5, 2) := by decide +kernel
theorem dL_law_760 : decode cL_law 760 = .ok (.aload_n 2, 1) := by decide +kernel
theorem dL_law_761 : decode cL_law 761 = .ok (.aload_n 0, 1) := by decide +kernel
theorem dL_law_762 : decode cL_law 762 = .ok (.iload 4, 2) := by decide +kernel
theorem dL_law_764 : decode cL_law 764 = .ok (.iconst 1, 1) := by decide +kernel
theorem dL_law_765 : decode cL_law 765 = .ok (.iadd, 1) := by decide +kernel
theorem dL_law_766 : decode cL_law 766 = .ok (.iaload, 1) := by decide +kernel
theorem dL_law_767 : decode cL_law 767 = .ok (.invokevirtual 135, 3) := by decide +kernel
theorem dL_law_770 : decode cL_law 770 = .ok (.istore 6, 2) := by decide +kernel
theorem dL_law_772 : decode cL_law 772 = .ok (.aload_n 2, 1) := by decide +kernel
theorem dL_law_773 : decode cL_law 773 = .ok (.invokevirtual 90, 3) := by decide +kernel
theorem dL_law_776 : decode cL_law 776 = .ok (.iload 5, 2) := by decide +kernel
theorem dL_law_778 : decode cL_law 778 = .ok (.if_icmp .eq 5, 3) := by decide +kernel
theorem dL_law_781 : decode cL_law 781 = .ok (.iconst 0, 1) := by decide +kernel
theorem dL_law_782 : decode cL_law 782 = .ok (.ireturn, 1) := by decide +kernel
theorem dL_law_783 : decode cL_law 783 = .ok (.iload 5, 2) := by decide +kernel
theorem dL_law_785 : decode cL_law 785 = .ok (.ifCond .ne 15, 3) := by decide +kernel
theorem dL_law_788 : decode cL_law 788 = .ok (.aload_n 3, 1) := by decide +kernel
theorem dL_law_789 : decode cL_law 789 = .ok (.iconst 0, 1) := by decide +kernel
theorem dL_law_790 : decode cL_law 790 = .ok (.laload, 1) := by decide +kernel
theorem dL_law_791 : decode cL_law 791 = .ok (.iload 6, 2) := by decide +kernel
theorem dL_law_793 : decode cL_law 793 = .ok (.i2l, 1) := by decide +kernel
theorem dL_law_794 : decode cL_law 794 = .ok (.lcmp, 1) := by decide +kernel
theorem dL_law_795 : decode cL_law 795 = .ok (.ifCond .eq 5, 3) := by decide +kernel
theorem dL_law_798 : decode cL_law 798 = .ok (.iconst 0, 1) := by decide +kernel
theorem dL_law_799 : decode cL_law 799 = .ok (.ireturn, 1) := by decide +kernel
theorem dL_law_800 : decode cL_law 800 = .ok (.goto 667, 3) := by decide +kernel
theorem dL_law_803 : decode cL_law 803 = .ok (.aload_n 1, 1) := by decide +kernel
theorem dL_law_804 : decode cL_law 804 = .ok (.aload_n 3, 1) := by decide +kernel
theorem dL_law_805 : decode cL_law 805 = .ok (.invokestatic 136, 3) := by decide +kernel
theorem dL_law_808 : decode cL_law 808 = .ok (.istore 5, 2) := by decide +kernel
theorem dL_law_810 : decode cL_law 810 = .ok (.aload_n 2, 1) := by decide +kernel
theorem dL_law_811 : decode cL_law 811 = .ok (.invokevirtual 138, 3) := by decide +kernel
theorem dL_law_814 : decode cL_law 814 = .ok (.istore 6, 2) := by decide +kernel
theorem dL_law_816 : decode cL_law 816 = .ok (.aload_n 2, 1) := by decide +kernel
theorem dL_law_817 : decode cL_law 817 = .ok (.invokevirtual 90, 3) := by decide +kernel
theorem dL_law_820 : decode cL_law 820 = .ok (.iload 5, 2) := by decide +kernel
theorem dL_law_822 : decode cL_law 822 = .ok (.if_icmp .eq 5, 3) := by decide +kernel
theorem dL_law_825 : decode cL_law 825 = .ok (.iconst 0, 1) := by decide +kernel
theorem dL_law_826 : decode cL_law 826 = .ok (.ireturn, 1) := by decide +kernel
theorem dL_law_827 : decode cL_law 827 = .ok (.iload 5, 2) := by decide +kernel
theorem dL_law_829 : decode cL_law 829 = .ok (.ifCond .ne 15, 3) := by decide +kernel
theorem dL_law_832 : decode cL_law 832 = .ok (.aload_n 3, 1) := by decide +kernel
theorem dL_law_833 : decode cL_law 833 = .ok (.iconst 0, 1) := by decide +kernel
theorem dL_law_834 : decode cL_law 834 = .ok (.laload, 1) := by decide +kernel
theorem dL_law_835 : decode cL_law 835 = .ok (.iload 6, 2) := by decide +kernel
theorem dL_law_837 : decode cL_law 837 = .ok (.i2l, 1) := by decide +kernel
theorem dL_law_838 : decode cL_law 838 = .ok (.lcmp, 1) := by decide +kernel
theorem dL_law_839 : decode cL_law 839 = .ok (.ifCond .eq 5, 3) := by decide +kernel
theorem dL_law_842 : decode cL_law 842 = .ok (.iconst 0, 1) := by decide +kernel
theorem dL_law_843 : decode cL_law 843 = .ok (.ireturn, 1) := by decide +kernel
theorem dL_law_844 : decode cL_law 844 = .ok (.goto 623, 3) := by decide +kernel
theorem dL_law_847 : decode cL_law 847 = .ok (.aload_n 1, 1) := by decide +kernel
theorem dL_law_848 : decode cL_law 848 = .ok (.aload_n 0, 1) := by decide +kernel
theorem dL_law_849 : decode cL_law 849 = .ok (.iload 4, 2) := by decide +kernel
theorem dL_law_851 : decode cL_law 851 = .ok (.iconst 1, 1) := by decide +kernel
theorem dL_law_852 : decode cL_law 852 = .ok (.iadd, 1) := by decide +kernel
theorem dL_law_853 : decode cL_law 853 = .ok (.iaload, 1) := by decide +kernel
theorem dL_law_854 : decode cL_law 854 = .ok (.aload_n 0, 1) := by decide +kernel
theorem dL_law_855 : decode cL_law 855 = .ok (.iload 4, 2) := by decide +kernel
theorem dL_law_857 : decode cL_law 857 = .ok (.iconst 2, 1) := by decide +kernel
theorem dL_law_858 : decode cL_law 858 = .ok (.iadd, 1) := by decide +kernel
theorem dL_law_859 : decode cL_law 859 = .ok (.iaload, 1) := by decide +kernel
theorem dL_law_860 : decode cL_law 860 = .ok (.aload_n 3, 1) := by decide +kernel
theorem dL_law_861 : decode cL_law 861 = .ok (.invokestatic 139, 3) := by decide +kernel
theorem dL_law_864 : decode cL_law 864 = .ok (.istore 5, 2) := by decide +kernel
theorem dL_law_866 : decode cL_law 866 = .ok (.aload_n 2, 1) := by decide +kernel
theorem dL_law_867 : decode cL_law 867 = .ok (.aload_n 0, 1) := by decide +kernel
theorem dL_law_868 : decode cL_law 868 = .ok (.iload 4, 2) := by decide +kernel
theorem dL_law_870 : decode cL_law 870 = .ok (.iconst 1, 1) := by decide +kernel
theorem dL_law_871 : decode cL_law 871 = .ok (.iadd, 1) := by decide +kernel
theorem dL_law_872 : decode cL_law 872 = .ok (.iaload, 1) := by decide +kernel
theorem dL_law_873 : decode cL_law 873 = .ok (.aload_n 0, 1) := by decide +kernel
theorem dL_law_874 : decode cL_law 874 = .ok (.iload 4, 2) := by decide +kernel
theorem dL_law_876 : decode cL_law 876 = .ok (.iconst 2, 1) := by decide +kernel
theorem dL_law_877 : decode cL_law 877 = .ok (.iadd, 1) := by decide +kernel
theorem dL_law_878 : decode cL_law 878 = .ok (.iaload, 1) := by decide +kernel
theorem dL_law_879 : decode cL_law 879 = .ok (.invokevirtual 141, 3) := by decide +kernel
theorem dL_law_882 : decode cL_law 882 = .ok (.istore 6, 2) := by decide +kernel
theorem dL_law_884 : decode cL_law 884 = .ok (.aload_n 2, 1) := by decide +kernel
theorem dL_law_885 : decode cL_law 885 = .ok (.invokevirtual 90, 3) := by decide +kernel
theorem dL_law_888 : decode cL_law 888 = .ok (.iload 5, 2) := by decide +kernel
theorem dL_law_890 : decode cL_law 890 = .ok (.if_icmp .eq 5, 3) := by decide +kernel
theorem dL_law_893 : decode cL_law 893 = .ok (.iconst 0, 1) := by decide +kernel
theorem dL_law_894 : decode cL_law 894 = .ok (.ireturn, 1) := by decide +kernel
theorem dL_law_895 : decode cL_law 895 = .ok (.iload 5, 2) := by decide +kernel
theorem dL_law_897 : decode cL_law 897 = .ok (.ifCond .ne 15, 3) := by decide +kernel
theorem dL_law_900 : decode cL_law 900 = .ok (.aload_n 3, 1) := by decide +kernel
theorem dL_law_901 : decode cL_law 901 = .ok (.iconst 0, 1) := by decide +kernel
theorem dL_law_902 : decode cL_law 902 = .ok (.laload, 1) := by decide +kernel
theorem dL_law_903 : decode cL_law 903 = .ok (.iload 6, 2) := by decide +kernel
theorem dL_law_905 : decode cL_law 905 = .ok (.i2l, 1) := by decide +kernel
theorem dL_law_906 : decode cL_law 906 = .ok (.lcmp, 1) := by decide +kernel
theorem dL_law_907 : decode cL_law 907 = .ok (.ifCond .eq 5, 3) := by decide +kernel
theorem dL_law_910 : decode cL_law 910 = .ok (.iconst 0, 1) := by decide +kernel
theorem dL_law_911 : decode cL_law 911 = .ok (.ireturn, 1) := by decide +kernel
theorem dL_law_912 : decode cL_law 912 = .ok (.goto 555, 3) := by decide +kernel
theorem dL_law_915 : decode cL_law 915 = .ok (.aload_n 1, 1) := by decide +kernel
theorem dL_law_916 : decode cL_law 916 = .ok (.aload_n 0, 1) := by decide +kernel
theorem dL_law_917 : decode cL_law 917 = .ok (.iload 4, 2) := by decide +kernel
theorem dL_law_919 : decode cL_law 919 = .ok (.iconst 1, 1) := by decide +kernel
theorem dL_law_920 : decode cL_law 920 = .ok (.iadd, 1) := by decide +kernel
theorem dL_law_921 : decode cL_law 921 = .ok (.iaload, 1) := by decide +kernel
theorem dL_law_922 : decode cL_law 922 = .ok (.aload_n 0, 1) := by decide +kernel
theorem dL_law_923 : decode cL_law 923 = .ok (.iload 4, 2) := by decide +kernel
theorem dL_law_925 : decode cL_law 925 = .ok (.iconst 2, 1) := by decide +kernel
theorem dL_law_926 : decode cL_law 926 = .ok (.iadd, 1) := by decide +kernel
theorem dL_law_927 : decode cL_law 927 = .ok (.iaload, 1) := by decide +kernel
theorem dL_law_928 : decode cL_law 928 = .ok (.aload_n 3, 1) := by decide +kernel
theorem dL_law_929 : decode cL_law 929 = .ok (.invokestatic 142, 3) := by decide +kernel
theorem dL_law_932 : decode cL_law 932 = .ok (.istore 5, 2) := by decide +kernel
theorem dL_law_934 : decode cL_law 934 = .ok (.aload_n 2, 1) := by decide +kernel
theorem dL_law_935 : decode cL_law 935 = .ok (.aload_n 0, 1) := by decide +kernel
theorem dL_law_936 : decode cL_law 936 = .ok (.iload 4, 2) := by decide +kernel
theorem dL_law_938 : decode cL_law 938 = .ok (.iconst 1, 1) := by decide +kernel
theorem dL_law_939 : decode cL_law 939 = .ok (.iadd, 1) := by decide +kernel
theorem dL_law_940 : decode cL_law 940 = .ok (.iaload, 1) := by decide +kernel
theorem dL_law_941 : decode cL_law 941 = .ok (.aload_n 0, 1) := by decide +kernel
theorem dL_law_942 : decode cL_law 942 = .ok (.iload 4, 2) := by decide +kernel
theorem dL_law_944 : decode cL_law 944 = .ok (.iconst 2, 1) := by decide +kernel
theorem dL_law_945 : decode cL_law 945 = .ok (.iadd, 1) := by decide +kernel
theorem dL_law_946 : decode cL_law 946 = .ok (.iaload, 1) := by decide +kernel
theorem dL_law_947 : decode cL_law 947 = .ok (.invokevirtual 144, 3) := by decide +kernel
theorem dL_law_950 : decode cL_law 950 = .ok (.istore 6, 2) := by decide +kernel
theorem dL_law_952 : decode cL_law 952 = .ok (.aload_n 2, 1) := by decide +kernel
theorem dL_law_953 : decode cL_law 953 = .ok (.invokevirtual 90, 3) := by decide +kernel
theorem dL_law_956 : decode cL_law 956 = .ok (.iload 5, 2) := by decide +kernel
theorem dL_law_958 : decode cL_law 958 = .ok (.if_icmp .eq 5, 3) := by decide +kernel
theorem dL_law_961 : decode cL_law 961 = .ok (.iconst 0, 1) := by decide +kernel
theorem dL_law_962 : decode cL_law 962 = .ok (.ireturn, 1) := by decide +kernel
theorem dL_law_963 : decode cL_law 963 = .ok (.iload 5, 2) := by decide +kernel
theorem dL_law_965 : decode cL_law 965 = .ok (.ifCond .ne 15, 3) := by decide +kernel
theorem dL_law_968 : decode cL_law 968 = .ok (.aload_n 3, 1) := by decide +kernel
theorem dL_law_969 : decode cL_law 969 = .ok (.iconst 0, 1) := by decide +kernel
theorem dL_law_970 : decode cL_law 970 = .ok (.laload, 1) := by decide +kernel
theorem dL_law_971 : decode cL_law 971 = .ok (.iload 6, 2) := by decide +kernel
theorem dL_law_973 : decode cL_law 973 = .ok (.i2l, 1) := by decide +kernel
theorem dL_law_974 : decode cL_law 974 = .ok (.lcmp, 1) := by decide +kernel
theorem dL_law_975 : decode cL_law 975 = .ok (.ifCond .eq 5, 3) := by decide +kernel
theorem dL_law_978 : decode cL_law 978 = .ok (.iconst 0, 1) := by decide +kernel
theorem dL_law_979 : decode cL_law 979 = .ok (.ireturn, 1) := by decide +kernel
theorem dL_law_980 : decode cL_law 980 = .ok (.goto 487, 3) := by decide +kernel
theorem dL_law_983 : decode cL_law 983 = .ok (.aload_n 1, 1) := by decide +kernel
theorem dL_law_984 : decode cL_law 984 = .ok (.aload_n 0, 1) := by decide +kernel
theorem dL_law_985 : decode cL_law 985 = .ok (.iload 4, 2) := by decide +kernel
theorem dL_law_987 : decode cL_law 987 = .ok (.iconst 1, 1) := by decide +kernel
theorem dL_law_988 : decode cL_law 988 = .ok (.iadd, 1) := by decide +kernel
theorem dL_law_989 : decode cL_law 989 = .ok (.iaload, 1) := by decide +kernel
theorem dL_law_990 : decode cL_law 990 = .ok (.aload_n 3, 1) := by decide +kernel
theorem dL_law_991 : decode cL_law 991 = .ok (.invokestatic 145, 3) := by decide +kernel
theorem dL_law_994 : decode cL_law 994 = .ok (.istore 5, 2) := by decide +kernel
theorem dL_law_996 : decode cL_law 996 = .ok (.aload_n 2, 1) := by decide +kernel
theorem dL_law_997 : decode cL_law 997 = .ok (.aload_n 0, 1) := by decide +kernel
theorem dL_law_998 : decode cL_law 998 = .ok (.iload 4, 2) := by decide +kernel
theorem dL_law_1000 : decode cL_law 1000 = .ok (.iconst 1, 1) := by decide +kernel
theorem dL_law_1001 : decode cL_law 1001 = .ok (.iadd, 1) := by decide +kernel
theorem dL_law_1002 : decode cL_law 1002 = .ok (.iaload, 1) := by decide +kernel
theorem dL_law_1003 : decode cL_law 1003 = .ok (.invokevirtual 147, 3) := by decide +kernel
theorem dL_law_1006 : decode cL_law 1006 = .ok (.istore 6, 2) := by decide +kernel
theorem dL_law_1008 : decode cL_law 1008 = .ok (.aload_n 2, 1) := by decide +kernel
theorem dL_law_1009 : decode cL_law 1009 = .ok (.invokevirtual 90, 3) := by decide +kernel
theorem dL_law_1012 : decode cL_law 1012 = .ok (.iload 5, 2) := by decide +kernel
theorem dL_law_1014 : decode cL_law 1014 = .ok (.if_icmp .eq 5, 3) := by decide +kernel
theorem dL_law_1017 : decode cL_law 1017 = .ok (.iconst 0, 1) := by decide +kernel
theorem dL_law_1018 : decode cL_law 1018 = .ok (.ireturn, 1) := by decide +kernel
theorem dL_law_1019 : decode cL_law 1019 = .ok (.iload 5, 2) := by decide +kernel
theorem dL_law_1021 : decode cL_law 1021 = .ok (.ifCond .ne 15, 3) := by decide +kernel
theorem dL_law_1024 : decode cL_law 1024 = .ok (.aload_n 3, 1) := by decide +kernel
theorem dL_law_1025 : decode cL_law 1025 = .ok (.iconst 0, 1) := by decide +kernel
theorem dL_law_1026 : decode cL_law 1026 = .ok (.laload, 1) := by decide +kernel
theorem dL_law_1027 : decode cL_law 1027 = .ok (.iload 6, 2) := by decide +kernel
theorem dL_law_1029 : decode cL_law 1029 = .ok (.i2l, 1) := by decide +kernel
theorem dL_law_1030 : decode cL_law 1030 = .ok (.lcmp, 1) := by decide +kernel
theorem dL_law_1031 : decode cL_law 1031 = .ok (.ifCond .eq 5, 3) := by decide +kernel
theorem dL_law_1034 : decode cL_law 1034 = .ok (.iconst 0, 1) := by decide +kernel
theorem dL_law_1035 : decode cL_law 1035 = .ok (.ireturn, 1) := by decide +kernel
theorem dL_law_1036 : decode cL_law 1036 = .ok (.goto 431, 3) := by decide +kernel
theorem dL_law_1039 : decode cL_law 1039 = .ok (.aload_n 1, 1) := by decide +kernel
theorem dL_law_1040 : decode cL_law 1040 = .ok (.invokevirtual 148, 3) := by decide +kernel
theorem dL_law_1043 : decode cL_law 1043 = .ok (.aload_n 2, 1) := by decide +kernel
theorem dL_law_1044 : decode cL_law 1044 = .ok (.invokevirtual 151, 3) := by decide +kernel
theorem dL_law_1047 : decode cL_law 1047 = .ok (.if_icmp .eq 420, 3) := by decide +kernel
theorem dL_law_1050 : decode cL_law 1050 = .ok (.iconst 0, 1) := by decide +kernel
theorem dL_law_1051 : decode cL_law 1051 = .ok (.ireturn, 1) := by decide +kernel
theorem dL_law_1052 : decode cL_law 1052 = .ok (.aload_n 1, 1) := by decide +kernel
theorem dL_law_1053 : decode cL_law 1053 = .ok (.aload_n 0, 1) := by decide +kernel
theorem dL_law_1054 : decode cL_law 1054 = .ok (.iload 4, 2) := by decide +kernel
theorem dL_law_1056 : decode cL_law 1056 = .ok (.iconst 1, 1) := by decide +kernel
theorem dL_law_1057 : decode cL_law 1057 = .ok (.iadd, 1) := by decide +kernel
theorem dL_law_1058 : decode cL_law 1058 = .ok (.iaload, 1) := by decide +kernel
theorem dL_law_1059 : decode cL_law 1059 = .ok (.aload_n 3, 1) := by decide +kernel
theorem dL_law_1060 : decode cL_law 1060 = .ok (.invokestatic 152, 3) := by decide +kernel
theorem dL_law_1063 : decode cL_law 1063 = .ok (.istore 5, 2) := by decide +kernel
theorem dL_law_1065 : decode cL_law 1065 = .ok (.aload_n 2, 1) := by decide +kernel
theorem dL_law_1066 : decode cL_law 1066 = .ok (.aload_n 0, 1) := by decide +kernel
theorem dL_law_1067 : decode cL_law 1067 = .ok (.iload 4, 2) := by decide +kernel
theorem dL_law_1069 : decode cL_law 1069 = .ok (.iconst 1, 1) := by decide +kernel
theorem dL_law_1070 : decode cL_law 1070 = .ok (.iadd, 1) := by decide +kernel
theorem dL_law_1071 : decode cL_law 1071 = .ok (.iaload, 1) := by decide +kernel
theorem dL_law_1072 : decode cL_law 1072 = .ok (.invokevirtual 154, 3) := by decide +kernel
theorem dL_law_1075 : decode cL_law 1075 = .ok (.istore 6, 2) := by decide +kernel
theorem dL_law_1077 : decode cL_law 1077 = .ok (.aload_n 2, 1) := by decide +kernel
theorem dL_law_1078 : decode cL_law 1078 = .ok (.invokevirtual 90, 3) := by decide +kernel
theorem dL_law_1081 : decode cL_law 1081 = .ok (.iload 5, 2) := by decide +kernel
theorem dL_law_1083 : decode cL_law 1083 = .ok (.if_icmp .eq 5, 3) := by decide +kernel
theorem dL_law_1086 : decode cL_law 1086 = .ok (.iconst 0, 1) := by decide +kernel
theorem dL_law_1087 : decode cL_law 1087 = .ok (.ireturn, 1) := by decide +kernel
theorem dL_law_1088 : decode cL_law 1088 = .ok (.iload 5, 2) := by decide +kernel
theorem dL_law_1090 : decode cL_law 1090 = .ok (.ifCond .ne 15, 3) := by decide +kernel
theorem dL_law_1093 : decode cL_law 1093 = .ok (.aload_n 3, 1) := by decide +kernel
theorem dL_law_1094 : decode cL_law 1094 = .ok (.iconst 0, 1) := by decide +kernel
theorem dL_law_1095 : decode cL_law 1095 = .ok (.laload, 1) := by decide +kernel
theorem dL_law_1096 : decode cL_law 1096 = .ok (.iload 6, 2) := by decide +kernel
theorem dL_law_1098 : decode cL_law 1098 = .ok (.i2l, 1) := by decide +kernel
theorem dL_law_1099 : decode cL_law 1099 = .ok (.lcmp, 1) := by decide +kernel
theorem dL_law_1100 : decode cL_law 1100 = .ok (.ifCond .eq 5, 3) := by decide +kernel
theorem dL_law_1103 : decode cL_law 1103 = .ok (.iconst 0, 1) := by decide +kernel
theorem dL_law_1104 : decode cL_law 1104 = .ok (.ireturn, 1) := by decide +kernel
theorem dL_law_1105 : decode cL_law 1105 = .ok (.goto 362, 3) := by decide +kernel
theorem dL_law_1108 : decode cL_law 1108 = .ok (.aload_n 1, 1) := by decide +kernel
theorem dL_law_1109 : decode cL_law 1109 = .ok (.aload_n 0, 1) := by decide +kernel
theorem dL_law_1110 : decode cL_law 1110 = .ok (.iload 4, 2) := by decide +kernel
theorem dL_law_1112 : decode cL_law 1112 = .ok (.iconst 1, 1) := by decide +kernel
theorem dL_law_1113 : decode cL_law 1113 = .ok (.iadd, 1) := by decide +kernel
theorem dL_law_1114 : decode cL_law 1114 = .ok (.iaload, 1) := by decide +kernel
theorem dL_law_1115 : decode cL_law 1115 = .ok (.aload_n 3, 1) := by decide +kernel
theorem dL_law_1116 : decode cL_law 1116 = .ok (.invokestatic 155, 3) := by decide +kernel
theorem dL_law_1119 : decode cL_law 1119 = .ok (.istore 5, 2) := by decide +kernel
theorem dL_law_1121 : decode cL_law 1121 = .ok (.aload_n 2, 1) := by decide +kernel
theorem dL_law_1122 : decode cL_law 1122 = .ok (.aload_n 0, 1) := by decide +kernel
theorem dL_law_1123 : decode cL_law 1123 = .ok (.iload 4, 2) := by decide +kernel
theorem dL_law_1125 : decode cL_law 1125 = .ok (.iconst 1, 1) := by decide +kernel
theorem dL_law_1126 : decode cL_law 1126 = .ok (.iadd, 1) := by decide +kernel
theorem dL_law_1127 : decode cL_law 1127 = .ok (.iaload, 1) := by decide +kernel
theorem dL_law_1128 : decode cL_law 1128 = .ok (.invokevirtual 157, 3) := by decide +kernel
theorem dL_law_1131 : decode cL_law 1131 = .ok (.istore 6, 2) := by decide +kernel
theorem dL_law_1133 : decode cL_law 1133 = .ok (.aload_n 2, 1) := by decide +kernel
theorem dL_law_1134 : decode cL_law 1134 = .ok (.invokevirtual 90, 3) := by decide +kernel
theorem dL_law_1137 : decode cL_law 1137 = .ok (.iload 5, 2) := by decide +kernel
theorem dL_law_1139 : decode cL_law 1139 = .ok (.if_icmp .eq 5, 3) := by decide +kernel
theorem dL_law_1142 : decode cL_law 1142 = .ok (.iconst 0, 1) := by decide +kernel
theorem dL_law_1143 : decode cL_law 1143 = .ok (.ireturn, 1) := by decide +kernel
theorem dL_law_1144 : decode cL_law 1144 = .ok (.iload 5, 2) := by decide +kernel
theorem dL_law_1146 : decode cL_law 1146 = .ok (.ifCond .ne 15, 3) := by decide +kernel
theorem dL_law_1149 : decode cL_law 1149 = .ok (.aload_n 3, 1) := by decide +kernel
theorem dL_law_1150 : decode cL_law 1150 = .ok (.iconst 0, 1) := by decide +kernel
theorem dL_law_1151 : decode cL_law 1151 = .ok (.laload, 1) := by decide +kernel
theorem dL_law_1152 : decode cL_law 1152 = .ok (.iload 6, 2) := by decide +kernel
theorem dL_law_1154 : decode cL_law 1154 = .ok (.i2l, 1) := by decide +kernel
theorem dL_law_1155 : decode cL_law 1155 = .ok (.lcmp, 1) := by decide +kernel
theorem dL_law_1156 : decode cL_law 1156 = .ok (.ifCond .eq 5, 3) := by decide +kernel
theorem dL_law_1159 : decode cL_law 1159 = .ok (.iconst 0, 1) := by decide +kernel
theorem dL_law_1160 : decode cL_law 1160 = .ok (.ireturn, 1) := by decide +kernel
theorem dL_law_1161 : decode cL_law 1161 = .ok (.goto 306, 3) := by decide +kernel
theorem dL_law_1164 : decode cL_law 1164 = .ok (.aload_n 1, 1) := by decide +kernel
theorem dL_law_1165 : decode cL_law 1165 = .ok (.aload_n 0, 1) := by decide +kernel
theorem dL_law_1166 : decode cL_law 1166 = .ok (.iload 4, 2) := by decide +kernel
theorem dL_law_1168 : decode cL_law 1168 = .ok (.iconst 1, 1) := by decide +kernel
theorem dL_law_1169 : decode cL_law 1169 = .ok (.iadd, 1) := by decide +kernel
theorem dL_law_1170 : decode cL_law 1170 = .ok (.iaload, 1) := by decide +kernel
theorem dL_law_1171 : decode cL_law 1171 = .ok (.aload_n 3, 1) := by decide +kernel
theorem dL_law_1172 : decode cL_law 1172 = .ok (.invokestatic 158, 3) := by decide +kernel
theorem dL_law_1175 : decode cL_law 1175 = .ok (.istore 5, 2) := by decide +kernel
theorem dL_law_1177 : decode cL_law 1177 = .ok (.aload_n 2, 1) := by decide +kernel
theorem dL_law_1178 : decode cL_law 1178 = .ok (.aload_n 0, 1) := by decide +kernel
theorem dL_law_1179 : decode cL_law 1179 = .ok (.iload 4, 2) := by decide +kernel
theorem dL_law_1181 : decode cL_law 1181 = .ok (.iconst 1, 1) := by decide +kernel
theorem dL_law_1182 : decode cL_law 1182 = .ok (.iadd, 1) := by decide +kernel
theorem dL_law_1183 : decode cL_law 1183 = .ok (.iaload, 1) := by decide +kernel
theorem dL_law_1184 : decode cL_law 1184 = .ok (.invokevirtual 160, 3) := by decide +kernel
theorem dL_law_1187 : decode cL_law 1187 = .ok (.istore 6, 2) := by decide +kernel
theorem dL_law_1189 : decode cL_law 1189 = .ok (.aload_n 2, 1) := by decide +kernel
theorem dL_law_1190 : decode cL_law 1190 = .ok (.invokevirtual 90, 3) := by decide +kernel
theorem dL_law_1193 : decode cL_law 1193 = .ok (.iload 5, 2) := by decide +kernel
theorem dL_law_1195 : decode cL_law 1195 = .ok (.if_icmp .eq 5, 3) := by decide +kernel
theorem dL_law_1198 : decode cL_law 1198 = .ok (.iconst 0, 1) := by decide +kernel
theorem dL_law_1199 : decode cL_law 1199 = .ok (.ireturn, 1) := by decide +kernel
theorem dL_law_1200 : decode cL_law 1200 = .ok (.iload 5, 2) := by decide +kernel
theorem dL_law_1202 : decode cL_law 1202 = .ok (.ifCond .ne 15, 3) := by decide +kernel
theorem dL_law_1205 : decode cL_law 1205 = .ok (.aload_n 3, 1) := by decide +kernel
theorem dL_law_1206 : decode cL_law 1206 = .ok (.iconst 0, 1) := by decide +kernel
theorem dL_law_1207 : decode cL_law 1207 = .ok (.laload, 1) := by decide +kernel
theorem dL_law_1208 : decode cL_law 1208 = .ok (.iload 6, 2) := by decide +kernel
theorem dL_law_1210 : decode cL_law 1210 = .ok (.i2l, 1) := by decide +kernel
theorem dL_law_1211 : decode cL_law 1211 = .ok (.lcmp, 1) := by decide +kernel
theorem dL_law_1212 : decode cL_law 1212 = .ok (.ifCond .eq 5, 3) := by decide +kernel
theorem dL_law_1215 : decode cL_law 1215 = .ok (.iconst 0, 1) := by decide +kernel
theorem dL_law_1216 : decode cL_law 1216 = .ok (.ireturn, 1) := by decide +kernel
theorem dL_law_1217 : decode cL_law 1217 = .ok (.goto 250, 3) := by decide +kernel
theorem dL_law_1220 : decode cL_law 1220 = .ok (.aload_n 1, 1) := by decide +kernel
theorem dL_law_1221 : decode cL_law 1221 = .ok (.aload_n 0, 1) := by decide +kernel
theorem dL_law_1222 : decode cL_law 1222 = .ok (.iload 4, 2) := by decide +kernel
theorem dL_law_1224 : decode cL_law 1224 = .ok (.iconst 1, 1) := by decide +kernel
theorem dL_law_1225 : decode cL_law 1225 = .ok (.iadd, 1) := by decide +kernel
theorem dL_law_1226 : decode cL_law 1226 = .ok (.iaload, 1) := by decide +kernel
theorem dL_law_1227 : decode cL_law 1227 = .ok (.aload_n 0, 1) := by decide +kernel
theorem dL_law_1228 : decode cL_law 1228 = .ok (.iload 4, 2) := by decide +kernel
theorem dL_law_1230 : decode cL_law 1230 = .ok (.iconst 2, 1) := by decide +kernel
theorem dL_law_1231 : decode cL_law 1231 = .ok (.iadd, 1) := by decide +kernel
theorem dL_law_1232 : decode cL_law 1232 = .ok (.iaload, 1) := by decide +kernel
theorem dL_law_1233 : decode cL_law 1233 = .ok (.aload_n 3, 1) := by decide +kernel
theorem dL_law_1234 : decode cL_law 1234 = .ok (.invokestatic 161, 3) := by decide +kernel
theorem dL_law_1237 : decode cL_law 1237 = .ok (.istore 5, 2) := by decide +kernel
theorem dL_law_1239 : decode cL_law 1239 = .ok (.aload_n 2, 1) := by decide +kernel
theorem dL_law_1240 : decode cL_law 1240 = .ok (.aload_n 0, 1) := by decide +kernel
theorem dL_law_1241 : decode cL_law 1241 = .ok (.iload 4, 2) := by decide +kernel
theorem dL_law_1243 : decode cL_law 1243 = .ok (.iconst 1, 1) := by decide +kernel
theorem dL_law_1244 : decode cL_law 1244 = .ok (.iadd, 1) := by decide +kernel
theorem dL_law_1245 : decode cL_law 1245 = .ok (.iaload, 1) := by decide +kernel
theorem dL_law_1246 : decode cL_law 1246 = .ok (.aload_n 0, 1) := by decide +kernel
theorem dL_law_1247 : decode cL_law 1247 = .ok (.iload 4, 2) := by decide +kernel
theorem dL_law_1249 : decode cL_law 1249 = .ok (.iconst 2, 1) := by decide +kernel
theorem dL_law_1250 : decode cL_law 1250 = .ok (.iadd, 1) := by decide +kernel
theorem dL_law_1251 : decode cL_law 1251 = .ok (.iaload, 1) := by decide +kernel
theorem dL_law_1252 : decode cL_law 1252 = .ok (.invokevirtual 163, 3) := by decide +kernel
theorem dL_law_1255 : decode cL_law 1255 = .ok (.istore 6, 2) := by decide +kernel
theorem dL_law_1257 : decode cL_law 1257 = .ok (.aload_n 2, 1) := by decide +kernel
theorem dL_law_1258 : decode cL_law 1258 = .ok (.invokevirtual 90, 3) := by decide +kernel
theorem dL_law_1261 : decode cL_law 1261 = .ok (.iload 5, 2) := by decide +kernel
theorem dL_law_1263 : decode cL_law 1263 = .ok (.if_icmp .eq 5, 3) := by decide +kernel
theorem dL_law_1266 : decode cL_law 1266 = .ok (.iconst 0, 1) := by decide +kernel
theorem dL_law_1267 : decode cL_law 1267 = .ok (.ireturn, 1) := by decide +kernel
theorem dL_law_1268 : decode cL_law 1268 = .ok (.iload 5, 2) := by decide +kernel
theorem dL_law_1270 : decode cL_law 1270 = .ok (.ifCond .ne 15, 3) := by decide +kernel
theorem dL_law_1273 : decode cL_law 1273 = .ok (.aload_n 3, 1) := by decide +kernel
theorem dL_law_1274 : decode cL_law 1274 = .ok (.iconst 0, 1) := by decide +kernel
theorem dL_law_1275 : decode cL_law 1275 = .ok (.laload, 1) := by decide +kernel
theorem dL_law_1276 : decode cL_law 1276 = .ok (.iload 6, 2) := by decide +kernel
theorem dL_law_1278 : decode cL_law 1278 = .ok (.i2l, 1) := by decide +kernel
theorem dL_law_1279 : decode cL_law 1279 = .ok (.lcmp, 1) := by decide +kernel
theorem dL_law_1280 : decode cL_law 1280 = .ok (.ifCond .eq 5, 3) := by decide +kernel
theorem dL_law_1283 : decode cL_law 1283 = .ok (.iconst 0, 1) := by decide +kernel
theorem dL_law_1284 : decode cL_law 1284 = .ok (.ireturn, 1) := by decide +kernel
theorem dL_law_1285 : decode cL_law 1285 = .ok (.goto 182, 3) := by decide +kernel
theorem dL_law_1288 : decode cL_law 1288 = .ok (.aload_n 1, 1) := by decide +kernel
theorem dL_law_1289 : decode cL_law 1289 = .ok (.aload_n 0, 1) := by decide +kernel
theorem dL_law_1290 : decode cL_law 1290 = .ok (.iload 4, 2) := by decide +kernel
theorem dL_law_1292 : decode cL_law 1292 = .ok (.iconst 1, 1) := by decide +kernel
theorem dL_law_1293 : decode cL_law 1293 = .ok (.iadd, 1) := by decide +kernel
theorem dL_law_1294 : decode cL_law 1294 = .ok (.iaload, 1) := by decide +kernel
theorem dL_law_1295 : decode cL_law 1295 = .ok (.aload_n 0, 1) := by decide +kernel
theorem dL_law_1296 : decode cL_law 1296 = .ok (.iload 4, 2) := by decide +kernel
theorem dL_law_1298 : decode cL_law 1298 = .ok (.iconst 2, 1) := by decide +kernel
theorem dL_law_1299 : decode cL_law 1299 = .ok (.iadd, 1) := by decide +kernel
theorem dL_law_1300 : decode cL_law 1300 = .ok (.iaload, 1) := by decide +kernel
theorem dL_law_1301 : decode cL_law 1301 = .ok (.aload_n 3, 1) := by decide +kernel
theorem dL_law_1302 : decode cL_law 1302 = .ok (.invokestatic 164, 3) := by decide +kernel
theorem dL_law_1305 : decode cL_law 1305 = .ok (.istore 5, 2) := by decide +kernel
theorem dL_law_1307 : decode cL_law 1307 = .ok (.aload_n 2, 1) := by decide +kernel
theorem dL_law_1308 : decode cL_law 1308 = .ok (.aload_n 0, 1) := by decide +kernel
theorem dL_law_1309 : decode cL_law 1309 = .ok (.iload 4, 2) := by decide +kernel
theorem dL_law_1311 : decode cL_law 1311 = .ok (.iconst 1, 1) := by decide +kernel
theorem dL_law_1312 : decode cL_law 1312 = .ok (.iadd, 1) := by decide +kernel
theorem dL_law_1313 : decode cL_law 1313 = .ok (.iaload, 1) := by decide +kernel
theorem dL_law_1314 : decode cL_law 1314 = .ok (.aload_n 0, 1) := by decide +kernel
theorem dL_law_1315 : decode cL_law 1315 = .ok (.iload 4, 2) := by decide +kernel
theorem dL_law_1317 : decode cL_law 1317 = .ok (.iconst 2, 1) := by decide +kernel
theorem dL_law_1318 : decode cL_law 1318 = .ok (.iadd, 1) := by decide +kernel
theorem dL_law_1319 : decode cL_law 1319 = .ok (.iaload, 1) := by decide +kernel
theorem dL_law_1320 : decode cL_law 1320 = .ok (.invokevirtual 166, 3) := by decide +kernel
theorem dL_law_1323 : decode cL_law 1323 = .ok (.istore 6, 2) := by decide +kernel
theorem dL_law_1325 : decode cL_law 1325 = .ok (.aload_n 2, 1) := by decide +kernel
theorem dL_law_1326 : decode cL_law 1326 = .ok (.invokevirtual 90, 3) := by decide +kernel
theorem dL_law_1329 : decode cL_law 1329 = .ok (.iload 5, 2) := by decide +kernel
theorem dL_law_1331 : decode cL_law 1331 = .ok (.if_icmp .eq 5, 3) := by decide +kernel
theorem dL_law_1334 : decode cL_law 1334 = .ok (.iconst 0, 1) := by decide +kernel
theorem dL_law_1335 : decode cL_law 1335 = .ok (.ireturn, 1) := by decide +kernel
theorem dL_law_1336 : decode cL_law 1336 = .ok (.iload 5, 2) := by decide +kernel
theorem dL_law_1338 : decode cL_law 1338 = .ok (.ifCond .ne 15, 3) := by decide +kernel
theorem dL_law_1341 : decode cL_law 1341 = .ok (.aload_n 3, 1) := by decide +kernel
theorem dL_law_1342 : decode cL_law 1342 = .ok (.iconst 0, 1) := by decide +kernel
theorem dL_law_1343 : decode cL_law 1343 = .ok (.laload, 1) := by decide +kernel
theorem dL_law_1344 : decode cL_law 1344 = .ok (.iload 6, 2) := by decide +kernel
theorem dL_law_1346 : decode cL_law 1346 = .ok (.i2l, 1) := by decide +kernel
theorem dL_law_1347 : decode cL_law 1347 = .ok (.lcmp, 1) := by decide +kernel
theorem dL_law_1348 : decode cL_law 1348 = .ok (.ifCond .eq 5, 3) := by decide +kernel
theorem dL_law_1351 : decode cL_law 1351 = .ok (.iconst 0, 1) := by decide +kernel
theorem dL_law_1352 : decode cL_law 1352 = .ok (.ireturn, 1) := by decide +kernel
theorem dL_law_1353 : decode cL_law 1353 = .ok (.goto 114, 3) := by decide +kernel
theorem dL_law_1356 : decode cL_law 1356 = .ok (.aload_n 1, 1) := by decide +kernel
theorem dL_law_1357 : decode cL_law 1357 = .ok (.aload_n 0, 1) := by decide +kernel
theorem dL_law_1358 : decode cL_law 1358 = .ok (.iload 4, 2) := by decide +kernel
theorem dL_law_1360 : decode cL_law 1360 = .ok (.iconst 1, 1) := by decide +kernel
theorem dL_law_1361 : decode cL_law 1361 = .ok (.iadd, 1) := by decide +kernel
theorem dL_law_1362 : decode cL_law 1362 = .ok (.iaload, 1) := by decide +kernel
theorem dL_law_1363 : decode cL_law 1363 = .ok (.aload_n 3, 1) := by decide +kernel
theorem dL_law_1364 : decode cL_law 1364 = .ok (.invokestatic 167, 3) := by decide +kernel
theorem dL_law_1367 : decode cL_law 1367 = .ok (.istore 5, 2) := by decide +kernel
theorem dL_law_1369 : decode cL_law 1369 = .ok (.aload_n 2, 1) := by decide +kernel
theorem dL_law_1370 : decode cL_law 1370 = .ok (.aload_n 0, 1) := by decide +kernel
theorem dL_law_1371 : decode cL_law 1371 = .ok (.iload 4, 2) := by decide +kernel
theorem dL_law_1373 : decode cL_law 1373 = .ok (.iconst 1, 1) := by decide +kernel
theorem dL_law_1374 : decode cL_law 1374 = .ok (.iadd, 1) := by decide +kernel
theorem dL_law_1375 : decode cL_law 1375 = .ok (.iaload, 1) := by decide +kernel
theorem dL_law_1376 : decode cL_law 1376 = .ok (.invokevirtual 169, 3) := by decide +kernel
theorem dL_law_1379 : decode cL_law 1379 = .ok (.istore 6, 2) := by decide +kernel
theorem dL_law_1381 : decode cL_law 1381 = .ok (.aload_n 2, 1) := by decide +kernel
theorem dL_law_1382 : decode cL_law 1382 = .ok (.invokevirtual 90, 3) := by decide +kernel
theorem dL_law_1385 : decode cL_law 1385 = .ok (.iload 5, 2) := by decide +kernel
theorem dL_law_1387 : decode cL_law 1387 = .ok (.if_icmp .eq 5, 3) := by decide +kernel
theorem dL_law_1390 : decode cL_law 1390 = .ok (.iconst 0, 1) := by decide +kernel
theorem dL_law_1391 : decode cL_law 1391 = .ok (.ireturn, 1) := by decide +kernel
theorem dL_law_1392 : decode cL_law 1392 = .ok (.iload 5, 2) := by decide +kernel
theorem dL_law_1394 : decode cL_law 1394 = .ok (.ifCond .ne 15, 3) := by decide +kernel
theorem dL_law_1397 : decode cL_law 1397 = .ok (.aload_n 3, 1) := by decide +kernel
theorem dL_law_1398 : decode cL_law 1398 = .ok (.iconst 0, 1) := by decide +kernel
theorem dL_law_1399 : decode cL_law 1399 = .ok (.laload, 1) := by decide +kernel
theorem dL_law_1400 : decode cL_law 1400 = .ok (.iload 6, 2) := by decide +kernel
theorem dL_law_1402 : decode cL_law 1402 = .ok (.i2l, 1) := by decide +kernel
theorem dL_law_1403 : decode cL_law 1403 = .ok (.lcmp, 1) := by decide +kernel
theorem dL_law_1404 : decode cL_law 1404 = .ok (.ifCond .eq 5, 3) := by decide +kernel
theorem dL_law_1407 : decode cL_law 1407 = .ok (.iconst 0, 1) := by decide +kernel
theorem dL_law_1408 : decode cL_law 1408 = .ok (.ireturn, 1) := by decide +kernel
theorem dL_law_1409 : decode cL_law 1409 = .ok (.goto 58, 3) := by decide +kernel
theorem dL_law_1412 : decode cL_law 1412 = .ok (.aload_n 1, 1) := by decide +kernel
theorem dL_law_1413 : decode cL_law 1413 = .ok (.invokevirtual 170, 3) := by decide +kernel
theorem dL_law_1416 : decode cL_law 1416 = .ok (.dstore 5, 2) := by decide +kernel
theorem dL_law_1418 : decode cL_law 1418 = .ok (.aload_n 2, 1) := by decide +kernel
theorem dL_law_1419 : decode cL_law 1419 = .ok (.invokevirtual 174, 3) := by decide +kernel
theorem dL_law_1422 : decode cL_law 1422 = .ok (.dstore 7, 2) := by decide +kernel
theorem dL_law_1424 : decode cL_law 1424 = .ok (.dload 5, 2) := by decide +kernel
theorem dL_law_1426 : decode cL_law 1426 = .ok (.dload 7, 2) := by decide +kernel
theorem dL_law_1428 : decode cL_law 1428 = .ok (.dcmp .l, 1) := by decide +kernel
theorem dL_law_1429 : decode cL_law 1429 = .ok (.ifCond .eq 21, 3) := by decide +kernel
theorem dL_law_1432 : decode cL_law 1432 = .ok (.dload 5, 2) := by decide +kernel
theorem dL_law_1434 : decode cL_law 1434 = .ok (.dload 5, 2) := by decide +kernel
theorem dL_law_1436 : decode cL_law 1436 = .ok (.dcmp .l, 1) := by decide +kernel
theorem dL_law_1437 : decode cL_law 1437 = .ok (.ifCond .eq 11, 3) := by decide +kernel
theorem dL_law_1440 : decode cL_law 1440 = .ok (.dload 7, 2) := by decide +kernel
theorem dL_law_1442 : decode cL_law 1442 = .ok (.dload 7, 2) := by decide +kernel
theorem dL_law_1444 : decode cL_law 1444 = .ok (.dcmp .l, 1) := by decide +kernel
theorem dL_law_1445 : decode cL_law 1445 = .ok (.ifCond .ne 5, 3) := by decide +kernel
theorem dL_law_1448 : decode cL_law 1448 = .ok (.iconst 0, 1) := by decide +kernel
theorem dL_law_1449 : decode cL_law 1449 = .ok (.ireturn, 1) := by decide +kernel
theorem dL_law_1450 : decode cL_law 1450 = .ok (.goto 17, 3) := by decide +kernel
theorem dL_law_1453 : decode cL_law 1453 = .ok (.aload_n 1, 1) := by decide +kernel
theorem dL_law_1454 : decode cL_law 1454 = .ok (.invokevirtual 175, 3) := by decide +kernel
theorem dL_law_1457 : decode cL_law 1457 = .ok (.aload_n 2, 1) := by decide +kernel
theorem dL_law_1458 : decode cL_law 1458 = .ok (.invokevirtual 179, 3) := by decide +kernel
theorem dL_law_1461 : decode cL_law 1461 = .ok (.lcmp, 1) := by decide +kernel
theorem dL_law_1462 : decode cL_law 1462 = .ok (.ifCond .eq 5, 3) := by decide +kernel
theorem dL_law_1465 : decode cL_law 1465 = .ok (.iconst 0, 1) := by decide +kernel
theorem dL_law_1466 : decode cL_law 1466 = .ok (.ireturn, 1) := by decide +kernel
theorem dL_law_1467 : decode cL_law 1467 = .ok (.iinc 4 5, 3) := by decide +kernel
theorem dL_law_1470 : decode cL_law 1470 = .ok (.goto (-1447), 3) := by decide +kernel
theorem dL_law_1473 : decode cL_law 1473 = .ok (.iconst 1, 1) := by decide +kernel
theorem dL_law_1474 : decode cL_law 1474 = .ok (.ireturn, 1) := by decide +kernel
end
section

/-! the world: cells at base + id, whose numbers are one function of id and place -/
abbrev Sg : Type := Nat → Int → Int
abbrev FK : Type := Bool ⊕ Option Nat
abbrev Ob : Type := (Nat × List FK) ⊕ (Nat ⊕ (Nat ⊕ (Nat × (Nat → Option Nat))))
abbrev GT : Type := Nat × va_G × (Nat × Nat × Nat)
def I (z : Int) : Value := .int (Int32.ofInt z)
def Lg (z : Int) : Value := .long (Int64.ofInt z)
def Rf (G : GT) (a : Nat) : Value := .ref (G.1 + a)
def cvF (B : Nat) (fk : FK) (z : Int) : Value := match fk with
  | .inl false => .int (Int32.ofInt z)
  | .inl true => .long (Int64.ofInt z)
  | .inr none => .null
  | .inr (some k) => .ref (B + k)
def ent (G : GT) (f : Int → Int) (o : Ob) : va_E := match o with
  | .inl (ci, fks) => .inr (ci, fks.mapIdx (fun j fk => cvF G.1 fk (f (j : Int))))
  | .inr (.inl n) => .inl (G.2.2.1, n, .inl (fun j => Int32.ofInt (f (j : Int))))
  | .inr (.inr (.inl n)) => .inl (G.2.2.2.1, n, .inr (.inl (fun j => Int64.ofInt (f (j : Int)))))
  | .inr (.inr (.inr (n, g))) => .inl (G.2.2.2.2, n, .inr (.inr (.inr (.inr (fun j => (g j).map (fun k => G.1 + k))))))
def wl (G : GT) (sh : List Ob) (σ : Sg) : va_W := sh.mapIdx (fun a o => (G.1 + a, ent G (σ a) o))
abbrev tysG (G : GT) : List (ClassId × FieldType) := [(G.2.2.1, .int), (G.2.2.2.1, .long), (G.2.2.2.2, .object "LeastRows$State")]
def up (σ : Sg) (a : Nat) (i : Int) (z : Int) : Sg := fun b j => if b = a then (if j = i then z else σ b j) else σ b j
theorem up_ne {σ : Sg} {a b : Nat} {i z : Int} (h : b ≠ a) : up σ a i z b = σ b := by funext j; simp [up, h]
theorem up_eq {σ : Sg} {a : Nat} {i z : Int} : up σ a i z a i = z := by simp [up]
theorem up_at {σ : Sg} {a : Nat} {i z j : Int} : up σ a i z a j = if j = i then z else σ a j := by simp [up]
theorem wl_get {G : GT} {sh : List Ob} {σ : Sg} {a : Nat} {o : Ob} (h : sh[a]? = some o) : (wl G sh σ)[a]? = some (G.1 + a, ent G (σ a) o) := by
  simp [wl, List.getElem?_mapIdx, h]
theorem wl_some {G : GT} {sh : List Ob} {σ : Sg} {a : Nat} {q : Nat × va_E} (h : (wl G sh σ)[a]? = some q) : ∃ o, sh[a]? = some o ∧ q = (G.1 + a, ent G (σ a) o) := by
  simp only [wl, List.getElem?_mapIdx, Option.map_eq_some_iff] at h
  obtain ⟨o, h1, h2⟩ := h
  exact ⟨o, h1, h2.symm⟩
def Aq (G : GT) : Nat → Prop := fun q => G.1 ≤ q
theorem wl_D {G : GT} {sh : List Ob} {σ : Sg} : va_D (Aq G) (wl G sh σ) := by
  refine ⟨fun i j p q hi hj hpq => ?_, fun k q hk => ?_⟩
  · obtain ⟨o, -, rfl⟩ := wl_some hi
    obtain ⟨o', -, rfl⟩ := wl_some hj
    exact Nat.add_left_cancel hpq
  · obtain ⟨o, -, rfl⟩ := wl_some hk
    exact Nat.le_add_right _ _
theorem wl_set {G : GT} {sh : List Ob} {σ σ' : Sg} {a : Nat} {o o' : Ob} (h : sh[a]? = some o) (hσ : ∀ b, b ≠ a → σ' b = σ b) : (wl G sh σ).set a (G.1 + a, ent G (σ' a) o') = wl G (sh.set a o') σ' := by
  have hl := (List.getElem?_eq_some_iff.mp h).1
  apply List.ext_getElem?
  intro k
  by_cases hk : k = a
  · subst hk
    rw [List.getElem?_set_self (by simpa [wl] using hl)]
    rw [wl_get (List.getElem?_set_self hl)]
  · rw [List.getElem?_set_ne (Ne.symm hk)]
    simp only [wl, List.getElem?_mapIdx, List.getElem?_set_ne (Ne.symm hk), hσ k hk]
theorem set_same {sh : List Ob} {a : Nat} {o : Ob} (h : sh[a]? = some o) : sh.set a o = sh := by
  apply List.ext_getElem?
  intro k
  by_cases hk : k = a
  · subst hk
    rw [List.getElem?_set_self (List.getElem?_eq_some_iff.mp h).1, h]
  · rw [List.getElem?_set_ne (Ne.symm hk)]
theorem wl_set0 {G : GT} {sh : List Ob} {σ σ' : Sg} {a : Nat} {o : Ob} (h : sh[a]? = some o) (hσ : ∀ b, b ≠ a → σ' b = σ b) : (wl G sh σ).set a (G.1 + a, ent G (σ' a) o) = wl G sh σ' := by
  rw [wl_set h hσ, set_same h]
theorem wl_push {G : GT} {sh : List Ob} {σ : Sg} {o : Ob} {q : Nat} (hq : q = G.1 + sh.length) : wl G sh σ ++ [(q, ent G (σ sh.length) o)] = wl G (sh ++ [o]) σ := by
  subst hq
  simp [wl, List.mapIdx_append]
def Tb (G : GT) (s : State) : Prop := va_K G.2.1 vwCl (tysG G) s ∧ (∀ w ∈ TBG, w.before #[] s = true) ∧ (∀ w ∈ NWL, va_Nw w s) ∧ G.1 ≤ s.heap.size
def Hw (G : GT) (ex : Bool) (sh : List Ob) (σ : Sg) (H : Heap) : Prop := va_P G.2.1 vwCl (wl G sh σ) H ∧ (ex = true → H.size = G.1 + sh.length)
abbrev MI : Type := MethodName × ByteArray × Nat × Option FieldType
def rmD (d mc ms : Nat) : Room := { frames := d, cells := mc, slots := ms, locals := 40 * d }
def Qn (G : GT) (ex : Bool) (sh : List Ob) (Post : Option Value → Sg → Prop) : Array Value → State → Outcome → State → Prop := fun _ st oc t =>
  (∃ (r : Option Value) (σ' : Sg), oc = .returned r ∧ Post r σ' ∧ Hw G ex sh σ' t.heap) ∧ va_F (Aq G) st t
def Pn (G : GT) (ex : Bool) (sh : List Ob) (args : List Value) (σ : Sg) : Array Value → State → Prop := fun a U => a = args.toArray ∧ Tb G U ∧ Hw G ex sh σ U.heap
def Ct (G : GT) (M : MI) (d mc ms : Nat) (ex : Bool) (sh sh' : List Ob) (args : List Value) (σ : Sg) (Post : Option Value → Sg → Prop) : Prop :=
  ∀ l : Launch, Met l M.1 [Cond.code M.1 M.2.1 M.2.2.1 M.2.2.2] (rmD d mc ms) (Pn G ex sh args σ) (Qn G ex sh' Post) mc ms (Aq G)
abbrev ET : Type := Launch → State → Array Value → Code → Prop
abbrev ZT : Type := List Frame → Array Value → State → State → Prop
def Fx (G : GT) (M : MI) (E : ET) (ex : Bool) (sh : List Ob) (σ : Sg) (lv : List (Nat × Value)) (p : Program) (l : Launch) (s : State) (m : MethodId) (args : Array Value) (meth : Method) (c : Code) (H : Heap) (locs : List Loc) (ls : Array Slot) : Prop :=
  p.tables.exec = Jvm.exec ∧ c.code = M.2.1 ∧ c.maxLocals = M.2.2.1 ∧ meth.sig.returnType = M.2.2.2 ∧ s.vm.findClass M.1.cls = some m.cls ∧ (∀ w ∈ TBG, w.before args s = true) ∧ Tb G s ∧ Hw G ex sh σ H ∧ va_S (Aq G) s.heap H locs ∧ lv_has ls M.2.2.1 lv ∧ meth.locks = false ∧ meth.name = M.1.name ∧ E l s args c
def Rn (G : GT) (M : MI) (R : Room) (E : ET) (Z : ZT) (ex : Bool) (sh : List Ob) (k n : Nat) (pc : Nat) (lv : List (Nat × Value)) (st : List Value) (σ : Sg) : Prop :=
  ∀ (p : Program) (l : Launch) (e : Env) (s : State) (m : MethodId) (args : Array Value) (below : List Frame) (meth : Method) (c : Code) (H : Heap) (locs : List Loc) (ls : Array Slot),
    Fx G M E ex sh σ lv p l s m args meth c H locs ls → W p l e R s m args below meth c H locs k n (Z below args s) (F0 m pc ls st)
/-! numbers -/
theorem oI {z : Int} (h1 : -2147483648 ≤ z) (h2 : z ≤ 2147483647) : (Int32.ofInt z).toInt = z := Int32.toInt_ofInt_of_le (by omega) (by omega)
theorem oI_lt {x y : Int} (h : -2147483648 ≤ x ∧ x ≤ 2147483647 ∧ -2147483648 ≤ y ∧ y ≤ 2147483647) : Int32.ofInt x < Int32.ofInt y ↔ x < y := by
  rw [Int32.lt_iff_toInt_lt, oI h.1 h.2.1, oI h.2.2.1 h.2.2.2]
theorem oI_le {x y : Int} (h : -2147483648 ≤ x ∧ x ≤ 2147483647 ∧ -2147483648 ≤ y ∧ y ≤ 2147483647) : Int32.ofInt x ≤ Int32.ofInt y ↔ x ≤ y := by
  rw [Int32.le_iff_toInt_le, oI h.1 h.2.1, oI h.2.2.1 h.2.2.2]
theorem oI_eq {x y : Int} (h : -2147483648 ≤ x ∧ x ≤ 2147483647 ∧ -2147483648 ≤ y ∧ y ≤ 2147483647) : Int32.ofInt x = Int32.ofInt y ↔ x = y := by
  rw [← Int32.toInt_inj, oI h.1 h.2.1, oI h.2.2.1 h.2.2.2]
theorem oI_0 : (0 : Int32) = Int32.ofInt 0 := rfl
theorem oI_nat {z : Int} (h1 : 0 ≤ z) (h2 : z ≤ 2147483647) : ((Int32.ofInt z).toNatClampNeg : Int) = z := by
  rw [Int32.toNatClampNeg_ofInt_of_le (by omega) (by omega)]
  omega
theorem oI_in {z : Int} {n : Nat} (h : 0 ≤ z ∧ z < (n : Int) ∧ (n : Int) ≤ 2147483647) : vp_in (Int32.ofInt z) n := by
  have h1 := oI_nat h.1 (by omega)
  rintro (q | q)
  · rw [oI_0, oI_lt (by omega)] at q
    omega
  · omega
/-! locals -/
def lins (i : Nat) (v : Value) : List (Nat × Value) → List (Nat × Value)
  | [] => [(i, v)]
  | q :: t => bif Nat.ble i q.1 then (i, v) :: q :: t else q :: lins i v t
theorem lins_mem {i : Nat} {v : Value} {q : Nat × Value} : ∀ {l : List (Nat × Value)}, q ∈ lins i v l → q ∈ (i, v) :: l
  | [], h => h
  | a :: t, h => by
    unfold lins at h
    cases hb : Nat.ble i a.1 with
    | true => rw [hb] at h; exact h
    | false =>
      rw [hb] at h
      rcases List.mem_cons.mp h with e | h
      · exact List.mem_cons_of_mem _ (by rw [e]; exact List.mem_cons_self)
      · rcases List.mem_cons.mp (lins_mem h) with e | h
        · exact by rw [e]; exact List.mem_cons_self
        · exact List.mem_cons_of_mem _ (List.mem_cons_of_mem _ h)
theorem lv_ins {ls : Array Slot} {nL i : Nat} {v : Value} {F lv' : List (Nat × Value)} (h : lv_has ls nL ((i, v) :: F)) (hl : lins i v F = lv') : lv_has ls nL lv' :=
  ⟨h.1, h.2.1, fun q hq => h.2.2 q (lins_mem (by rw [hl]; exact hq))⟩
theorem lkp_mem {i : Nat} {v : Value} : ∀ {lv : List (Nat × Value)}, lv.lookup i = some v → (i, v) ∈ lv
  | [], h => by simp at h
  | (j, w) :: t, h => by
    by_cases hj : i = j
    · subst hj
      simp at h
      subst h
      exact List.mem_cons_self
    · have hb : (i == j) = false := by simpa using hj
      rw [List.lookup_cons, hb] at h
      exact List.mem_cons_of_mem _ (lkp_mem h)
theorem lkp {ls : Array Slot} {nL i : Nat} {v : Value} {lv : List (Nat × Value)} (h : lv_has ls nL lv) (hl : lv.lookup i = some v) : ls[i]? = some (.val v) := h.2.2 (i, v) (lkp_mem hl)
theorem Fx.lv {G : GT} {M : MI} {E : ET} {ex : Bool} {sh : List Ob} {σ : Sg} {lv lv' : List (Nat × Value)} {p : Program} {l : Launch} {s : State} {m : MethodId} {args : Array Value} {meth : Method} {c : Code} {H : Heap} {locs : List Loc} {ls ls' : Array Slot}
    (F : Fx G M E ex sh σ lv p l s m args meth c H locs ls) (h : lv_has ls' M.2.2.1 lv') : Fx G M E ex sh σ lv' p l s m args meth c H locs ls' := by
  obtain ⟨a1, a2, a3, a4, a5, a6, a7, a8, a9, a10, a11⟩ := F
  exact ⟨a1, a2, a3, a4, a5, a6, a7, a8, a9, h, a11⟩
theorem Fx.hp {G : GT} {M : MI} {E : ET} {ex : Bool} {sh sh' : List Ob} {σ σ' : Sg} {lv : List (Nat × Value)} {p : Program} {l : Launch} {s : State} {m : MethodId} {args : Array Value} {meth : Method} {c : Code} {H H' : Heap} {locs locs' : List Loc} {ls : Array Slot}
    (F : Fx G M E ex sh σ lv p l s m args meth c H locs ls) (h : Hw G ex sh' σ' H') (h2 : va_S (Aq G) s.heap H' locs') : Fx G M E ex sh' σ' lv p l s m args meth c H' locs' ls := by
  obtain ⟨a1, a2, a3, a4, a5, a6, a7, a8, a9, a10, a11⟩ := F
  exact ⟨a1, a2, a3, a4, a5, a6, a7, h, h2, a10, a11⟩
theorem Fx.wd {G : GT} {M : MI} {E : ET} {ex : Bool} {sh : List Ob} {σ : Sg} {lv : List (Nat × Value)} {p : Program} {l : Launch} {s : State} {m : MethodId} {args : Array Value} {meth : Method} {c : Code} {H : Heap} {locs : List Loc} {ls : Array Slot}
    (F : Fx G M E ex sh σ lv p l s m args meth c H locs ls) : ∀ w ∈ TBG, w.before args s = true := F.2.2.2.2.2.1
theorem Fx.own {G : GT} {M : MI} {E : ET} {ex : Bool} {sh : List Ob} {σ : Sg} {lv : List (Nat × Value)} {p : Program} {l : Launch} {s : State} {m : MethodId} {args : Array Value} {meth : Method} {c : Code} {H : Heap} {locs : List Loc} {ls : Array Slot}
    (F : Fx G M E ex sh σ lv p l s m args meth c H locs ls) : s.vm.findClass M.1.cls = some m.cls := F.2.2.2.2.1
theorem Fx.tb {G : GT} {M : MI} {E : ET} {ex : Bool} {sh : List Ob} {σ : Sg} {lv : List (Nat × Value)} {p : Program} {l : Launch} {s : State} {m : MethodId} {args : Array Value} {meth : Method} {c : Code} {H : Heap} {locs : List Loc} {ls : Array Slot}
    (F : Fx G M E ex sh σ lv p l s m args meth c H locs ls) : Tb G s := F.2.2.2.2.2.2.1
theorem Fx.hw {G : GT} {M : MI} {E : ET} {ex : Bool} {sh : List Ob} {σ : Sg} {lv : List (Nat × Value)} {p : Program} {l : Launch} {s : State} {m : MethodId} {args : Array Value} {meth : Method} {c : Code} {H : Heap} {locs : List Loc} {ls : Array Slot}
    (F : Fx G M E ex sh σ lv p l s m args meth c H locs ls) : Hw G ex sh σ H := F.2.2.2.2.2.2.2.1
theorem Fx.fs {G : GT} {M : MI} {E : ET} {ex : Bool} {sh : List Ob} {σ : Sg} {lv : List (Nat × Value)} {p : Program} {l : Launch} {s : State} {m : MethodId} {args : Array Value} {meth : Method} {c : Code} {H : Heap} {locs : List Loc} {ls : Array Slot}
    (F : Fx G M E ex sh σ lv p l s m args meth c H locs ls) : va_S (Aq G) s.heap H locs := F.2.2.2.2.2.2.2.2.1
theorem Fx.hl {G : GT} {M : MI} {E : ET} {ex : Bool} {sh : List Ob} {σ : Sg} {lv : List (Nat × Value)} {p : Program} {l : Launch} {s : State} {m : MethodId} {args : Array Value} {meth : Method} {c : Code} {H : Heap} {locs : List Loc} {ls : Array Slot}
    (F : Fx G M E ex sh σ lv p l s m args meth c H locs ls) : lv_has ls M.2.2.1 lv := F.2.2.2.2.2.2.2.2.2.1
theorem Fx.lk {G : GT} {M : MI} {E : ET} {ex : Bool} {sh : List Ob} {σ : Sg} {lv : List (Nat × Value)} {p : Program} {l : Launch} {s : State} {m : MethodId} {args : Array Value} {meth : Method} {c : Code} {H : Heap} {locs : List Loc} {ls : Array Slot}
    (F : Fx G M E ex sh σ lv p l s m args meth c H locs ls) : meth.locks = false := F.2.2.2.2.2.2.2.2.2.2.1
section ROWS
variable {G : GT} {M : MI} {R : Room} {E : ET} {Z : ZT} {ex : Bool} {sh : List Ob} {k n : Nat} {pc : Nat} {lv lv' : List (Nat × Value)} {st : List Value} {σ : Sg}

theorem r_iconst {z : Int} (hdg : decode M.2.1 pc = .ok (.iconst z, 1))  (kk : Rn G M R E Z ex sh k n (pc + 1) lv (I z :: st) σ) : Rn G M R E Z ex sh k n pc lv st σ := fun p l e s m args below meth c H locs ls F => lv_iconst F.1 F.2.1 hdg rfl  (kk p l e s m args below meth c H locs ls F)
theorem r_bipush {z : Int} (hdg : decode M.2.1 pc = .ok (.bipush z, 2)) (hv : (Int8.ofInt z).toInt32 = Int32.ofInt z) (kk : Rn G M R E Z ex sh k n (pc + 2) lv (I z :: st) σ) : Rn G M R E Z ex sh k n pc lv st σ := fun p l e s m args below meth c H locs ls F => lv_bipush F.1 F.2.1 hdg hv (kk p l e s m args below meth c H locs ls F)
theorem r_sipush {z : Int} (hdg : decode M.2.1 pc = .ok (.sipush z, 3)) (hv : (Int16.ofInt z).toInt32 = Int32.ofInt z) (kk : Rn G M R E Z ex sh k n (pc + 3) lv (I z :: st) σ) : Rn G M R E Z ex sh k n pc lv st σ := fun p l e s m args below meth c H locs ls F => lv_sipush F.1 F.2.1 hdg hv (kk p l e s m args below meth c H locs ls F)
theorem r_lconst {q : Fin 2} {z : Int} (hdg : decode M.2.1 pc = .ok (.lconst q, 1)) (hv : Int64.ofNat (q : Nat) = Int64.ofInt z) (kk : Rn G M R E Z ex sh k n (pc + 1) lv (Lg z :: st) σ) : Rn G M R E Z ex sh k n pc lv st σ := fun p l e s m args below meth c H locs ls F => lv_lconst F.1 F.2.1 hdg hv (kk p l e s m args below meth c H locs ls F)
theorem r_dconst0  (hdg : decode M.2.1 pc = .ok (.dconst 0, 1))  (kk : Rn G M R E Z ex sh k n (pc + 1) lv (Value.double FP.dconst0 :: st) σ) : Rn G M R E Z ex sh k n pc lv st σ := fun p l e s m args below meth c H locs ls F => lv_dconst0 F.1 F.2.1 hdg  (kk p l e s m args below meth c H locs ls F)
theorem r_dconst1  (hdg : decode M.2.1 pc = .ok (.dconst 1, 1))  (kk : Rn G M R E Z ex sh k n (pc + 1) lv (Value.double FP.dconst1 :: st) σ) : Rn G M R E Z ex sh k n pc lv st σ := fun p l e s m args below meth c H locs ls F => lv_dconst1 F.1 F.2.1 hdg  (kk p l e s m args below meth c H locs ls F)
theorem r_ldc {z : Int} {idx : Nat} (hdg : decode M.2.1 pc = .ok (.ldc idx, 2)) (hw : Cond.constant M.1.cls idx (Int32.ofInt z) ∈ TBG) (kk : Rn G M R E Z ex sh k n (pc + 2) lv (I z :: st) σ) : Rn G M R E Z ex sh k n pc lv st σ := fun p l e s m args below meth c H locs ls F => lv_ldc F.1 F.2.1 F.own (F.wd _ hw) hdg (kk p l e s m args below meth c H locs ls F)
theorem r_ldc2 {z : Int} {idx : Nat} (hdg : decode M.2.1 pc = .ok (.ldc2_w idx, 3)) (hw : Cond.constantLong M.1.cls idx (Int64.ofInt z) ∈ TBG) (kk : Rn G M R E Z ex sh k n (pc + 3) lv (Lg z :: st) σ) : Rn G M R E Z ex sh k n pc lv st σ := fun p l e s m args below meth c H locs ls F => lv_ldc2 F.1 F.2.1 F.own (F.wd _ hw) hdg (kk p l e s m args below meth c H locs ls F)
theorem r_ldc2d {z : UInt64} {idx : Nat} (hdg : decode M.2.1 pc = .ok (.ldc2_w idx, 3)) (hw : Cond.constantDouble M.1.cls idx z ∈ TBG) (kk : Rn G M R E Z ex sh k n (pc + 3) lv (.double z :: st) σ) : Rn G M R E Z ex sh k n pc lv st σ := fun p l e s m args below meth c H locs ls F => lv_ldc2d F.1 F.2.1 F.own (F.wd _ hw) hdg (kk p l e s m args below meth c H locs ls F)
theorem r_iload_n {q : Fin 4} {i : Nat} {x : Int} (hdg : decode M.2.1 pc = .ok (.iload_n q, 1)) (hi : (q : Nat) = i) (hl : lv.lookup i = some (I x)) (kk : Rn G M R E Z ex sh k n (pc + 1) lv (I x :: st) σ) : Rn G M R E Z ex sh k n pc lv st σ := fun p l e s m args below meth c H locs ls F => lv_iload_n F.1 F.2.1 hdg hi (lkp F.hl hl) (kk p l e s m args below meth c H locs ls F)
theorem r_iload {i : Nat} {x : Int} (hdg : decode M.2.1 pc = .ok (.iload i, 2)) (hl : lv.lookup i = some (I x)) (kk : Rn G M R E Z ex sh k n (pc + 2) lv (I x :: st) σ) : Rn G M R E Z ex sh k n pc lv st σ := fun p l e s m args below meth c H locs ls F => lv_iload F.1 F.2.1 hdg (lkp F.hl hl) (kk p l e s m args below meth c H locs ls F)
theorem r_istore_n {q : Fin 4} {i : Nat} {x : Int} (hdg : decode M.2.1 pc = .ok (.istore_n q, 1)) (hi : (q : Nat) = i) (hn : i < M.2.2.1) (hl : lins i (I x) (lv.filter (fun q => !(q.1 == i) && !(q.1 + 1 == i && q.2.category == 2))) = lv') (kk : Rn G M R E Z ex sh k n (pc + 1) lv' st σ) : Rn G M R E Z ex sh k n pc lv ((I x) :: st) σ := fun p l e s m args below meth c H locs ls F => lv_istore_n F.1 F.2.1 hdg hi F.hl hn rfl (fun ls' h => kk p l e s m args below meth c H locs ls' (F.lv (lv_ins h hl)))
theorem r_istore {i : Nat} {x : Int} (hdg : decode M.2.1 pc = .ok (.istore i, 2)) (hn : i < M.2.2.1) (hl : lins i (I x) (lv.filter (fun q => !(q.1 == i) && !(q.1 + 1 == i && q.2.category == 2))) = lv') (kk : Rn G M R E Z ex sh k n (pc + 2) lv' st σ) : Rn G M R E Z ex sh k n pc lv ((I x) :: st) σ := fun p l e s m args below meth c H locs ls F => lv_istore F.1 F.2.1 hdg F.hl hn rfl (fun ls' h => kk p l e s m args below meth c H locs ls' (F.lv (lv_ins h hl)))
theorem r_aload_n {q : Fin 4} {i : Nat} {x : Nat} (hdg : decode M.2.1 pc = .ok (.aload_n q, 1)) (hi : (q : Nat) = i) (hl : lv.lookup i = some (Rf G x)) (kk : Rn G M R E Z ex sh k n (pc + 1) lv (Rf G x :: st) σ) : Rn G M R E Z ex sh k n pc lv st σ := fun p l e s m args below meth c H locs ls F => lv_aload_n F.1 F.2.1 hdg hi (lkp F.hl hl) (kk p l e s m args below meth c H locs ls F)
theorem r_aload {i : Nat} {x : Nat} (hdg : decode M.2.1 pc = .ok (.aload i, 2)) (hl : lv.lookup i = some (Rf G x)) (kk : Rn G M R E Z ex sh k n (pc + 2) lv (Rf G x :: st) σ) : Rn G M R E Z ex sh k n pc lv st σ := fun p l e s m args below meth c H locs ls F => lv_aload F.1 F.2.1 hdg (lkp F.hl hl) (kk p l e s m args below meth c H locs ls F)
theorem r_astore_n {q : Fin 4} {i : Nat} {x : Nat} (hdg : decode M.2.1 pc = .ok (.astore_n q, 1)) (hi : (q : Nat) = i) (hn : i < M.2.2.1) (hl : lins i (Rf G x) (lv.filter (fun q => !(q.1 == i) && !(q.1 + 1 == i && q.2.category == 2))) = lv') (kk : Rn G M R E Z ex sh k n (pc + 1) lv' st σ) : Rn G M R E Z ex sh k n pc lv ((Rf G x) :: st) σ := fun p l e s m args below meth c H locs ls F => lv_astore_n F.1 F.2.1 hdg hi F.hl hn rfl (fun ls' h => kk p l e s m args below meth c H locs ls' (F.lv (lv_ins h hl)))
theorem r_astore {i : Nat} {x : Nat} (hdg : decode M.2.1 pc = .ok (.astore i, 2)) (hn : i < M.2.2.1) (hl : lins i (Rf G x) (lv.filter (fun q => !(q.1 == i) && !(q.1 + 1 == i && q.2.category == 2))) = lv') (kk : Rn G M R E Z ex sh k n (pc + 2) lv' st σ) : Rn G M R E Z ex sh k n pc lv ((Rf G x) :: st) σ := fun p l e s m args below meth c H locs ls F => lv_astore F.1 F.2.1 hdg F.hl hn rfl (fun ls' h => kk p l e s m args below meth c H locs ls' (F.lv (lv_ins h hl)))
theorem r_lload_n {q : Fin 4} {i : Nat} {x : Int} (hdg : decode M.2.1 pc = .ok (.lload_n q, 1)) (hi : (q : Nat) = i) (hl : lv.lookup i = some (Lg x)) (kk : Rn G M R E Z ex sh k n (pc + 1) lv (Lg x :: st) σ) : Rn G M R E Z ex sh k n pc lv st σ := fun p l e s m args below meth c H locs ls F => lv_lload_n F.1 F.2.1 hdg hi (lkp F.hl hl) (kk p l e s m args below meth c H locs ls F)
theorem r_lload {i : Nat} {x : Int} (hdg : decode M.2.1 pc = .ok (.lload i, 2)) (hl : lv.lookup i = some (Lg x)) (kk : Rn G M R E Z ex sh k n (pc + 2) lv (Lg x :: st) σ) : Rn G M R E Z ex sh k n pc lv st σ := fun p l e s m args below meth c H locs ls F => lv_lload F.1 F.2.1 hdg (lkp F.hl hl) (kk p l e s m args below meth c H locs ls F)
theorem r_lstore_n {q : Fin 4} {i : Nat} {x : Int} (hdg : decode M.2.1 pc = .ok (.lstore_n q, 1)) (hi : (q : Nat) = i) (hn : i + 1 < M.2.2.1) (hl : lins i (Lg x) (lv.filter (fun q => !(q.1 == i) && (!(q.1 == i + 1) && !(q.1 + 1 == i && q.2.category == 2)))) = lv') (kk : Rn G M R E Z ex sh k n (pc + 1) lv' st σ) : Rn G M R E Z ex sh k n pc lv ((Lg x) :: st) σ := fun p l e s m args below meth c H locs ls F => lv_lstore_n F.1 F.2.1 hdg hi F.hl hn rfl (fun ls' h => kk p l e s m args below meth c H locs ls' (F.lv (lv_ins h hl)))
theorem r_lstore {i : Nat} {x : Int} (hdg : decode M.2.1 pc = .ok (.lstore i, 2)) (hn : i + 1 < M.2.2.1) (hl : lins i (Lg x) (lv.filter (fun q => !(q.1 == i) && (!(q.1 == i + 1) && !(q.1 + 1 == i && q.2.category == 2)))) = lv') (kk : Rn G M R E Z ex sh k n (pc + 2) lv' st σ) : Rn G M R E Z ex sh k n pc lv ((Lg x) :: st) σ := fun p l e s m args below meth c H locs ls F => lv_lstore F.1 F.2.1 hdg F.hl hn rfl (fun ls' h => kk p l e s m args below meth c H locs ls' (F.lv (lv_ins h hl)))
theorem r_dload_n {q : Fin 4} {i : Nat} {x : UInt64} (hdg : decode M.2.1 pc = .ok (.dload_n q, 1)) (hi : (q : Nat) = i) (hl : lv.lookup i = some (.double x)) (kk : Rn G M R E Z ex sh k n (pc + 1) lv (.double x :: st) σ) : Rn G M R E Z ex sh k n pc lv st σ := fun p l e s m args below meth c H locs ls F => lv_dload_n F.1 F.2.1 hdg hi (lkp F.hl hl) (kk p l e s m args below meth c H locs ls F)
theorem r_dload {i : Nat} {x : UInt64} (hdg : decode M.2.1 pc = .ok (.dload i, 2)) (hl : lv.lookup i = some (.double x)) (kk : Rn G M R E Z ex sh k n (pc + 2) lv (.double x :: st) σ) : Rn G M R E Z ex sh k n pc lv st σ := fun p l e s m args below meth c H locs ls F => lv_dload F.1 F.2.1 hdg (lkp F.hl hl) (kk p l e s m args below meth c H locs ls F)
theorem r_dstore_n {q : Fin 4} {i : Nat} {x : UInt64} (hdg : decode M.2.1 pc = .ok (.dstore_n q, 1)) (hi : (q : Nat) = i) (hn : i + 1 < M.2.2.1) (hl : lins i (.double x) (lv.filter (fun q => !(q.1 == i) && (!(q.1 == i + 1) && !(q.1 + 1 == i && q.2.category == 2)))) = lv') (kk : Rn G M R E Z ex sh k n (pc + 1) lv' st σ) : Rn G M R E Z ex sh k n pc lv ((.double x) :: st) σ := fun p l e s m args below meth c H locs ls F => lv_dstore_n F.1 F.2.1 hdg hi F.hl hn rfl (fun ls' h => kk p l e s m args below meth c H locs ls' (F.lv (lv_ins h hl)))
theorem r_dstore {i : Nat} {x : UInt64} (hdg : decode M.2.1 pc = .ok (.dstore i, 2)) (hn : i + 1 < M.2.2.1) (hl : lins i (.double x) (lv.filter (fun q => !(q.1 == i) && (!(q.1 == i + 1) && !(q.1 + 1 == i && q.2.category == 2)))) = lv') (kk : Rn G M R E Z ex sh k n (pc + 2) lv' st σ) : Rn G M R E Z ex sh k n pc lv ((.double x) :: st) σ := fun p l e s m args below meth c H locs ls F => lv_dstore F.1 F.2.1 hdg F.hl hn rfl (fun ls' h => kk p l e s m args below meth c H locs ls' (F.lv (lv_ins h hl)))

theorem r_iinc {i : Nat} {z x : Int} (hdg : decode M.2.1 pc = .ok (.iinc i z, 3)) (hn : i < M.2.2.1) (hx : lv.lookup i = some (I x)) (hl : lins i (I (x + z)) (lv.filter (fun q => !(q.1 == i) && !(q.1 + 1 == i && q.2.category == 2))) = lv')
    (kk : Rn G M R E Z ex sh k n (pc + 3) lv' st σ) : Rn G M R E Z ex sh k n pc lv st σ := by
  intro p l e s m args below meth c H locs ls F
  obtain ⟨j, hj⟩ := List.getElem?_of_mem (lkp_mem hx)
  exact lv_iinc (v := Int32.ofInt (x + z)) F.1 F.2.1 hdg F.hl (k := j) hj (Int32.ofInt_add x z).symm hn rfl (fun ls' h => kk p l e s m args below meth c H locs ls' (F.lv (lv_ins h hl)))
theorem r_sub (ks : List Nat) (hl : lv_pick lv ks = lv') (kk : Rn G M R E Z ex sh k n pc lv' st σ) : Rn G M R E Z ex sh k n pc lv st σ := fun p l e s m args below meth c H locs ls F => kk p l e s m args below meth c H locs ls (F.lv (lv_sub F.hl ks hl))
theorem r_goto {off : Int} {tgt : Nat} (hdg : decode M.2.1 pc = .ok (.goto off, 3)) (ht : (pc : Int) + off = (tgt : Int)) (kk : Rn G M R E Z ex sh k n tgt lv st σ) : Rn G M R E Z ex sh k n pc lv st σ := fun p l e s m args below meth c H locs ls F => lv_goto F.1 F.2.1 hdg ht (kk p l e s m args below meth c H locs ls F)

theorem r_iadd {x y : Int} (hdg : decode M.2.1 pc = .ok (.iadd, 1)) (kk : Rn G M R E Z ex sh k n (pc + 1) lv (I (x + y) :: st) σ) : Rn G M R E Z ex sh k n pc lv (I y :: I x :: st) σ := fun p l e s m args below meth c H locs ls F => lv_iadd F.1 F.2.1 hdg (by have h := kk p l e s m args below meth c H locs ls F; rwa [I, Int32.ofInt_add] at h)
theorem r_isub {x y : Int} (hdg : decode M.2.1 pc = .ok (.isub, 1)) (kk : Rn G M R E Z ex sh k n (pc + 1) lv (I (x - y) :: st) σ) : Rn G M R E Z ex sh k n pc lv (I y :: I x :: st) σ := fun p l e s m args below meth c H locs ls F => lv_isub F.1 F.2.1 hdg (by have h := kk p l e s m args below meth c H locs ls F; rwa [I, Int32.ofInt_sub] at h)
theorem r_imul {x y : Int} (hdg : decode M.2.1 pc = .ok (.imul, 1)) (kk : Rn G M R E Z ex sh k n (pc + 1) lv (I (x * y) :: st) σ) : Rn G M R E Z ex sh k n pc lv (I y :: I x :: st) σ := fun p l e s m args below meth c H locs ls F => lv_imul F.1 F.2.1 hdg (by have h := kk p l e s m args below meth c H locs ls F; rwa [I, Int32.ofInt_mul] at h)

theorem oI_div {x y : Int} (h : 0 ≤ x ∧ x ≤ 2147483647 ∧ 0 < y ∧ y ≤ 2147483647) : Int32.ofInt x / Int32.ofInt y = Int32.ofInt (x / y) := by
  have hx : (Int32.ofInt x).toInt = x := oI (by omega) (by omega)
  have hy : (Int32.ofInt y).toInt = y := oI (by omega) (by omega)
  have h1 : 0 ≤ x / y := Int.ediv_nonneg h.1 (by omega)
  have h2 : x / y ≤ x := Int.ediv_le_self y h.1
  have hne : Int32.ofInt y ≠ -1 := fun q => by
    have := congrArg Int32.toInt q
    rw [hy, show (-1 : Int32).toInt = -1 from rfl] at this
    omega
  rw [← Int32.toInt_inj, Int32.toInt_div_of_ne_right _ _ hne, hx, hy, oI (by omega) (by omega), Int.tdiv_eq_ediv_of_nonneg h.1]
theorem r_idiv {x y : Int} (hdg : decode M.2.1 pc = .ok (.idiv, 1)) (h : 0 ≤ x ∧ x ≤ 2147483647 ∧ 0 < y ∧ y ≤ 2147483647) (kk : Rn G M R E Z ex sh k n (pc + 1) lv (I (x / y) :: st) σ) : Rn G M R E Z ex sh k n pc lv (I y :: I x :: st) σ := by
  intro p l e s m args below meth c H locs ls F
  refine lv_idiv F.1 F.2.1 hdg (fun q => ?_) ?_
  · rw [oI_0, oI_eq (by omega)] at q
    omega
  · have h9 := kk p l e s m args below meth c H locs ls F
    rwa [I, ← oI_div h] at h9
theorem r_irem {x y : Int} (hdg : decode M.2.1 pc = .ok (.irem, 1)) (h : 0 ≤ x ∧ x ≤ 2147483647 ∧ 0 < y ∧ y ≤ 2147483647) (kk : Rn G M R E Z ex sh k n (pc + 1) lv (I (x % y) :: st) σ) : Rn G M R E Z ex sh k n pc lv (I y :: I x :: st) σ := by
  intro p l e s m args below meth c H locs ls F
  refine lv_irem F.1 F.2.1 hdg (fun q => ?_) ?_
  · rw [oI_0, oI_eq (by omega)] at q
    omega
  · have h9 := kk p l e s m args below meth c H locs ls F
    have e9 : Int32.ofInt (x % y) = Int32.ofInt x - Int32.ofInt x / Int32.ofInt y * Int32.ofInt y := by
      rw [oI_div h, ← Int32.ofInt_mul, ← Int32.ofInt_sub, Int.emod_def, Int.mul_comm]
    rwa [I, e9] at h9

theorem r_icmp_lt {x y : Int} {off : Int} {tgt : Nat} (hdg : decode M.2.1 pc = .ok (.if_icmp .lt off, 3)) (ht : (pc : Int) + off = (tgt : Int)) (h : -2147483648 ≤ x ∧ x ≤ 2147483647 ∧ -2147483648 ≤ y ∧ y ≤ 2147483647)
    (kt : x < y → Rn G M R E Z ex sh k n tgt lv st σ) (kf : ¬ (x < y) → Rn G M R E Z ex sh k n (pc + 3) lv st σ) : Rn G M R E Z ex sh k n pc lv (I y :: I x :: st) σ := by
  intro p l e s m args below meth c H locs ls F
  refine lv_icmp_lt F.1 F.2.1 hdg ht (fun q => ?_) (fun q => ?_)
  · skip
    rw [oI_lt (by omega)] at q
    exact kt (by first | exact q | omega) p l e s m args below meth c H locs ls F
  · skip
    rw [oI_lt (by omega)] at q
    exact kf (by first | exact q | omega) p l e s m args below meth c H locs ls F
theorem r_if_lt {x : Int} {off : Int} {tgt : Nat} (hdg : decode M.2.1 pc = .ok (.ifCond .lt off, 3)) (ht : (pc : Int) + off = (tgt : Int)) (h : -2147483648 ≤ x ∧ x ≤ 2147483647)
    (kt : x < 0 → Rn G M R E Z ex sh k n tgt lv st σ) (kf : ¬ (x < 0) → Rn G M R E Z ex sh k n (pc + 3) lv st σ) : Rn G M R E Z ex sh k n pc lv (I x :: st) σ := by
  intro p l e s m args below meth c H locs ls F
  refine lv_if_lt F.1 F.2.1 hdg ht (fun q => ?_) (fun q => ?_)
  · try rw [oI_0] at q
    rw [oI_lt (by omega)] at q
    exact kt (by first | exact q | omega) p l e s m args below meth c H locs ls F
  · try rw [oI_0] at q
    rw [oI_lt (by omega)] at q
    exact kf (by first | exact q | omega) p l e s m args below meth c H locs ls F
theorem r_icmp_le {x y : Int} {off : Int} {tgt : Nat} (hdg : decode M.2.1 pc = .ok (.if_icmp .le off, 3)) (ht : (pc : Int) + off = (tgt : Int)) (h : -2147483648 ≤ x ∧ x ≤ 2147483647 ∧ -2147483648 ≤ y ∧ y ≤ 2147483647)
    (kt : x ≤ y → Rn G M R E Z ex sh k n tgt lv st σ) (kf : ¬ (x ≤ y) → Rn G M R E Z ex sh k n (pc + 3) lv st σ) : Rn G M R E Z ex sh k n pc lv (I y :: I x :: st) σ := by
  intro p l e s m args below meth c H locs ls F
  refine lv_icmp_le F.1 F.2.1 hdg ht (fun q => ?_) (fun q => ?_)
  · skip
    rw [oI_le (by omega)] at q
    exact kt (by first | exact q | omega) p l e s m args below meth c H locs ls F
  · skip
    rw [oI_le (by omega)] at q
    exact kf (by first | exact q | omega) p l e s m args below meth c H locs ls F
theorem r_if_le {x : Int} {off : Int} {tgt : Nat} (hdg : decode M.2.1 pc = .ok (.ifCond .le off, 3)) (ht : (pc : Int) + off = (tgt : Int)) (h : -2147483648 ≤ x ∧ x ≤ 2147483647)
    (kt : x ≤ 0 → Rn G M R E Z ex sh k n tgt lv st σ) (kf : ¬ (x ≤ 0) → Rn G M R E Z ex sh k n (pc + 3) lv st σ) : Rn G M R E Z ex sh k n pc lv (I x :: st) σ := by
  intro p l e s m args below meth c H locs ls F
  refine lv_if_le F.1 F.2.1 hdg ht (fun q => ?_) (fun q => ?_)
  · try rw [oI_0] at q
    rw [oI_le (by omega)] at q
    exact kt (by first | exact q | omega) p l e s m args below meth c H locs ls F
  · try rw [oI_0] at q
    rw [oI_le (by omega)] at q
    exact kf (by first | exact q | omega) p l e s m args below meth c H locs ls F
theorem r_icmp_eq {x y : Int} {off : Int} {tgt : Nat} (hdg : decode M.2.1 pc = .ok (.if_icmp .eq off, 3)) (ht : (pc : Int) + off = (tgt : Int)) (h : -2147483648 ≤ x ∧ x ≤ 2147483647 ∧ -2147483648 ≤ y ∧ y ≤ 2147483647)
    (kt : x = y → Rn G M R E Z ex sh k n tgt lv st σ) (kf : ¬ (x = y) → Rn G M R E Z ex sh k n (pc + 3) lv st σ) : Rn G M R E Z ex sh k n pc lv (I y :: I x :: st) σ := by
  intro p l e s m args below meth c H locs ls F
  refine lv_icmp_eq F.1 F.2.1 hdg ht (fun q => ?_) (fun q => ?_)
  · skip
    rw [oI_eq (by omega)] at q
    exact kt (by first | exact q | omega) p l e s m args below meth c H locs ls F
  · skip
    rw [oI_eq (by omega)] at q
    exact kf (by first | exact q | omega) p l e s m args below meth c H locs ls F
theorem r_if_eq {x : Int} {off : Int} {tgt : Nat} (hdg : decode M.2.1 pc = .ok (.ifCond .eq off, 3)) (ht : (pc : Int) + off = (tgt : Int)) (h : -2147483648 ≤ x ∧ x ≤ 2147483647)
    (kt : x = 0 → Rn G M R E Z ex sh k n tgt lv st σ) (kf : ¬ (x = 0) → Rn G M R E Z ex sh k n (pc + 3) lv st σ) : Rn G M R E Z ex sh k n pc lv (I x :: st) σ := by
  intro p l e s m args below meth c H locs ls F
  refine lv_if_eq F.1 F.2.1 hdg ht (fun q => ?_) (fun q => ?_)
  · try rw [oI_0] at q
    rw [oI_eq (by omega)] at q
    exact kt (by first | exact q | omega) p l e s m args below meth c H locs ls F
  · try rw [oI_0] at q
    rw [oI_eq (by omega)] at q
    exact kf (by first | exact q | omega) p l e s m args below meth c H locs ls F
theorem r_icmp_gt {x y : Int} {off : Int} {tgt : Nat} (hdg : decode M.2.1 pc = .ok (.if_icmp .gt off, 3)) (ht : (pc : Int) + off = (tgt : Int)) (h : -2147483648 ≤ x ∧ x ≤ 2147483647 ∧ -2147483648 ≤ y ∧ y ≤ 2147483647)
    (kt : y < x → Rn G M R E Z ex sh k n tgt lv st σ) (kf : ¬ (y < x) → Rn G M R E Z ex sh k n (pc + 3) lv st σ) : Rn G M R E Z ex sh k n pc lv (I y :: I x :: st) σ := by
  intro p l e s m args below meth c H locs ls F
  refine lv_icmp_gt F.1 F.2.1 hdg ht (fun q => ?_) (fun q => ?_)
  · skip
    rw [oI_lt (by omega)] at q
    exact kt (by first | exact q | omega) p l e s m args below meth c H locs ls F
  · skip
    rw [oI_lt (by omega)] at q
    exact kf (by first | exact q | omega) p l e s m args below meth c H locs ls F
theorem r_if_gt {x : Int} {off : Int} {tgt : Nat} (hdg : decode M.2.1 pc = .ok (.ifCond .gt off, 3)) (ht : (pc : Int) + off = (tgt : Int)) (h : -2147483648 ≤ x ∧ x ≤ 2147483647)
    (kt : 0 < x → Rn G M R E Z ex sh k n tgt lv st σ) (kf : ¬ (0 < x) → Rn G M R E Z ex sh k n (pc + 3) lv st σ) : Rn G M R E Z ex sh k n pc lv (I x :: st) σ := by
  intro p l e s m args below meth c H locs ls F
  refine lv_if_gt F.1 F.2.1 hdg ht (fun q => ?_) (fun q => ?_)
  · try rw [oI_0] at q
    rw [oI_lt (by omega)] at q
    exact kt (by first | exact q | omega) p l e s m args below meth c H locs ls F
  · try rw [oI_0] at q
    rw [oI_lt (by omega)] at q
    exact kf (by first | exact q | omega) p l e s m args below meth c H locs ls F
theorem r_icmp_ge {x y : Int} {off : Int} {tgt : Nat} (hdg : decode M.2.1 pc = .ok (.if_icmp .ge off, 3)) (ht : (pc : Int) + off = (tgt : Int)) (h : -2147483648 ≤ x ∧ x ≤ 2147483647 ∧ -2147483648 ≤ y ∧ y ≤ 2147483647)
    (kt : y ≤ x → Rn G M R E Z ex sh k n tgt lv st σ) (kf : ¬ (y ≤ x) → Rn G M R E Z ex sh k n (pc + 3) lv st σ) : Rn G M R E Z ex sh k n pc lv (I y :: I x :: st) σ := by
  intro p l e s m args below meth c H locs ls F
  refine lv_icmp_ge F.1 F.2.1 hdg ht (fun q => ?_) (fun q => ?_)
  · skip
    rw [oI_le (by omega)] at q
    exact kt (by first | exact q | omega) p l e s m args below meth c H locs ls F
  · skip
    rw [oI_le (by omega)] at q
    exact kf (by first | exact q | omega) p l e s m args below meth c H locs ls F
theorem r_if_ge {x : Int} {off : Int} {tgt : Nat} (hdg : decode M.2.1 pc = .ok (.ifCond .ge off, 3)) (ht : (pc : Int) + off = (tgt : Int)) (h : -2147483648 ≤ x ∧ x ≤ 2147483647)
    (kt : 0 ≤ x → Rn G M R E Z ex sh k n tgt lv st σ) (kf : ¬ (0 ≤ x) → Rn G M R E Z ex sh k n (pc + 3) lv st σ) : Rn G M R E Z ex sh k n pc lv (I x :: st) σ := by
  intro p l e s m args below meth c H locs ls F
  refine lv_if_ge F.1 F.2.1 hdg ht (fun q => ?_) (fun q => ?_)
  · try rw [oI_0] at q
    rw [oI_le (by omega)] at q
    exact kt (by first | exact q | omega) p l e s m args below meth c H locs ls F
  · try rw [oI_0] at q
    rw [oI_le (by omega)] at q
    exact kf (by first | exact q | omega) p l e s m args below meth c H locs ls F
theorem r_icmp_ne {x y : Int} {off : Int} {tgt : Nat} (hdg : decode M.2.1 pc = .ok (.if_icmp .ne off, 3)) (ht : (pc : Int) + off = (tgt : Int)) (h : -2147483648 ≤ x ∧ x ≤ 2147483647 ∧ -2147483648 ≤ y ∧ y ≤ 2147483647)
    (kt : ¬ x = y → Rn G M R E Z ex sh k n tgt lv st σ) (kf : ¬ (¬ x = y) → Rn G M R E Z ex sh k n (pc + 3) lv st σ) : Rn G M R E Z ex sh k n pc lv (I y :: I x :: st) σ := by
  intro p l e s m args below meth c H locs ls F
  refine lv_icmp_ne F.1 F.2.1 hdg ht (fun q => ?_) (fun q => ?_)
  · skip
    rw [oI_eq (by omega)] at q
    exact kt (by first | exact q | omega) p l e s m args below meth c H locs ls F
  · skip
    rw [oI_eq (by omega)] at q
    exact kf (by first | exact q | omega) p l e s m args below meth c H locs ls F
theorem r_if_ne {x : Int} {off : Int} {tgt : Nat} (hdg : decode M.2.1 pc = .ok (.ifCond .ne off, 3)) (ht : (pc : Int) + off = (tgt : Int)) (h : -2147483648 ≤ x ∧ x ≤ 2147483647)
    (kt : ¬ x = 0 → Rn G M R E Z ex sh k n tgt lv st σ) (kf : ¬ (¬ x = 0) → Rn G M R E Z ex sh k n (pc + 3) lv st σ) : Rn G M R E Z ex sh k n pc lv (I x :: st) σ := by
  intro p l e s m args below meth c H locs ls F
  refine lv_if_ne F.1 F.2.1 hdg ht (fun q => ?_) (fun q => ?_)
  · try rw [oI_0] at q
    rw [oI_eq (by omega)] at q
    exact kt (by first | exact q | omega) p l e s m args below meth c H locs ls F
  · try rw [oI_0] at q
    rw [oI_eq (by omega)] at q
    exact kf (by first | exact q | omega) p l e s m args below meth c H locs ls F
end ROWS
end
section
section ROWS2
variable {G : GT} {M : MI} {R : Room} {E : ET} {Z : ZT} {ex : Bool} {sh : List Ob} {k n : Nat} {pc : Nat} {lv lv' : List (Nat × Value)} {st : List Value} {σ : Sg}

theorem cv_set {B : Nat} {fks : List FK} {j : Nat} {fk fk1 : FK} {f : Int → Int} {z : Int} (h : fks[j]? = some fk) : (fks.mapIdx (fun i q => cvF B q (f (i : Int)))).set j (cvF B fk1 z) = (fks.set j fk1).mapIdx (fun i q => cvF B q (if (i : Int) = (j : Int) then z else f (i : Int))) := by
  have hl := (List.getElem?_eq_some_iff.mp h).1
  apply List.ext_getElem?
  intro i
  by_cases hi : i = j
  · subst hi
    rw [List.getElem?_set_self (by simpa using hl), List.getElem?_mapIdx, List.getElem?_set_self hl]
    simp
  · rw [List.getElem?_set_ne (Ne.symm hi), List.getElem?_mapIdx, List.getElem?_mapIdx, List.getElem?_set_ne (Ne.symm hi)]
    have h9 : ¬ (i : Int) = (j : Int) := by omega
    simp [h9]
theorem fk_same {fks : List FK} {j : Nat} {fk : FK} (h : fks[j]? = some fk) : fks.set j fk = fks := by
  apply List.ext_getElem?
  intro k
  by_cases hk : k = j
  · subst hk
    rw [List.getElem?_set_self (List.getElem?_eq_some_iff.mp h).1, h]
  · rw [List.getElem?_set_ne (Ne.symm hk)]
theorem up_row {σ : Sg} {a : Nat} {i z : Int} : up σ a i z a = fun j => if j = i then z else σ a j := by funext j; exact up_at
theorem r_getf {a ci j N idx : Nat} {z : Int} {fks : List FK} {C : String} {T : u_T} {fk : FK} {v : Value} (hdg : decode M.2.1 pc = .ok (.getfield idx, 3)) (hs : sh[a]? = some (.inl (ci, fks))) (hf : fks[j]? = some fk) (hc : vwCl[ci]? = some (C, T, N)) (hj : j < N) (hz : (j : Int) = z)
    (hin : ∀ w ∈ u_ws C T N, w ∈ TBG) (hlink : Cond.fieldLink M.1.cls idx C (T j).2.1 (T j).2.2.1 ∈ TBG) (hC : C = (T j).1) (hv : cvF G.1 fk (σ a z) = v) (kk : Rn G M R E Z ex sh k n (pc + 3) lv (v :: st) σ) : Rn G M R E Z ex sh k n pc lv (Rf G a :: st) σ := by
  intro p l e s m args below meth c H locs ls F
  subst hz hv
  refine va_get (D := G.2.1) (ci := ci) (v := cvF G.1 fk (σ a j)) (C := C) (T := T) (N := N) F.1 F.2.1 F.wd hin F.own F.tb.1 F.hw.1 a (wl_get hs) hc j hj (F.wd _ hlink) (fun x9 h9 => by rw [hC]; exact h9) ?_ hdg (kk p l e s m args below meth c H locs ls F)
  simp [List.getElem?_mapIdx, hf]
theorem r_getI {a ci j N idx : Nat} {z : Int} {fks : List FK} {C : String} {T : u_T} (hdg : decode M.2.1 pc = .ok (.getfield idx, 3)) (hs : sh[a]? = some (.inl (ci, fks))) (hf : fks[j]? = some (.inl false)) (hc : vwCl[ci]? = some (C, T, N)) (hj : j < N) (hz : (j : Int) = z)
    (hin : ∀ w ∈ u_ws C T N, w ∈ TBG) (hlink : Cond.fieldLink M.1.cls idx C (T j).2.1 (T j).2.2.1 ∈ TBG) (hC : C = (T j).1) {x : Int} (hv : σ a z = x) (kk : Rn G M R E Z ex sh k n (pc + 3) lv (I x :: st) σ) : Rn G M R E Z ex sh k n pc lv (Rf G a :: st) σ := r_getf hdg hs hf hc hj hz hin hlink hC (by rw [hv]; rfl) kk
theorem r_getL {a ci j N idx : Nat} {z : Int} {fks : List FK} {C : String} {T : u_T} (hdg : decode M.2.1 pc = .ok (.getfield idx, 3)) (hs : sh[a]? = some (.inl (ci, fks))) (hf : fks[j]? = some (.inl true)) (hc : vwCl[ci]? = some (C, T, N)) (hj : j < N) (hz : (j : Int) = z)
    (hin : ∀ w ∈ u_ws C T N, w ∈ TBG) (hlink : Cond.fieldLink M.1.cls idx C (T j).2.1 (T j).2.2.1 ∈ TBG) (hC : C = (T j).1) {x : Int} (hv : σ a z = x) (kk : Rn G M R E Z ex sh k n (pc + 3) lv (Lg x :: st) σ) : Rn G M R E Z ex sh k n pc lv (Rf G a :: st) σ := r_getf hdg hs hf hc hj hz hin hlink hC (by rw [hv]; rfl) kk
theorem r_getR {a ci j N idx b : Nat} {fks : List FK} {C : String} {T : u_T} (hdg : decode M.2.1 pc = .ok (.getfield idx, 3)) (hs : sh[a]? = some (.inl (ci, fks))) (hf : fks[j]? = some (.inr (some b))) (hc : vwCl[ci]? = some (C, T, N)) (hj : j < N)
    (hin : ∀ w ∈ u_ws C T N, w ∈ TBG) (hlink : Cond.fieldLink M.1.cls idx C (T j).2.1 (T j).2.2.1 ∈ TBG) (hC : C = (T j).1) (kk : Rn G M R E Z ex sh k n (pc + 3) lv (Rf G b :: st) σ) : Rn G M R E Z ex sh k n pc lv (Rf G a :: st) σ := r_getf hdg hs hf hc hj rfl hin hlink hC rfl kk
theorem put_hw {ci a j N : Nat} {w : Int} {fks : List FK} {fk fk1 : FK} {C : String} {T : u_T} {H H1 : Heap} {cell : Cell} {s : State} {own : String} (ty0 : Nat → FieldType) (hK : va_K G.2.1 vwCl (tysG G) s) (hts : ∀ w ∈ TBG, w.before #[] s = true) (hin : ∀ w ∈ u_ws C T N, w ∈ TBG) (hty : ∀ k, k < N → parseFieldDescriptor (T k).2.2.1 = some (ty0 k)) (hnm : ∀ a, a < N → ∀ b, b < N → a ≠ b → (T a).2.1 ≠ (T b).2.1)
    (hF : Hw G ex sh σ H) (hs : sh[a]? = some (.inl (ci, fks))) (hf : fks[j]? = some fk) (hc : vwCl[ci]? = some (C, T, N)) (hj : j < N) (hcell : H[G.1 + a]? = some cell) (e1 : H1[G.1 + a]? = some (cell.setSlot (G.2.1.2 ci j) (cvF G.1 fk1 w))) (e2 : H1.size = H.size) (e3 : ∀ q, q ≠ G.1 + a → H1[q]? = H[q]?) :
    Hw G ex (sh.set a (.inl (ci, fks.set j fk1))) (up σ a j w) H1 := by
  have hap := va_apart (own := own) hts hin ty0 hty hnm hK hc
  refine ⟨?_, fun q => by rw [e2, List.length_set]; exact hF.2 q⟩
  have he := wl_get (G := G) (σ := σ) hs
  obtain ⟨r, h1, cell', q1, q2, q3, q4⟩ := hF.1 a _ he
  cases hcell.symm.trans q1
  have hr : r = (C, T, N) := Option.some.inj (h1.symm.trans hc)
  subst hr
  have hl : j < (fks.mapIdx (fun j fk => cvF G.1 fk (σ a (j : Int)))).length := by
    have := (List.getElem?_eq_some_iff.mp hf).1
    simpa using this
  have e9 := wl_set (G := G) (σ := σ) (σ' := up σ a (j : Int) w) (o' := .inl (ci, fks.set j fk1)) hs (fun b hb => up_ne hb)
  rw [← e9]
  have h8 := hF.1.set (A := Aq G) (e := .inr (ci, (fks.mapIdx (fun j fk => cvF G.1 fk (σ a (j : Int)))).set j (cvF G.1 fk1 w))) wl_D he ⟨_, hc, t_OB.to (V := updV (vp_V (fks.mapIdx (fun j fk => cvF G.1 fk (σ a (j : Int))))) j (cvF G.1 fk1 w)) ⟨_, e1, q2, q3, t_set q4 hap hj _⟩ (fun i _ => vp_updV_set hl _ i)⟩ e3
  rw [cv_set hf] at h8
  rw [up_row]
  exact h8
theorem r_putf {a ci j N idx : Nat} {z w : Int} {fks : List FK} {C : String} {T : u_T} {fk fk1 : FK} {v : Value} {ty : FieldType} (ty0 : Nat → FieldType) (hdg : decode M.2.1 pc = .ok (.putfield idx, 3)) (hs : sh[a]? = some (.inl (ci, fks))) (hf : fks[j]? = some fk) (hc : vwCl[ci]? = some (C, T, N)) (hj : j < N) (hz : (j : Int) = z)
    (hty : ∀ k, k < N → parseFieldDescriptor (T k).2.2.1 = some (ty0 k)) (hnm : ∀ a, a < N → ∀ b, b < N → a ≠ b → (T a).2.1 ≠ (T b).2.1)
    (hin : ∀ w ∈ u_ws C T N, w ∈ TBG) (hlink : Cond.fieldLink M.1.cls idx C (T j).2.1 (T j).2.2.1 ∈ TBG) (hC : C = (T j).1) (hfin : (T j).2.2.2 = false) (hty1 : ty0 j = ty) (hv : cvF G.1 fk1 w = v) (hnar : narrow ty v = v) (hfit : fits ty v = true)
    (kk : Rn G M R E Z ex (sh.set a (.inl (ci, fks.set j fk1))) k n (pc + 3) lv st (up σ a z w)) : Rn G M R E Z ex sh k n pc lv (v :: Rf G a :: st) σ := by
  intro p l e s m args below meth c H locs ls F
  subst hz hv hty1
  obtain ⟨r, h1, cell, q1, q2, q3, q4⟩ := F.hw.1 a _ (wl_get hs)
  have hr : r = (C, T, N) := Option.some.inj (h1.symm.trans hc)
  subst hr
  obtain ⟨hS, hfc, kC, hkC, hkind⟩ := F.tb.1.1 ci _ hc
  obtain ⟨cf, kf, fi, f, hi, hsl⟩ := hS j hj
  have hlay := F.wd _ (hin _ (u_in_lay hj))
  unfold u_lay at hlay
  rw [if_neg (by rw [hfin]; decide)] at hlay
  have hst := (u_facts hfc hkC (u_lays F.wd hin hj) hi).1
  have h6 := u_store hfc hkC hkind hlay hi (hty j hj) hnar hfit
  refine W.putK F.1 F.2.1 (f := f) ⟨F.own, F.wd _ hlink, ⟨_, _, _, by rw [hC]; exact hi⟩, hst⟩ (by rw [q2]; exact h6) q1 q3 (by rw [hsl]; exact k2_hasslot (q4 j hj)) rfl rfl hdg fun H1 e1 e2 e3 => ?_
  rw [hsl] at e1 ⊢
  exact kk p l e s m args below meth c H1 _ ls (F.hp (put_hw (own := M.1.cls) ty0 F.tb.1 F.tb.2.1 hin hty hnm F.hw hs hf hc hj q1 e1 e2 e3) (F.fs.put e2 e3 (Nat.le_add_right _ _)))
theorem r_putI {a ci j N idx : Nat} {z w : Int} {fks : List FK} {C : String} {T : u_T} (ty0 : Nat → FieldType) (hdg : decode M.2.1 pc = .ok (.putfield idx, 3)) (hs : sh[a]? = some (.inl (ci, fks))) (hf : fks[j]? = some (.inl false)) (hc : vwCl[ci]? = some (C, T, N)) (hj : j < N) (hz : (j : Int) = z)
    (hty : ∀ k, k < N → parseFieldDescriptor (T k).2.2.1 = some (ty0 k)) (hnm : ∀ a, a < N → ∀ b, b < N → a ≠ b → (T a).2.1 ≠ (T b).2.1)
    (hin : ∀ w ∈ u_ws C T N, w ∈ TBG) (hlink : Cond.fieldLink M.1.cls idx C (T j).2.1 (T j).2.2.1 ∈ TBG) (hC : C = (T j).1) (hfin : (T j).2.2.2 = false) (hty1 : ty0 j = .int)
    (kk : Rn G M R E Z ex sh k n (pc + 3) lv st (up σ a z w)) : Rn G M R E Z ex sh k n pc lv (I w :: Rf G a :: st) σ := by
  refine r_putf (fk1 := .inl false) ty0 hdg hs hf hc hj hz hty hnm hin hlink hC hfin hty1 rfl rfl rfl ?_
  rw [fk_same hf, set_same hs]
  exact kk
theorem r_putL {a ci j N idx : Nat} {z w : Int} {fks : List FK} {C : String} {T : u_T} (ty0 : Nat → FieldType) (hdg : decode M.2.1 pc = .ok (.putfield idx, 3)) (hs : sh[a]? = some (.inl (ci, fks))) (hf : fks[j]? = some (.inl true)) (hc : vwCl[ci]? = some (C, T, N)) (hj : j < N) (hz : (j : Int) = z)
    (hty : ∀ k, k < N → parseFieldDescriptor (T k).2.2.1 = some (ty0 k)) (hnm : ∀ a, a < N → ∀ b, b < N → a ≠ b → (T a).2.1 ≠ (T b).2.1)
    (hin : ∀ w ∈ u_ws C T N, w ∈ TBG) (hlink : Cond.fieldLink M.1.cls idx C (T j).2.1 (T j).2.2.1 ∈ TBG) (hC : C = (T j).1) (hfin : (T j).2.2.2 = false) (hty1 : ty0 j = .long)
    (kk : Rn G M R E Z ex sh k n (pc + 3) lv st (up σ a z w)) : Rn G M R E Z ex sh k n pc lv (Lg w :: Rf G a :: st) σ := by
  refine r_putf (fk1 := .inl true) ty0 hdg hs hf hc hj hz hty hnm hin hlink hC hfin hty1 rfl rfl rfl ?_
  rw [fk_same hf, set_same hs]
  exact kk
/-- a final reference, in a constructor -/
theorem r_putRF {a ci j N idx b : Nat} {fks : List FK} {C : String} {T : u_T} {fk : FK} {ty : FieldType} (ty0 : Nat → FieldType) (hdg : decode M.2.1 pc = .ok (.putfield idx, 3)) (hs : sh[a]? = some (.inl (ci, fks))) (hf : fks[j]? = some fk) (hc : vwCl[ci]? = some (C, T, N)) (hj : j < N)
    (hty : ∀ k, k < N → parseFieldDescriptor (T k).2.2.1 = some (ty0 k)) (hnm : ∀ a, a < N → ∀ b, b < N → a ≠ b → (T a).2.1 ≠ (T b).2.1)
    (hin : ∀ w ∈ u_ws C T N, w ∈ TBG) (hlink : Cond.fieldLink M.1.cls idx C (T j).2.1 (T j).2.2.1 ∈ TBG) (hC : C = (T j).1) (hfin : (T j).2.2.2 = true) (hin2 : M.1.name = "<init>") (hcl : M.1.cls = C) (hty1 : ty0 j = ty) (hnar : narrow ty (Rf G b) = Rf G b) (hfit : fits ty (Rf G b) = true)
    (kk : Rn G M R E Z ex (sh.set a (.inl (ci, fks.set j (.inr (some b))))) k n (pc + 3) lv st (up σ a j 0)) : Rn G M R E Z ex sh k n pc lv (Rf G b :: Rf G a :: st) σ := by
  intro p l e s m args below meth c H locs ls F
  subst hty1
  obtain ⟨r, h1, cell, q1, q2, q3, q4⟩ := F.hw.1 a _ (wl_get hs)
  have hr : r = (C, T, N) := Option.some.inj (h1.symm.trans hc)
  subst hr
  obtain ⟨hS, hfc, kC, hkC, hkind⟩ := F.tb.1.1 ci _ hc
  obtain ⟨cf, kf, fi, f, hi, hsl⟩ := hS j hj
  have hlay := F.wd _ (hin _ (u_in_lay hj))
  unfold u_lay at hlay
  rw [if_pos hfin] at hlay
  have hst := (u_facts hfc hkC (u_lays F.wd hin hj) hi).1
  have hcf : m.cls = cf := by
    obtain ⟨_, _, c', _, _, _, -, -, hf', -, -, -, hown2, -⟩ := Cond.laysFinal_spec hlay
    have e1 : c' = cf := by have := hi.symm.trans hf'; simp at this; exact this.1.symm
    rw [← hC, ← hcl] at hown2
    rw [← e1]; exact Option.some.inj (F.own.symm.trans hown2)
  have h6 := u_fits hfc hkC hkind (Or.inr hlay) hi (hty j hj) hnar hfit
  refine W.putFinK F.1 F.2.1 F.own (F.wd _ hlink) (by rw [hC]; exact hi) hst hcf (by rw [F.2.2.2.2.2.2.2.2.2.2.2.1]; exact hin2) (by rw [q2]; exact h6) q1 q3 (by rw [hsl]; exact k2_hasslot (q4 j hj)) rfl rfl hdg fun H1 e1 e2 e3 => ?_
  rw [hsl] at e1 ⊢
  exact kk p l e s m args below meth c H1 _ ls (F.hp (put_hw (fk1 := .inr (some b)) (w := 0) (own := M.1.cls) ty0 F.tb.1 F.tb.2.1 hin hty hnm F.hw hs hf hc hj q1 e1 e2 e3) (F.fs.put e2 e3 (Nat.le_add_right _ _)))
theorem r_iald {a N : Nat} {i : Int} (hdg : decode M.2.1 pc = .ok (.iaload, 1)) (hs : sh[a]? = some (.inr (.inl N))) (hi : 0 ≤ i ∧ i < (N : Int) ∧ (N : Int) ≤ 2147483647) {x : Int} (hv : σ a i = x) (kk : Rn G M R E Z ex sh k n (pc + 1) lv (I x :: st) σ) : Rn G M R E Z ex sh k n pc lv (I i :: Rf G a :: st) σ := by
  intro p l e s m args below meth c H locs ls F
  subst hv
  refine va_iald (D := G.2.1) F.1 F.2.1 F.tb.1 F.hw.1 a 0 (wl_get hs) rfl (oI_in hi) hdg ?_
  have h9 := kk p l e s m args below meth c H locs ls F
  show W p l e R s m args below meth c H locs k n (Z below args s) (F0 m (pc + 1) ls (.int (Int32.ofInt (σ a ((Int32.ofInt i).toNatClampNeg : Int))) :: st))
  rw [oI_nat hi.1 (by omega)]
  exact h9
theorem r_lald {a N : Nat} {i : Int} (hdg : decode M.2.1 pc = .ok (.laload, 1)) (hs : sh[a]? = some (.inr (.inr (.inl N)))) (hi : 0 ≤ i ∧ i < (N : Int) ∧ (N : Int) ≤ 2147483647) {x : Int} (hv : σ a i = x) (kk : Rn G M R E Z ex sh k n (pc + 1) lv (Lg x :: st) σ) : Rn G M R E Z ex sh k n pc lv (I i :: Rf G a :: st) σ := by
  intro p l e s m args below meth c H locs ls F
  subst hv
  refine va_lald (D := G.2.1) F.1 F.2.1 F.tb.1 F.hw.1 a 1 (wl_get hs) rfl (oI_in hi) hdg ?_
  have h9 := kk p l e s m args below meth c H locs ls F
  show W p l e R s m args below meth c H locs k n (Z below args s) (F0 m (pc + 1) ls (.long (Int64.ofInt (σ a ((Int32.ofInt i).toNatClampNeg : Int))) :: st))
  rw [oI_nat hi.1 (by omega)]
  exact h9
theorem r_alen {a N : Nat} (hdg : decode M.2.1 pc = .ok (.arraylength, 1)) (hs : sh[a]? = some (.inr (.inl N))) (kk : Rn G M R E Z ex sh k n (pc + 1) lv (I (N : Int) :: st) σ) : Rn G M R E Z ex sh k n pc lv (Rf G a :: st) σ := by
  intro p l e s m args below meth c H locs ls F
  exact va_alen (D := G.2.1) F.1 F.2.1 F.tb.1 F.hw.1 a 0 (wl_get hs) rfl (v := Int32.ofInt (N : Int)) (by exact (Int32.ofInt_eq_ofNat (n := N)).symm) hdg (kk p l e s m args below meth c H locs ls F)
theorem r_alenq {a N : Nat} {g : Nat → Option Nat} (hdg : decode M.2.1 pc = .ok (.arraylength, 1)) (hs : sh[a]? = some (.inr (.inr (.inr (N, g))))) (kk : Rn G M R E Z ex sh k n (pc + 1) lv (I (N : Int) :: st) σ) : Rn G M R E Z ex sh k n pc lv (Rf G a :: st) σ := by
  intro p l e s m args below meth c H locs ls F
  exact va_alen (D := G.2.1) F.1 F.2.1 F.tb.1 F.hw.1 a 2 (wl_get hs) rfl (v := Int32.ofInt (N : Int)) (by exact (Int32.ofInt_eq_ofNat (n := N)).symm) hdg (kk p l e s m args below meth c H locs ls F)
theorem r_aald {a N b : Nat} {i : Int} {g : Nat → Option Nat} (hdg : decode M.2.1 pc = .ok (.aaload, 1)) (hs : sh[a]? = some (.inr (.inr (.inr (N, g))))) (hi : 0 ≤ i ∧ i < (N : Int) ∧ (N : Int) ≤ 2147483647) (hg : g i.toNat = some b) (kk : Rn G M R E Z ex sh k n (pc + 1) lv (Rf G b :: st) σ) : Rn G M R E Z ex sh k n pc lv (I i :: Rf G a :: st) σ := by
  intro p l e s m args below meth c H locs ls F
  refine va_aldq (D := G.2.1) F.1 F.2.1 F.tb.1 F.hw.1 a 2 (wl_get hs) rfl (oI_in hi) hdg ?_
  have h9 := kk p l e s m args below meth c H locs ls F
  have e9 : (Int32.ofInt i).toNatClampNeg = i.toNat := by have := oI_nat hi.1 (by omega); omega
  show W p l e R s m args below meth c H locs k n (Z below args s) (F0 m (pc + 1) ls (va_rf ((g (Int32.ofInt i).toNatClampNeg).map (fun k => G.1 + k)) :: st))
  rw [e9, hg]
  exact h9
theorem hw_set {a : Nat} {o : Ob} {i w : Int} {e0 : va_E} {H H1 : Heap} (hF : Hw G ex sh σ H) (hs : sh[a]? = some o) (he : ent G (up σ a i w a) o = e0) (h1 : va_at G.2.1 vwCl (G.1 + a, e0) H1) (z : H1.size = H.size) (oq : ∀ q, q ≠ G.1 + a → H1[q]? = H[q]?) : Hw G ex sh (up σ a i w) H1 := by
  refine ⟨?_, fun q => by rw [z]; exact hF.2 q⟩
  rw [← wl_set0 (σ := σ) hs (fun b hb => up_ne hb)]
  exact hF.1.set (A := Aq G) wl_D (wl_get hs) (by rw [he]; exact h1) oq
theorem r_iast {a N : Nat} {i w : Int} (hdg : decode M.2.1 pc = .ok (.iastore, 1)) (hs : sh[a]? = some (.inr (.inl N))) (hi : 0 ≤ i ∧ i < (N : Int) ∧ (N : Int) ≤ 2147483647) (kk : Rn G M R E Z ex sh k n (pc + 1) lv st (up σ a i w)) : Rn G M R E Z ex sh k n pc lv (I w :: I i :: Rf G a :: st) σ := by
  intro p l e s m args below meth c H locs ls F
  have hcell : va_at G.2.1 vwCl (G.1 + a, ent G (σ a) (.inr (.inl N))) H := F.hw.1 a _ (wl_get hs)
  refine W.iast F.1 F.2.1 hcell ((F.tb.1.2 0 _ rfl).1 N (fun j => .int (Int32.ofInt (σ a (j : Int))))) (fun q => by cases q) (by show ¬ (_ ∨ (arrV _ _ _).slots.size ≤ _); rw [arrV_size]; exact oI_in hi) rfl rfl hdg fun H1 e9 z oq => ?_
  refine kk p l e s m args below meth c H1 _ ls (F.hp (hw_set F.hw hs rfl ?_ z oq) (F.fs.put z oq (Nat.le_add_right _ _)))
  show H1[G.1 + a]? = some (vp_cell _ _)
  rw [e9]
  rw [vp_cell_i, vp_cell_i, arrV_store]
  congr 2
  funext q
  have h9 := oI_nat hi.1 (by omega)
  by_cases hq : q = (Int32.ofInt i).toNatClampNeg
  · subst hq
    simp [updV, up_at, h9]
  · have h8 : ¬ (q : Int) = i := by omega
    simp [updV, up_at, hq, h8]
theorem r_last {a N : Nat} {i w : Int} (hdg : decode M.2.1 pc = .ok (.lastore, 1)) (hs : sh[a]? = some (.inr (.inr (.inl N)))) (hi : 0 ≤ i ∧ i < (N : Int) ∧ (N : Int) ≤ 2147483647) (kk : Rn G M R E Z ex sh k n (pc + 1) lv st (up σ a i w)) : Rn G M R E Z ex sh k n pc lv (Lg w :: I i :: Rf G a :: st) σ := by
  intro p l e s m args below meth c H locs ls F
  have hcell : va_at G.2.1 vwCl (G.1 + a, ent G (σ a) (.inr (.inr (.inl N)))) H := F.hw.1 a _ (wl_get hs)
  refine W.last F.1 F.2.1 hcell ((F.tb.1.2 1 _ rfl).1 N (fun j => .long (Int64.ofInt (σ a (j : Int))))) (fun q => by cases q) (by show ¬ (_ ∨ (arrV _ _ _).slots.size ≤ _); rw [arrV_size]; exact oI_in hi) rfl rfl hdg fun H1 e9 z oq => ?_
  refine kk p l e s m args below meth c H1 _ ls (F.hp (hw_set F.hw hs rfl ?_ z oq) (F.fs.put z oq (Nat.le_add_right _ _)))
  show H1[G.1 + a]? = some (vp_cell _ _)
  rw [e9]
  rw [vp_cell_l, vp_cell_l, arrV_store]
  congr 2
  funext q
  have h9 := oI_nat hi.1 (by omega)
  by_cases hq : q = (Int32.ofInt i).toNatClampNeg
  · subst hq
    simp [updV, up_at, h9]
  · have h8 : ¬ (q : Int) = i := by omega
    simp [updV, up_at, hq, h8]

end ROWS2
end
section

theorem NWL_form : ∀ w ∈ NWL, ∃ (a : String) (i : Nat) (x : MethodName) (h : String), w = .methodLinkNest a i x h := by
  simp only [NWL, List.forall_mem_cons]
  refine ⟨⟨_, _, _, _, rfl⟩, ⟨_, _, _, _, rfl⟩, ⟨_, _, _, _, rfl⟩, ⟨_, _, _, _, rfl⟩, ⟨_, _, _, _, rfl⟩, ⟨_, _, _, _, rfl⟩, ⟨_, _, _, _, rfl⟩, ⟨_, _, _, _, rfl⟩, ⟨_, _, _, _, rfl⟩, ⟨_, _, _, _, rfl⟩, ⟨_, _, _, _, rfl⟩, ⟨_, _, _, _, rfl⟩, ⟨_, _, _, _, rfl⟩, ⟨_, _, _, _, rfl⟩, fun _ h => absurd h List.not_mem_nil⟩
theorem Tb.warm {G : GT} {s U : State} (h : Tb G s) (hW : s.WarmedH U.vm) (hsz : s.heap.size ≤ U.heap.size) : Tb G U := by
  obtain ⟨h1, h2, h3, h4⟩ := h
  refine ⟨h1.moved hW.alike, fun w hw => word_at hW (TBG_gd hw) (h2 w hw), fun w hw => ?_, Nat.le_trans h4 hsz⟩
  obtain ⟨a, i, x, q, rfl⟩ := NWL_form w hw
  exact (h3 _ hw).warmM hW
theorem Pn_blind {G : GT} {ex : Bool} {sh : List Ob} {As : List Value} {σ : Sg} : FrameBlind (Pn G ex sh As σ) := fun a U g mk q => ⟨q.1, q.2.1.warm (U := U.calling g mk a) (State.WarmedH.refl U) (Nat.le_refl _), q.2.2⟩
section CALLS
variable {G : GT} {M : MI} {R : Room} {E : ET} {Z : ZT} {ex : Bool} {sh : List Ob} {k n : Nat} {pc : Nat} {lv lv' : List (Nat × Value)} {st : List Value} {σ : Sg}
theorem Pn_at {As : List Value} {p : Program} {l : Launch} {s : State} {m : MethodId} {args : Array Value} {meth : Method} {c : Code} {H : Heap} {locs : List Loc} {ls : Array Slot} (F : Fx G M E ex sh σ lv p l s m args meth c H locs ls) :
    ∀ U : State, U.heap = H → s.WarmedH U.vm → Pn G ex sh As σ As.toArray U := fun U hU hW =>
  ⟨rfl, F.tb.warm hW (by rw [hU]; exact F.fs.1), by rw [hU]; exact F.hw⟩
/-- behind a call that returns -/
theorem r_run {mc ms : Nat} {sh2 : List Ob} {As : Array Value} {st0 rest : List Value} {Post : Option Value → Sg → Prop}
    (run : ∀ (p : Program) (l : Launch) (e : Env) (s : State) (m : MethodId) (args : Array Value) (below : List Frame) (meth : Method) (c : Code) (H : Heap) (locs : List Loc) (ls : Array Slot), Fx G M E ex sh σ lv p l s m args meth c H locs ls →
      va_Run p l e R s m args below meth c H locs k n mc ms (F0 m pc ls st0) rest (Qn G ex sh2 Post As) (Aq G))
    (kk : ∀ (r : Option Value) (σ' : Sg), Post r σ' → Rn G M R E Z ex sh2 (k + mc) (n + ms) (pc + 3) lv (r.toList ++ rest) σ') : Rn G M R E Z ex sh k n pc lv st0 σ := by
  intro p l e s m args below meth c H locs ls F T hT X
  obtain ⟨v, st₀, t, T', L, h0, X', hL, e1, e2, ⟨⟨r, σ', hv, hp, hw⟩, hz, hk⟩, stp⟩ := run p l e s m args below meth c H locs ls F T hT X
  cases hv
  rw [h0] at hz hk
  have hS := F.fs
  obtain ⟨t2, a1, b1⟩ := kk v σ' hp p l e s m args below meth c T'.heap (locs ++ L) ls (F.hp (by rw [e1]; exact hw)
    ⟨Nat.le_trans hS.1 (by rw [e1]; exact hz), fun q h1 h2 => by rw [e1, hk q (Nat.lt_of_lt_of_le h1 hS.1) h2]; exact hS.2.1 q h1 h2, fun q hq => by
      rcases List.mem_append.mp hq with h | h
      · exact hS.2.2 q h
      · exact hL q h⟩) T' rfl X'
  exact ⟨t2, stp t2 a1, b1⟩
theorem gi_of {ws : List Cond} (h : ∀ w ∈ ws, w ∈ TBG) : GoodIn TBG ws := fun w hw => ⟨h w hw, TBG_gd (h w hw)⟩
/-- what is asked of a method that is called by its own name: code, class -/
def SV (M2 : MI) (N : Nat) : Prop := Cond.instanceMethod M2.1 ∈ TBG ∧ Cond.selects M2.1.cls M2.1 M2.1 ∈ TBG ∧ Cond.initialized M2.1.cls ∈ TBG ∧ Cond.code M2.1 M2.2.1 M2.2.2.1 M2.2.2.2 ∈ TBG ∧
  (M2.1.cls ≠ "java/lang/invoke/MethodHandle" ∧ M2.1.cls ≠ "java/lang/invoke/VarHandle" ∧ (parseMethodDescriptor M2.1.desc).map (fun d => d.parameters.length) = some N)
def SS (M2 : MI) (N : Nat) : Prop := Cond.static M2.1 ∈ TBG ∧ Cond.initialized M2.1.cls ∈ TBG ∧ Cond.code M2.1 M2.2.1 M2.2.2.1 M2.2.2.2 ∈ TBG ∧
  (M2.1.cls ≠ "java/lang/invoke/MethodHandle" ∧ M2.1.cls ≠ "java/lang/invoke/VarHandle" ∧ (parseMethodDescriptor M2.1.desc).map (fun d => d.parameters.length) = some N)
def SI (M2 : MI) (N : Nat) : Prop := M2.2.2.2 = none ∧ M2.1.name = "<init>" ∧ Cond.instanceMethod M2.1 ∈ TBG ∧ Cond.initialized M2.1.cls ∈ TBG ∧ Cond.code M2.1 M2.2.1 M2.2.2.1 M2.2.2.2 ∈ TBG ∧
  (M2.1.cls ≠ "java/lang/invoke/MethodHandle" ∧ M2.1.cls ≠ "java/lang/invoke/VarHandle" ∧ (parseMethodDescriptor M2.1.desc).map (fun d => d.parameters.length) = some N)
theorem r_callV {M2 : MI} {d2 mc ms b ci idx N : Nat} {fks : List FK} {C : String} {T : u_T} {sh2 : List Ob} {As rest st0 : List Value} {Post : Option Value → Sg → Prop}
    (hC : Ct G M2 d2 mc ms ex sh sh2 (Rf G b :: As) σ Post) (hdg : decode M.2.1 pc = .ok (.invokevirtual idx, 3)) (sv : SV M2 As.length) (hlink : Cond.methodLink M.1.cls idx M2.1 ∈ TBG)
    (hs : sh[b]? = some (.inl (ci, fks))) (hc : vwCl[ci]? = some (C, T, N)) (hcl : C = M2.1.cls) (hst : st0 = As.reverse ++ Rf G b :: rest) (hR : d2 + 1 ≤ R.frames ∧ 8 + (M2.2.2.1 + 11) + 40 * d2 ≤ R.locals) (hcat : (rest.map fun v => v.category).sum ≤ 8) (hf : k + mc ≤ R.cells ∧ n + ms ≤ R.slots)
    (kk : ∀ (r : Option Value) (σ' : Sg), Post r σ' → Rn G M R E Z ex sh2 (k + mc) (n + ms) (pc + 3) lv (r.toList ++ rest) σ') : Rn G M R E Z ex sh k n pc lv st0 σ := by
  refine r_run (mc := mc) (ms := ms) (As := (Rf G b :: As).toArray) (fun p l e s m args below meth c H locs ls F => ?_) kk
  obtain ⟨w1, w2, w3, w4, hy⟩ := sv
  obtain ⟨r9, h1, cell, q1, q2, q3, q4⟩ := F.hw.1 b _ (wl_get hs)
  obtain ⟨hfc, -⟩ := (F.tb.1.1 ci _ hc).2
  refine va_runV (Ts := TBG) (own := M.1.cls) (C := M2.1.cls) (As := As) ⟨F.1, F.2.1, F.2.2.1, F.own, F.wd⟩ (hC l) (cwV As.length F.wd (gi_of ?_) rfl rfl rfl ⟨rfl, hy⟩ hR) ⟨Pn_blind, ⟨cell, q1, by rw [q3]; rfl, by rw [← hcl, hfc, q2]⟩, Pn_at F⟩ rfl rfl F.hl.1 hst ?_ hdg hf
  · intro w hw
    simp only [wsV, List.mem_append, List.mem_cons, List.not_mem_nil, or_false] at hw
    rcases hw with (rfl | rfl | rfl | rfl) | rfl
    · exact hlink
    · exact w1
    · exact w2
    · exact w3
    · exact w4
  · show 2 * 0 + _ ≤ 8
    omega
theorem r_callS {M2 : MI} {d2 mc ms idx : Nat} {sh2 : List Ob} {As rest st0 : List Value} {Post : Option Value → Sg → Prop}
    (hC : Ct G M2 d2 mc ms ex sh sh2 As σ Post) (hdg : decode M.2.1 pc = .ok (.invokestatic idx, 3)) (sv : SS M2 As.length) (hlink : Cond.methodLink M.1.cls idx M2.1 ∈ TBG)
    (hst : st0 = As.reverse ++ rest) (hR : d2 + 1 ≤ R.frames ∧ 8 + (M2.2.2.1 + 11) + 40 * d2 ≤ R.locals) (hcat : (rest.map fun v => v.category).sum ≤ 8) (hf : k + mc ≤ R.cells ∧ n + ms ≤ R.slots)
    (kk : ∀ (r : Option Value) (σ' : Sg), Post r σ' → Rn G M R E Z ex sh2 (k + mc) (n + ms) (pc + 3) lv (r.toList ++ rest) σ') : Rn G M R E Z ex sh k n pc lv st0 σ := by
  refine r_run (mc := mc) (ms := ms) (As := As.toArray) (fun p l e s m args below meth c H locs ls F => ?_) kk
  obtain ⟨w1, w2, w3, hy⟩ := sv
  refine va_runS (Ts := TBG) (own := M.1.cls) (As := As) ⟨F.1, F.2.1, F.2.2.1, F.own, F.wd⟩ (hC l) (va_cwS As.length F.wd (gi_of ?_) rfl rfl rfl hy hR) ⟨Pn_blind, Pn_at F⟩ rfl rfl F.hl.1 hst ?_ hdg hf
  · intro w hw
    simp only [va_wsS, List.mem_append, List.mem_cons, List.not_mem_nil, or_false] at hw
    rcases hw with (rfl | rfl | rfl) | rfl
    · exact hlink
    · exact w1
    · exact w2
    · exact w3
  · show 2 * 0 + _ ≤ 8
    omega
/-- a private static method of a nest mate -/
theorem r_callSN {M2 : MI} {d2 mc ms idx : Nat} {host : String} {sh2 : List Ob} {As rest st0 : List Value} {Post : Option Value → Sg → Prop}
    (hC : Ct G M2 d2 mc ms ex sh sh2 As σ Post) (hdg : decode M.2.1 pc = .ok (.invokestatic idx, 3)) (sv : SS M2 As.length) (hlink : Cond.methodLinkNest M.1.cls idx M2.1 host ∈ NWL)
    (hst : st0 = As.reverse ++ rest) (hR : d2 + 1 ≤ R.frames ∧ 8 + (M2.2.2.1 + 11) + 40 * d2 ≤ R.locals) (hcat : (rest.map fun v => v.category).sum ≤ 8) (hf : k + mc ≤ R.cells ∧ n + ms ≤ R.slots)
    (kk : ∀ (r : Option Value) (σ' : Sg), Post r σ' → Rn G M R E Z ex sh2 (k + mc) (n + ms) (pc + 3) lv (r.toList ++ rest) σ') : Rn G M R E Z ex sh k n pc lv st0 σ := by
  refine r_run (mc := mc) (ms := ms) (As := As.toArray) (fun p l e s m args below meth c H locs ls F => ?_) kk
  obtain ⟨w1, w2, w3, hy⟩ := sv
  refine va_runSN (Ts := TBG) (own := M.1.cls) (host := host) (As := As) ⟨F.1, F.2.1, F.2.2.1, F.own, F.wd⟩ (hC l) ⟨va_cnB As.length F.wd (gi_of ?_) rfl rfl rfl (F.tb.2.2.1 _ hlink) (F.wd _ w2) hy hR, F.wd _ w1, trivial⟩ ⟨Pn_blind, Pn_at F⟩ rfl rfl F.hl.1 hst ?_ hdg hf
  · intro w hw
    simp only [List.mem_cons, List.not_mem_nil, or_false] at hw
    rw [hw]
    exact w3
  · show 2 * 0 + _ ≤ 8
    omega
theorem r_callI {M2 : MI} {d2 mc ms b idx : Nat} {sh2 : List Ob} {As rest st0 : List Value} {Post : Option Value → Sg → Prop}
    (hC : Ct G M2 d2 mc ms ex sh sh2 (Rf G b :: As) σ Post) (hdg : decode M.2.1 pc = .ok (.invokespecial idx, 3)) (sv : SI M2 As.length) (hlink : Cond.methodLink M.1.cls idx M2.1 ∈ TBG)
    (hst : st0 = As.reverse ++ Rf G b :: rest) (hR : d2 + 1 ≤ R.frames ∧ 8 + (M2.2.2.1 + 11) + 40 * d2 ≤ R.locals) (hcat : (rest.map fun v => v.category).sum ≤ 8) (hf : k + mc ≤ R.cells ∧ n + ms ≤ R.slots)
    (kk : ∀ (r : Option Value) (σ' : Sg), Post r σ' → Rn G M R E Z ex sh2 (k + mc) (n + ms) (pc + 3) lv (r.toList ++ rest) σ') : Rn G M R E Z ex sh k n pc lv st0 σ := by
  refine r_run (mc := mc) (ms := ms) (As := (Rf G b :: As).toArray) (fun p l e s m args below meth c H locs ls F => ?_) kk
  obtain ⟨w0, w9, w1, w2, w3, hy⟩ := sv
  have hM := hC l
  rw [w0] at hM w3
  refine va_runI (Ts := TBG) (own := M.1.cls) (As := As) ⟨F.1, F.2.1, F.2.2.1, F.own, F.wd⟩ hM (cwI As.length F.wd (gi_of ?_) rfl rfl rfl (F.wd _ w2) (F.wd _ hlink) (F.wd _ w1) w9 hy hR) ⟨Pn_blind, Pn_at F⟩ rfl rfl F.hl.1 hst ?_ hdg hf
  · intro w hw
    simp only [List.mem_cons, List.not_mem_nil, or_false] at hw
    rw [hw]
    exact w3
  · show 2 * 0 + _ ≤ 8
    omega
theorem r_callIN {M2 : MI} {d2 mc ms b idx : Nat} {host : String} {sh2 : List Ob} {As rest st0 : List Value} {Post : Option Value → Sg → Prop}
    (hC : Ct G M2 d2 mc ms ex sh sh2 (Rf G b :: As) σ Post) (hdg : decode M.2.1 pc = .ok (.invokespecial idx, 3)) (sv : SI M2 As.length) (hlink : Cond.methodLinkNest M.1.cls idx M2.1 host ∈ NWL)
    (hst : st0 = As.reverse ++ Rf G b :: rest) (hR : d2 + 1 ≤ R.frames ∧ 8 + (M2.2.2.1 + 11) + 40 * d2 ≤ R.locals) (hcat : (rest.map fun v => v.category).sum ≤ 8) (hf : k + mc ≤ R.cells ∧ n + ms ≤ R.slots)
    (kk : ∀ (r : Option Value) (σ' : Sg), Post r σ' → Rn G M R E Z ex sh2 (k + mc) (n + ms) (pc + 3) lv (r.toList ++ rest) σ') : Rn G M R E Z ex sh k n pc lv st0 σ := by
  refine r_run (mc := mc) (ms := ms) (As := (Rf G b :: As).toArray) (fun p l e s m args below meth c H locs ls F => ?_) kk
  obtain ⟨w0, w9, w1, w2, w3, hy⟩ := sv
  have hM := hC l
  rw [w0] at hM w3
  refine va_runIN (Ts := TBG) (own := M.1.cls) (host := host) (As := As) ⟨F.1, F.2.1, F.2.2.1, F.own, F.wd⟩ hM ⟨va_cnB As.length F.wd (gi_of ?_) rfl rfl rfl (F.tb.2.2.1 _ hlink) (F.wd _ w2) hy hR, w9, F.wd _ w1⟩ ⟨Pn_blind, Pn_at F⟩ rfl rfl F.hl.1 hst ?_ hdg hf
  · intro w hw
    simp only [List.mem_cons, List.not_mem_nil, or_false] at hw
    rw [hw]
    exact w3
  · show 2 * 0 + _ ≤ 8
    omega
/-! entry and ends -/
def Zn (G : GT) (ex : Bool) (sh : List Ob) (Post : Option Value → Sg → Prop) (mc ms : Nat) : ZT := fun below args s => MQ below (Qn G ex sh Post) args s mc ms (Aq G)
def E0 : ET := fun _ _ _ _ => True
theorem ct_of {d mc ms : Nat} {sh2 : List Ob} {As : List Value} {Post : Option Value → Sg → Prop} (hy : plainName M.1.cls = true) (hlen : (lg_sl As).length ≤ M.2.2.1) (hlv : lv_args 0 As = lv)
    (hR : Rn G M (rmD d mc ms) E0 (Zn G ex sh2 Post mc ms) ex sh 0 0 0 lv [] σ) : Ct G M d mc ms ex sh sh2 As σ Post := by
  intro l
  refine Met.ofW (cc := M.2.1) (maxL := M.2.2.1) (ret := M.2.2.2) hy rfl ?_
  intro p e s m args below meth c s₁ B hml hv
  obtain ⟨rfl, hTb, hHw⟩ := hv
  have hx := B.exec
  have hb := B.bytes
  have hr := B.returns
  have hown : s.vm.findClass M.1.cls = some m.cls := findClass_of_methodNamed B.named
  have hlocks := B.notSynchronized
  have hin : meth.name = M.1.name := (name_of_methodNamed B.named B.method).1
  have hl := lv_entry As (n := M.2.2.1) hlen
  rw [lg_entry_eq]
  rw [hlv] at hl
  exact hR p l e s m _ below meth c s.heap [] _ ⟨hx, hb, hml, hr, hown, fun w hw => word_at (State.WarmedH.refl s) (TBG_gd hw) (hTb.2.1 w hw), hTb, hHw, va_S.rf, hl, hlocks, hin, trivial⟩
theorem r_iret {x : Int} {Post : Option Value → Sg → Prop} (hdg : decode M.2.1 pc = .ok (.ireturn, 1)) (hr : M.2.2.2 = some .int) (hp : Post (some (I x)) σ) : Rn G M R E (Zn G ex sh Post k n) ex sh k n pc lv [I x] σ :=
  fun p l e s m args below meth c H locs ls F => W.iret F.1 F.2.1 (F.2.2.2.1.trans hr) (fun t ht hW => ⟨⟨some (I x), σ, rfl, hp, by rw [ht]; exact F.hw⟩, F.fs.F ht⟩) (fun q hq => F.fs.2.2 q hq) hdg F.lk
theorem r_zret {x : Int} {Post : Option Value → Sg → Prop} (hdg : decode M.2.1 pc = .ok (.ireturn, 1)) (hr : M.2.2.2 = some .boolean) (hn : narrow .boolean (I x) = I x) (hp : Post (some (I x)) σ) : Rn G M R E (Zn G ex sh Post k n) ex sh k n pc lv [I x] σ :=
  fun p l e s m args below meth c H locs ls F => W.zret F.1 F.2.1 (F.2.2.2.1.trans hr) hn (fun t ht hW => ⟨⟨some (I x), σ, rfl, hp, by rw [ht]; exact F.hw⟩, F.fs.F ht⟩) (fun q hq => F.fs.2.2 q hq) hdg F.lk
theorem r_lret {x : Int} {Post : Option Value → Sg → Prop} (hdg : decode M.2.1 pc = .ok (.lreturn, 1)) (hr : M.2.2.2 = some .long) (hp : Post (some (Lg x)) σ) : Rn G M R E (Zn G ex sh Post k n) ex sh k n pc lv [Lg x] σ :=
  fun p l e s m args below meth c H locs ls F => W.lret F.1 F.2.1 (F.2.2.2.1.trans hr) (fun t ht hW => ⟨⟨some (Lg x), σ, rfl, hp, by rw [ht]; exact F.hw⟩, F.fs.F ht⟩) (fun q hq => F.fs.2.2 q hq) hdg F.lk
theorem r_dret {x : UInt64} {Post : Option Value → Sg → Prop} (hdg : decode M.2.1 pc = .ok (.dreturn, 1)) (hr : M.2.2.2 = some .double) (hp : Post (some (.double x)) σ) : Rn G M R E (Zn G ex sh Post k n) ex sh k n pc lv [.double x] σ :=
  fun p l e s m args below meth c H locs ls F => W.dret F.1 F.2.1 (F.2.2.2.1.trans hr) (fun t ht hW => ⟨⟨some (.double x), σ, rfl, hp, by rw [ht]; exact F.hw⟩, F.fs.F ht⟩) (fun q hq => F.fs.2.2 q hq) hdg F.lk
theorem r_vret {Post : Option Value → Sg → Prop} (hdg : decode M.2.1 pc = .ok (.return_, 1)) (hr : M.2.2.2 = none) (hp : Post none σ) : Rn G M R E (Zn G ex sh Post k n) ex sh k n pc lv [] σ :=
  fun p l e s m args below meth c H locs ls F => W.vret F.1 F.2.1 (F.2.2.2.1.trans hr) (fun t ht hW => ⟨⟨none, σ, rfl, hp, by rw [ht]; exact F.hw⟩, F.fs.F ht⟩) (fun q hq => F.fs.2.2 q hq) hdg F.lk
theorem r_aret {b : Nat} {C : String} {Post : Option Value → Sg → Prop} (hdg : decode M.2.1 pc = .ok (.areturn, 1)) (hr : M.2.2.2 = some (.object C)) (hp : Post (some (Rf G b)) σ) : Rn G M R E (Zn G ex sh Post k n) ex sh k n pc lv [Rf G b] σ :=
  fun p l e s m args below meth c H locs ls F => W.aret F.1 F.2.1 (F.2.2.2.1.trans hr) (Or.inl ⟨_, rfl⟩) (Or.inr ⟨_, rfl⟩) (fun t ht hW => ⟨⟨some (Rf G b), σ, rfl, hp, by rw [ht]; exact F.hw⟩, F.fs.F ht⟩) (fun q hq => F.fs.2.2 q hq) hdg F.lk
theorem r_widen {k2 n2 : Nat} (h1 : k ≤ k2) (h2 : n ≤ n2) (kk : Rn G M R E Z ex sh k2 n2 pc lv st σ) : Rn G M R E Z ex sh k n pc lv st σ := fun p l e s m args below meth c H locs ls F => W.widen h1 h2 (kk p l e s m args below meth c H locs ls F)
theorem r_loose (kk : Rn G M R E Z false sh k n pc lv st σ) : Rn G M R E Z true sh k n pc lv st σ := fun p l e s m args below meth c H locs ls F => kk p l e s m args below meth c H locs ls (by
  obtain ⟨a1, a2, a3, a4, a5, a6, a7, a8, a9, a10, a11⟩ := F
  exact ⟨a1, a2, a3, a4, a5, a6, a7, ⟨a8.1, fun q => by cases q⟩, a9, a10, a11⟩)
end CALLS
end
section
section MORE
variable {G : GT} {M : MI} {R : Room} {E : ET} {Z : ZT} {ex : Bool} {sh : List Ob} {k n : Nat} {pc : Nat} {lv lv' : List (Nat × Value)} {st : List Value} {σ : Sg}
theorem r_dup {v : Value} (hdg : decode M.2.1 pc = .ok (.dup, 1)) (hv : v.category = 1) (kk : Rn G M R E Z ex sh k n (pc + 1) lv (v :: v :: st) σ) : Rn G M R E Z ex sh k n pc lv (v :: st) σ := fun p l e s m args below meth c H locs ls F => lv_dup F.1 F.2.1 hdg hv (kk p l e s m args below meth c H locs ls F)
theorem r_dup2 {v w : Value} (hdg : decode M.2.1 pc = .ok (.dup2, 1)) (hv : v.category = 1) (hw : w.category = 1) (kk : Rn G M R E Z ex sh k n (pc + 1) lv (v :: w :: v :: w :: st) σ) : Rn G M R E Z ex sh k n pc lv (v :: w :: st) σ := fun p l e s m args below meth c H locs ls F => lv_dup2_11 F.1 F.2.1 hdg hv hw (kk p l e s m args below meth c H locs ls F)
theorem r_dup_x1 {v w : Value} (hdg : decode M.2.1 pc = .ok (.dup_x1, 1)) (hv : v.category = 1) (hw : w.category = 1) (kk : Rn G M R E Z ex sh k n (pc + 1) lv (v :: w :: v :: st) σ) : Rn G M R E Z ex sh k n pc lv (v :: w :: st) σ := fun p l e s m args below meth c H locs ls F => lv_dup_x1 F.1 F.2.1 hdg hv hw (kk p l e s m args below meth c H locs ls F)
theorem r_pop {v : Value} (hdg : decode M.2.1 pc = .ok (.pop, 1)) (hv : v.category = 1) (kk : Rn G M R E Z ex sh k n (pc + 1) lv st σ) : Rn G M R E Z ex sh k n pc lv (v :: st) σ := fun p l e s m args below meth c H locs ls F => lv_pop F.1 F.2.1 hdg hv (kk p l e s m args below meth c H locs ls F)
theorem r_ifnull {a : Nat} {off : Int} (hdg : decode M.2.1 pc = .ok (.ifnull off, 3)) (kk : Rn G M R E Z ex sh k n (pc + 3) lv st σ) : Rn G M R E Z ex sh k n pc lv (Rf G a :: st) σ := fun p l e s m args below meth c H locs ls F => lv_ifnull F.1 F.2.1 hdg (kk p l e s m args below meth c H locs ls F)
theorem r_ifnonnull {a tgt : Nat} {off : Int} (hdg : decode M.2.1 pc = .ok (.ifnonnull off, 3)) (ht : (pc : Int) + off = (tgt : Int)) (kk : Rn G M R E Z ex sh k n tgt lv st σ) : Rn G M R E Z ex sh k n pc lv (Rf G a :: st) σ := fun p l e s m args below meth c H locs ls F => lv_ifnonnull F.1 F.2.1 hdg ht (kk p l e s m args below meth c H locs ls F)
theorem r_i2l {x : Int} (hdg : decode M.2.1 pc = .ok (.i2l, 1)) (h : -2147483648 ≤ x ∧ x ≤ 2147483647) (kk : Rn G M R E Z ex sh k n (pc + 1) lv (Lg x :: st) σ) : Rn G M R E Z ex sh k n pc lv (I x :: st) σ := fun p l e s m args below meth c H locs ls F => lv_i2l F.1 F.2.1 hdg (Int32.toInt64_ofInt h.1 h.2) (kk p l e s m args below meth c H locs ls F)
theorem r_ladd {x y : Int} (hdg : decode M.2.1 pc = .ok (.ladd, 1)) (kk : Rn G M R E Z ex sh k n (pc + 1) lv (Lg (x + y) :: st) σ) : Rn G M R E Z ex sh k n pc lv (Lg y :: Lg x :: st) σ := fun p l e s m args below meth c H locs ls F => lv_ladd F.1 F.2.1 hdg (by have h := kk p l e s m args below meth c H locs ls F; rwa [Lg, Int64.ofInt_add] at h)
theorem r_lmul {x y : Int} (hdg : decode M.2.1 pc = .ok (.lmul, 1)) (kk : Rn G M R E Z ex sh k n (pc + 1) lv (Lg (x * y) :: st) σ) : Rn G M R E Z ex sh k n pc lv (Lg y :: Lg x :: st) σ := fun p l e s m args below meth c H locs ls F => lv_lmul F.1 F.2.1 hdg (by have h := kk p l e s m args below meth c H locs ls F; rwa [Lg, Int64.ofInt_mul] at h)
theorem r_i2d {x : Int} (hdg : decode M.2.1 pc = .ok (.i2d, 1)) (kk : Rn G M R E Z ex sh k n (pc + 1) lv (.double (FP.i2d (Int32.ofInt x)) :: st) σ) : Rn G M R E Z ex sh k n pc lv (I x :: st) σ := fun p l e s m args below meth c H locs ls F => lv_i2d F.1 F.2.1 hdg (kk p l e s m args below meth c H locs ls F)
theorem r_ddiv {x y : UInt64} (hdg : decode M.2.1 pc = .ok (.ddiv, 1)) (hn : vf_n64 (FP.ddiv x y)) (kk : Rn G M R E Z ex sh k n (pc + 1) lv (.double (FP.ddiv x y) :: st) σ) : Rn G M R E Z ex sh k n pc lv (.double y :: .double x :: st) σ := fun p l e s m args below meth c H locs ls F => lv_ddiv F.1 F.2.1 hdg hn (kk p l e s m args below meth c H locs ls F)
theorem r_dmul {x y : UInt64} (hdg : decode M.2.1 pc = .ok (.dmul, 1)) (hn : vf_n64 (FP.dmul x y)) (kk : Rn G M R E Z ex sh k n (pc + 1) lv (.double (FP.dmul x y) :: st) σ) : Rn G M R E Z ex sh k n pc lv (.double y :: .double x :: st) σ := fun p l e s m args below meth c H locs ls F => lv_dmul F.1 F.2.1 hdg hn (kk p l e s m args below meth c H locs ls F)
theorem r_dsub {x y : UInt64} (hdg : decode M.2.1 pc = .ok (.dsub, 1)) (hn : vf_n64 (FP.dsub x y)) (kk : Rn G M R E Z ex sh k n (pc + 1) lv (.double (FP.dsub x y) :: st) σ) : Rn G M R E Z ex sh k n pc lv (.double y :: .double x :: st) σ := fun p l e s m args below meth c H locs ls F => lv_dsub F.1 F.2.1 hdg hn (kk p l e s m args below meth c H locs ls F)
theorem r_dcmp {x y : UInt64} {o : CmpOp} {z : Int} (hdg : decode M.2.1 pc = .ok (.dcmp o, 1)) (hz : Op.cmpValue (FP.dcmp x y) o = Int32.ofInt z) (kk : Rn G M R E Z ex sh k n (pc + 1) lv (I z :: st) σ) : Rn G M R E Z ex sh k n pc lv (.double y :: .double x :: st) σ := fun p l e s m args below meth c H locs ls F => lv_dcmp F.1 F.2.1 hdg (by have h := kk p l e s m args below meth c H locs ls F; rwa [I, ← hz] at h)
theorem r_d2l {x : UInt64} {z : Int} (hdg : decode M.2.1 pc = .ok (.d2l, 1)) (hz : FP.d2l x = Int64.ofInt z) (kk : Rn G M R E Z ex sh k n (pc + 1) lv (Lg z :: st) σ) : Rn G M R E Z ex sh k n pc lv (.double x :: st) σ := fun p l e s m args below meth c H locs ls F => lv_d2l F.1 F.2.1 hdg (by have h := kk p l e s m args below meth c H locs ls F; rwa [Lg, ← hz] at h)
def p2 (y : Int) : Int := 2 ^ y.toNat
theorem p2_0 : p2 0 = 1 := rfl
theorem p2_1 : p2 1 = 2 := rfl
theorem p2_2 : p2 2 = 4 := rfl
theorem p2_3 : p2 3 = 8 := rfl
theorem p2_4 : p2 4 = 16 := rfl
theorem oI_nI (n : Nat) : Int32.ofInt (n : Int) = nI n := Int32.ofInt_eq_ofNat
theorem r_ishl {x y : Int} (hdg : decode M.2.1 pc = .ok (.ishl, 1)) (h : 0 ≤ x ∧ x ≤ 1000 ∧ 0 ≤ y ∧ y ≤ 4) (kk : Rn G M R E Z ex sh k n (pc + 1) lv (I (x * p2 y) :: st) σ) : Rn G M R E Z ex sh k n pc lv (I y :: I x :: st) σ := by
  intro p l e s m args below meth c H locs ls F
  refine lv_ishl F.1 F.2.1 hdg ?_
  have h9 := kk p l e s m args below meth c H locs ls F
  obtain ⟨a, rfl⟩ : ∃ a : Nat, x = (a : Int) := ⟨x.toNat, by omega⟩
  have hy : y = 0 ∨ y = 1 ∨ y = 2 ∨ y = 3 ∨ y = 4 := by omega
  have e9 : Int32.ofInt ((a : Int) * p2 y) = Int32.ofInt (a : Int) <<< (Int32.ofInt y &&& 31) := by
    rcases hy with rfl | rfl | rfl | rfl | rfl
    · rw [show (a : Int) * p2 0 = ((a * 2 ^ 0 : Nat) : Int) by rw [p2_0]; omega, oI_nI, oI_nI, ← pk_shlN (Int32.ofInt 0 &&& 31) 0 (by decide) (by omega)]
    · rw [show (a : Int) * p2 1 = ((a * 2 ^ 1 : Nat) : Int) by rw [p2_1]; omega, oI_nI, oI_nI, ← pk_shlN (Int32.ofInt 1 &&& 31) 1 (by decide) (by omega)]
    · rw [show (a : Int) * p2 2 = ((a * 2 ^ 2 : Nat) : Int) by rw [p2_2]; omega, oI_nI, oI_nI, ← pk_shlN (Int32.ofInt 2 &&& 31) 2 (by decide) (by omega)]
    · rw [show (a : Int) * p2 3 = ((a * 2 ^ 3 : Nat) : Int) by rw [p2_3]; omega, oI_nI, oI_nI, ← pk_shlN (Int32.ofInt 3 &&& 31) 3 (by decide) (by omega)]
    · rw [show (a : Int) * p2 4 = ((a * 2 ^ 4 : Nat) : Int) by rw [p2_4]; omega, oI_nI, oI_nI, ← pk_shlN (Int32.ofInt 4 &&& 31) 4 (by decide) (by omega)]
  rwa [I, e9] at h9
theorem r_ishr {x y : Int} (hdg : decode M.2.1 pc = .ok (.ishr, 1)) (h : 0 ≤ x ∧ x ≤ 1000 ∧ 0 ≤ y ∧ y ≤ 4) (kk : Rn G M R E Z ex sh k n (pc + 1) lv (I (x / p2 y) :: st) σ) : Rn G M R E Z ex sh k n pc lv (I y :: I x :: st) σ := by
  intro p l e s m args below meth c H locs ls F
  refine lv_ishr F.1 F.2.1 hdg ?_
  have h9 := kk p l e s m args below meth c H locs ls F
  obtain ⟨a, rfl⟩ : ∃ a : Nat, x = (a : Int) := ⟨x.toNat, by omega⟩
  have hy : y = 0 ∨ y = 1 ∨ y = 2 ∨ y = 3 ∨ y = 4 := by omega
  have e9 : Int32.ofInt ((a : Int) / p2 y) = Int32.ofInt (a : Int) >>> (Int32.ofInt y &&& 31) := by
    rcases hy with rfl | rfl | rfl | rfl | rfl
    · rw [show (a : Int) / p2 0 = ((a / 2 ^ 0 : Nat) : Int) by rw [p2_0]; omega, oI_nI, oI_nI, ← pk_shrN (by omega) (Int32.ofInt 0 &&& 31) 0 (by decide)]
    · rw [show (a : Int) / p2 1 = ((a / 2 ^ 1 : Nat) : Int) by rw [p2_1]; omega, oI_nI, oI_nI, ← pk_shrN (by omega) (Int32.ofInt 1 &&& 31) 1 (by decide)]
    · rw [show (a : Int) / p2 2 = ((a / 2 ^ 2 : Nat) : Int) by rw [p2_2]; omega, oI_nI, oI_nI, ← pk_shrN (by omega) (Int32.ofInt 2 &&& 31) 2 (by decide)]
    · rw [show (a : Int) / p2 3 = ((a / 2 ^ 3 : Nat) : Int) by rw [p2_3]; omega, oI_nI, oI_nI, ← pk_shrN (by omega) (Int32.ofInt 3 &&& 31) 3 (by decide)]
    · rw [show (a : Int) / p2 4 = ((a / 2 ^ 4 : Nat) : Int) by rw [p2_4]; omega, oI_nI, oI_nI, ← pk_shrN (by omega) (Int32.ofInt 4 &&& 31) 4 (by decide)]
  rwa [I, e9] at h9
theorem r_putZ {a ci j N idx : Nat} {z w : Int} {fks : List FK} {C : String} {T : u_T} (ty0 : Nat → FieldType) (hdg : decode M.2.1 pc = .ok (.putfield idx, 3)) (hs : sh[a]? = some (.inl (ci, fks))) (hf : fks[j]? = some (.inl false)) (hc : vwCl[ci]? = some (C, T, N)) (hj : j < N) (hz : (j : Int) = z)
    (hty : ∀ k, k < N → parseFieldDescriptor (T k).2.2.1 = some (ty0 k)) (hnm : ∀ a, a < N → ∀ b, b < N → a ≠ b → (T a).2.1 ≠ (T b).2.1)
    (hin : ∀ w ∈ u_ws C T N, w ∈ TBG) (hlink : Cond.fieldLink M.1.cls idx C (T j).2.1 (T j).2.2.1 ∈ TBG) (hC : C = (T j).1) (hfin : (T j).2.2.2 = false) (hty1 : ty0 j = .boolean) (hn : narrow .boolean (I w) = I w) (hft : fits .boolean (I w) = true)
    (kk : Rn G M R E Z ex sh k n (pc + 3) lv st (up σ a z w)) : Rn G M R E Z ex sh k n pc lv (I w :: Rf G a :: st) σ := by
  refine r_putf (fk1 := .inl false) ty0 hdg hs hf hc hj hz hty hnm hin hlink hC hfin hty1 rfl hn hft ?_
  rw [fk_same hf, set_same hs]
  exact kk
theorem r_tableIn {dflt lo hi : Int} {offs : Array Int} {len : Nat} {x off : Int} {tgt : Nat} (hdg : decode M.2.1 pc = .ok (.tableswitch dflt lo hi offs, len)) (h : -2147483648 ≤ x ∧ x ≤ 2147483647 ∧ lo ≤ x ∧ x ≤ hi) (ho : offs[(x - lo).toNat]? = some off) (ht : (pc : Int) + off = (tgt : Int))
    (kk : Rn G M R E Z ex sh k n tgt lv st σ) : Rn G M R E Z ex sh k n pc lv (I x :: st) σ := fun p l e s m args below meth c H locs ls F => lv_tableIn F.1 F.2.1 hdg (by rw [oI h.1 h.2.1]; omega) (by rw [oI h.1 h.2.1]; omega) (by rw [oI h.1 h.2.1]; exact ho) ht (kk p l e s m args below meth c H locs ls F)
theorem r_tableOut {dflt lo hi : Int} {offs : Array Int} {len : Nat} {x : Int} {tgt : Nat} (hdg : decode M.2.1 pc = .ok (.tableswitch dflt lo hi offs, len)) (h : -2147483648 ≤ x ∧ x ≤ 2147483647 ∧ (x < lo ∨ hi < x)) (ht : (pc : Int) + dflt = (tgt : Int))
    (kk : Rn G M R E Z ex sh k n tgt lv st σ) : Rn G M R E Z ex sh k n pc lv (I x :: st) σ := fun p l e s m args below meth c H locs ls F => lv_tableOut F.1 F.2.1 hdg (by rw [oI h.1 h.2.1]; exact h.2.2) ht (kk p l e s m args below meth c H locs ls F)
end MORE
def svd : Nat → Option Nat := fun i => bif Nat.blt i 6 then some (20 + 3 * i) else none
abbrev ob0 : Ob := .inl (7, [.inr (some 1), .inr (some 4), .inr (some 5), .inr (some 10), .inr (some 15), .inr (some 18), .inr (some 38), .inr (some 42)])
abbrev ob1 : Ob := .inl (5, [.inl false, .inl false, .inl false, .inl false, .inl false, .inl false, .inr (some 2), .inr (some 3)])
abbrev ob2 : Ob := .inr (.inl 100)
abbrev ob3 : Ob := .inr (.inl 10)
abbrev ob4 : Ob := .inl (3, [.inl false, .inl false, .inl false, .inl false, .inr (some 1)])
abbrev ob5 : Ob := .inl (1, [.inr (some 1), .inr (some 6), .inr (some 7), .inr (some 8), .inr (some 9), .inl false, .inl false])
abbrev ob6 : Ob := .inr (.inl 30)
abbrev ob7 : Ob := .inr (.inl 3)
abbrev ob8 : Ob := .inr (.inl 50)
abbrev ob9 : Ob := .inr (.inl 5)
abbrev ob10 : Ob := .inl (0, [.inr (some 1), .inr (some 11), .inr (some 12), .inr (some 13), .inr (some 14)])
abbrev ob11 : Ob := .inr (.inl 121)
abbrev ob12 : Ob := .inr (.inl 121)
abbrev ob13 : Ob := .inr (.inl 11)
abbrev ob14 : Ob := .inr (.inl 11)
abbrev ob15 : Ob := .inl (6, [.inl false, .inr (some 16), .inr (some 17), .inl false, .inl false, .inl false, .inl false, .inl false])
abbrev ob16 : Ob := .inr (.inl 60)
abbrev ob17 : Ob := .inr (.inl 100)
abbrev ob18 : Ob := .inl (2, [.inl false, .inl false, .inr (some 19)])
abbrev ob19 : Ob := .inr (.inr (.inr (6, svd)))
abbrev ob20 : Ob := .inl (5, [.inl false, .inl false, .inl false, .inl false, .inl false, .inl false, .inr (some 21), .inr (some 22)])
abbrev ob21 : Ob := .inr (.inl 100)
abbrev ob22 : Ob := .inr (.inl 10)
abbrev ob23 : Ob := .inl (5, [.inl false, .inl false, .inl false, .inl false, .inl false, .inl false, .inr (some 24), .inr (some 25)])
abbrev ob24 : Ob := .inr (.inl 100)
abbrev ob25 : Ob := .inr (.inl 10)
abbrev ob26 : Ob := .inl (5, [.inl false, .inl false, .inl false, .inl false, .inl false, .inl false, .inr (some 27), .inr (some 28)])
abbrev ob27 : Ob := .inr (.inl 100)
abbrev ob28 : Ob := .inr (.inl 10)
abbrev ob29 : Ob := .inl (5, [.inl false, .inl false, .inl false, .inl false, .inl false, .inl false, .inr (some 30), .inr (some 31)])
abbrev ob30 : Ob := .inr (.inl 100)
abbrev ob31 : Ob := .inr (.inl 10)
abbrev ob32 : Ob := .inl (5, [.inl false, .inl false, .inl false, .inl false, .inl false, .inl false, .inr (some 33), .inr (some 34)])
abbrev ob33 : Ob := .inr (.inl 100)
abbrev ob34 : Ob := .inr (.inl 10)
abbrev ob35 : Ob := .inl (5, [.inl false, .inl false, .inl false, .inl false, .inl false, .inl false, .inr (some 36), .inr (some 37)])
abbrev ob36 : Ob := .inr (.inl 100)
abbrev ob37 : Ob := .inr (.inl 10)
abbrev ob38 : Ob := .inl (4, [.inl false, .inr (some 39)])
abbrev ob39 : Ob := .inl (5, [.inl false, .inl false, .inl false, .inl false, .inl false, .inl false, .inr (some 40), .inr (some 41)])
abbrev ob40 : Ob := .inr (.inl 100)
abbrev ob41 : Ob := .inr (.inl 10)
abbrev ob42 : Ob := .inl (4, [.inl false, .inr (some 43)])
abbrev ob43 : Ob := .inl (5, [.inl false, .inl false, .inl false, .inl false, .inl false, .inl false, .inr (some 44), .inr (some 45)])
abbrev ob44 : Ob := .inr (.inl 100)
abbrev ob45 : Ob := .inr (.inl 10)
abbrev ob46 : Ob := .inl (8, [.inr (some 47), .inr (some 48), .inl false, .inr (some 49), .inr (some 50), .inr (some 51), .inl false, .inl false, .inr (some 52), .inl false, .inr (some 53), .inl false, .inr (some 54), .inr (some 55), .inl false, .inr (some 56), .inl false, .inl false, .inr (some 57), .inr (some 58), .inl true])
abbrev ob47 : Ob := .inr (.inl 116)
abbrev ob48 : Ob := .inr (.inl 696)
abbrev ob49 : Ob := .inr (.inl 232)
abbrev ob50 : Ob := .inr (.inl 2)
abbrev ob51 : Ob := .inr (.inl 60)
abbrev ob52 : Ob := .inr (.inl 10)
abbrev ob53 : Ob := .inr (.inl 48)
abbrev ob54 : Ob := .inr (.inl 50)
abbrev ob55 : Ob := .inr (.inl 5)
abbrev ob56 : Ob := .inr (.inl 100)
abbrev ob57 : Ob := .inr (.inl 121)
abbrev ob58 : Ob := .inr (.inl 121)
abbrev ob59 : Ob := .inr (.inr (.inl 1))
def SH : List Ob := [ob0, ob1, ob2, ob3, ob4, ob5, ob6, ob7, ob8, ob9, ob10, ob11, ob12, ob13, ob14, ob15, ob16, ob17, ob18, ob19, ob20, ob21, ob22, ob23, ob24, ob25, ob26, ob27, ob28, ob29, ob30, ob31, ob32, ob33, ob34, ob35, ob36, ob37, ob38, ob39, ob40, ob41, ob42, ob43, ob44, ob45, ob46, ob47, ob48, ob49, ob50, ob51, ob52, ob53, ob54, ob55, ob56, ob57, ob58, ob59]
theorem sh0 : SH[0]? = some ob0 := rfl
theorem sh1 : SH[1]? = some ob1 := rfl
theorem sh2 : SH[2]? = some ob2 := rfl
theorem sh3 : SH[3]? = some ob3 := rfl
theorem sh4 : SH[4]? = some ob4 := rfl
theorem sh5 : SH[5]? = some ob5 := rfl
theorem sh6 : SH[6]? = some ob6 := rfl
theorem sh7 : SH[7]? = some ob7 := rfl
theorem sh8 : SH[8]? = some ob8 := rfl
theorem sh9 : SH[9]? = some ob9 := rfl
theorem sh10 : SH[10]? = some ob10 := rfl
theorem sh11 : SH[11]? = some ob11 := rfl
theorem sh12 : SH[12]? = some ob12 := rfl
theorem sh13 : SH[13]? = some ob13 := rfl
theorem sh14 : SH[14]? = some ob14 := rfl
theorem sh15 : SH[15]? = some ob15 := rfl
theorem sh16 : SH[16]? = some ob16 := rfl
theorem sh17 : SH[17]? = some ob17 := rfl
theorem sh18 : SH[18]? = some ob18 := rfl
theorem sh19 : SH[19]? = some ob19 := rfl
theorem sh20 : SH[20]? = some ob20 := rfl
theorem sh21 : SH[21]? = some ob21 := rfl
theorem sh22 : SH[22]? = some ob22 := rfl
theorem sh23 : SH[23]? = some ob23 := rfl
theorem sh24 : SH[24]? = some ob24 := rfl
theorem sh25 : SH[25]? = some ob25 := rfl
theorem sh26 : SH[26]? = some ob26 := rfl
theorem sh27 : SH[27]? = some ob27 := rfl
theorem sh28 : SH[28]? = some ob28 := rfl
theorem sh29 : SH[29]? = some ob29 := rfl
theorem sh30 : SH[30]? = some ob30 := rfl
theorem sh31 : SH[31]? = some ob31 := rfl
theorem sh32 : SH[32]? = some ob32 := rfl
theorem sh33 : SH[33]? = some ob33 := rfl
theorem sh34 : SH[34]? = some ob34 := rfl
theorem sh35 : SH[35]? = some ob35 := rfl
theorem sh36 : SH[36]? = some ob36 := rfl
theorem sh37 : SH[37]? = some ob37 := rfl
theorem sh38 : SH[38]? = some ob38 := rfl
theorem sh39 : SH[39]? = some ob39 := rfl
theorem sh40 : SH[40]? = some ob40 := rfl
theorem sh41 : SH[41]? = some ob41 := rfl
theorem sh42 : SH[42]? = some ob42 := rfl
theorem sh43 : SH[43]? = some ob43 := rfl
theorem sh44 : SH[44]? = some ob44 := rfl
theorem sh45 : SH[45]? = some ob45 := rfl
theorem sh46 : SH[46]? = some ob46 := rfl
theorem sh47 : SH[47]? = some ob47 := rfl
theorem sh48 : SH[48]? = some ob48 := rfl
theorem sh49 : SH[49]? = some ob49 := rfl
theorem sh50 : SH[50]? = some ob50 := rfl
theorem sh51 : SH[51]? = some ob51 := rfl
theorem sh52 : SH[52]? = some ob52 := rfl
theorem sh53 : SH[53]? = some ob53 := rfl
theorem sh54 : SH[54]? = some ob54 := rfl
theorem sh55 : SH[55]? = some ob55 := rfl
theorem sh56 : SH[56]? = some ob56 := rfl
theorem sh57 : SH[57]? = some ob57 := rfl
theorem sh58 : SH[58]? = some ob58 := rfl
theorem sh59 : SH[59]? = some ob59 := rfl
abbrev mX7_init : MI := (yX7_init, cX7_init, 1, none)
abbrev mX5_init : MI := (yX5_init, cX5_init, 1, none)
abbrev mX7_setIn : MI := (yX7_setIn, cX7_setIn, 3, none)
abbrev mX3_init : MI := (yX3_init, cX3_init, 2, none)
abbrev mX1_init : MI := (yX1_init, cX1_init, 2, none)
abbrev mX0_init : MI := (yX0_init, cX0_init, 2, none)
abbrev mX6_init : MI := (yX6_init, cX6_init, 1, none)
abbrev mX2_init : MI := (yX2_init, cX2_init, 2, none)
abbrev mX4_init : MI := (yX4_init, cX4_init, 1, none)
abbrev mX7_mend : MI := (yX7_mend, cX7_mend, 2, (some .int))
abbrev mX2_save : MI := (yX2_save, cX2_save, 3, none)
abbrev mX2_stateAt : MI := (yX2_stateAt, cX2_stateAt, 3, (some (.object "LeastRows$State")))
abbrev mX5_copyFrom : MI := (yX5_copyFrom, cX5_copyFrom, 2, none)
abbrev mX7_copyAll : MI := (yX7_copyAll, cX7_copyAll, 3, none)
abbrev mX3_examine : MI := (yX3_examine, cX3_examine, 4, none)
abbrev mX3_isGreater : MI := (yX3_isGreater, cX3_isGreater, 4, (some .boolean))
abbrev mX5_numberAt : MI := (yX5_numberAt, cX5_numberAt, 4, (some .int))
abbrev mX3_note : MI := (yX3_note, cX3_note, 4, none)
abbrev mX5_setNumber : MI := (yX5_setNumber, cX5_setNumber, 4, none)
abbrev mX7_clearBuffer : MI := (yX7_clearBuffer, cX7_clearBuffer, 2, (some .int))
abbrev mX6_clear : MI := (yX6_clear, cX6_clear, 1, none)
abbrev mX7_firstError : MI := (yX7_firstError, cX7_firstError, 1, (some .int))
abbrev mX6_readToError : MI := (yX6_readToError, cX6_readToError, 2, (some .int))
abbrev mX6_codeAt : MI := (yX6_codeAt, cX6_codeAt, 2, (some .int))
abbrev mX7_numberIn : MI := (yX7_numberIn, cX7_numberIn, 2, (some .int))
abbrev mX6_takes : MI := (yX6_takes, cX6_takes, 2, (some .boolean))
abbrev mX7_isFromTo : MI := (yX7_isFromTo, cX7_isFromTo, 3, (some .boolean))
abbrev mX6_takesDigit : MI := (yX6_takesDigit, cX6_takesDigit, 3, (some .boolean))
abbrev mX6_takesComma : MI := (yX6_takesComma, cX6_takesComma, 1, (some .boolean))
abbrev mX6_takesSlash : MI := (yX6_takesSlash, cX6_takesSlash, 1, (some .boolean))
abbrev mX6_isRowFull : MI := (yX6_isRowFull, cX6_isRowFull, 1, (some .boolean))
abbrev mX7_bound : MI := (yX7_bound, cX7_bound, 3, (some .int))
abbrev mX7_halfShare : MI := (yX7_halfShare, cX7_halfShare, 1, (some .double))
abbrev mX3_isKept : MI := (yX3_isKept, cX3_isKept, 1, (some .boolean))
abbrev mX1_seek : MI := (yX1_seek, cX1_seek, 3, none)
abbrev mX1_leaveAllColumns : MI := (yX1_leaveAllColumns, cX1_leaveAllColumns, 2, none)
abbrev mX1_halve : MI := (yX1_halve, cX1_halve, 8, none)
abbrev mX1_leftmostLeast : MI := (yX1_leftmostLeast, cX1_leftmostLeast, 11, (some .int))
abbrev mX1_columnLeft : MI := (yX1_columnLeft, cX1_columnLeft, 3, (some .int))
abbrev mX1_look : MI := (yX1_look, cX1_look, 3, (some .int))
abbrev mX1_setPlace : MI := (yX1_setPlace, cX1_setPlace, 3, none)
abbrev mX1_pileColumns : MI := (yX1_pileColumns, cX1_pileColumns, 7, none)
abbrev mX1_rowsAt : MI := (yX1_rowsAt, cX1_rowsAt, 2, (some .int))
abbrev mX1_heightAfterThrowing : MI := (yX1_heightAfterThrowing, cX1_heightAfterThrowing, 8, (some .int))
abbrev mX1_rowAt : MI := (yX1_rowAt, cX1_rowAt, 3, (some .int))
abbrev mX1_fillBetween : MI := (yX1_fillBetween, cX1_fillBetween, 7, none)
abbrev mX1_placeBy : MI := (yX1_placeBy, cX1_placeBy, 3, (some .int))
abbrev mX1_lookAtAll : MI := (yX1_lookAtAll, cX1_lookAtAll, 2, none)
abbrev mX1_shareOfHalves : MI := (yX1_shareOfHalves, cX1_shareOfHalves, 2, (some .double))
abbrev mX1_looksBy : MI := (yX1_looksBy, cX1_looksBy, 2, (some .int))
abbrev mX7_digest : MI := (yX7_digest, cX7_digest, 4, (some .long))
abbrev mX7_counted : MI := (yX7_counted, cX7_counted, 2, (some .int))
abbrev mX5_weightsTogether : MI := (yX5_weightsTogether, cX5_weightsTogether, 3, (some .int))
abbrev mX5_weightAt : MI := (yX5_weightAt, cX5_weightAt, 2, (some .int))
abbrev mX1_placesGoneBack : MI := (yX1_placesGoneBack, cX1_placesGoneBack, 3, (some .int))
abbrev mX7_mixed : MI := (yX7_mixed, cX7_mixed, 4, (some .long))
abbrev mX7_mixedCells : MI := (yX7_mixedCells, cX7_mixedCells, 7, (some .long))
abbrev mX7_seekByAllWays : MI := (yX7_seekByAllWays, cX7_seekByAllWays, 2, none)
abbrev mX1_tellNothing : MI := (yX1_tellNothing, cX1_tellNothing, 3, none)
abbrev mX7_mixedPlaces : MI := (yX7_mixedPlaces, cX7_mixedPlaces, 7, (some .long))
abbrev mX3_told : MI := (yX3_told, cX3_told, 2, (some .int))
abbrev mX7_mixedWeights : MI := (yX7_mixedWeights, cX7_mixedWeights, 7, (some .long))
abbrev mX0_planCuts : MI := (yX0_planCuts, cX0_planCuts, 4, none)
abbrev mX0_planLastCut : MI := (yX0_planLastCut, cX0_planLastCut, 9, none)
abbrev mX0_tryAllCuts : MI := (yX0_tryAllCuts, cX0_tryAllCuts, 2, none)
abbrev mX0_tryNextPart : MI := (yX0_tryNextPart, cX0_tryNextPart, 7, none)
abbrev mX0_triedCost : MI := (yX0_triedCost, cX0_triedCost, 2, (some .int))
abbrev mJ9_min_7cf53 : MI := (yJ9_min_7cf53, cJ9_min_7cf53, 2, (some .int))
abbrev mX0_plannedCost : MI := (yX0_plannedCost, cX0_plannedCost, 2, (some .int))
abbrev mX0_plannedCut : MI := (yX0_plannedCut, cX0_plannedCut, 5, (some .int))
abbrev mX0_fewestPartsFor : MI := (yX0_fewestPartsFor, cX0_fewestPartsFor, 3, (some .int))
abbrev mX7_bitsOf : MI := (yX7_bitsOf, cX7_bitsOf, 8, (some .long))
abbrev mL_size : MI := (yL_size, cL_size, 5, (some .int))
abbrev mX7_size : MI := (yX7_size, cX7_size, 4, (some .int))
abbrev mX5_sizeCode : MI := (yX5_sizeCode, cX5_sizeCode, 1, (some .int))
abbrev mL_put : MI := (yL_put, cL_put, 6, (some .int))
abbrev mX7_put : MI := (yX7_put, cX7_put, 5, (some .int))
abbrev mX5_hasCell : MI := (yX5_hasCell, cX5_hasCell, 3, (some .boolean))
abbrev mL_points : MI := (yL_points, cL_points, 7, (some .int))
abbrev mX7_points : MI := (yX7_points, cX7_points, 8, (some .int))
abbrev mL_find : MI := (yL_find, cL_find, 4, (some .int))
abbrev mX7_find : MI := (yX7_find, cX7_find, 3, (some .int))
abbrev mX7_isWay : MI := (yX7_isWay, cX7_isWay, 1, (some .boolean))
abbrev mX7_isOpen : MI := (yX7_isOpen, cX7_isOpen, 2, (some .boolean))
abbrev mL_weigh : MI := (yL_weigh, cL_weigh, 4, (some .int))
abbrev mX7_weigh : MI := (yX7_weigh, cX7_weigh, 2, (some .int))
abbrev mX5_addWeight : MI := (yX5_addWeight, cX5_addWeight, 2, none)
abbrev mL_unweigh : MI := (yL_unweigh, cL_unweigh, 3, (some .int))
abbrev mX7_unweigh : MI := (yX7_unweigh, cX7_unweigh, 1, (some .int))
abbrev mL_append : MI := (yL_append, cL_append, 4, (some .int))
abbrev mX7_append : MI := (yX7_append, cX7_append, 2, (some .int))
abbrev mX6_add : MI := (yX6_add, cX6_add, 2, none)
abbrev mL_load : MI := (yL_load, cL_load, 3, (some .int))
abbrev mX7_load : MI := (yX7_load, cX7_load, 3, (some .int))
abbrev mX6_tellsTable : MI := (yX6_tellsTable, cX6_tellsTable, 1, (some .boolean))
abbrev mX6_rowsTold : MI := (yX6_rowsTold, cX6_rowsTold, 1, (some .int))
abbrev mX6_columnsTold : MI := (yX6_columnsTold, cX6_columnsTold, 1, (some .int))
abbrev mX6_numberTold : MI := (yX6_numberTold, cX6_numberTold, 3, (some .int))
abbrev mL_keep : MI := (yL_keep, cL_keep, 4, (some .int))
abbrev mX7_keep : MI := (yX7_keep, cX7_keep, 2, (some .int))
abbrev mX7_slotAt : MI := (yX7_slotAt, cX7_slotAt, 2, (some (.object "LeastRows$Slot")))
abbrev mX4_fillFrom : MI := (yX4_fillFrom, cX4_fillFrom, 2, none)
abbrev mL_goBack : MI := (yL_goBack, cL_goBack, 4, (some .int))
abbrev mX7_goBack : MI := (yX7_goBack, cX7_goBack, 3, (some .int))
abbrev mL_undo : MI := (yL_undo, cL_undo, 3, (some .int))
abbrev mX7_undo : MI := (yX7_undo, cX7_undo, 1, (some .int))
abbrev mX2_latest : MI := (yX2_latest, cX2_latest, 1, (some (.object "LeastRows$State")))
abbrev mL_cell : MI := (yL_cell, cL_cell, 5, (some .int))
abbrev mX7_cell : MI := (yX7_cell, cX7_cell, 3, (some .int))
abbrev mL_place : MI := (yL_place, cL_place, 5, (some .int))
abbrev mX7_place : MI := (yX7_place, cX7_place, 3, (some .int))
abbrev mL_looks : MI := (yL_looks, cL_looks, 4, (some .int))
abbrev mX7_looks : MI := (yX7_looks, cX7_looks, 2, (some .int))
abbrev mL_witness : MI := (yL_witness, cL_witness, 4, (some .int))
abbrev mX7_witness : MI := (yX7_witness, cX7_witness, 2, (some .int))
abbrev mL_count : MI := (yL_count, cL_count, 4, (some .int))
abbrev mX7_count : MI := (yX7_count, cX7_count, 2, (some .int))
abbrev mL_weight : MI := (yL_weight, cL_weight, 4, (some .int))
abbrev mX7_weight : MI := (yX7_weight, cX7_weight, 2, (some .int))
abbrev mL_cost : MI := (yL_cost, cL_cost, 5, (some .int))
abbrev mX7_cost : MI := (yX7_cost, cX7_cost, 3, (some .int))
abbrev mL_cut : MI := (yL_cut, cL_cut, 5, (some .int))
abbrev mX7_cut : MI := (yX7_cut, cX7_cut, 3, (some .int))
abbrev mL_fewestParts : MI := (yL_fewestParts, cL_fewestParts, 4, (some .int))
abbrev mX7_fewestParts : MI := (yX7_fewestParts, cX7_fewestParts, 2, (some .int))
abbrev mX8_init : MI := (yX8_init, cX8_init, 1, none)
abbrev mX8_thrown : MI := (yX8_thrown, cX8_thrown, 1, (some .int))
abbrev mX8_size : MI := (yX8_size, cX8_size, 4, (some .int))
abbrev mX8_in : MI := (yX8_in, cX8_in, 3, (some .boolean))
abbrev mX8_refuses : MI := (yX8_refuses, cX8_refuses, 2, (some .int))
abbrev mX8_saves : MI := (yX8_saves, cX8_saves, 2, none)
abbrev mX8_lays : MI := (yX8_lays, cX8_lays, 5, none)
abbrev mX8_put : MI := (yX8_put, cX8_put, 5, (some .int))
abbrev mX8_isCell : MI := (yX8_isCell, cX8_isCell, 3, (some .boolean))
abbrev mX8_isRow : MI := (yX8_isRow, cX8_isRow, 2, (some .boolean))
abbrev mX8_at : MI := (yX8_at, cX8_at, 3, (some .int))
abbrev mX8_becomes : MI := (yX8_becomes, cX8_becomes, 4, none)
abbrev mX8_points : MI := (yX8_points, cX8_points, 7, (some .int))
abbrev mX8_isKeeping : MI := (yX8_isKeeping, cX8_isKeeping, 1, (some .boolean))
abbrev mX8_first : MI := (yX8_first, cX8_first, 4, (some .int))
abbrev mX8_isAgainst : MI := (yX8_isAgainst, cX8_isAgainst, 4, (some .boolean))
abbrev mX8_mend : MI := (yX8_mend, cX8_mend, 4, (some .int))
abbrev mX8_find : MI := (yX8_find, cX8_find, 2, (some .int))
abbrev mX8_canGo : MI := (yX8_canGo, cX8_canGo, 2, (some .boolean))
abbrev mX8_finds : MI := (yX8_finds, cX8_finds, 2, none)
abbrev mX8_byAll : MI := (yX8_byAll, cX8_byAll, 2, none)
abbrev mX8_least : MI := (yX8_least, cX8_least, 6, (some .int))
abbrev mX8_byHalves : MI := (yX8_byHalves, cX8_byHalves, 6, none)
abbrev mX8_opens : MI := (yX8_opens, cX8_opens, 5, none)
abbrev mX8_byThrowing : MI := (yX8_byThrowing, cX8_byThrowing, 2, none)
abbrev mX8_throwsOut : MI := (yX8_throwsOut, cX8_throwsOut, 5, none)
abbrev mX8_piles : MI := (yX8_piles, cX8_piles, 8, (some .int))
abbrev mX8_rowAt : MI := (yX8_rowAt, cX8_rowAt, 2, (some .int))
abbrev mX8_fills : MI := (yX8_fills, cX8_fills, 7, none)
abbrev mX8_leastLeft : MI := (yX8_leastLeft, cX8_leastLeft, 8, (some .int))
abbrev mX8_weigh : MI := (yX8_weigh, cX8_weigh, 2, (some .int))
abbrev mX8_unweigh : MI := (yX8_unweigh, cX8_unweigh, 2, (some .int))
abbrev mX8_append : MI := (yX8_append, cX8_append, 2, (some .int))
abbrev mX8_clearBuffer : MI := (yX8_clearBuffer, cX8_clearBuffer, 2, (some .int))
abbrev mX8_firstError : MI := (yX8_firstError, cX8_firstError, 1, (some .int))
abbrev mX8_isWhole : MI := (yX8_isWhole, cX8_isWhole, 3, (some .boolean))
abbrev mX8_isLine : MI := (yX8_isLine, cX8_isLine, 5, (some .int))
abbrev mX8_isNumber : MI := (yX8_isNumber, cX8_isNumber, 4, (some .boolean))
abbrev mX8_sees : MI := (yX8_sees, cX8_sees, 3, (some .boolean))
abbrev mX8_takes : MI := (yX8_takes, cX8_takes, 3, (some .boolean))
abbrev mX8_load : MI := (yX8_load, cX8_load, 2, (some .int))
abbrev mX8_keep : MI := (yX8_keep, cX8_keep, 2, (some .int))
abbrev mX8_goBack : MI := (yX8_goBack, cX8_goBack, 2, (some .int))
abbrev mX8_undo : MI := (yX8_undo, cX8_undo, 1, (some .int))
abbrev mX8_cell : MI := (yX8_cell, cX8_cell, 3, (some .int))
abbrev mX8_place : MI := (yX8_place, cX8_place, 3, (some .int))
abbrev mX8_placeBy : MI := (yX8_placeBy, cX8_placeBy, 3, (some .int))
abbrev mX8_looks : MI := (yX8_looks, cX8_looks, 2, (some .int))
abbrev mX8_looksBy : MI := (yX8_looksBy, cX8_looksBy, 2, (some .int))
abbrev mX8_bound : MI := (yX8_bound, cX8_bound, 1, (some .int))
abbrev mX8_bounds : MI := (yX8_bounds, cX8_bounds, 3, (some .int))
abbrev mX8_witness : MI := (yX8_witness, cX8_witness, 2, (some .int))
abbrev mX8_testified : MI := (yX8_testified, cX8_testified, 3, (some .int))
abbrev mX8_witnesses : MI := (yX8_witnesses, cX8_witnesses, 5, (some .int))
abbrev mX8_count : MI := (yX8_count, cX8_count, 2, (some .int))
abbrev mX8_counted : MI := (yX8_counted, cX8_counted, 2, (some .int))
abbrev mX8_weighs : MI := (yX8_weighs, cX8_weighs, 5, (some .int))
abbrev mX8_goingBack : MI := (yX8_goingBack, cX8_goingBack, 3, (some .int))
abbrev mX8_weight : MI := (yX8_weight, cX8_weight, 2, (some .int))
abbrev mX8_cost : MI := (yX8_cost, cX8_cost, 3, (some .int))
abbrev mX8_isParts : MI := (yX8_isParts, cX8_isParts, 2, (some .boolean))
abbrev mX8_leastCost : MI := (yX8_leastCost, cX8_leastCost, 2, (some .int))
abbrev mX8_cuts : MI := (yX8_cuts, cX8_cuts, 3, none)
abbrev mX8_part : MI := (yX8_part, cX8_part, 8, none)
abbrev mX8_cut : MI := (yX8_cut, cX8_cut, 3, (some .int))
abbrev mX8_cutAt : MI := (yX8_cutAt, cX8_cutAt, 5, (some .int))
abbrev mX8_fewestParts : MI := (yX8_fewestParts, cX8_fewestParts, 2, (some .int))
abbrev mX8_fewest : MI := (yX8_fewest, cX8_fewest, 3, (some .int))
abbrev mX8_halfShare : MI := (yX8_halfShare, cX8_halfShare, 1, (some .double))
abbrev mX8_share : MI := (yX8_share, cX8_share, 4, (some .double))
abbrev mX8_digest : MI := (yX8_digest, cX8_digest, 2, (some .long))
abbrev mX8_mixes : MI := (yX8_mixes, cX8_mixes, 3, none)
abbrev mX8_mixesTable : MI := (yX8_mixesTable, cX8_mixesTable, 2, none)
abbrev mX8_mixesCuts : MI := (yX8_mixesCuts, cX8_mixesCuts, 3, none)
abbrev mJxe99ae_doubleToLongBits_ccdee : MI := (yJxe99ae_doubleToLongBits_ccdee, cJxe99ae_doubleToLongBits_ccdee, 2, (some .long))
abbrev mJxe99ae_isNaN_b9ae7 : MI := (yJxe99ae_isNaN_b9ae7, cJxe99ae_isNaN_b9ae7, 2, (some .boolean))
theorem svX7_init : SI mX7_init 0 := ⟨rfl, rfl, q21, q1, q22, ⟨by decide +kernel, by decide +kernel, by decide +kernel⟩⟩
theorem svX5_init : SI mX5_init 0 := ⟨rfl, rfl, q29, q2, q30, ⟨by decide +kernel, by decide +kernel, by decide +kernel⟩⟩
theorem svX7_setIn : SS mX7_setIn 3 := ⟨q33, q1, q34, ⟨by decide +kernel, by decide +kernel, by decide +kernel⟩⟩
theorem svX3_init : SI mX3_init 1 := ⟨rfl, rfl, q58, q3, q59, ⟨by decide +kernel, by decide +kernel, by decide +kernel⟩⟩
theorem svX1_init : SI mX1_init 1 := ⟨rfl, rfl, q73, q4, q74, ⟨by decide +kernel, by decide +kernel, by decide +kernel⟩⟩
theorem svX0_init : SI mX0_init 1 := ⟨rfl, rfl, q86, q5, q87, ⟨by decide +kernel, by decide +kernel, by decide +kernel⟩⟩
theorem svX6_init : SI mX6_init 0 := ⟨rfl, rfl, q97, q6, q98, ⟨by decide +kernel, by decide +kernel, by decide +kernel⟩⟩
theorem svX2_init : SI mX2_init 0 := ⟨rfl, rfl, q112, q7, q113, ⟨by decide +kernel, by decide +kernel, by decide +kernel⟩⟩
theorem svX4_init : SI mX4_init 0 := ⟨rfl, rfl, q124, q8, q125, ⟨by decide +kernel, by decide +kernel, by decide +kernel⟩⟩
theorem svX7_mend : SV mX7_mend 0 := ⟨q142, q143, q1, q144, ⟨by decide +kernel, by decide +kernel, by decide +kernel⟩⟩
theorem svX2_save : SV mX2_save 1 := ⟨q146, q147, q7, q148, ⟨by decide +kernel, by decide +kernel, by decide +kernel⟩⟩
theorem svX2_stateAt : SV mX2_stateAt 1 := ⟨q150, q922, q7, q151, ⟨by decide +kernel, by decide +kernel, by decide +kernel⟩⟩
theorem svX5_copyFrom : SV mX5_copyFrom 1 := ⟨q153, q154, q2, q155, ⟨by decide +kernel, by decide +kernel, by decide +kernel⟩⟩
theorem svX7_copyAll : SS mX7_copyAll 2 := ⟨q157, q1, q158, ⟨by decide +kernel, by decide +kernel, by decide +kernel⟩⟩
theorem svX3_examine : SV mX3_examine 0 := ⟨q160, q161, q3, q162, ⟨by decide +kernel, by decide +kernel, by decide +kernel⟩⟩
theorem svX3_isGreater : SV mX3_isGreater 3 := ⟨q164, q923, q3, q165, ⟨by decide +kernel, by decide +kernel, by decide +kernel⟩⟩
theorem svX5_numberAt : SV mX5_numberAt 2 := ⟨q167, q168, q2, q169, ⟨by decide +kernel, by decide +kernel, by decide +kernel⟩⟩
theorem svX3_note : SV mX3_note 3 := ⟨q171, q924, q3, q172, ⟨by decide +kernel, by decide +kernel, by decide +kernel⟩⟩
theorem svX5_setNumber : SV mX5_setNumber 3 := ⟨q175, q176, q2, q177, ⟨by decide +kernel, by decide +kernel, by decide +kernel⟩⟩
theorem svX7_clearBuffer : SV mX7_clearBuffer 0 := ⟨q179, q180, q1, q181, ⟨by decide +kernel, by decide +kernel, by decide +kernel⟩⟩
theorem svX6_clear : SV mX6_clear 0 := ⟨q183, q184, q6, q185, ⟨by decide +kernel, by decide +kernel, by decide +kernel⟩⟩
theorem svX7_firstError : SV mX7_firstError 0 := ⟨q187, q188, q1, q189, ⟨by decide +kernel, by decide +kernel, by decide +kernel⟩⟩
theorem svX6_readToError : SV mX6_readToError 0 := ⟨q191, q192, q6, q193, ⟨by decide +kernel, by decide +kernel, by decide +kernel⟩⟩
theorem svX6_codeAt : SV mX6_codeAt 1 := ⟨q195, q196, q6, q197, ⟨by decide +kernel, by decide +kernel, by decide +kernel⟩⟩
theorem svX7_numberIn : SS mX7_numberIn 2 := ⟨q199, q1, q200, ⟨by decide +kernel, by decide +kernel, by decide +kernel⟩⟩
theorem svX6_takes : SV mX6_takes 1 := ⟨q202, q925, q6, q203, ⟨by decide +kernel, by decide +kernel, by decide +kernel⟩⟩
theorem svX7_isFromTo : SS mX7_isFromTo 3 := ⟨q205, q1, q206, ⟨by decide +kernel, by decide +kernel, by decide +kernel⟩⟩
theorem svX6_takesDigit : SV mX6_takesDigit 1 := ⟨q208, q926, q6, q209, ⟨by decide +kernel, by decide +kernel, by decide +kernel⟩⟩
theorem svX6_takesComma : SV mX6_takesComma 0 := ⟨q212, q927, q6, q213, ⟨by decide +kernel, by decide +kernel, by decide +kernel⟩⟩
theorem svX6_takesSlash : SV mX6_takesSlash 0 := ⟨q215, q928, q6, q216, ⟨by decide +kernel, by decide +kernel, by decide +kernel⟩⟩
theorem svX6_isRowFull : SV mX6_isRowFull 0 := ⟨q218, q929, q6, q219, ⟨by decide +kernel, by decide +kernel, by decide +kernel⟩⟩
theorem svX7_bound : SV mX7_bound 0 := ⟨q221, q222, q1, q223, ⟨by decide +kernel, by decide +kernel, by decide +kernel⟩⟩
theorem svX7_halfShare : SV mX7_halfShare 0 := ⟨q225, q226, q1, q227, ⟨by decide +kernel, by decide +kernel, by decide +kernel⟩⟩
theorem svX3_isKept : SV mX3_isKept 0 := ⟨q229, q230, q3, q231, ⟨by decide +kernel, by decide +kernel, by decide +kernel⟩⟩
theorem svX1_seek : SV mX1_seek 1 := ⟨q234, q235, q4, q236, ⟨by decide +kernel, by decide +kernel, by decide +kernel⟩⟩
theorem svX1_leaveAllColumns : SV mX1_leaveAllColumns 0 := ⟨q238, q930, q4, q239, ⟨by decide +kernel, by decide +kernel, by decide +kernel⟩⟩
theorem svX1_halve : SS mX1_halve 6 := ⟨q242, q4, q243, ⟨by decide +kernel, by decide +kernel, by decide +kernel⟩⟩
theorem svX1_leftmostLeast : SV mX1_leftmostLeast 4 := ⟨q245, q931, q4, q246, ⟨by decide +kernel, by decide +kernel, by decide +kernel⟩⟩
theorem svX1_columnLeft : SV mX1_columnLeft 2 := ⟨q249, q932, q4, q250, ⟨by decide +kernel, by decide +kernel, by decide +kernel⟩⟩
theorem svX1_look : SV mX1_look 2 := ⟨q253, q933, q4, q254, ⟨by decide +kernel, by decide +kernel, by decide +kernel⟩⟩
theorem svX1_setPlace : SV mX1_setPlace 2 := ⟨q257, q934, q4, q258, ⟨by decide +kernel, by decide +kernel, by decide +kernel⟩⟩
theorem svX1_pileColumns : SV mX1_pileColumns 1 := ⟨q260, q935, q4, q261, ⟨by decide +kernel, by decide +kernel, by decide +kernel⟩⟩
theorem svX1_rowsAt : SV mX1_rowsAt 1 := ⟨q263, q936, q4, q264, ⟨by decide +kernel, by decide +kernel, by decide +kernel⟩⟩
theorem svX1_heightAfterThrowing : SV mX1_heightAfterThrowing 3 := ⟨q266, q937, q4, q267, ⟨by decide +kernel, by decide +kernel, by decide +kernel⟩⟩
theorem svX1_rowAt : SV mX1_rowAt 2 := ⟨q269, q938, q4, q270, ⟨by decide +kernel, by decide +kernel, by decide +kernel⟩⟩
theorem svX1_fillBetween : SV mX1_fillBetween 1 := ⟨q272, q939, q4, q273, ⟨by decide +kernel, by decide +kernel, by decide +kernel⟩⟩
theorem svX1_placeBy : SV mX1_placeBy 2 := ⟨q275, q276, q4, q277, ⟨by decide +kernel, by decide +kernel, by decide +kernel⟩⟩
theorem svX1_lookAtAll : SV mX1_lookAtAll 0 := ⟨q279, q940, q4, q280, ⟨by decide +kernel, by decide +kernel, by decide +kernel⟩⟩
theorem svX1_shareOfHalves : SV mX1_shareOfHalves 0 := ⟨q282, q283, q4, q284, ⟨by decide +kernel, by decide +kernel, by decide +kernel⟩⟩
theorem svX1_looksBy : SV mX1_looksBy 1 := ⟨q286, q287, q4, q288, ⟨by decide +kernel, by decide +kernel, by decide +kernel⟩⟩
theorem svX7_digest : SV mX7_digest 0 := ⟨q290, q291, q1, q292, ⟨by decide +kernel, by decide +kernel, by decide +kernel⟩⟩
theorem svX7_counted : SV mX7_counted 1 := ⟨q295, q941, q1, q296, ⟨by decide +kernel, by decide +kernel, by decide +kernel⟩⟩
theorem svX5_weightsTogether : SV mX5_weightsTogether 0 := ⟨q298, q299, q2, q300, ⟨by decide +kernel, by decide +kernel, by decide +kernel⟩⟩
theorem svX5_weightAt : SV mX5_weightAt 1 := ⟨q302, q303, q2, q304, ⟨by decide +kernel, by decide +kernel, by decide +kernel⟩⟩
theorem svX1_placesGoneBack : SV mX1_placesGoneBack 0 := ⟨q307, q308, q4, q309, ⟨by decide +kernel, by decide +kernel, by decide +kernel⟩⟩
theorem svX7_mixed : SS mX7_mixed 2 := ⟨q311, q1, q312, ⟨by decide +kernel, by decide +kernel, by decide +kernel⟩⟩
theorem svX7_mixedCells : SV mX7_mixedCells 1 := ⟨q315, q942, q1, q316, ⟨by decide +kernel, by decide +kernel, by decide +kernel⟩⟩
theorem svX7_seekByAllWays : SV mX7_seekByAllWays 0 := ⟨q318, q943, q1, q319, ⟨by decide +kernel, by decide +kernel, by decide +kernel⟩⟩
theorem svX1_tellNothing : SV mX1_tellNothing 1 := ⟨q321, q322, q4, q323, ⟨by decide +kernel, by decide +kernel, by decide +kernel⟩⟩
theorem svX7_mixedPlaces : SV mX7_mixedPlaces 1 := ⟨q325, q944, q1, q326, ⟨by decide +kernel, by decide +kernel, by decide +kernel⟩⟩
theorem svX3_told : SV mX3_told 1 := ⟨q331, q332, q3, q333, ⟨by decide +kernel, by decide +kernel, by decide +kernel⟩⟩
theorem svX7_mixedWeights : SV mX7_mixedWeights 1 := ⟨q335, q945, q1, q336, ⟨by decide +kernel, by decide +kernel, by decide +kernel⟩⟩
theorem svX0_planCuts : SV mX0_planCuts 0 := ⟨q339, q340, q5, q341, ⟨by decide +kernel, by decide +kernel, by decide +kernel⟩⟩
theorem svX0_planLastCut : SV mX0_planLastCut 2 := ⟨q345, q946, q5, q346, ⟨by decide +kernel, by decide +kernel, by decide +kernel⟩⟩
theorem svX0_tryAllCuts : SV mX0_tryAllCuts 0 := ⟨q350, q351, q5, q352, ⟨by decide +kernel, by decide +kernel, by decide +kernel⟩⟩
theorem svX0_tryNextPart : SS mX0_tryNextPart 4 := ⟨q354, q5, q355, ⟨by decide +kernel, by decide +kernel, by decide +kernel⟩⟩
theorem svX0_triedCost : SV mX0_triedCost 1 := ⟨q357, q358, q5, q359, ⟨by decide +kernel, by decide +kernel, by decide +kernel⟩⟩
theorem svJ9_min_7cf53 : SS mJ9_min_7cf53 2 := ⟨q361, q15, q362, ⟨by decide +kernel, by decide +kernel, by decide +kernel⟩⟩
theorem svX0_plannedCost : SV mX0_plannedCost 1 := ⟨q364, q365, q5, q366, ⟨by decide +kernel, by decide +kernel, by decide +kernel⟩⟩
theorem svX0_plannedCut : SV mX0_plannedCut 2 := ⟨q369, q370, q5, q371, ⟨by decide +kernel, by decide +kernel, by decide +kernel⟩⟩
theorem svX0_fewestPartsFor : SV mX0_fewestPartsFor 1 := ⟨q373, q374, q5, q375, ⟨by decide +kernel, by decide +kernel, by decide +kernel⟩⟩
theorem svX7_bitsOf : SS mX7_bitsOf 1 := ⟨q379, q1, q380, ⟨by decide +kernel, by decide +kernel, by decide +kernel⟩⟩
theorem svX7_size : SV mX7_size 2 := ⟨q390, q391, q1, q392, ⟨by decide +kernel, by decide +kernel, by decide +kernel⟩⟩
theorem svX5_sizeCode : SV mX5_sizeCode 0 := ⟨q431, q432, q2, q433, ⟨by decide +kernel, by decide +kernel, by decide +kernel⟩⟩
theorem svX7_put : SV mX7_put 3 := ⟨q439, q440, q1, q441, ⟨by decide +kernel, by decide +kernel, by decide +kernel⟩⟩
theorem svX5_hasCell : SV mX5_hasCell 2 := ⟨q443, q444, q2, q445, ⟨by decide +kernel, by decide +kernel, by decide +kernel⟩⟩
theorem svX7_points : SV mX7_points 4 := ⟨q459, q460, q1, q461, ⟨by decide +kernel, by decide +kernel, by decide +kernel⟩⟩
theorem svX7_find : SV mX7_find 1 := ⟨q468, q469, q1, q470, ⟨by decide +kernel, by decide +kernel, by decide +kernel⟩⟩
theorem svX7_isWay : SS mX7_isWay 1 := ⟨q472, q1, q473, ⟨by decide +kernel, by decide +kernel, by decide +kernel⟩⟩
theorem svX7_isOpen : SV mX7_isOpen 1 := ⟨q475, q948, q1, q476, ⟨by decide +kernel, by decide +kernel, by decide +kernel⟩⟩
theorem svX7_weigh : SV mX7_weigh 1 := ⟨q489, q490, q1, q491, ⟨by decide +kernel, by decide +kernel, by decide +kernel⟩⟩
theorem svX5_addWeight : SV mX5_addWeight 1 := ⟨q493, q494, q2, q495, ⟨by decide +kernel, by decide +kernel, by decide +kernel⟩⟩
theorem svX7_unweigh : SV mX7_unweigh 0 := ⟨q500, q501, q1, q502, ⟨by decide +kernel, by decide +kernel, by decide +kernel⟩⟩
theorem svX7_append : SV mX7_append 1 := ⟨q507, q508, q1, q509, ⟨by decide +kernel, by decide +kernel, by decide +kernel⟩⟩
theorem svX6_add : SV mX6_add 1 := ⟨q511, q512, q6, q513, ⟨by decide +kernel, by decide +kernel, by decide +kernel⟩⟩
theorem svX7_load : SV mX7_load 0 := ⟨q518, q519, q1, q520, ⟨by decide +kernel, by decide +kernel, by decide +kernel⟩⟩
theorem svX6_tellsTable : SV mX6_tellsTable 0 := ⟨q522, q523, q6, q524, ⟨by decide +kernel, by decide +kernel, by decide +kernel⟩⟩
theorem svX6_rowsTold : SV mX6_rowsTold 0 := ⟨q527, q528, q6, q529, ⟨by decide +kernel, by decide +kernel, by decide +kernel⟩⟩
theorem svX6_columnsTold : SV mX6_columnsTold 0 := ⟨q531, q532, q6, q533, ⟨by decide +kernel, by decide +kernel, by decide +kernel⟩⟩
theorem svX6_numberTold : SV mX6_numberTold 2 := ⟨q535, q536, q6, q537, ⟨by decide +kernel, by decide +kernel, by decide +kernel⟩⟩
theorem svX7_keep : SV mX7_keep 1 := ⟨q542, q543, q1, q544, ⟨by decide +kernel, by decide +kernel, by decide +kernel⟩⟩
theorem svX7_slotAt : SV mX7_slotAt 1 := ⟨q546, q949, q1, q547, ⟨by decide +kernel, by decide +kernel, by decide +kernel⟩⟩
theorem svX4_fillFrom : SV mX4_fillFrom 1 := ⟨q549, q550, q8, q551, ⟨by decide +kernel, by decide +kernel, by decide +kernel⟩⟩
theorem svX7_goBack : SV mX7_goBack 1 := ⟨q557, q558, q1, q559, ⟨by decide +kernel, by decide +kernel, by decide +kernel⟩⟩
theorem svX7_undo : SV mX7_undo 0 := ⟨q565, q566, q1, q567, ⟨by decide +kernel, by decide +kernel, by decide +kernel⟩⟩
theorem svX2_latest : SV mX2_latest 0 := ⟨q569, q570, q7, q571, ⟨by decide +kernel, by decide +kernel, by decide +kernel⟩⟩
theorem svX7_cell : SV mX7_cell 2 := ⟨q576, q577, q1, q578, ⟨by decide +kernel, by decide +kernel, by decide +kernel⟩⟩
theorem svX7_place : SV mX7_place 2 := ⟨q583, q584, q1, q585, ⟨by decide +kernel, by decide +kernel, by decide +kernel⟩⟩
theorem svX7_looks : SV mX7_looks 1 := ⟨q590, q591, q1, q592, ⟨by decide +kernel, by decide +kernel, by decide +kernel⟩⟩
theorem svX7_witness : SV mX7_witness 1 := ⟨q597, q598, q1, q599, ⟨by decide +kernel, by decide +kernel, by decide +kernel⟩⟩
theorem svX7_count : SV mX7_count 1 := ⟨q604, q605, q1, q606, ⟨by decide +kernel, by decide +kernel, by decide +kernel⟩⟩
theorem svX7_weight : SV mX7_weight 1 := ⟨q611, q612, q1, q613, ⟨by decide +kernel, by decide +kernel, by decide +kernel⟩⟩
theorem svX7_cost : SV mX7_cost 2 := ⟨q618, q619, q1, q620, ⟨by decide +kernel, by decide +kernel, by decide +kernel⟩⟩
theorem svX7_cut : SV mX7_cut 2 := ⟨q625, q626, q1, q627, ⟨by decide +kernel, by decide +kernel, by decide +kernel⟩⟩
theorem svX7_fewestParts : SV mX7_fewestParts 1 := ⟨q632, q633, q1, q634, ⟨by decide +kernel, by decide +kernel, by decide +kernel⟩⟩
theorem svX8_init : SI mX8_init 0 := ⟨rfl, rfl, q639, q9, q640, ⟨by decide +kernel, by decide +kernel, by decide +kernel⟩⟩
theorem svX8_thrown : SV mX8_thrown 0 := ⟨q664, q665, q9, q666, ⟨by decide +kernel, by decide +kernel, by decide +kernel⟩⟩
theorem svX8_size : SV mX8_size 2 := ⟨q668, q669, q9, q670, ⟨by decide +kernel, by decide +kernel, by decide +kernel⟩⟩
theorem svX8_in : SS mX8_in 3 := ⟨q672, q9, q673, ⟨by decide +kernel, by decide +kernel, by decide +kernel⟩⟩
theorem svX8_refuses : SV mX8_refuses 1 := ⟨q675, q950, q9, q676, ⟨by decide +kernel, by decide +kernel, by decide +kernel⟩⟩
theorem svX8_saves : SV mX8_saves 0 := ⟨q678, q951, q9, q679, ⟨by decide +kernel, by decide +kernel, by decide +kernel⟩⟩
theorem svX8_lays : SS mX8_lays 4 := ⟨q681, q9, q682, ⟨by decide +kernel, by decide +kernel, by decide +kernel⟩⟩
theorem svX8_put : SV mX8_put 3 := ⟨q684, q685, q9, q686, ⟨by decide +kernel, by decide +kernel, by decide +kernel⟩⟩
theorem svX8_isCell : SV mX8_isCell 2 := ⟨q688, q952, q9, q689, ⟨by decide +kernel, by decide +kernel, by decide +kernel⟩⟩
theorem svX8_isRow : SV mX8_isRow 1 := ⟨q691, q953, q9, q692, ⟨by decide +kernel, by decide +kernel, by decide +kernel⟩⟩
theorem svX8_at : SV mX8_at 2 := ⟨q694, q954, q9, q695, ⟨by decide +kernel, by decide +kernel, by decide +kernel⟩⟩
theorem svX8_becomes : SV mX8_becomes 3 := ⟨q697, q955, q9, q698, ⟨by decide +kernel, by decide +kernel, by decide +kernel⟩⟩
theorem svX8_points : SV mX8_points 4 := ⟨q700, q701, q9, q702, ⟨by decide +kernel, by decide +kernel, by decide +kernel⟩⟩
theorem svX8_isKeeping : SV mX8_isKeeping 0 := ⟨q704, q956, q9, q705, ⟨by decide +kernel, by decide +kernel, by decide +kernel⟩⟩
theorem svX8_first : SV mX8_first 0 := ⟨q707, q957, q9, q708, ⟨by decide +kernel, by decide +kernel, by decide +kernel⟩⟩
theorem svX8_isAgainst : SV mX8_isAgainst 3 := ⟨q710, q958, q9, q711, ⟨by decide +kernel, by decide +kernel, by decide +kernel⟩⟩
theorem svX8_mend : SV mX8_mend 0 := ⟨q713, q714, q9, q715, ⟨by decide +kernel, by decide +kernel, by decide +kernel⟩⟩
theorem svX8_find : SV mX8_find 1 := ⟨q717, q718, q9, q719, ⟨by decide +kernel, by decide +kernel, by decide +kernel⟩⟩
theorem svX8_canGo : SV mX8_canGo 1 := ⟨q721, q959, q9, q722, ⟨by decide +kernel, by decide +kernel, by decide +kernel⟩⟩
theorem svX8_finds : SV mX8_finds 1 := ⟨q724, q960, q9, q725, ⟨by decide +kernel, by decide +kernel, by decide +kernel⟩⟩
theorem svX8_byAll : SV mX8_byAll 0 := ⟨q727, q961, q9, q728, ⟨by decide +kernel, by decide +kernel, by decide +kernel⟩⟩
theorem svX8_least : SV mX8_least 3 := ⟨q730, q962, q9, q731, ⟨by decide +kernel, by decide +kernel, by decide +kernel⟩⟩
theorem svX8_byHalves : SV mX8_byHalves 0 := ⟨q733, q963, q9, q734, ⟨by decide +kernel, by decide +kernel, by decide +kernel⟩⟩
theorem svX8_opens : SV mX8_opens 4 := ⟨q736, q964, q9, q737, ⟨by decide +kernel, by decide +kernel, by decide +kernel⟩⟩
theorem svX8_byThrowing : SV mX8_byThrowing 0 := ⟨q739, q965, q9, q740, ⟨by decide +kernel, by decide +kernel, by decide +kernel⟩⟩
theorem svX8_throwsOut : SV mX8_throwsOut 1 := ⟨q742, q966, q9, q743, ⟨by decide +kernel, by decide +kernel, by decide +kernel⟩⟩
theorem svX8_piles : SV mX8_piles 3 := ⟨q745, q967, q9, q746, ⟨by decide +kernel, by decide +kernel, by decide +kernel⟩⟩
theorem svX8_rowAt : SS mX8_rowAt 2 := ⟨q748, q9, q749, ⟨by decide +kernel, by decide +kernel, by decide +kernel⟩⟩
theorem svX8_fills : SV mX8_fills 1 := ⟨q751, q968, q9, q752, ⟨by decide +kernel, by decide +kernel, by decide +kernel⟩⟩
theorem svX8_leastLeft : SV mX8_leastLeft 4 := ⟨q754, q969, q9, q755, ⟨by decide +kernel, by decide +kernel, by decide +kernel⟩⟩
theorem svX8_weigh : SV mX8_weigh 1 := ⟨q757, q758, q9, q759, ⟨by decide +kernel, by decide +kernel, by decide +kernel⟩⟩
theorem svX8_unweigh : SV mX8_unweigh 0 := ⟨q761, q762, q9, q763, ⟨by decide +kernel, by decide +kernel, by decide +kernel⟩⟩
theorem svX8_append : SV mX8_append 1 := ⟨q765, q766, q9, q767, ⟨by decide +kernel, by decide +kernel, by decide +kernel⟩⟩
theorem svX8_clearBuffer : SV mX8_clearBuffer 0 := ⟨q769, q770, q9, q771, ⟨by decide +kernel, by decide +kernel, by decide +kernel⟩⟩
theorem svX8_firstError : SV mX8_firstError 0 := ⟨q773, q774, q9, q775, ⟨by decide +kernel, by decide +kernel, by decide +kernel⟩⟩
theorem svX8_isWhole : SV mX8_isWhole 0 := ⟨q777, q970, q9, q778, ⟨by decide +kernel, by decide +kernel, by decide +kernel⟩⟩
theorem svX8_isLine : SV mX8_isLine 1 := ⟨q780, q971, q9, q781, ⟨by decide +kernel, by decide +kernel, by decide +kernel⟩⟩
theorem svX8_isNumber : SV mX8_isNumber 2 := ⟨q783, q972, q9, q784, ⟨by decide +kernel, by decide +kernel, by decide +kernel⟩⟩
theorem svX8_sees : SV mX8_sees 2 := ⟨q786, q973, q9, q787, ⟨by decide +kernel, by decide +kernel, by decide +kernel⟩⟩
theorem svX8_takes : SV mX8_takes 1 := ⟨q789, q974, q9, q790, ⟨by decide +kernel, by decide +kernel, by decide +kernel⟩⟩
theorem svX8_load : SV mX8_load 0 := ⟨q792, q793, q9, q794, ⟨by decide +kernel, by decide +kernel, by decide +kernel⟩⟩
theorem svX8_keep : SV mX8_keep 1 := ⟨q796, q797, q9, q798, ⟨by decide +kernel, by decide +kernel, by decide +kernel⟩⟩
theorem svX8_goBack : SV mX8_goBack 1 := ⟨q800, q801, q9, q802, ⟨by decide +kernel, by decide +kernel, by decide +kernel⟩⟩
theorem svX8_undo : SV mX8_undo 0 := ⟨q804, q805, q9, q806, ⟨by decide +kernel, by decide +kernel, by decide +kernel⟩⟩
theorem svX8_cell : SV mX8_cell 2 := ⟨q808, q809, q9, q810, ⟨by decide +kernel, by decide +kernel, by decide +kernel⟩⟩
theorem svX8_place : SV mX8_place 2 := ⟨q812, q813, q9, q814, ⟨by decide +kernel, by decide +kernel, by decide +kernel⟩⟩
theorem svX8_placeBy : SV mX8_placeBy 2 := ⟨q816, q975, q9, q817, ⟨by decide +kernel, by decide +kernel, by decide +kernel⟩⟩
theorem svX8_looks : SV mX8_looks 1 := ⟨q819, q820, q9, q821, ⟨by decide +kernel, by decide +kernel, by decide +kernel⟩⟩
theorem svX8_looksBy : SV mX8_looksBy 1 := ⟨q823, q976, q9, q824, ⟨by decide +kernel, by decide +kernel, by decide +kernel⟩⟩
theorem svX8_bound : SV mX8_bound 0 := ⟨q826, q827, q9, q828, ⟨by decide +kernel, by decide +kernel, by decide +kernel⟩⟩
theorem svX8_bounds : SV mX8_bounds 0 := ⟨q830, q977, q9, q831, ⟨by decide +kernel, by decide +kernel, by decide +kernel⟩⟩
theorem svX8_witness : SV mX8_witness 1 := ⟨q833, q834, q9, q835, ⟨by decide +kernel, by decide +kernel, by decide +kernel⟩⟩
theorem svX8_testified : SV mX8_testified 1 := ⟨q837, q978, q9, q838, ⟨by decide +kernel, by decide +kernel, by decide +kernel⟩⟩
theorem svX8_witnesses : SV mX8_witnesses 0 := ⟨q840, q979, q9, q841, ⟨by decide +kernel, by decide +kernel, by decide +kernel⟩⟩
theorem svX8_count : SV mX8_count 1 := ⟨q843, q844, q9, q845, ⟨by decide +kernel, by decide +kernel, by decide +kernel⟩⟩
theorem svX8_counted : SV mX8_counted 1 := ⟨q847, q980, q9, q848, ⟨by decide +kernel, by decide +kernel, by decide +kernel⟩⟩
theorem svX8_weighs : SV mX8_weighs 2 := ⟨q850, q981, q9, q851, ⟨by decide +kernel, by decide +kernel, by decide +kernel⟩⟩
theorem svX8_goingBack : SV mX8_goingBack 0 := ⟨q853, q982, q9, q854, ⟨by decide +kernel, by decide +kernel, by decide +kernel⟩⟩
theorem svX8_weight : SV mX8_weight 1 := ⟨q856, q857, q9, q858, ⟨by decide +kernel, by decide +kernel, by decide +kernel⟩⟩
theorem svX8_cost : SV mX8_cost 2 := ⟨q860, q861, q9, q862, ⟨by decide +kernel, by decide +kernel, by decide +kernel⟩⟩
theorem svX8_isParts : SV mX8_isParts 1 := ⟨q864, q983, q9, q865, ⟨by decide +kernel, by decide +kernel, by decide +kernel⟩⟩
theorem svX8_leastCost : SV mX8_leastCost 1 := ⟨q867, q984, q9, q868, ⟨by decide +kernel, by decide +kernel, by decide +kernel⟩⟩
theorem svX8_cuts : SV mX8_cuts 0 := ⟨q870, q985, q9, q871, ⟨by decide +kernel, by decide +kernel, by decide +kernel⟩⟩
theorem svX8_part : SV mX8_part 2 := ⟨q873, q986, q9, q874, ⟨by decide +kernel, by decide +kernel, by decide +kernel⟩⟩
theorem svX8_cut : SV mX8_cut 2 := ⟨q876, q877, q9, q878, ⟨by decide +kernel, by decide +kernel, by decide +kernel⟩⟩
theorem svX8_cutAt : SV mX8_cutAt 2 := ⟨q880, q987, q9, q881, ⟨by decide +kernel, by decide +kernel, by decide +kernel⟩⟩
theorem svX8_fewestParts : SV mX8_fewestParts 1 := ⟨q883, q884, q9, q885, ⟨by decide +kernel, by decide +kernel, by decide +kernel⟩⟩
theorem svX8_fewest : SV mX8_fewest 1 := ⟨q888, q988, q9, q889, ⟨by decide +kernel, by decide +kernel, by decide +kernel⟩⟩
theorem svX8_halfShare : SV mX8_halfShare 0 := ⟨q891, q892, q9, q893, ⟨by decide +kernel, by decide +kernel, by decide +kernel⟩⟩
theorem svX8_share : SV mX8_share 0 := ⟨q895, q989, q9, q896, ⟨by decide +kernel, by decide +kernel, by decide +kernel⟩⟩
theorem svX8_digest : SV mX8_digest 0 := ⟨q898, q899, q9, q900, ⟨by decide +kernel, by decide +kernel, by decide +kernel⟩⟩
theorem svX8_mixes : SV mX8_mixes 1 := ⟨q903, q990, q9, q904, ⟨by decide +kernel, by decide +kernel, by decide +kernel⟩⟩
theorem svX8_mixesTable : SV mX8_mixesTable 0 := ⟨q907, q991, q9, q908, ⟨by decide +kernel, by decide +kernel, by decide +kernel⟩⟩
theorem svX8_mixesCuts : SV mX8_mixesCuts 1 := ⟨q910, q992, q9, q911, ⟨by decide +kernel, by decide +kernel, by decide +kernel⟩⟩
theorem svJxe99ae_doubleToLongBits_ccdee : SS mJxe99ae_doubleToLongBits_ccdee 1 := ⟨q913, q17, q914, ⟨by decide +kernel, by decide +kernel, by decide +kernel⟩⟩
theorem svJxe99ae_isNaN_b9ae7 : SS mJxe99ae_isNaN_b9ae7 1 := ⟨q916, q17, q917, ⟨by decide +kernel, by decide +kernel, by decide +kernel⟩⟩
end
section
set_option maxHeartbeats 4000000 in
set_option maxRecDepth 100000 in
theorem tX7_isFromTo (G : GT) (σ : Sg) (x lo hi : Int) (h : -2147483648 ≤ x ∧ x ≤ 2147483647 ∧ -2147483648 ≤ lo ∧ lo ≤ 2147483647 ∧ -2147483648 ≤ hi ∧ hi ≤ 2147483647) : Ct G mX7_isFromTo 1 0 0 false SH SH [I x, I lo, I hi] σ (fun r s => (((lo ≤ x ∧ x ≤ hi) ∧ r = some (I 1)) ∨ (¬ (lo ≤ x ∧ x ≤ hi) ∧ r = some (I 0))) ∧ s = σ) := by
  obtain ⟨P, hP⟩ : ∃ P : Option Value → Sg → Prop, P = (fun r s => (((lo ≤ x ∧ x ≤ hi) ∧ r = some (I 1)) ∨ (¬ (lo ≤ x ∧ x ≤ hi) ∧ r = some (I 0))) ∧ s = σ) := ⟨_, rfl⟩
  rw [← hP]
  refine ct_of (lv := [(0, I x), (1, I lo), (2, I hi)]) (by decide +kernel) (Nat.le_of_ble_eq_true rfl) rfl ?_
  refine r_iload_n dX7_isFromTo_0 rfl rfl ?_
  refine r_iload_n dX7_isFromTo_1 rfl rfl ?_
  refine r_icmp_lt (tgt := 14) dX7_isFromTo_2 (by decide) (by omega) (fun hb1 => ?_) (fun hb1 => ?_)
  · skip
    refine r_iconst dX7_isFromTo_14 ?_
    exact r_zret dX7_isFromTo_15 rfl (by first | rfl | decide) (by rw [hP]; exact ⟨by first | exact Or.inl ⟨by omega, rfl⟩ | exact Or.inr ⟨by omega, rfl⟩, rfl⟩)
  · skip
    refine r_iload_n dX7_isFromTo_5 rfl rfl ?_
    refine r_iload_n dX7_isFromTo_6 rfl rfl ?_
    refine r_icmp_gt (tgt := 14) dX7_isFromTo_7 (by decide) (by omega) (fun hb2 => ?_) (fun hb2 => ?_)
    · skip
      refine r_iconst dX7_isFromTo_14 ?_
      exact r_zret dX7_isFromTo_15 rfl (by first | rfl | decide) (by rw [hP]; exact ⟨by first | exact Or.inl ⟨by omega, rfl⟩ | exact Or.inr ⟨by omega, rfl⟩, rfl⟩)
    · skip
      refine r_iconst dX7_isFromTo_10 ?_
      refine r_goto (tgt := 15) dX7_isFromTo_11 (by decide) ?_
      exact r_zret dX7_isFromTo_15 rfl (by first | rfl | decide) (by rw [hP]; exact ⟨by first | exact Or.inl ⟨by omega, rfl⟩ | exact Or.inr ⟨by omega, rfl⟩, rfl⟩)
set_option maxHeartbeats 4000000 in
set_option maxRecDepth 100000 in
theorem tX7_numberIn (G : GT) (σ : Sg) (a : Nat) (i : Int) (N : Nat) (hs : SH[a]? = some (.inr (.inl N))) (hi : -2147483648 ≤ i ∧ i ≤ 2147483647) (hN : (N : Int) ≤ 2147483647) : Ct G mX7_numberIn 1 0 0 false SH SH [Rf G a, I i] σ (fun r s => r = some (I (if 0 ≤ i ∧ i < (N : Int) then σ a i else 0)) ∧ s = σ) := by
  obtain ⟨P, hP⟩ : ∃ P : Option Value → Sg → Prop, P = (fun r s => r = some (I (if 0 ≤ i ∧ i < (N : Int) then σ a i else 0)) ∧ s = σ) := ⟨_, rfl⟩
  rw [← hP]
  refine ct_of (lv := [(0, Rf G a), (1, I i)]) (by decide +kernel) (Nat.le_of_ble_eq_true rfl) rfl ?_
  refine r_aload_n dX7_numberIn_0 rfl rfl ?_
  refine r_ifnull dX7_numberIn_1 ?_
  refine r_iload_n dX7_numberIn_4 rfl rfl ?_
  refine r_if_lt (tgt := 14) dX7_numberIn_5 (by decide) (by omega) (fun hb1 => ?_) (fun hb1 => ?_)
  · skip
    refine r_iconst dX7_numberIn_14 ?_
    refine r_goto (tgt := 21) dX7_numberIn_15 (by decide) ?_
    exact r_iret dX7_numberIn_21 rfl (by rw [hP]; exact ⟨by first | rw [if_pos (by omega)] | rw [if_neg (by omega)], rfl⟩)
  · skip
    refine r_iload_n dX7_numberIn_8 rfl rfl ?_
    refine r_aload_n dX7_numberIn_9 rfl rfl ?_
    refine r_alen dX7_numberIn_10 hs ?_
    refine r_icmp_lt (tgt := 18) dX7_numberIn_11 (by decide) (by omega) (fun hb2 => ?_) (fun hb2 => ?_)
    · skip
      refine r_aload_n dX7_numberIn_18 rfl rfl ?_
      refine r_iload_n dX7_numberIn_19 rfl rfl ?_
      refine r_iald dX7_numberIn_20 hs (by omega) (hv := rfl) ?_
      exact r_iret dX7_numberIn_21 rfl (by rw [hP]; exact ⟨by first | rw [if_pos (by omega)] | rw [if_neg (by omega)], rfl⟩)
    · skip
      refine r_iconst dX7_numberIn_14 ?_
      refine r_goto (tgt := 21) dX7_numberIn_15 (by decide) ?_
      exact r_iret dX7_numberIn_21 rfl (by rw [hP]; exact ⟨by first | rw [if_pos (by omega)] | rw [if_neg (by omega)], rfl⟩)
end
