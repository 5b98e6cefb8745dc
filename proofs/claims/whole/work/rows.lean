section
-- ===== PART A: goes FIRST, ahead of the names: the tables' words, and 'selects' of the private methods out of them =====
/-- a private method of a class that the tables say can be made, by its rows of tables_1 -/
def lw_okq (q : MethodName × Nat) : Prop := (q.1.cls ≠ "java/lang/invoke/MethodHandle" ∧ q.1.cls ≠ "java/lang/invoke/VarHandle") ∧ Cond.instantiable q.1.cls q.2 ∈ tables_1 ∧ Cond.privateMethod q.1 ∈ tables_1 ∧ Cond.instanceMethod q.1 ∈ tables_1
theorem lw_p0 : lw_okq (⟨"LeastRows$History", "stateAt", "(I)LLeastRows$State;"⟩, 3) := ⟨⟨by decide +kernel, by decide +kernel⟩, List.mem_of_getElem? (i := 181) (by decide +kernel), List.mem_of_getElem? (i := 251) (by decide +kernel), List.mem_of_getElem? (i := 252) (by decide +kernel)⟩
theorem lw_p1 : lw_okq (⟨"LeastRows$Rule", "isGreater", "(III)Z"⟩, 5) := ⟨⟨by decide +kernel, by decide +kernel⟩, List.mem_of_getElem? (i := 73) (by decide +kernel), List.mem_of_getElem? (i := 266) (by decide +kernel), List.mem_of_getElem? (i := 267) (by decide +kernel)⟩
theorem lw_p2 : lw_okq (⟨"LeastRows$Rule", "note", "(III)V"⟩, 5) := ⟨⟨by decide +kernel, by decide +kernel⟩, List.mem_of_getElem? (i := 73) (by decide +kernel), List.mem_of_getElem? (i := 274) (by decide +kernel), List.mem_of_getElem? (i := 275) (by decide +kernel)⟩
theorem lw_p3 : lw_okq (⟨"LeastRows$Text", "takes", "(I)Z"⟩, 8) := ⟨⟨by decide +kernel, by decide +kernel⟩, List.mem_of_getElem? (i := 149) (by decide +kernel), List.mem_of_getElem? (i := 306) (by decide +kernel), List.mem_of_getElem? (i := 307) (by decide +kernel)⟩
theorem lw_p4 : lw_okq (⟨"LeastRows$Text", "takesDigit", "(I)Z"⟩, 8) := ⟨⟨by decide +kernel, by decide +kernel⟩, List.mem_of_getElem? (i := 149) (by decide +kernel), List.mem_of_getElem? (i := 313) (by decide +kernel), List.mem_of_getElem? (i := 314) (by decide +kernel)⟩
theorem lw_p5 : lw_okq (⟨"LeastRows$Text", "takesComma", "()Z"⟩, 8) := ⟨⟨by decide +kernel, by decide +kernel⟩, List.mem_of_getElem? (i := 149) (by decide +kernel), List.mem_of_getElem? (i := 318) (by decide +kernel), List.mem_of_getElem? (i := 319) (by decide +kernel)⟩
theorem lw_p6 : lw_okq (⟨"LeastRows$Text", "takesSlash", "()Z"⟩, 8) := ⟨⟨by decide +kernel, by decide +kernel⟩, List.mem_of_getElem? (i := 149) (by decide +kernel), List.mem_of_getElem? (i := 322) (by decide +kernel), List.mem_of_getElem? (i := 323) (by decide +kernel)⟩
theorem lw_p7 : lw_okq (⟨"LeastRows$Text", "isRowFull", "()Z"⟩, 8) := ⟨⟨by decide +kernel, by decide +kernel⟩, List.mem_of_getElem? (i := 149) (by decide +kernel), List.mem_of_getElem? (i := 326) (by decide +kernel), List.mem_of_getElem? (i := 327) (by decide +kernel)⟩
theorem lw_p8 : lw_okq (⟨"LeastRows$Finder", "leaveAllColumns", "()V"⟩, 7) := ⟨⟨by decide +kernel, by decide +kernel⟩, List.mem_of_getElem? (i := 99) (by decide +kernel), List.mem_of_getElem? (i := 347) (by decide +kernel), List.mem_of_getElem? (i := 348) (by decide +kernel)⟩
theorem lw_p9 : lw_okq (⟨"LeastRows$Finder", "leftmostLeast", "(IIII)I"⟩, 7) := ⟨⟨by decide +kernel, by decide +kernel⟩, List.mem_of_getElem? (i := 99) (by decide +kernel), List.mem_of_getElem? (i := 355) (by decide +kernel), List.mem_of_getElem? (i := 356) (by decide +kernel)⟩
theorem lw_p10 : lw_okq (⟨"LeastRows$Finder", "columnLeft", "(II)I"⟩, 7) := ⟨⟨by decide +kernel, by decide +kernel⟩, List.mem_of_getElem? (i := 99) (by decide +kernel), List.mem_of_getElem? (i := 360) (by decide +kernel), List.mem_of_getElem? (i := 361) (by decide +kernel)⟩
theorem lw_p11 : lw_okq (⟨"LeastRows$Finder", "look", "(II)I"⟩, 7) := ⟨⟨by decide +kernel, by decide +kernel⟩, List.mem_of_getElem? (i := 99) (by decide +kernel), List.mem_of_getElem? (i := 365) (by decide +kernel), List.mem_of_getElem? (i := 366) (by decide +kernel)⟩
theorem lw_p12 : lw_okq (⟨"LeastRows$Finder", "setPlace", "(II)V"⟩, 7) := ⟨⟨by decide +kernel, by decide +kernel⟩, List.mem_of_getElem? (i := 99) (by decide +kernel), List.mem_of_getElem? (i := 370) (by decide +kernel), List.mem_of_getElem? (i := 371) (by decide +kernel)⟩
theorem lw_p13 : lw_okq (⟨"LeastRows$Finder", "pileColumns", "(I)V"⟩, 7) := ⟨⟨by decide +kernel, by decide +kernel⟩, List.mem_of_getElem? (i := 99) (by decide +kernel), List.mem_of_getElem? (i := 374) (by decide +kernel), List.mem_of_getElem? (i := 375) (by decide +kernel)⟩
theorem lw_p14 : lw_okq (⟨"LeastRows$Finder", "rowsAt", "(I)I"⟩, 7) := ⟨⟨by decide +kernel, by decide +kernel⟩, List.mem_of_getElem? (i := 99) (by decide +kernel), List.mem_of_getElem? (i := 378) (by decide +kernel), List.mem_of_getElem? (i := 379) (by decide +kernel)⟩
theorem lw_p15 : lw_okq (⟨"LeastRows$Finder", "heightAfterThrowing", "(III)I"⟩, 7) := ⟨⟨by decide +kernel, by decide +kernel⟩, List.mem_of_getElem? (i := 99) (by decide +kernel), List.mem_of_getElem? (i := 382) (by decide +kernel), List.mem_of_getElem? (i := 383) (by decide +kernel)⟩
def lw_privs_1 : List (MethodName × Nat) := [(⟨"LeastRows$History", "stateAt", "(I)LLeastRows$State;"⟩, 3), (⟨"LeastRows$Rule", "isGreater", "(III)Z"⟩, 5), (⟨"LeastRows$Rule", "note", "(III)V"⟩, 5), (⟨"LeastRows$Text", "takes", "(I)Z"⟩, 8), (⟨"LeastRows$Text", "takesDigit", "(I)Z"⟩, 8), (⟨"LeastRows$Text", "takesComma", "()Z"⟩, 8), (⟨"LeastRows$Text", "takesSlash", "()Z"⟩, 8), (⟨"LeastRows$Text", "isRowFull", "()Z"⟩, 8), (⟨"LeastRows$Finder", "leaveAllColumns", "()V"⟩, 7), (⟨"LeastRows$Finder", "leftmostLeast", "(IIII)I"⟩, 7), (⟨"LeastRows$Finder", "columnLeft", "(II)I"⟩, 7), (⟨"LeastRows$Finder", "look", "(II)I"⟩, 7), (⟨"LeastRows$Finder", "setPlace", "(II)V"⟩, 7), (⟨"LeastRows$Finder", "pileColumns", "(I)V"⟩, 7), (⟨"LeastRows$Finder", "rowsAt", "(I)I"⟩, 7), (⟨"LeastRows$Finder", "heightAfterThrowing", "(III)I"⟩, 7)]
theorem lw_r1 : ∀ q ∈ lw_privs_1, lw_okq q := List.forall_mem_cons.mpr ⟨lw_p0, List.forall_mem_cons.mpr ⟨lw_p1, List.forall_mem_cons.mpr ⟨lw_p2, List.forall_mem_cons.mpr ⟨lw_p3, List.forall_mem_cons.mpr ⟨lw_p4, List.forall_mem_cons.mpr ⟨lw_p5, List.forall_mem_cons.mpr ⟨lw_p6, List.forall_mem_cons.mpr ⟨lw_p7, List.forall_mem_cons.mpr ⟨lw_p8, List.forall_mem_cons.mpr ⟨lw_p9, List.forall_mem_cons.mpr ⟨lw_p10, List.forall_mem_cons.mpr ⟨lw_p11, List.forall_mem_cons.mpr ⟨lw_p12, List.forall_mem_cons.mpr ⟨lw_p13, List.forall_mem_cons.mpr ⟨lw_p14, List.forall_mem_cons.mpr ⟨lw_p15, fun _ h => absurd h List.not_mem_nil⟩⟩⟩⟩⟩⟩⟩⟩⟩⟩⟩⟩⟩⟩⟩⟩
theorem lw_p16 : lw_okq (⟨"LeastRows$Finder", "rowAt", "(II)I"⟩, 7) := ⟨⟨by decide +kernel, by decide +kernel⟩, List.mem_of_getElem? (i := 99) (by decide +kernel), List.mem_of_getElem? (i := 386) (by decide +kernel), List.mem_of_getElem? (i := 387) (by decide +kernel)⟩
theorem lw_p17 : lw_okq (⟨"LeastRows$Finder", "fillBetween", "(I)V"⟩, 7) := ⟨⟨by decide +kernel, by decide +kernel⟩, List.mem_of_getElem? (i := 99) (by decide +kernel), List.mem_of_getElem? (i := 390) (by decide +kernel), List.mem_of_getElem? (i := 391) (by decide +kernel)⟩
theorem lw_p18 : lw_okq (⟨"LeastRows$Finder", "lookAtAll", "()V"⟩, 7) := ⟨⟨by decide +kernel, by decide +kernel⟩, List.mem_of_getElem? (i := 99) (by decide +kernel), List.mem_of_getElem? (i := 398) (by decide +kernel), List.mem_of_getElem? (i := 399) (by decide +kernel)⟩
theorem lw_p19 : lw_okq (⟨"LeastRows", "counted", "(I)I"⟩, 8) := ⟨⟨by decide +kernel, by decide +kernel⟩, List.mem_of_getElem? (i := 19) (by decide +kernel), List.mem_of_getElem? (i := 415) (by decide +kernel), List.mem_of_getElem? (i := 416) (by decide +kernel)⟩
theorem lw_p20 : lw_okq (⟨"LeastRows", "mixedCells", "(J)J"⟩, 8) := ⟨⟨by decide +kernel, by decide +kernel⟩, List.mem_of_getElem? (i := 19) (by decide +kernel), List.mem_of_getElem? (i := 436) (by decide +kernel), List.mem_of_getElem? (i := 437) (by decide +kernel)⟩
theorem lw_p21 : lw_okq (⟨"LeastRows", "seekByAllWays", "()V"⟩, 8) := ⟨⟨by decide +kernel, by decide +kernel⟩, List.mem_of_getElem? (i := 19) (by decide +kernel), List.mem_of_getElem? (i := 440) (by decide +kernel), List.mem_of_getElem? (i := 441) (by decide +kernel)⟩
theorem lw_p22 : lw_okq (⟨"LeastRows", "mixedPlaces", "(J)J"⟩, 8) := ⟨⟨by decide +kernel, by decide +kernel⟩, List.mem_of_getElem? (i := 19) (by decide +kernel), List.mem_of_getElem? (i := 448) (by decide +kernel), List.mem_of_getElem? (i := 449) (by decide +kernel)⟩
theorem lw_p23 : lw_okq (⟨"LeastRows", "mixedWeights", "(J)J"⟩, 8) := ⟨⟨by decide +kernel, by decide +kernel⟩, List.mem_of_getElem? (i := 19) (by decide +kernel), List.mem_of_getElem? (i := 459) (by decide +kernel), List.mem_of_getElem? (i := 460) (by decide +kernel)⟩
theorem lw_p24 : lw_okq (⟨"LeastRows$Cutter", "planLastCut", "(II)V"⟩, 5) := ⟨⟨by decide +kernel, by decide +kernel⟩, List.mem_of_getElem? (i := 127) (by decide +kernel), List.mem_of_getElem? (i := 470) (by decide +kernel), List.mem_of_getElem? (i := 471) (by decide +kernel)⟩
theorem lw_p25 : lw_okq (⟨"java/lang/Throwable", "fillInStackTrace", "(I)Ljava/lang/Throwable;"⟩, 6) := ⟨⟨by decide +kernel, by decide +kernel⟩, List.mem_of_getElem? (i := 559) (by decide +kernel), List.mem_of_getElem? (i := 557) (by decide +kernel), List.mem_of_getElem? (i := 558) (by decide +kernel)⟩
theorem lw_p26 : lw_okq (⟨"LeastRows", "isOpen", "(I)Z"⟩, 8) := ⟨⟨by decide +kernel, by decide +kernel⟩, List.mem_of_getElem? (i := 19) (by decide +kernel), List.mem_of_getElem? (i := 644) (by decide +kernel), List.mem_of_getElem? (i := 645) (by decide +kernel)⟩
theorem lw_p27 : lw_okq (⟨"LeastRows", "slotAt", "(I)LLeastRows$Slot;"⟩, 8) := ⟨⟨by decide +kernel, by decide +kernel⟩, List.mem_of_getElem? (i := 19) (by decide +kernel), List.mem_of_getElem? (i := 731) (by decide +kernel), List.mem_of_getElem? (i := 732) (by decide +kernel)⟩
theorem lw_p28 : lw_okq (⟨"LeastRowsModel", "refuses", "(I)I"⟩, 21) := ⟨⟨by decide +kernel, by decide +kernel⟩, List.mem_of_getElem? (i := 832) (by decide +kernel), List.mem_of_getElem? (i := 913) (by decide +kernel), List.mem_of_getElem? (i := 914) (by decide +kernel)⟩
theorem lw_p29 : lw_okq (⟨"LeastRowsModel", "saves", "()V"⟩, 21) := ⟨⟨by decide +kernel, by decide +kernel⟩, List.mem_of_getElem? (i := 832) (by decide +kernel), List.mem_of_getElem? (i := 917) (by decide +kernel), List.mem_of_getElem? (i := 918) (by decide +kernel)⟩
theorem lw_p30 : lw_okq (⟨"LeastRowsModel", "isCell", "(II)Z"⟩, 21) := ⟨⟨by decide +kernel, by decide +kernel⟩, List.mem_of_getElem? (i := 832) (by decide +kernel), List.mem_of_getElem? (i := 928) (by decide +kernel), List.mem_of_getElem? (i := 929) (by decide +kernel)⟩
theorem lw_p31 : lw_okq (⟨"LeastRowsModel", "isRow", "(I)Z"⟩, 21) := ⟨⟨by decide +kernel, by decide +kernel⟩, List.mem_of_getElem? (i := 832) (by decide +kernel), List.mem_of_getElem? (i := 932) (by decide +kernel), List.mem_of_getElem? (i := 933) (by decide +kernel)⟩
def lw_privs_2 : List (MethodName × Nat) := [(⟨"LeastRows$Finder", "rowAt", "(II)I"⟩, 7), (⟨"LeastRows$Finder", "fillBetween", "(I)V"⟩, 7), (⟨"LeastRows$Finder", "lookAtAll", "()V"⟩, 7), (⟨"LeastRows", "counted", "(I)I"⟩, 8), (⟨"LeastRows", "mixedCells", "(J)J"⟩, 8), (⟨"LeastRows", "seekByAllWays", "()V"⟩, 8), (⟨"LeastRows", "mixedPlaces", "(J)J"⟩, 8), (⟨"LeastRows", "mixedWeights", "(J)J"⟩, 8), (⟨"LeastRows$Cutter", "planLastCut", "(II)V"⟩, 5), (⟨"java/lang/Throwable", "fillInStackTrace", "(I)Ljava/lang/Throwable;"⟩, 6), (⟨"LeastRows", "isOpen", "(I)Z"⟩, 8), (⟨"LeastRows", "slotAt", "(I)LLeastRows$Slot;"⟩, 8), (⟨"LeastRowsModel", "refuses", "(I)I"⟩, 21), (⟨"LeastRowsModel", "saves", "()V"⟩, 21), (⟨"LeastRowsModel", "isCell", "(II)Z"⟩, 21), (⟨"LeastRowsModel", "isRow", "(I)Z"⟩, 21)]
theorem lw_r2 : ∀ q ∈ lw_privs_2, lw_okq q := List.forall_mem_cons.mpr ⟨lw_p16, List.forall_mem_cons.mpr ⟨lw_p17, List.forall_mem_cons.mpr ⟨lw_p18, List.forall_mem_cons.mpr ⟨lw_p19, List.forall_mem_cons.mpr ⟨lw_p20, List.forall_mem_cons.mpr ⟨lw_p21, List.forall_mem_cons.mpr ⟨lw_p22, List.forall_mem_cons.mpr ⟨lw_p23, List.forall_mem_cons.mpr ⟨lw_p24, List.forall_mem_cons.mpr ⟨lw_p25, List.forall_mem_cons.mpr ⟨lw_p26, List.forall_mem_cons.mpr ⟨lw_p27, List.forall_mem_cons.mpr ⟨lw_p28, List.forall_mem_cons.mpr ⟨lw_p29, List.forall_mem_cons.mpr ⟨lw_p30, List.forall_mem_cons.mpr ⟨lw_p31, fun _ h => absurd h List.not_mem_nil⟩⟩⟩⟩⟩⟩⟩⟩⟩⟩⟩⟩⟩⟩⟩⟩
theorem lw_p32 : lw_okq (⟨"LeastRowsModel", "at", "(II)I"⟩, 21) := ⟨⟨by decide +kernel, by decide +kernel⟩, List.mem_of_getElem? (i := 832) (by decide +kernel), List.mem_of_getElem? (i := 936) (by decide +kernel), List.mem_of_getElem? (i := 937) (by decide +kernel)⟩
theorem lw_p33 : lw_okq (⟨"LeastRowsModel", "becomes", "(III)V"⟩, 21) := ⟨⟨by decide +kernel, by decide +kernel⟩, List.mem_of_getElem? (i := 832) (by decide +kernel), List.mem_of_getElem? (i := 940) (by decide +kernel), List.mem_of_getElem? (i := 941) (by decide +kernel)⟩
theorem lw_p34 : lw_okq (⟨"LeastRowsModel", "isKeeping", "()Z"⟩, 21) := ⟨⟨by decide +kernel, by decide +kernel⟩, List.mem_of_getElem? (i := 832) (by decide +kernel), List.mem_of_getElem? (i := 948) (by decide +kernel), List.mem_of_getElem? (i := 949) (by decide +kernel)⟩
theorem lw_p35 : lw_okq (⟨"LeastRowsModel", "first", "()I"⟩, 21) := ⟨⟨by decide +kernel, by decide +kernel⟩, List.mem_of_getElem? (i := 832) (by decide +kernel), List.mem_of_getElem? (i := 952) (by decide +kernel), List.mem_of_getElem? (i := 953) (by decide +kernel)⟩
theorem lw_p36 : lw_okq (⟨"LeastRowsModel", "isAgainst", "(III)Z"⟩, 21) := ⟨⟨by decide +kernel, by decide +kernel⟩, List.mem_of_getElem? (i := 832) (by decide +kernel), List.mem_of_getElem? (i := 956) (by decide +kernel), List.mem_of_getElem? (i := 957) (by decide +kernel)⟩
theorem lw_p37 : lw_okq (⟨"LeastRowsModel", "canGo", "(I)Z"⟩, 21) := ⟨⟨by decide +kernel, by decide +kernel⟩, List.mem_of_getElem? (i := 832) (by decide +kernel), List.mem_of_getElem? (i := 968) (by decide +kernel), List.mem_of_getElem? (i := 969) (by decide +kernel)⟩
theorem lw_p38 : lw_okq (⟨"LeastRowsModel", "finds", "(I)V"⟩, 21) := ⟨⟨by decide +kernel, by decide +kernel⟩, List.mem_of_getElem? (i := 832) (by decide +kernel), List.mem_of_getElem? (i := 972) (by decide +kernel), List.mem_of_getElem? (i := 973) (by decide +kernel)⟩
theorem lw_p39 : lw_okq (⟨"LeastRowsModel", "byAll", "()V"⟩, 21) := ⟨⟨by decide +kernel, by decide +kernel⟩, List.mem_of_getElem? (i := 832) (by decide +kernel), List.mem_of_getElem? (i := 976) (by decide +kernel), List.mem_of_getElem? (i := 977) (by decide +kernel)⟩
theorem lw_p40 : lw_okq (⟨"LeastRowsModel", "least", "(III)I"⟩, 21) := ⟨⟨by decide +kernel, by decide +kernel⟩, List.mem_of_getElem? (i := 832) (by decide +kernel), List.mem_of_getElem? (i := 980) (by decide +kernel), List.mem_of_getElem? (i := 981) (by decide +kernel)⟩
theorem lw_p41 : lw_okq (⟨"LeastRowsModel", "byHalves", "()V"⟩, 21) := ⟨⟨by decide +kernel, by decide +kernel⟩, List.mem_of_getElem? (i := 832) (by decide +kernel), List.mem_of_getElem? (i := 984) (by decide +kernel), List.mem_of_getElem? (i := 985) (by decide +kernel)⟩
theorem lw_p42 : lw_okq (⟨"LeastRowsModel", "opens", "(IIII)V"⟩, 21) := ⟨⟨by decide +kernel, by decide +kernel⟩, List.mem_of_getElem? (i := 832) (by decide +kernel), List.mem_of_getElem? (i := 988) (by decide +kernel), List.mem_of_getElem? (i := 989) (by decide +kernel)⟩
theorem lw_p43 : lw_okq (⟨"LeastRowsModel", "byThrowing", "()V"⟩, 21) := ⟨⟨by decide +kernel, by decide +kernel⟩, List.mem_of_getElem? (i := 832) (by decide +kernel), List.mem_of_getElem? (i := 992) (by decide +kernel), List.mem_of_getElem? (i := 993) (by decide +kernel)⟩
theorem lw_p44 : lw_okq (⟨"LeastRowsModel", "throwsOut", "(I)V"⟩, 21) := ⟨⟨by decide +kernel, by decide +kernel⟩, List.mem_of_getElem? (i := 832) (by decide +kernel), List.mem_of_getElem? (i := 996) (by decide +kernel), List.mem_of_getElem? (i := 997) (by decide +kernel)⟩
theorem lw_p45 : lw_okq (⟨"LeastRowsModel", "piles", "(III)I"⟩, 21) := ⟨⟨by decide +kernel, by decide +kernel⟩, List.mem_of_getElem? (i := 832) (by decide +kernel), List.mem_of_getElem? (i := 1000) (by decide +kernel), List.mem_of_getElem? (i := 1001) (by decide +kernel)⟩
theorem lw_p46 : lw_okq (⟨"LeastRowsModel", "fills", "(I)V"⟩, 21) := ⟨⟨by decide +kernel, by decide +kernel⟩, List.mem_of_getElem? (i := 832) (by decide +kernel), List.mem_of_getElem? (i := 1007) (by decide +kernel), List.mem_of_getElem? (i := 1008) (by decide +kernel)⟩
theorem lw_p47 : lw_okq (⟨"LeastRowsModel", "leastLeft", "(IIII)I"⟩, 21) := ⟨⟨by decide +kernel, by decide +kernel⟩, List.mem_of_getElem? (i := 832) (by decide +kernel), List.mem_of_getElem? (i := 1011) (by decide +kernel), List.mem_of_getElem? (i := 1012) (by decide +kernel)⟩
def lw_privs_3 : List (MethodName × Nat) := [(⟨"LeastRowsModel", "at", "(II)I"⟩, 21), (⟨"LeastRowsModel", "becomes", "(III)V"⟩, 21), (⟨"LeastRowsModel", "isKeeping", "()Z"⟩, 21), (⟨"LeastRowsModel", "first", "()I"⟩, 21), (⟨"LeastRowsModel", "isAgainst", "(III)Z"⟩, 21), (⟨"LeastRowsModel", "canGo", "(I)Z"⟩, 21), (⟨"LeastRowsModel", "finds", "(I)V"⟩, 21), (⟨"LeastRowsModel", "byAll", "()V"⟩, 21), (⟨"LeastRowsModel", "least", "(III)I"⟩, 21), (⟨"LeastRowsModel", "byHalves", "()V"⟩, 21), (⟨"LeastRowsModel", "opens", "(IIII)V"⟩, 21), (⟨"LeastRowsModel", "byThrowing", "()V"⟩, 21), (⟨"LeastRowsModel", "throwsOut", "(I)V"⟩, 21), (⟨"LeastRowsModel", "piles", "(III)I"⟩, 21), (⟨"LeastRowsModel", "fills", "(I)V"⟩, 21), (⟨"LeastRowsModel", "leastLeft", "(IIII)I"⟩, 21)]
theorem lw_r3 : ∀ q ∈ lw_privs_3, lw_okq q := List.forall_mem_cons.mpr ⟨lw_p32, List.forall_mem_cons.mpr ⟨lw_p33, List.forall_mem_cons.mpr ⟨lw_p34, List.forall_mem_cons.mpr ⟨lw_p35, List.forall_mem_cons.mpr ⟨lw_p36, List.forall_mem_cons.mpr ⟨lw_p37, List.forall_mem_cons.mpr ⟨lw_p38, List.forall_mem_cons.mpr ⟨lw_p39, List.forall_mem_cons.mpr ⟨lw_p40, List.forall_mem_cons.mpr ⟨lw_p41, List.forall_mem_cons.mpr ⟨lw_p42, List.forall_mem_cons.mpr ⟨lw_p43, List.forall_mem_cons.mpr ⟨lw_p44, List.forall_mem_cons.mpr ⟨lw_p45, List.forall_mem_cons.mpr ⟨lw_p46, List.forall_mem_cons.mpr ⟨lw_p47, fun _ h => absurd h List.not_mem_nil⟩⟩⟩⟩⟩⟩⟩⟩⟩⟩⟩⟩⟩⟩⟩⟩
theorem lw_p48 : lw_okq (⟨"LeastRowsModel", "isWhole", "()Z"⟩, 21) := ⟨⟨by decide +kernel, by decide +kernel⟩, List.mem_of_getElem? (i := 832) (by decide +kernel), List.mem_of_getElem? (i := 1035) (by decide +kernel), List.mem_of_getElem? (i := 1036) (by decide +kernel)⟩
theorem lw_p49 : lw_okq (⟨"LeastRowsModel", "isLine", "(I)I"⟩, 21) := ⟨⟨by decide +kernel, by decide +kernel⟩, List.mem_of_getElem? (i := 832) (by decide +kernel), List.mem_of_getElem? (i := 1039) (by decide +kernel), List.mem_of_getElem? (i := 1040) (by decide +kernel)⟩
theorem lw_p50 : lw_okq (⟨"LeastRowsModel", "isNumber", "(II)Z"⟩, 21) := ⟨⟨by decide +kernel, by decide +kernel⟩, List.mem_of_getElem? (i := 832) (by decide +kernel), List.mem_of_getElem? (i := 1043) (by decide +kernel), List.mem_of_getElem? (i := 1044) (by decide +kernel)⟩
theorem lw_p51 : lw_okq (⟨"LeastRowsModel", "sees", "(II)Z"⟩, 21) := ⟨⟨by decide +kernel, by decide +kernel⟩, List.mem_of_getElem? (i := 832) (by decide +kernel), List.mem_of_getElem? (i := 1047) (by decide +kernel), List.mem_of_getElem? (i := 1048) (by decide +kernel)⟩
theorem lw_p52 : lw_okq (⟨"LeastRowsModel", "takes", "(I)Z"⟩, 21) := ⟨⟨by decide +kernel, by decide +kernel⟩, List.mem_of_getElem? (i := 832) (by decide +kernel), List.mem_of_getElem? (i := 1051) (by decide +kernel), List.mem_of_getElem? (i := 1052) (by decide +kernel)⟩
theorem lw_p53 : lw_okq (⟨"LeastRowsModel", "placeBy", "(II)I"⟩, 21) := ⟨⟨by decide +kernel, by decide +kernel⟩, List.mem_of_getElem? (i := 832) (by decide +kernel), List.mem_of_getElem? (i := 1079) (by decide +kernel), List.mem_of_getElem? (i := 1080) (by decide +kernel)⟩
theorem lw_p54 : lw_okq (⟨"LeastRowsModel", "looksBy", "(I)I"⟩, 21) := ⟨⟨by decide +kernel, by decide +kernel⟩, List.mem_of_getElem? (i := 832) (by decide +kernel), List.mem_of_getElem? (i := 1087) (by decide +kernel), List.mem_of_getElem? (i := 1088) (by decide +kernel)⟩
theorem lw_p55 : lw_okq (⟨"LeastRowsModel", "bounds", "()I"⟩, 21) := ⟨⟨by decide +kernel, by decide +kernel⟩, List.mem_of_getElem? (i := 832) (by decide +kernel), List.mem_of_getElem? (i := 1095) (by decide +kernel), List.mem_of_getElem? (i := 1096) (by decide +kernel)⟩
theorem lw_p56 : lw_okq (⟨"LeastRowsModel", "testified", "(I)I"⟩, 21) := ⟨⟨by decide +kernel, by decide +kernel⟩, List.mem_of_getElem? (i := 832) (by decide +kernel), List.mem_of_getElem? (i := 1103) (by decide +kernel), List.mem_of_getElem? (i := 1104) (by decide +kernel)⟩
theorem lw_p57 : lw_okq (⟨"LeastRowsModel", "witnesses", "()I"⟩, 21) := ⟨⟨by decide +kernel, by decide +kernel⟩, List.mem_of_getElem? (i := 832) (by decide +kernel), List.mem_of_getElem? (i := 1107) (by decide +kernel), List.mem_of_getElem? (i := 1108) (by decide +kernel)⟩
theorem lw_p58 : lw_okq (⟨"LeastRowsModel", "counted", "(I)I"⟩, 21) := ⟨⟨by decide +kernel, by decide +kernel⟩, List.mem_of_getElem? (i := 832) (by decide +kernel), List.mem_of_getElem? (i := 1115) (by decide +kernel), List.mem_of_getElem? (i := 1116) (by decide +kernel)⟩
theorem lw_p59 : lw_okq (⟨"LeastRowsModel", "weighs", "(II)I"⟩, 21) := ⟨⟨by decide +kernel, by decide +kernel⟩, List.mem_of_getElem? (i := 832) (by decide +kernel), List.mem_of_getElem? (i := 1119) (by decide +kernel), List.mem_of_getElem? (i := 1120) (by decide +kernel)⟩
theorem lw_p60 : lw_okq (⟨"LeastRowsModel", "goingBack", "()I"⟩, 21) := ⟨⟨by decide +kernel, by decide +kernel⟩, List.mem_of_getElem? (i := 832) (by decide +kernel), List.mem_of_getElem? (i := 1123) (by decide +kernel), List.mem_of_getElem? (i := 1124) (by decide +kernel)⟩
theorem lw_p61 : lw_okq (⟨"LeastRowsModel", "isParts", "(I)Z"⟩, 21) := ⟨⟨by decide +kernel, by decide +kernel⟩, List.mem_of_getElem? (i := 832) (by decide +kernel), List.mem_of_getElem? (i := 1135) (by decide +kernel), List.mem_of_getElem? (i := 1136) (by decide +kernel)⟩
theorem lw_p62 : lw_okq (⟨"LeastRowsModel", "leastCost", "(I)I"⟩, 21) := ⟨⟨by decide +kernel, by decide +kernel⟩, List.mem_of_getElem? (i := 832) (by decide +kernel), List.mem_of_getElem? (i := 1139) (by decide +kernel), List.mem_of_getElem? (i := 1140) (by decide +kernel)⟩
theorem lw_p63 : lw_okq (⟨"LeastRowsModel", "cuts", "()V"⟩, 21) := ⟨⟨by decide +kernel, by decide +kernel⟩, List.mem_of_getElem? (i := 832) (by decide +kernel), List.mem_of_getElem? (i := 1143) (by decide +kernel), List.mem_of_getElem? (i := 1144) (by decide +kernel)⟩
def lw_privs_4 : List (MethodName × Nat) := [(⟨"LeastRowsModel", "isWhole", "()Z"⟩, 21), (⟨"LeastRowsModel", "isLine", "(I)I"⟩, 21), (⟨"LeastRowsModel", "isNumber", "(II)Z"⟩, 21), (⟨"LeastRowsModel", "sees", "(II)Z"⟩, 21), (⟨"LeastRowsModel", "takes", "(I)Z"⟩, 21), (⟨"LeastRowsModel", "placeBy", "(II)I"⟩, 21), (⟨"LeastRowsModel", "looksBy", "(I)I"⟩, 21), (⟨"LeastRowsModel", "bounds", "()I"⟩, 21), (⟨"LeastRowsModel", "testified", "(I)I"⟩, 21), (⟨"LeastRowsModel", "witnesses", "()I"⟩, 21), (⟨"LeastRowsModel", "counted", "(I)I"⟩, 21), (⟨"LeastRowsModel", "weighs", "(II)I"⟩, 21), (⟨"LeastRowsModel", "goingBack", "()I"⟩, 21), (⟨"LeastRowsModel", "isParts", "(I)Z"⟩, 21), (⟨"LeastRowsModel", "leastCost", "(I)I"⟩, 21), (⟨"LeastRowsModel", "cuts", "()V"⟩, 21)]
theorem lw_r4 : ∀ q ∈ lw_privs_4, lw_okq q := List.forall_mem_cons.mpr ⟨lw_p48, List.forall_mem_cons.mpr ⟨lw_p49, List.forall_mem_cons.mpr ⟨lw_p50, List.forall_mem_cons.mpr ⟨lw_p51, List.forall_mem_cons.mpr ⟨lw_p52, List.forall_mem_cons.mpr ⟨lw_p53, List.forall_mem_cons.mpr ⟨lw_p54, List.forall_mem_cons.mpr ⟨lw_p55, List.forall_mem_cons.mpr ⟨lw_p56, List.forall_mem_cons.mpr ⟨lw_p57, List.forall_mem_cons.mpr ⟨lw_p58, List.forall_mem_cons.mpr ⟨lw_p59, List.forall_mem_cons.mpr ⟨lw_p60, List.forall_mem_cons.mpr ⟨lw_p61, List.forall_mem_cons.mpr ⟨lw_p62, List.forall_mem_cons.mpr ⟨lw_p63, fun _ h => absurd h List.not_mem_nil⟩⟩⟩⟩⟩⟩⟩⟩⟩⟩⟩⟩⟩⟩⟩⟩
theorem lw_p64 : lw_okq (⟨"LeastRowsModel", "part", "(II)V"⟩, 21) := ⟨⟨by decide +kernel, by decide +kernel⟩, List.mem_of_getElem? (i := 832) (by decide +kernel), List.mem_of_getElem? (i := 1147) (by decide +kernel), List.mem_of_getElem? (i := 1148) (by decide +kernel)⟩
theorem lw_p65 : lw_okq (⟨"LeastRowsModel", "cutAt", "(II)I"⟩, 21) := ⟨⟨by decide +kernel, by decide +kernel⟩, List.mem_of_getElem? (i := 832) (by decide +kernel), List.mem_of_getElem? (i := 1155) (by decide +kernel), List.mem_of_getElem? (i := 1156) (by decide +kernel)⟩
theorem lw_p66 : lw_okq (⟨"LeastRowsModel", "fewest", "(I)I"⟩, 21) := ⟨⟨by decide +kernel, by decide +kernel⟩, List.mem_of_getElem? (i := 832) (by decide +kernel), List.mem_of_getElem? (i := 1164) (by decide +kernel), List.mem_of_getElem? (i := 1165) (by decide +kernel)⟩
theorem lw_p67 : lw_okq (⟨"LeastRowsModel", "share", "()D"⟩, 21) := ⟨⟨by decide +kernel, by decide +kernel⟩, List.mem_of_getElem? (i := 832) (by decide +kernel), List.mem_of_getElem? (i := 1172) (by decide +kernel), List.mem_of_getElem? (i := 1173) (by decide +kernel)⟩
theorem lw_p68 : lw_okq (⟨"LeastRowsModel", "mixes", "(J)V"⟩, 21) := ⟨⟨by decide +kernel, by decide +kernel⟩, List.mem_of_getElem? (i := 832) (by decide +kernel), List.mem_of_getElem? (i := 1181) (by decide +kernel), List.mem_of_getElem? (i := 1182) (by decide +kernel)⟩
theorem lw_p69 : lw_okq (⟨"LeastRowsModel", "mixesTable", "()V"⟩, 21) := ⟨⟨by decide +kernel, by decide +kernel⟩, List.mem_of_getElem? (i := 832) (by decide +kernel), List.mem_of_getElem? (i := 1186) (by decide +kernel), List.mem_of_getElem? (i := 1187) (by decide +kernel)⟩
theorem lw_p70 : lw_okq (⟨"LeastRowsModel", "mixesCuts", "(I)V"⟩, 21) := ⟨⟨by decide +kernel, by decide +kernel⟩, List.mem_of_getElem? (i := 832) (by decide +kernel), List.mem_of_getElem? (i := 1190) (by decide +kernel), List.mem_of_getElem? (i := 1191) (by decide +kernel)⟩
def lw_privs_5 : List (MethodName × Nat) := [(⟨"LeastRowsModel", "part", "(II)V"⟩, 21), (⟨"LeastRowsModel", "cutAt", "(II)I"⟩, 21), (⟨"LeastRowsModel", "fewest", "(I)I"⟩, 21), (⟨"LeastRowsModel", "share", "()D"⟩, 21), (⟨"LeastRowsModel", "mixes", "(J)V"⟩, 21), (⟨"LeastRowsModel", "mixesTable", "()V"⟩, 21), (⟨"LeastRowsModel", "mixesCuts", "(I)V"⟩, 21)]
theorem lw_r5 : ∀ q ∈ lw_privs_5, lw_okq q := List.forall_mem_cons.mpr ⟨lw_p64, List.forall_mem_cons.mpr ⟨lw_p65, List.forall_mem_cons.mpr ⟨lw_p66, List.forall_mem_cons.mpr ⟨lw_p67, List.forall_mem_cons.mpr ⟨lw_p68, List.forall_mem_cons.mpr ⟨lw_p69, List.forall_mem_cons.mpr ⟨lw_p70, fun _ h => absurd h List.not_mem_nil⟩⟩⟩⟩⟩⟩⟩
def lw_privs : List (MethodName × Nat) := lw_privs_1 ++ (lw_privs_2 ++ (lw_privs_3 ++ (lw_privs_4 ++ (lw_privs_5))))
def lw_tbl : List Cond := k2_sels lw_privs ++ tables_1
theorem lw_privs_ok : ∀ q ∈ lw_privs, lw_okq q := by
  show ∀ q ∈ lw_privs_1 ++ (lw_privs_2 ++ (lw_privs_3 ++ (lw_privs_4 ++ (lw_privs_5)))), lw_okq q
  exact List.forall_mem_append.mpr ⟨lw_r1, List.forall_mem_append.mpr ⟨lw_r2, List.forall_mem_append.mpr ⟨lw_r3, List.forall_mem_append.mpr ⟨lw_r4, lw_r5⟩⟩⟩⟩
/-- the streams that the claim lets the run draw from -/
abbrev lw_cs : List Choice := [Jvm.Choice.named "NaN.bits"]
theorem lw_bits : nanBits ∈ lw_cs := by first | decide | exact List.mem_cons_self | simp [lw_cs, nanBits]
/-! ===== BEGIN words of one list among another's, by their places ===== -/
theorem goodIn_r {big : List Cond} (ws : List Cond) (ps : List Nat) (hp : ws = ps.filterMap (fun i => big[i]?)) (h : ws.all goodWord = true) : GoodIn big ws := by
  intro w hw
  have h1 := List.all_eq_true.mp h w hw
  rw [hp] at hw
  obtain ⟨i, -, hi⟩ := List.mem_filterMap.mp hw
  have hm : w ∈ big := by first | exact List.mem_of_getElem? hi | exact List.getElem?_mem hi
  exact ⟨hm, good_of_word h1⟩
theorem goodIn_app {big a b : List Cond} (ha : GoodIn big a) (hb : GoodIn big b) : GoodIn big (a ++ b) := fun w h => (List.mem_append.mp h).elim (ha w) (hb w)
theorem goodIn_ca {big a b : List Cond} {c : Cond} (ha : GoodIn big (c :: a)) (hb : GoodIn big b) : GoodIn big (c :: (a ++ b)) := fun w h => (List.mem_cons.mp h).elim (fun e => ha w (List.mem_cons.mpr (Or.inl e))) (fun h => (List.mem_append.mp h).elim (fun h => ha w (List.mem_cons.mpr (Or.inr h))) (hb w))
theorem goodIn_sub {big ws : List Cond} (hm : ∀ w ∈ ws, w ∈ big) (h : ws.all goodWord = true) : GoodIn big ws := fun w hw => ⟨hm w hw, good_of_word (List.all_eq_true.mp h w hw)⟩
/-! ===== END ===== -/

/-! ===== BEGIN exceptions that leave a method, and their catching by the caller (launches without stack traces) ===== -/
section VXA
/-! The laws vx_back, vx_callV, vx_callS, vx_callSW, vx_throw0, vx_throwS follow proofs of the library, with one case more: JvmDerived/Free/Laws.lean (Back.of_free), Shelf42/LK1.lean (callV, callS), Shelf/KitTraced.lean (throwNew0V, throwNewS). -/
/-- where a method has thrown q: the class by its name, the cell, what was written, the world -/
def vx_T (XC : String → State → State → Prop) (st : State) (q : Addr) (t : State) (mc ms : Nat) (free : Addr → Prop) : Prop :=
  ∃ (E : String) (ce : Cell) (L : List Loc), XC E st t ∧ t.heap[q]? = some ce ∧ ce.vm = .none ∧ st.vm.findClass E = some ce.cls ∧ st.WarmedH t.vm ∧ st.sameButNew ({ t with vm := st.vm } : State) L mc ms ∧ ∀ z ∈ L, free z.base
def vx_Q (Qc : Array Value → State → Outcome → State → Prop) (XC : String → State → State → Prop) (mc ms : Nat) (free : Addr → Prop) : Array Value → State → Outcome → State → Prop := fun a st o t =>
  (Qc a st o t ∧ ∃ L, FrameEnd st o t L mc ms ∧ ∀ q ∈ L, free q.base) ∨ ∃ q, o = .threw q ∧ vx_T XC st q t mc ms free
/-- a callee that returns or throws -/
def vx_Met (l : Launch) (y : MethodName) (ws : List Cond) (rm : Room) (Pc : Array Value → State → Prop) (Qc : Array Value → State → Outcome → State → Prop) (XC : String → State → State → Prop) (mc ms : Nat) (free : Addr → Prop) : Prop :=
  MetFree l y (headSpec ws rm) Pc (fun _ _ _ _ _ => True) (vx_Q Qc XC mc ms free)
def vx_Post (XC : String → State → State → Prop) (mc ms : Nat) (free : Addr → Prop) : Pt → Array Value → Addr → Pt → Prop := fun A a q B =>
  ∃ (g : JFrame) (mk : MethodId) (t : State) (L : List Loc) (E : String) (ce : Cell), B.U.heap = t.heap ∧ B.U.vm = t.vm ∧ XC E (A.U.calling g mk a) t ∧ t.heap[q]? = some ce ∧ ce.vm = .none ∧ A.U.vm.findClass E = some ce.cls ∧ B.locs = A.locs ++ L ∧ (∀ z ∈ L, free z.base) ∧ B.cells = A.cells + mc ∧ B.slots = A.slots + ms
def vx_Back (l : Launch) (R : Room) (p : Program) (e : Env) (below : List Frame) (s : State) (sargs : Array Value) (y : MethodName) (len W9 : Nat)
    (Pre : Pt → Array Value → Prop) (Post : Pt → Array Value → Option Value → Pt → Prop) (PostX : Pt → Array Value → Addr → Pt → Prop) : Prop :=
  ∀ (m : MethodId) (meth : Method) (c : Code) (A : Pt) (g : JFrame) (ig : Instr) (mk : MethodId) (a : Array Value),
    Stand p l e R s m sargs below meth c A.U A.locs A.cells A.slots → g.method = m → g.locals.size = c.maxLocals → decode c.code g.pc = .ok (ig, len) →
    2 * g.monitorRoom + (g.stack.map fun v => v.category).sum ≤ W9 → A.U.methodNamed? y = some mk → Pre A a →
    (∃ (v : Option Value) (B : Pt), Stand p l e R s m sargs below meth c B.U B.locs B.cells B.slots ∧ Post A a v B ∧
      Steps p.tables e below (doInvoke e (A.U.setTop g) [] mk a).1 (B.U.setTop { g with pc := g.pc + len, stack := v.toList ++ g.stack })) ∨
    (∃ (q : Addr) (B : Pt), Stand p l e R s m sargs below meth c B.U B.locs B.cells B.slots ∧ PostX A a q B ∧
      Steps p.tables e below (doInvoke e (A.U.setTop g) [] mk a).1 ((B.U.setTop g).pushFrame (.throwing q)))
section Payer
variable {l : Launch} {R : Room} {p : Program} {e : Env} {below : List Frame} {s : State} {sargs : Array Value} {y : MethodName} {len W9 : Nat}
theorem vx_back {ws : List Cond} {rm : Room} {Pc : Array Value → State → Prop} {Qc : Array Value → State → Outcome → State → Prop} {XC : String → State → State → Prop} {mc ms : Nat} {free : Addr → Prop} {bytes : ByteArray} {maxL : Nat} {ret : Option FieldType}
    (hM : vx_Met l y ws rm Pc Qc XC mc ms free) (hblind : FrameBlind Pc) (hrc : rm.cells = mc) (hrs : rm.slots = ms)
    (hframes : rm.frames + 1 ≤ R.frames) (hlocals : W9 + (maxL + 11) + rm.locals ≤ R.locals)
    (hws : ∀ w ∈ ws, ∀ a' U, s.WarmedH U.vm → w.before a' U = true) (hcode : Cond.code y bytes maxL ret ∈ ws) (hinit : ∀ a' U, s.WarmedH U.vm → (Cond.initialized y.cls).before a' U = true) :
    vx_Back l R p e below s sargs y len W9 (PreOf R mc ms Pc) (PostOf Qc mc ms free) (vx_Post XC mc ms free) := by
  intro m meth c A g ig mk a X hg hsize hdg hW hn hp
  have h1 : (headSpec ws rm).pre.before a A.U = true := atoms_intro fun w hw => hws w hw _ _ X.warmed
  have h2 : (Cond.code y bytes maxL ret).before a A.U = true := hws _ hcode _ _ X.warmed
  have h3 : (Cond.initialized y.cls).before a A.U = true := hinit _ _ X.warmed
  have h4 : A.cells + (headSpec ws rm).room.cells ≤ R.cells := by rw [show (headSpec ws rm).room.cells = mc from hrc]; exact hp.1
  have h5 : A.slots + (headSpec ws rm).room.slots ≤ R.slots := by rw [show (headSpec ws rm).room.slots = ms from hrs]; exact hp.2.1
  have hPc : Pc a (A.U.calling g mk a) := hblind _ _ _ _ hp.2.2
  obtain ⟨U, Ls, c0, s0⟩ := A
  dsimp only [Pt.U, Pt.locs, Pt.cells, Pt.slots] at h1 h2 h3 h4 h5 X hn hPc ⊢
  obtain ⟨methY, cY, hmY, hcY, -, hlY, -, -, -, -⟩ := Cond.code_spec hn h2
  obtain ⟨kY, hkY, -⟩ := className_of_methodNamed hn
  have hinitY : kY.init = .initialized := Cond.initialized_spec (findClass_of_methodNamed hn) hkY h3
  have h : At U g.method c below := by rw [hg]; exact X.here
  have hlocals9 : W9 + (maxL + 11) + (headSpec ws rm).room.locals ≤ R.locals := hlocals
  have happ : (headSpec ws rm).appliesLoose y e.platform (U.calling g mk a) = true :=
    Spec.appliesLoose_calling (g := g) h hdg hn hkY hinitY
      (X.room_calling (g := g) (R' := (headSpec ws rm).room) hsize hmY hcY hframes (by rw [hlY]; omega) h4 h5) h1
  obtain ⟨mid, hmid⟩ := h.above
  have hfr : (U.setTop g).frames = (.java g :: mid) ++ below := by rw [State.frames_setTop' g h.top, hmid]; rfl
  obtain ⟨o, s₂, hsteps, -, hend, hq⟩ := Steps.callFree hM p X.admits X.cas X.clock (acts := []) hfr happ hPc trivial
  have hq' : vx_Q Qc XC mc ms free a (U.calling g mk a) o s₂ := hq
  rw [State.frames_setTop' g h.top] at hend
  obtain ⟨g₀, hg0⟩ := Option.isSome_iff_exists.mp h.top
  obtain ⟨r, hr⟩ := State.topJava?_eq_some.mp hg0
  have hr' : (({ U with heap := s₂.heap, slotsUsed := s₂.slotsUsed } : State).setVm s₂.vm).frames = .java g₀ :: r := hr
  rcases hq' with ⟨hqc, L, hfe, hL⟩ | ⟨q, rfl, E, ce, L, hx, hce, hcv, hcl, hW₂, hsm, hL⟩
  · obtain ⟨⟨v, rfl⟩, hW₂, e2, q2, q3, q4, q5, q6⟩ := id hfe
    have e3 : s₂ = ({ (U.calling g mk a).setFrames s₂.frames with heap := s₂.heap, slotsUsed := s₂.slotsUsed } : State).setVm s₂.vm := by
      have : s₂ = ({ s₂ with vm := (U.calling g mk a).vm } : State).setVm s₂.vm := rfl
      rw [e2] at this
      exact this
    obtain ⟨c₂, i₂, len₂, hc₂, hd₂, hf₂⟩ := hend
    have hW' : U.WarmedH s₂.vm := hW₂
    have hcc : c₂ = c := by
      have h1 : s₂.code? g.method = U.code? g.method := by
        rw [State.code?_eq, State.code?_eq, hW'.alike.method?]
      exact Option.some.inj (hc₂.symm.trans (h1.trans h.code))
    subst hcc
    have hlen : len₂ = len := by rw [hdg] at hd₂; cases hd₂; rfl
    subst hlen
    have hs₂ : s₂ = (({ U with heap := s₂.heap, slotsUsed := s₂.slotsUsed } : State).setVm s₂.vm).setTop { g with pc := g.pc + len₂, stack := v.toList ++ g.stack } := by
      refine e3.trans ?_
      rw [hf₂, State.calling_eq h.top, State.setFrames_setFrames, State.setTop_of_frames _ hr', hr]
      rfl
    have hsame : U.sameButNew ({ U with heap := s₂.heap, slotsUsed := s₂.slotsUsed } : State) L mc ms := by
      refine ⟨?_, q2, q3, q4, q5, q6⟩
      obtain ⟨t, ht, -⟩ := State.frames_cons hr
      show ({ U with heap := s₂.heap, slotsUsed := s₂.slotsUsed } : State) = { U.setFrames U.frames with heap := s₂.heap, slotsUsed := s₂.slotsUsed }
      rw [State.setFrames_self ht]
    subst hg
    refine Or.inl ⟨v, ⟨(({ U with heap := s₂.heap, slotsUsed := s₂.slotsUsed } : State).setVm s₂.vm), Ls ++ L, c0 + mc, s0 + ms⟩,
      ⟨X.admits, X.cas, X.clock, X.frames, X.room, X.hears, X.method, X.code, (X.here.setHeapUsed s₂.heap s₂.slotsUsed).setVm hW'.alike, X.tail, State.WarmedH.trans X.warmed hW', X.limits, X.bytes, X.same.trans (hsame.setVm s.vm)⟩,
      ⟨g, mk, s₂, L, rfl, rfl, hqc, rfl, hL, rfl, rfl⟩, ?_⟩
    show Steps p.tables e below _ ((({ U with heap := s₂.heap, slotsUsed := s₂.slotsUsed } : State).setVm s₂.vm).setTop { g with pc := g.pc + len₂, stack := v.toList ++ g.stack })
    rw [← hs₂]
    exact hsteps
  · obtain ⟨e2, q2, q3, q4, q5, q6⟩ := id hsm
    have e3 : s₂ = ({ (U.calling g mk a).setFrames s₂.frames with heap := s₂.heap, slotsUsed := s₂.slotsUsed } : State).setVm s₂.vm := by
      have : s₂ = ({ s₂ with vm := (U.calling g mk a).vm } : State).setVm s₂.vm := rfl
      rw [e2] at this
      exact this
    have hf₂ : s₂.frames = .throwing q :: .java g :: U.frames.tail := hend
    have hW' : U.WarmedH s₂.vm := hW₂
    have hs₂ : s₂ = ((({ U with heap := s₂.heap, slotsUsed := s₂.slotsUsed } : State).setVm s₂.vm).setTop g).pushFrame (.throwing q) := by
      refine e3.trans ?_
      rw [hf₂, State.calling_eq h.top, State.setFrames_setFrames, State.pushFrame, State.frames_setTop _ hr', State.setTop_of_frames _ hr', State.setFrames_setFrames, hr]
      rfl
    have hsame : U.sameButNew ({ U with heap := s₂.heap, slotsUsed := s₂.slotsUsed } : State) L mc ms := by
      refine ⟨?_, q2, q3, q4, q5, q6⟩
      obtain ⟨t, ht, -⟩ := State.frames_cons hr
      show ({ U with heap := s₂.heap, slotsUsed := s₂.slotsUsed } : State) = { U.setFrames U.frames with heap := s₂.heap, slotsUsed := s₂.slotsUsed }
      rw [State.setFrames_self ht]
    subst hg
    refine Or.inr ⟨q, ⟨(({ U with heap := s₂.heap, slotsUsed := s₂.slotsUsed } : State).setVm s₂.vm), Ls ++ L, c0 + mc, s0 + ms⟩,
      ⟨X.admits, X.cas, X.clock, X.frames, X.room, X.hears, X.method, X.code, (X.here.setHeapUsed s₂.heap s₂.slotsUsed).setVm hW'.alike, X.tail, State.WarmedH.trans X.warmed hW', X.limits, X.bytes, X.same.trans (hsame.setVm s.vm)⟩,
      ⟨g, mk, s₂, L, E, ce, rfl, rfl, hx, hce, hcv, hcl, rfl, hL, rfl, rfl⟩, ?_⟩
    show Steps p.tables e below _ (((({ U with heap := s₂.heap, slotsUsed := s₂.slotsUsed } : State).setVm s₂.vm).setTop g).pushFrame (.throwing q))
    rw [← hs₂]
    exact hsteps
end Payer
section Calls
variable {p : Program} {l : Launch} {e : Env} {R : Room} {s : State} {m : MethodId} {args : Array Value} {below : List Frame} {meth : Method} {c : Code} {T : State} {locs : List Loc} {cells slots : Nat}
theorem vx_callV (X : Stand p l e R s m args below meth c T locs cells slots) (hexec : p.tables.exec = Jvm.exec) {own C : String} {index : Nat} {y : MethodName} {bytes : ByteArray} {maxL : Nat} {ret : Option FieldType}
    (hown : s.vm.findClass own = some m.cls) (hlink : (Cond.methodLink own index y).before args s = true) (hinst : (Cond.instanceMethod y).before args s = true) (hsel : (Cond.selects C y y).before args s = true)
    (hcode : (Cond.code y bytes maxL ret).before args s = true) (hy : y.cls ≠ "java/lang/invoke/MethodHandle" ∧ y.cls ≠ "java/lang/invoke/VarHandle")
    {W9 : Nat} {Pre : Pt → Array Value → Prop} {Post : Pt → Array Value → Option Value → Pt → Prop} {PostX : Pt → Array Value → Addr → Pt → Prop} (hK : vx_Back l R p e below s args y 3 W9 Pre Post PostX)
    {b : Addr} {cellB : Cell} (hcell : T.heap[b]? = some cellB) (hobj : cellB.vm.isStatics = false) (hcls : s.vm.findClass C = some cellB.cls)
    {g : JFrame} (hg : g.method = m) (hsize : g.locals.size = c.maxLocals) {argsL rest : List Value} (hlen : ∀ sig, parseMethodDescriptor y.desc = some sig → argsL.length = sig.parameters.length)
    (hstack : g.stack = argsL.reverse ++ .ref b :: rest) (hW : 2 * g.monitorRoom + (rest.map fun v => v.category).sum ≤ W9) (hdg : decode c.code g.pc = .ok (.invokevirtual index, 3))
    (hpre : ∀ vm₁, s.WarmedH vm₁ → Pre ⟨T.setVm vm₁, locs, cells, slots⟩ (Value.ref b :: argsL).toArray) :
    (∃ (v : Option Value) (vm₁ : Vm) (B : Pt), s.WarmedH vm₁ ∧ Stand p l e R s m args below meth c B.U B.locs B.cells B.slots ∧ Post ⟨T.setVm vm₁, locs, cells, slots⟩ (Value.ref b :: argsL).toArray v B ∧
      ∀ target, Steps p.tables e below (B.U.setTop { g with pc := g.pc + 3, stack := v.toList ++ rest }) target → Steps p.tables e below (T.setTop g) target) ∨
    (∃ (q : Addr) (vm₁ : Vm) (B : Pt), s.WarmedH vm₁ ∧ Stand p l e R s m args below meth c B.U B.locs B.cells B.slots ∧ PostX ⟨T.setVm vm₁, locs, cells, slots⟩ (Value.ref b :: argsL).toArray q B ∧
      Steps p.tables e below (T.setTop g) ((B.U.setTop { g with stack := rest }).pushFrame (.throwing q))) := by
  obtain ⟨mk, methM, hnamed, hmethM, hstM, habM⟩ := Cond.instanceMethod_spec hinst
  obtain ⟨methM', cM, hmethM', -, -, -, -, -, -, hsigM⟩ := Cond.code_spec hnamed hcode
  cases hmethM.symm.trans hmethM'
  obtain ⟨c2, r2, m2, q1, q2, q3, q4, kP, hkP, hkPi⟩ := Cond.selects_spec hsel
  cases hcls.symm.trans q1
  cases (State.methodFound?_of_named hnamed hy).symm.trans q2
  cases hnamed.symm.trans q3
  have hselP : selectMethod e.platform s.vm cellB.cls mk = .method mk := by rw [Launch.admits_selectMethod X.admits]; exact q4
  obtain ⟨vm₁, X₁, hstep₁⟩ := X.invokevirtual hexec hown hlink hnamed hmethM hstM hkP hkPi hy (a := b) (cell := cellB) hcell
    (fun z h => by rw [h] at hobj; cases hobj) hselP hmethM habM hkP hkPi (g := g) hg (argsL := argsL) (rest := rest) (hlen _ hsigM) hstack hdg
  rcases hK m meth c ⟨T.setVm vm₁, locs, cells, slots⟩ { g with stack := rest } (.invokevirtual index) mk (Value.ref b :: argsL).toArray X₁ hg hsize hdg hW (X₁.named hnamed) (hpre vm₁ X₁.warmed) with ⟨v, B, X', hpost, hsteps⟩ | ⟨q, B, X', hpost, hsteps⟩
  · exact Or.inl ⟨v, vm₁, B, X₁.warmed, X', hpost, fun target h => hstep₁ _ fun acts => by rw [doInvoke_state]; exact hsteps.trans h⟩
  · exact Or.inr ⟨q, vm₁, B, X₁.warmed, X', hpost, hstep₁ _ fun acts => by rw [doInvoke_state]; exact hsteps⟩
theorem vx_callS (X : Stand p l e R s m args below meth c T locs cells slots) (hexec : p.tables.exec = Jvm.exec) {own : String} {index : Nat} {y : MethodName} {bytes : ByteArray} {maxL : Nat} {ret : Option FieldType}
    (hown : s.vm.findClass own = some m.cls) (hlink : (Cond.methodLink own index y).before args s = true) (hstat : (Cond.static y).before args s = true) (hinit : (Cond.initialized y.cls).before args s = true)
    (hcode : (Cond.code y bytes maxL ret).before args s = true) (hy : y.cls ≠ "java/lang/invoke/MethodHandle" ∧ y.cls ≠ "java/lang/invoke/VarHandle")
    {W9 : Nat} {Pre : Pt → Array Value → Prop} {Post : Pt → Array Value → Option Value → Pt → Prop} {PostX : Pt → Array Value → Addr → Pt → Prop} (hK : vx_Back l R p e below s args y 3 W9 Pre Post PostX)
    {g : JFrame} (hg : g.method = m) (hsize : g.locals.size = c.maxLocals) {argsL rest : List Value} (hlen : ∀ sig, parseMethodDescriptor y.desc = some sig → argsL.length = sig.parameters.length)
    (hstack : g.stack = argsL.reverse ++ rest) (hW : 2 * g.monitorRoom + (rest.map fun v => v.category).sum ≤ W9) (hdg : decode c.code g.pc = .ok (.invokestatic index, 3))
    (hpre : ∀ vm₁, s.WarmedH vm₁ → Pre ⟨T.setVm vm₁, locs, cells, slots⟩ argsL.toArray) :
    (∃ (v : Option Value) (vm₁ : Vm) (B : Pt), s.WarmedH vm₁ ∧ Stand p l e R s m args below meth c B.U B.locs B.cells B.slots ∧ Post ⟨T.setVm vm₁, locs, cells, slots⟩ argsL.toArray v B ∧
      ∀ target, Steps p.tables e below (B.U.setTop { g with pc := g.pc + 3, stack := v.toList ++ rest }) target → Steps p.tables e below (T.setTop g) target) ∨
    (∃ (q : Addr) (vm₁ : Vm) (B : Pt), s.WarmedH vm₁ ∧ Stand p l e R s m args below meth c B.U B.locs B.cells B.slots ∧ PostX ⟨T.setVm vm₁, locs, cells, slots⟩ argsL.toArray q B ∧
      Steps p.tables e below (T.setTop g) ((B.U.setTop { g with stack := rest }).pushFrame (.throwing q))) := by
  obtain ⟨mk, hnamed⟩ := Cond.code_named hcode
  obtain ⟨methM, cM, hmethM, -, -, -, -, -, -, hsigM⟩ := Cond.code_spec hnamed hcode
  have hstatic : methM.isStatic = true := Cond.static_spec hnamed hmethM hstat
  obtain ⟨kP, hkP, -⟩ := className_of_methodNamed hnamed
  have hinitP : kP.init = .initialized := Cond.initialized_spec (findClass_of_methodNamed hnamed) hkP hinit
  obtain ⟨vm₁, X₁, hstep₁⟩ := X.invokestatic hexec hown hlink hnamed hmethM hstatic hkP hinitP hy (g := g) hg (argsL := argsL) (rest := rest) (hlen _ hsigM) hstack hdg
  rcases hK m meth c ⟨T.setVm vm₁, locs, cells, slots⟩ { g with stack := rest } (.invokestatic index) mk argsL.toArray X₁ hg hsize hdg hW (X₁.named hnamed) (hpre vm₁ X₁.warmed) with ⟨v, B, X', hpost, hsteps⟩ | ⟨q, B, X', hpost, hsteps⟩
  · exact Or.inl ⟨v, vm₁, B, X₁.warmed, X', hpost, fun target h => hstep₁ _ fun acts => by rw [doInvoke_state]; exact hsteps.trans h⟩
  · exact Or.inr ⟨q, vm₁, B, X₁.warmed, X', hpost, hstep₁ _ fun acts => by rw [doInvoke_state]; exact hsteps⟩
end Calls
theorem vx_cls {s : State} {T : State} {vm₁ : Vm} {E : String} {k : ClassId} (hW : s.WarmedH vm₁) (h : (T.setVm vm₁).vm.findClass E = some k) : s.vm.findClass E = some k := by
  have h1 : vm₁.findClass E = some k := h
  rw [hW.alike.findClass] at h1
  exact h1
/-- the method's frame g, with q thrown over it -/
def vx_W (p : Program) (l : Launch) (e : Env) (R : Room) (s : State) (m : MethodId) (args : Array Value) (below : List Frame) (meth : Method) (c : Code) (H : Heap) (locs : List Loc) (cells slots : Nat) (Q : State → Prop) (g : JFrame) (q : Addr) : Prop :=
  ∀ T : State, T.heap = H → Stand p l e R s m args below meth c T locs cells slots → ∃ t, Steps p.tables e below ((T.setTop g).pushFrame (.throwing q)) t ∧ Q t
def vx_Run (p : Program) (l : Launch) (e : Env) (R : Room) (s : State) (m : MethodId) (args : Array Value) (below : List Frame) (meth : Method) (c : Code) (H : Heap) (locs : List Loc) (cells slots mc ms : Nat) (g : JFrame) (rest : List Value) (Qa : State → Outcome → State → Prop) (XC : String → State → State → Prop) (free : Addr → Prop) : Prop :=
  ∀ T : State, T.heap = H → Stand p l e R s m args below meth c T locs cells slots →
    (∃ (v : Option Value) (st₀ t T' : State) (L : List Loc), st₀.heap = H ∧ Stand p l e R s m args below meth c T' (locs ++ L) (cells + mc) (slots + ms) ∧ (∀ q ∈ L, free q.base) ∧ T'.heap = t.heap ∧ T'.vm = t.vm ∧ Qa st₀ (.returned v) t ∧
      Goes p e below T g T' { g with pc := g.pc + 3, stack := v.toList ++ rest }) ∨
    (∃ (q : Addr) (st₀ t T' : State) (L : List Loc) (E : String) (ce : Cell), st₀.heap = H ∧ Stand p l e R s m args below meth c T' (locs ++ L) (cells + mc) (slots + ms) ∧ (∀ z ∈ L, free z.base) ∧ T'.heap = t.heap ∧ T'.vm = t.vm ∧ XC E st₀ t ∧ t.heap[q]? = some ce ∧ ce.vm = .none ∧ s.vm.findClass E = some ce.cls ∧
      Steps p.tables e below (T.setTop g) ((T'.setTop { g with stack := rest }).pushFrame (.throwing q)))
def vx_X {S : Type} (px : S → Prop) (B : String → S → State → Prop) (A : Nat → Prop) : String → State → State → Prop := fun E st t => ∃ u : S, px u ∧ B E u t ∧ va_F A st t
section Runs
variable {p : Program} {l : Launch} {e : Env} {R : Room} {s : State} {m : MethodId} {args : Array Value} {below : List Frame} {meth : Method} {c : Code} {H : Heap} {locs : List Loc} {cells slots : Nat}
variable {y : MethodName} {bytes cc : ByteArray} {maxL nL mc ms n index : Nat} {ret : Option FieldType} {ws : List Cond} {rm : Room} {Pc : Array Value → State → Prop} {Qc : Array Value → State → Outcome → State → Prop} {XC : String → State → State → Prop} {free : Addr → Prop} {Ts : List Cond} {own C : String} {b : Addr} {As rest : List Value} {g : JFrame}
theorem vx_callBack (cb : CallB R s args own index y bytes maxL ret ws rm mc ms n) (hM : vx_Met l y ws rm Pc Qc XC mc ms free) (hbl : FrameBlind Pc) : vx_Back l R p e below s args y 3 8 (PreOf R mc ms Pc) (PostOf Qc mc ms free) (vx_Post XC mc ms free) := by
  obtain ⟨hrc, hrs, hfr, hlo, hws, hcw, -, hini, -⟩ := cb
  exact vx_back (bytes := bytes) (maxL := maxL) (ret := ret) hM hbl hrc hrs hfr hlo hws hcw (fun a' U hW => word_at hW (Or.inl (by first | rfl | simp [Cond.onTables, Cond.keeps, Cond.steady])) hini)
theorem vx_runV (S : CallFix p m c cc nL s args Ts own) (hM : vx_Met l y ws rm Pc Qc XC mc ms free) (cw : CallW R s args own C index y bytes maxL ret ws rm mc ms n) (hp : PreV s H C b Pc As)
    (hg : g.method = m) (hn : As.length = n) (hsize : g.locals.size = nL) (hstack : g.stack = As.reverse ++ .ref b :: rest) (hW : 2 * g.monitorRoom + (rest.map fun v => v.category).sum ≤ 8) (hdg : decode cc g.pc = .ok (.invokevirtual index, 3)) (hf : cells + mc ≤ R.cells ∧ slots + ms ≤ R.slots) :
    vx_Run p l e R s m args below meth c H locs cells slots mc ms g rest (Qc (Value.ref b :: As).toArray) XC free := by
  have hK : vx_Back l R p e below s args y 3 8 (PreOf R mc ms Pc) (PostOf Qc mc ms free) (vx_Post XC mc ms free) := vx_callBack cw.1 hM hp.1
  obtain ⟨⟨-, -, -, -, -, -, hcode, -, hy, hlen, hl⟩, hin, hse⟩ := cw
  obtain ⟨hx, hb, hml, ho, -⟩ := S
  obtain ⟨-, ⟨cellB, hcB, hoB, hclB⟩, hPc⟩ := hp
  intro T hT X
  rcases vx_callV X hx (C := C) (bytes := bytes) (maxL := maxL) (ret := ret) ho hl hin hse hcode hy hK (by rw [hT]; exact hcB) hoB hclB hg (hsize.trans hml.symm) (argsL := As) (rest := rest) (fun sig h => hn.trans (hlen sig h)) hstack hW (by rw [hb]; exact hdg)
    (fun vm₁ hW₁ => ⟨hf.1, hf.2, hPc (T.setVm vm₁) hT hW₁⟩) with ⟨v, vm₁, ⟨U', l2, c2, s2⟩, hW₁, X', ⟨g', mk, t, L, e1, e2, hq, h1, hL, h2, h3⟩, st⟩ | ⟨q, vm₁, ⟨U', l2, c2, s2⟩, hW₁, X', ⟨g', mk, t, L, E, ce, e1, e2, hq, hce, hcv, hcl, h1, hL, h2, h3⟩, st⟩
  · dsimp only [Pt.U, Pt.locs, Pt.cells, Pt.slots] at X' e1 e2 h1 h2 h3 st
    subst h1; subst h2; subst h3
    exact Or.inl ⟨v, (T.setVm vm₁).calling g' mk (Value.ref b :: As).toArray, t, U', L, hT, X', hL, e1, e2, hq, st⟩
  · dsimp only [Pt.U, Pt.locs, Pt.cells, Pt.slots] at X' e1 e2 h1 h2 h3 st hcl
    subst h1; subst h2; subst h3
    exact Or.inr ⟨q, (T.setVm vm₁).calling g' mk (Value.ref b :: As).toArray, t, U', L, E, ce, hT, X', hL, e1, e2, hq, hce, hcv, vx_cls hW₁ hcl, st⟩
theorem vx_runS (S : CallFix p m c cc nL s args Ts own) (hM : vx_Met l y ws rm Pc Qc XC mc ms free) (cw : CallB R s args own index y bytes maxL ret ws rm mc ms n ∧ (Cond.static y).before args s = true) (hp : PreS s H Pc As)
    (hg : g.method = m) (hn : As.length = n) (hsize : g.locals.size = nL) (hstack : g.stack = As.reverse ++ rest) (hW : 2 * g.monitorRoom + (rest.map fun v => v.category).sum ≤ 8) (hdg : decode cc g.pc = .ok (.invokestatic index, 3)) (hf : cells + mc ≤ R.cells ∧ slots + ms ≤ R.slots) :
    vx_Run p l e R s m args below meth c H locs cells slots mc ms g rest (Qc As.toArray) XC free := by
  have hK : vx_Back l R p e below s args y 3 8 (PreOf R mc ms Pc) (PostOf Qc mc ms free) (vx_Post XC mc ms free) := vx_callBack cw.1 hM hp.1
  obtain ⟨⟨-, -, -, -, -, -, hcode, hini, hy, hlen, hl⟩, hstt⟩ := cw
  obtain ⟨hx, hb, hml, ho, -⟩ := S
  intro T hT X
  rcases vx_callS X hx (bytes := bytes) (maxL := maxL) (ret := ret) ho hl hstt hini hcode hy hK hg (hsize.trans hml.symm) (argsL := As) (rest := rest) (fun sig h => hn.trans (hlen sig h)) hstack hW (by rw [hb]; exact hdg)
    (fun vm₁ hW₁ => ⟨hf.1, hf.2, hp.2 (T.setVm vm₁) hT hW₁⟩) with ⟨v, vm₁, ⟨U', l2, c2, s2⟩, hW₁, X', ⟨g', mk, t, L, e1, e2, hq, h1, hL, h2, h3⟩, st⟩ | ⟨q, vm₁, ⟨U', l2, c2, s2⟩, hW₁, X', ⟨g', mk, t, L, E, ce, e1, e2, hq, hce, hcv, hcl, h1, hL, h2, h3⟩, st⟩
  · dsimp only [Pt.U, Pt.locs, Pt.cells, Pt.slots] at X' e1 e2 h1 h2 h3 st
    subst h1; subst h2; subst h3
    exact Or.inl ⟨v, (T.setVm vm₁).calling g' mk As.toArray, t, U', L, hT, X', hL, e1, e2, hq, st⟩
  · dsimp only [Pt.U, Pt.locs, Pt.cells, Pt.slots] at X' e1 e2 h1 h2 h3 st hcl
    subst h1; subst h2; subst h3
    exact Or.inr ⟨q, (T.setVm vm₁).calling g' mk As.toArray, t, U', L, E, ce, hT, X', hL, e1, e2, hq, hce, hcv, vx_cls hW₁ hcl, st⟩
end Runs
section Rows
variable {p : Program} {l : Launch} {e : Env} {R : Room} {s : State} {m : MethodId} {args : Array Value} {below : List Frame} {meth : Method} {c : Code} {H : Heap} {locs : List Loc} {cells slots : Nat} {Q : State → Prop}
variable {mc ms : Nat} {free : Addr → Prop} {A0 A1 : Nat → Prop} {H0 : Heap} {a : Array Value} {pc : Nat} {ls : Array Slot} {st0 rest : List Value}
theorem vx_keep {st₀ t T' : State} {L : List Loc} (h0 : st₀.heap = H) (e1 : T'.heap = t.heap) (hS : va_S A0 H0 H locs) (hA : ∀ q, q < H.size → A1 q → A0 q) (hf : ∀ q, free q → A0 q) (hL : ∀ q ∈ L, free q.base) (hF : va_F A1 st₀ t) :
    H.size ≤ T'.heap.size ∧ (∀ q : Nat, q < H.size → ¬ A1 q → T'.heap[q]? = H[q]?) ∧ va_S A0 H0 T'.heap (locs ++ L) := by
  obtain ⟨hz, hk⟩ := hF
  rw [h0] at hz hk
  exact ⟨by rw [e1]; exact hz, fun q h1 h2 => by rw [e1]; exact hk q h1 h2,
    ⟨Nat.le_trans hS.1 (by rw [e1]; exact hz), fun q h1 h2 => by rw [e1, hk q (Nat.lt_of_lt_of_le h1 hS.1) (fun z => h2 (hA q (Nat.lt_of_lt_of_le h1 hS.1) z))]; exact hS.2.1 q h1 h2, fun q hq => by
      rcases List.mem_append.mp hq with h | h
      · exact hS.2.2 q h
      · exact hf _ (hL q h)⟩⟩
theorem vx_calli {S SX : Type} {post : Int32 → S → Prop} {px : SX → Prop} {B : S → State → Prop} {BX : String → SX → State → Prop} {AX : Nat → Prop} (hr : vx_Run p l e R s m args below meth c H locs cells slots mc ms (F0 m pc ls st0) rest (va_Qi post B A1 a) (vx_X px BX AX) free) (hS : va_S A0 H0 H locs) (hA : ∀ q, q < H.size → A1 q → A0 q) (hf : ∀ q, free q → A0 q) (hAX : ∀ q, q < H.size → AX q → A0 q)
    (kx : ∀ (E : String) (ce : Cell) (q9 : Addr) (u : SX) (t : State) (H1 : Heap) (locs1 : List Loc), t.heap = H1 → s.vm.Alike t.vm → px u → BX E u t → H.size ≤ H1.size → (∀ q : Nat, q < H.size → ¬ AX q → H1[q]? = H[q]?) → va_S A0 H0 H1 locs1 → H1[q9]? = some ce → ce.vm = .none → s.vm.findClass E = some ce.cls → vx_W p l e R s m args below meth c H1 locs1 (cells + mc) (slots + ms) Q (F0 m pc ls rest) q9)
    (kk : ∀ (r : Int32) (u : S) (t : State) (H1 : Heap) (locs1 : List Loc), t.heap = H1 → s.vm.Alike t.vm → post r u → B u t → H.size ≤ H1.size → (∀ q : Nat, q < H.size → ¬ A1 q → H1[q]? = H[q]?) → va_S A0 H0 H1 locs1 → W p l e R s m args below meth c H1 locs1 (cells + mc) (slots + ms) Q (F0 m (pc + 3) ls (.int r :: rest))) : W p l e R s m args below meth c H locs cells slots Q (F0 m pc ls st0) := by
  intro T hT X
  rcases hr T hT X with ⟨v, st₀, t, T', L, h0, X', hL, e1, e2, ⟨⟨r, u, hv, hp, hb⟩, hF⟩, st⟩ | ⟨q, st₀, t, T', L, E, ce, h0, X', hL, e1, e2, ⟨u, hp, hb, hF⟩, hce, hcv, hcl, st⟩
  · cases hv
    obtain ⟨k1, k2, k3⟩ := vx_keep h0 e1 hS hA hf hL hF
    obtain ⟨t2, a1, b1⟩ := kk r u t T'.heap (locs ++ L) e1.symm (by rw [← e2]; exact X'.warmed.alike) hp hb k1 k2 k3 T' rfl X'
    exact ⟨t2, st t2 a1, b1⟩
  · obtain ⟨k1, k2, k3⟩ := vx_keep h0 e1 hS hAX hf hL hF
    obtain ⟨t2, a1, b1⟩ := kx E ce q u t T'.heap (locs ++ L) e1.symm (by rw [← e2]; exact X'.warmed.alike) hp hb k1 k2 k3 (by rw [e1]; exact hce) hcv hcl T' rfl X'
    exact ⟨t2, st.trans a1, b1⟩
theorem vx_calll {S SX : Type} {post : Int64 → S → Prop} {px : SX → Prop} {B : S → State → Prop} {BX : String → SX → State → Prop} {AX : Nat → Prop} (hr : vx_Run p l e R s m args below meth c H locs cells slots mc ms (F0 m pc ls st0) rest (va_Ql post B A1 a) (vx_X px BX AX) free) (hS : va_S A0 H0 H locs) (hA : ∀ q, q < H.size → A1 q → A0 q) (hf : ∀ q, free q → A0 q) (hAX : ∀ q, q < H.size → AX q → A0 q)
    (kx : ∀ (E : String) (ce : Cell) (q9 : Addr) (u : SX) (t : State) (H1 : Heap) (locs1 : List Loc), t.heap = H1 → s.vm.Alike t.vm → px u → BX E u t → H.size ≤ H1.size → (∀ q : Nat, q < H.size → ¬ AX q → H1[q]? = H[q]?) → va_S A0 H0 H1 locs1 → H1[q9]? = some ce → ce.vm = .none → s.vm.findClass E = some ce.cls → vx_W p l e R s m args below meth c H1 locs1 (cells + mc) (slots + ms) Q (F0 m pc ls rest) q9)
    (kk : ∀ (r : Int64) (u : S) (t : State) (H1 : Heap) (locs1 : List Loc), t.heap = H1 → s.vm.Alike t.vm → post r u → B u t → H.size ≤ H1.size → (∀ q : Nat, q < H.size → ¬ A1 q → H1[q]? = H[q]?) → va_S A0 H0 H1 locs1 → W p l e R s m args below meth c H1 locs1 (cells + mc) (slots + ms) Q (F0 m (pc + 3) ls (.long r :: rest))) : W p l e R s m args below meth c H locs cells slots Q (F0 m pc ls st0) := by
  intro T hT X
  rcases hr T hT X with ⟨v, st₀, t, T', L, h0, X', hL, e1, e2, ⟨⟨r, u, hv, hp, hb⟩, hF⟩, st⟩ | ⟨q, st₀, t, T', L, E, ce, h0, X', hL, e1, e2, ⟨u, hp, hb, hF⟩, hce, hcv, hcl, st⟩
  · cases hv
    obtain ⟨k1, k2, k3⟩ := vx_keep h0 e1 hS hA hf hL hF
    obtain ⟨t2, a1, b1⟩ := kk r u t T'.heap (locs ++ L) e1.symm (by rw [← e2]; exact X'.warmed.alike) hp hb k1 k2 k3 T' rfl X'
    exact ⟨t2, st t2 a1, b1⟩
  · obtain ⟨k1, k2, k3⟩ := vx_keep h0 e1 hS hAX hf hL hF
    obtain ⟨t2, a1, b1⟩ := kx E ce q u t T'.heap (locs ++ L) e1.symm (by rw [← e2]; exact X'.warmed.alike) hp hb k1 k2 k3 (by rw [e1]; exact hce) hcv hcl T' rfl X'
    exact ⟨t2, st.trans a1, b1⟩
theorem vx_callf {S SX : Type} {post : UInt32 → S → Prop} {px : SX → Prop} {B : S → State → Prop} {BX : String → SX → State → Prop} {AX : Nat → Prop} (hr : vx_Run p l e R s m args below meth c H locs cells slots mc ms (F0 m pc ls st0) rest (va_Qf post B A1 a) (vx_X px BX AX) free) (hS : va_S A0 H0 H locs) (hA : ∀ q, q < H.size → A1 q → A0 q) (hf : ∀ q, free q → A0 q) (hAX : ∀ q, q < H.size → AX q → A0 q)
    (kx : ∀ (E : String) (ce : Cell) (q9 : Addr) (u : SX) (t : State) (H1 : Heap) (locs1 : List Loc), t.heap = H1 → s.vm.Alike t.vm → px u → BX E u t → H.size ≤ H1.size → (∀ q : Nat, q < H.size → ¬ AX q → H1[q]? = H[q]?) → va_S A0 H0 H1 locs1 → H1[q9]? = some ce → ce.vm = .none → s.vm.findClass E = some ce.cls → vx_W p l e R s m args below meth c H1 locs1 (cells + mc) (slots + ms) Q (F0 m pc ls rest) q9)
    (kk : ∀ (r : UInt32) (u : S) (t : State) (H1 : Heap) (locs1 : List Loc), t.heap = H1 → s.vm.Alike t.vm → post r u → B u t → H.size ≤ H1.size → (∀ q : Nat, q < H.size → ¬ A1 q → H1[q]? = H[q]?) → va_S A0 H0 H1 locs1 → W p l e R s m args below meth c H1 locs1 (cells + mc) (slots + ms) Q (F0 m (pc + 3) ls (.float r :: rest))) : W p l e R s m args below meth c H locs cells slots Q (F0 m pc ls st0) := by
  intro T hT X
  rcases hr T hT X with ⟨v, st₀, t, T', L, h0, X', hL, e1, e2, ⟨⟨r, u, hv, hp, hb⟩, hF⟩, st⟩ | ⟨q, st₀, t, T', L, E, ce, h0, X', hL, e1, e2, ⟨u, hp, hb, hF⟩, hce, hcv, hcl, st⟩
  · cases hv
    obtain ⟨k1, k2, k3⟩ := vx_keep h0 e1 hS hA hf hL hF
    obtain ⟨t2, a1, b1⟩ := kk r u t T'.heap (locs ++ L) e1.symm (by rw [← e2]; exact X'.warmed.alike) hp hb k1 k2 k3 T' rfl X'
    exact ⟨t2, st t2 a1, b1⟩
  · obtain ⟨k1, k2, k3⟩ := vx_keep h0 e1 hS hAX hf hL hF
    obtain ⟨t2, a1, b1⟩ := kx E ce q u t T'.heap (locs ++ L) e1.symm (by rw [← e2]; exact X'.warmed.alike) hp hb k1 k2 k3 (by rw [e1]; exact hce) hcv hcl T' rfl X'
    exact ⟨t2, st.trans a1, b1⟩
theorem vx_calld {S SX : Type} {post : UInt64 → S → Prop} {px : SX → Prop} {B : S → State → Prop} {BX : String → SX → State → Prop} {AX : Nat → Prop} (hr : vx_Run p l e R s m args below meth c H locs cells slots mc ms (F0 m pc ls st0) rest (va_Qd post B A1 a) (vx_X px BX AX) free) (hS : va_S A0 H0 H locs) (hA : ∀ q, q < H.size → A1 q → A0 q) (hf : ∀ q, free q → A0 q) (hAX : ∀ q, q < H.size → AX q → A0 q)
    (kx : ∀ (E : String) (ce : Cell) (q9 : Addr) (u : SX) (t : State) (H1 : Heap) (locs1 : List Loc), t.heap = H1 → s.vm.Alike t.vm → px u → BX E u t → H.size ≤ H1.size → (∀ q : Nat, q < H.size → ¬ AX q → H1[q]? = H[q]?) → va_S A0 H0 H1 locs1 → H1[q9]? = some ce → ce.vm = .none → s.vm.findClass E = some ce.cls → vx_W p l e R s m args below meth c H1 locs1 (cells + mc) (slots + ms) Q (F0 m pc ls rest) q9)
    (kk : ∀ (r : UInt64) (u : S) (t : State) (H1 : Heap) (locs1 : List Loc), t.heap = H1 → s.vm.Alike t.vm → post r u → B u t → H.size ≤ H1.size → (∀ q : Nat, q < H.size → ¬ A1 q → H1[q]? = H[q]?) → va_S A0 H0 H1 locs1 → W p l e R s m args below meth c H1 locs1 (cells + mc) (slots + ms) Q (F0 m (pc + 3) ls (.double r :: rest))) : W p l e R s m args below meth c H locs cells slots Q (F0 m pc ls st0) := by
  intro T hT X
  rcases hr T hT X with ⟨v, st₀, t, T', L, h0, X', hL, e1, e2, ⟨⟨r, u, hv, hp, hb⟩, hF⟩, st⟩ | ⟨q, st₀, t, T', L, E, ce, h0, X', hL, e1, e2, ⟨u, hp, hb, hF⟩, hce, hcv, hcl, st⟩
  · cases hv
    obtain ⟨k1, k2, k3⟩ := vx_keep h0 e1 hS hA hf hL hF
    obtain ⟨t2, a1, b1⟩ := kk r u t T'.heap (locs ++ L) e1.symm (by rw [← e2]; exact X'.warmed.alike) hp hb k1 k2 k3 T' rfl X'
    exact ⟨t2, st t2 a1, b1⟩
  · obtain ⟨k1, k2, k3⟩ := vx_keep h0 e1 hS hAX hf hL hF
    obtain ⟨t2, a1, b1⟩ := kx E ce q u t T'.heap (locs ++ L) e1.symm (by rw [← e2]; exact X'.warmed.alike) hp hb k1 k2 k3 (by rw [e1]; exact hce) hcv hcl T' rfl X'
    exact ⟨t2, st.trans a1, b1⟩
theorem vx_callv {S SX : Type} {post : S → Prop} {px : SX → Prop} {B : S → State → Prop} {BX : String → SX → State → Prop} {AX : Nat → Prop} (hr : vx_Run p l e R s m args below meth c H locs cells slots mc ms (F0 m pc ls st0) rest (va_Qv post B A1 a) (vx_X px BX AX) free) (hS : va_S A0 H0 H locs) (hA : ∀ q, q < H.size → A1 q → A0 q) (hf : ∀ q, free q → A0 q) (hAX : ∀ q, q < H.size → AX q → A0 q)
    (kx : ∀ (E : String) (ce : Cell) (q9 : Addr) (u : SX) (t : State) (H1 : Heap) (locs1 : List Loc), t.heap = H1 → s.vm.Alike t.vm → px u → BX E u t → H.size ≤ H1.size → (∀ q : Nat, q < H.size → ¬ AX q → H1[q]? = H[q]?) → va_S A0 H0 H1 locs1 → H1[q9]? = some ce → ce.vm = .none → s.vm.findClass E = some ce.cls → vx_W p l e R s m args below meth c H1 locs1 (cells + mc) (slots + ms) Q (F0 m pc ls rest) q9)
    (kk : ∀ (u : S) (t : State) (H1 : Heap) (locs1 : List Loc), t.heap = H1 → s.vm.Alike t.vm → post u → B u t → H.size ≤ H1.size → (∀ q : Nat, q < H.size → ¬ A1 q → H1[q]? = H[q]?) → va_S A0 H0 H1 locs1 → W p l e R s m args below meth c H1 locs1 (cells + mc) (slots + ms) Q (F0 m (pc + 3) ls (rest))) : W p l e R s m args below meth c H locs cells slots Q (F0 m pc ls st0) := by
  intro T hT X
  rcases hr T hT X with ⟨v, st₀, t, T', L, h0, X', hL, e1, e2, ⟨⟨u, hv, hp, hb⟩, hF⟩, st⟩ | ⟨q, st₀, t, T', L, E, ce, h0, X', hL, e1, e2, ⟨u, hp, hb, hF⟩, hce, hcv, hcl, st⟩
  · cases hv
    obtain ⟨k1, k2, k3⟩ := vx_keep h0 e1 hS hA hf hL hF
    obtain ⟨t2, a1, b1⟩ := kk u t T'.heap (locs ++ L) e1.symm (by rw [← e2]; exact X'.warmed.alike) hp hb k1 k2 k3 T' rfl X'
    exact ⟨t2, st t2 a1, b1⟩
  · obtain ⟨k1, k2, k3⟩ := vx_keep h0 e1 hS hAX hf hL hF
    obtain ⟨t2, a1, b1⟩ := kx E ce q u t T'.heap (locs ++ L) e1.symm (by rw [← e2]; exact X'.warmed.alike) hp hb k1 k2 k3 (by rw [e1]; exact hce) hcv hcl T' rfl X'
    exact ⟨t2, st.trans a1, b1⟩
/-- caught by the row x of this method's table; the rows ahead don't take it -/
theorem vx_catch {own name : String} {E : String} {ce : Cell} {q : Addr} (hown : s.vm.findClass own = some m.cls) (pre : List ExceptionTableEntry) (x : ExceptionTableEntry) (suf : List ExceptionTableEntry) (hsplit : c.exceptionTable.toList = pre ++ x :: suf)
    (hpass : ∀ z ∈ pre, covers z pc = false ∨ (z.catchType ≠ 0 ∧ ∃ nm : String, (Cond.classLink own z.catchType nm).before args s = true ∧ va_Nc E nm s)) (hx : covers x pc = true) (h0 : x.catchType ≠ 0)
    (hlink : (Cond.classLink own x.catchType name).before args s = true) (hcast : (Cond.castable E name).before args s = true) (hcell : H[q]? = some ce) (hv : ce.vm = .none) (hcl : s.vm.findClass E = some ce.cls)
    (kk : W p l e R s m args below meth c H locs cells slots Q (F0 m x.handlerPc ls [.ref q])) : vx_W p l e R s m args below meth c H locs cells slots Q (F0 m pc ls rest) q := by
  intro T hT X
  have hpl : e.platform.magicAccessors = ({} : Platform).magicAccessors := by rw [X.admits.platform]
  obtain ⟨c3, c4, hc3, hc4, hasg⟩ := Cond.castable_spec hcast
  cases Option.some.inj (hc3.symm.trans hcl)
  obtain ⟨c5, hc5, hcl5⟩ := Cond.classLink_spec hown hlink e.platform hpl
  cases Option.some.inj (hc4.symm.trans hc5)
  obtain ⟨vm', X', st⟩ := X.thenCaughtThrough q (g := F0 m pc ls rest) rfl (Steps.refl _) (by rw [hT]; exact hcell) (by rw [hv]; rfl) (by obtain ⟨k9, h9, -⟩ := Vm.findClass_spec hcl; exact ⟨k9, h9⟩) pre x suf hsplit
    (fun z hz => by
      rcases hpass z hz with h | ⟨hz0, nm, hl1, hn1⟩
      · exact Or.inl h
      · obtain ⟨c6, hc6, hcl6⟩ := Cond.classLink_spec hown hl1 e.platform hpl
        obtain ⟨a8, b8, h1, h2, h3⟩ := hn1
        cases Option.some.inj (h1.symm.trans hcl)
        cases Option.some.inj (h2.symm.trans hc6)
        exact Or.inr ⟨hz0, _, hcl6, h3⟩) hx (Or.inr ⟨h0, c4, hcl5, hasg⟩)
  obtain ⟨t, a1, b1⟩ := kk (T.setVm vm') hT X'
  exact ⟨t, st.trans a1, b1⟩
end Rows
section Ends
variable {p : Program} {l : Launch} {e : Env} {R : Room} {s : State} {m : MethodId} {args : Array Value} {below : List Frame} {meth : Method} {c : Code} {H : Heap} {locs : List Loc} {cells slots : Nat} {Q : State → Prop}
variable {mc ms : Nat} {free : Addr → Prop} {A0 A1 : Nat → Prop} {H0 : Heap} {a : Array Value} {ls : Array Slot} {st0 rest : List Value}
variable {Qc : Array Value → State → Outcome → State → Prop} {XC : String → State → State → Prop}
/-- what a body that may throw owes at its end -/
def vx_MQ (below : List Frame) (Qc : Array Value → State → Outcome → State → Prop) (XC : String → State → State → Prop) (a : Array Value) (s : State) (mc ms : Nat) (free : Addr → Prop) : State → Prop := fun t =>
  ∃ o, t.status = .running ∧ Ended t below o ∧ vx_Q Qc XC mc ms free a s o t
theorem vx_ret {g : JFrame} {mc ms : Nat} (k : W p l e R s m args below meth c H locs cells slots (MQ below Qc args s mc ms free) g) : W p l e R s m args below meth c H locs cells slots (vx_MQ below Qc XC args s mc ms free) g := by
  intro T hT X
  obtain ⟨t, a1, o, b1, b2, b3, b4⟩ := k T hT X
  exact ⟨t, a1, o, b1, b2, Or.inl ⟨b3, b4⟩⟩
/-- not caught here: it goes on to the caller -/
theorem vx_widen {g : JFrame} {q : Addr} {k n : Nat} (h1 : cells ≤ k) (h2 : slots ≤ n) (kk : vx_W p l e R s m args below meth c H locs k n Q g q) : vx_W p l e R s m args below meth c H locs cells slots Q g q := fun T hT X => kk T hT (stand_widen X h1 h2)
theorem vx_out {pc : Nat} {E : String} {ce : Cell} {q : Addr} {mc ms : Nat} (hout : ∀ x ∈ c.exceptionTable.toList, covers x pc = false) (hlocks : meth.locks = false) (hcell : H[q]? = some ce) (hv : ce.vm = .none) (hcl : s.vm.findClass E = some ce.cls)
    (hx : ∀ t : State, t.heap = H → s.vm.Alike t.vm → XC E s t) (hf : ∀ z ∈ locs, free z.base) (hc : cells ≤ mc) (hs : slots ≤ ms) :
    vx_W p l e R s m args below meth c H locs cells slots (vx_MQ below Qc XC args s mc ms free) (F0 m pc ls rest) q := by
  intro T hT X
  obtain ⟨st1, hrun, hend, hW, hsm⟩ := X.leaveThrown q (g := F0 m pc ls rest) rfl rfl rfl hout hlocks
  have hcell9 : (T.setFrames (.throwing q :: below)).heap[q]? = some ce := by
    show T.heap[q]? = some ce
    rw [hT]; exact hcell
  exact ⟨_, st1, .threw q, hrun, hend, Or.inr ⟨q, rfl, E, ce, locs, hx _ hT hW.alike, hcell9, hv, hcl, hW, hsm.mono hc hs, hf⟩⟩
theorem vx_frame {U : State} {k n : Nat} (h : s.sameButNew ({ U with vm := s.vm } : State) locs k n) : s.heap.size ≤ U.heap.size ∧ ∀ q : Nat, q < s.heap.size → (∀ z ∈ locs, z.base ≠ q) → U.heap[q]? = s.heap[q]? := by
  obtain ⟨-, h2, -, -, -, h6⟩ := h
  refine ⟨h2, fun q hq hz => ?_⟩
  obtain ⟨c9, e1, e2, e3, e4⟩ := h6 q _ (Array.getElem?_eq_getElem hq)
  have hs : c9.slots = (s.heap[q]).slots := Array.ext_getElem? fun i => e4 i fun hm => hz _ hm rfl
  have h9 : c9 = s.heap[q] := by
    rw [hs] at e2
    exact e2
  have e5 : U.heap[q]? = some c9 := e1
  rw [e5, h9, Array.getElem?_eq_getElem hq]
/-- the words of a throw but the four that speak of the heap -/
def vx_no (w : Cond) : Bool := decide (w ≠ .isRef (.static Bundle.tN "UNASSIGNED_STACK" Bundle.steD)) && decide (w ≠ .isRef (.static Bundle.tN "SUPPRESSED_SENTINEL" Bundle.listD)) && decide (w ≠ .laysStatic Bundle.tN "UNASSIGNED_STACK" Bundle.steD) && decide (w ≠ .laysStatic Bundle.tN "SUPPRESSED_SENTINEL" Bundle.listD)
def vx_at0 (own : String) (ic : Nat) (X : String) (names : List String) : List Cond := (Bundle.ownAtoms0 own ic X names).filter vx_no
def vx_atS (own : String) (ic : Nat) (X : String) (names : List String) : List Cond := (Bundle.ownAtoms own ic X names).filter vx_no
/-- a word that the tables alone decide, or a good one -/
def vx_ot (w : Cond) : Bool := w.onTables || goodWord w
theorem vx_ot_at {args a' : Array Value} {s U : State} {w : Cond} (hW : s.WarmedH U.vm) (hvm : s.vm = U.vm) (hg : vx_ot w = true) (h : w.before args s = true) : w.before a' U = true := by
  simp only [vx_ot, Bool.or_eq_true] at hg
  rcases hg with hg | hg
  · exact va_tabs hg hvm h
  · exact word_at hW (good_of_word hg) h
/-- a list's words: the good ones out of the method's own list, the others by premises of their own -/
theorem vx_hat {args : Array Value} {s : State} {L B : List Cond} (h1 : ∀ w ∈ L.filter goodWord, w.before args s = true) (h2 : ∀ w ∈ L.filter (fun w => !goodWord w), w ∈ B) (h3 : ∀ w ∈ B, w.before args s = true) : ∀ w ∈ L, w.before args s = true := by
  intro w hw
  by_cases g : goodWord w = true
  · exact h1 w (List.mem_filter.mpr ⟨hw, g⟩)
  · refine h3 w (h2 w (List.mem_filter.mpr ⟨hw, ?_⟩))
    show (!goodWord w) = true
    cases hgw : goodWord w
    · rfl
    · exact absurd hgw g
theorem vx_c {args : Array Value} {s : State} {w : Cond} {B : List Cond} (h : w.before args s = true) (t : ∀ w ∈ B, w.before args s = true) : ∀ w' ∈ w :: B, w'.before args s = true := fun w' h' => (List.mem_cons.mp h').elim (fun e => by rw [e]; exact h) (t w')
theorem vx_n {args : Array Value} {s : State} : ∀ w ∈ ([] : List Cond), w.before args s = true := fun _ h => nomatch h
theorem vx_own {args : Array Value} {s : State} {L : List Cond} (h1 : ∀ w ∈ L.filter vx_no, w.before args s = true)
    (hU : (Cond.isRef (.static Bundle.tN "UNASSIGNED_STACK" Bundle.steD)).before args s = true) (hN : (Cond.isRef (.static Bundle.tN "SUPPRESSED_SENTINEL" Bundle.listD)).before args s = true)
    (lU : (Cond.laysStatic Bundle.tN "UNASSIGNED_STACK" Bundle.steD).before args s = true) (lN : (Cond.laysStatic Bundle.tN "SUPPRESSED_SENTINEL" Bundle.listD).before args s = true) : ∀ w ∈ L, w.before args s = true := by
  intro w hw
  by_cases e1 : w = .isRef (.static Bundle.tN "UNASSIGNED_STACK" Bundle.steD)
  · rw [e1]; exact hU
  · by_cases e2 : w = .isRef (.static Bundle.tN "SUPPRESSED_SENTINEL" Bundle.listD)
    · rw [e2]; exact hN
    · by_cases e3 : w = .laysStatic Bundle.tN "UNASSIGNED_STACK" Bundle.steD
      · rw [e3]; exact lU
      · by_cases e4 : w = .laysStatic Bundle.tN "SUPPRESSED_SENTINEL" Bundle.listD
        · rw [e4]; exact lN
        · exact h1 w (List.mem_filter.mpr ⟨hw, by unfold vx_no; rw [decide_eq_true e1, decide_eq_true e2, decide_eq_true e3, decide_eq_true e4]; rfl⟩)
/-- where a static field lies, its class's statics cell in H -/
def vx_L (C n d : String) (A : Nat → Prop) (U : State) (H : Heap) : Prop := ∃ (c : ClassId) (k : Class) (i : Nat) (f : Field) (a : Nat) (cell : Cell), U.vm.findClass C = some c ∧ U.fieldFound? C n d = some (c, k, i, f) ∧ f.isStatic = true ∧ k.statics = some a ∧ H[a]? = some cell ∧ cell.vm.isStatics = true ∧ cell.cls = c ∧ f.slot < cell.slots.size ∧ k.staticTypes[f.slot]? = some f.type ∧ ¬ A a
theorem vx_L.moved {C n d : String} {A : Nat → Prop} {u U : State} {H : Heap} (hvm : u.vm.Alike U.vm) (h : vx_L C n d A u H) : vx_L C n d A U H := by
  obtain ⟨c, k, i, f, a, cell, h1, h2, h3, h4, h5, h6, h7, h8, h9, h10⟩ := h
  obtain ⟨k', hi', he⟩ := State.fieldFound?_setVm hvm h2
  exact ⟨c, k', i, f, a, cell, by rw [hvm.findClass]; exact h1, hi', h3, by rw [he]; exact h4, h5, h6, h7, h8, by rw [he]; exact h9, h10⟩
theorem vx_L.kept {C n d : String} {A : Nat → Prop} {U : State} {H H1 : Heap} (h : vx_L C n d A U H) (hq : ∀ a : Nat, a < H.size → ¬ A a → H1[a]? = H[a]?) : vx_L C n d A U H1 := by
  obtain ⟨c, k, i, f, a, cell, h1, h2, h3, h4, h5, h6, h7, h8, h9, h10⟩ := h
  exact ⟨c, k, i, f, a, cell, h1, h2, h3, h4, by rw [hq a (Array.getElem?_eq_some_iff.mp h5).1 h10]; exact h5, h6, h7, h8, h9, h10⟩
theorem vx_L.narrow {C n d : String} {A B : Nat → Prop} {U : State} {H : Heap} (h : vx_L C n d A U H) (hAB : ∀ q, B q → A q) : vx_L C n d B U H := by
  obtain ⟨c, k, i, f, a, cell, h1, h2, h3, h4, h5, h6, h7, h8, h9, h10⟩ := h
  exact ⟨c, k, i, f, a, cell, h1, h2, h3, h4, h5, h6, h7, h8, h9, fun z => h10 (hAB _ z)⟩
theorem vx_L.word {C n d : String} {A : Nat → Prop} {s : State} {args : Array Value} (h : vx_L C n d A s s.heap) : (Cond.laysStatic C n d).before args s = true := by
  obtain ⟨c, k, i, f, a, cell, h1, h2, h3, h4, h5, h6, h7, h8, h9, -⟩ := h
  show (Cond.laysStatic C n d).holds args s none s [] = true
  exact Cond.laysStatic_of h1 h2 h3 h4 h5 h6 h7 h8 h9
/-- .. and what it holds: null or some reference -/
def vx_Zq (C n d : String) (A : Nat → Prop) (U : State) (H : Heap) : Prop := va_Zq C n d A U H ∧ vx_L C n d A U H
theorem vx_Zq.moved {C n d : String} {A : Nat → Prop} {u U : State} {H : Heap} (hvm : u.vm.Alike U.vm) (h : vx_Zq C n d A u H) : vx_Zq C n d A U H := ⟨va_Zq.moved hvm h.1, vx_L.moved hvm h.2⟩
theorem vx_Zq.kept {C n d : String} {A : Nat → Prop} {U : State} {H H1 : Heap} (h : vx_Zq C n d A U H) (hq : ∀ a : Nat, a < H.size → ¬ A a → H1[a]? = H[a]?) : vx_Zq C n d A U H1 := ⟨va_Zq.kept h.1 hq, vx_L.kept h.2 hq⟩
theorem vx_Zq.narrow {C n d : String} {A B : Nat → Prop} {U : State} {H : Heap} (h : vx_Zq C n d A U H) (hAB : ∀ q, B q → A q) : vx_Zq C n d B U H := ⟨va_Zq.narrow h.1 hAB, vx_L.narrow h.2 hAB⟩
theorem vx_Zqof {args : Array Value} {s : State} {C n d : String} {A : Nat → Prop} (hl : (Cond.laysStatic C n d).before args s = true) (hini : (Cond.initialized C).before args s = true) (h : (Cond.isRef (.static C n d)).before args s = true) (hA : ∀ a : Nat, a < s.heap.size → ¬ A a) : vx_Zq C n d A s s.heap := by
  refine ⟨va_Zqof hl hini h hA, ?_⟩
  obtain ⟨c, k, i, f, a, cell, h1, h2, h3, h4, h5, h6, h7, h8, h9⟩ := Cond.laysStatic_spec hl
  exact ⟨c, k, i, f, a, cell, h1, h2, h3, h4, h5, h6, h7, h8, h9, hA a (Array.getElem?_eq_some_iff.mp h5).1⟩
theorem vx_isRef {C n d : String} {v : Value} {A : Nat → Prop} {s : State} {args : Array Value} (h : va_Z C n d v A s s.heap) (hv : v.isRef = true) : (Cond.isRef (.static C n d)).before args s = true := by
  obtain ⟨cf, kf, fi, f, a, cell, h1, h2, h3, h4, h5, h6, h7, -⟩ := h
  have he : (Term.static C n d).eval args s none [] s = some v := by
    simp [Term.eval, State.fieldNamed?, h1, h2, h4, h5, h6, h7]
  simp only [Cond.before, Cond.holds, Cond.value, he]
  cases v <;> simp_all [Value.isRef]
theorem vx_isRefq {C n d : String} {A : Nat → Prop} {s : State} {args : Array Value} (h : va_Zq C n d A s s.heap) : (Cond.isRef (.static C n d)).before args s = true := by
  rcases h with h | ⟨t, h⟩
  · exact vx_isRef h rfl
  · exact vx_isRef h rfl
/-- the same frame, seen from here: as if the method were called anew in this heap -/
theorem vx_rebase {T : State} (X : Stand p l e R s m args below meth c T locs cells slots) {R' : Room} (hf : R'.frames ≤ R.frames) (hl : R'.locals ≤ R.locals) (hc : cells + R'.cells ≤ R.cells) (hs : slots + R'.slots ≤ R.slots) :
    Stand p l e R' ((T.setVm s.vm).setFrames (.invoking m args :: below)) m args below meth c T [] 0 0 := by
  have htop : (T.setVm s.vm).topJava?.isSome := X.here.top
  have hF : ((T.setVm s.vm).setFrames (.invoking m args :: below)).frames = .invoking m args :: below := State.frames_setFrames _ (State.cur_lt_of_top htop)
  obtain ⟨g₀, hg0⟩ := Option.isSome_iff_exists.mp htop
  obtain ⟨r, hr⟩ := State.topJava?_eq_some.mp hg0
  have hl9 : e.platform.stackLimits (T.setVm s.vm).me = e.platform.stackLimits s.me := X.limits
  have hb9 : (T.setVm s.vm).me.stackBytes = s.me.stackBytes := X.bytes
  refine ⟨X.admits, X.cas, X.clock, hF, ?_, X.hears, X.method, X.code, X.here, X.tail, X.warmed, ?_, ?_, ?_⟩
  · have h := X.room
    have hU : ((T.setVm s.vm).setFrames (.invoking m args :: below)).localsInUse = s.localsInUse := by
      rw [State.localsInUse_invoking hF (meth := meth) (c := c) X.method X.code, State.localsInUse_invoking X.frames X.method X.code]
    simp only [State.hasRoom, Bool.and_eq_true, decide_eq_true_eq] at h ⊢
    obtain ⟨⟨⟨⟨h1, h2, h3, h4, h5, h6⟩, h7⟩, h8⟩, h9⟩ := h
    rw [X.frames, List.length_cons] at h2 h3
    have q1 := X.heapSize
    have q2 := X.used
    simp only [hF, hU, List.length_cons, State.stackLimits_setFrames, State.stackBytes_setFrames, hl9, hb9]
    refine ⟨⟨⟨⟨by omega, by omega, by omega, by omega, by omega, h6⟩, ?_⟩, ?_⟩, X.book⟩
    · show T.heap.size + R'.cells ≤ e.platform.maxCells
      omega
    · show T.slotsUsed + R'.slots ≤ e.platform.maxSlots
      omega
  · rw [State.stackLimits_setFrames]; rfl
  · rw [State.stackBytes_setFrames]; rfl
  · refine ⟨?_, Nat.le_refl _, Nat.le_refl _, ?_, ?_, fun a c9 h9 => ⟨c9, h9, rfl, rfl, fun _ _ => rfl⟩⟩
    · obtain ⟨t, ht, -⟩ := State.frames_cons hr
      show T.setVm s.vm = { ((T.setVm s.vm).setFrames (.invoking m args :: below)).setFrames (T.setVm s.vm).frames with heap := T.heap, slotsUsed := T.slotsUsed }
      rw [State.setFrames_setFrames, State.setFrames_self ht]
      rfl
    · show T.slotsUsed = T.slotsUsed + ((T.heap.toList.drop T.heap.size).map (·.slots.size)).sum
      rw [List.drop_eq_nil_of_le (Nat.le_of_eq Array.length_toList)]
      rfl
    · show ((T.heap.toList.drop T.heap.size).map (·.slots.size)).sum ≤ 0
      rw [List.drop_eq_nil_of_le (Nat.le_of_eq Array.length_toList)]
      exact Nat.le_refl _
/-- 'throw new E()': new; dup; invokespecial; athrow -/
theorem vx_throw0 {cc : ByteArray} {pc : Nat} (hexec : p.tables.exec = Jvm.exec) (hb : c.code = cc) (hl : l.stackTraces = false) {own cls : String} {names : List String} {ik ic mc ms : Nat} {A : Nat → Prop}
    (hown : s.vm.findClass own = some m.cls) (hcls : Bundle.fit cls = true) (hnames : ∀ n ∈ names, Bundle.fit n = true)
    (hk : (Cond.classLink own ik cls).before args s = true) (hini : (Cond.initialized cls).before args s = true) (hat : ∀ w ∈ vx_at0 own ic cls names, w.before args s = true)
    (hgood : ∀ w ∈ Cond.classLink own ik cls :: Cond.initialized cls :: vx_at0 own ic cls names, vx_ot w = true)
    (hU : vx_Zq Bundle.tN "UNASSIGNED_STACK" Bundle.steD A s s.heap) (hN : vx_Zq Bundle.tN "SUPPRESSED_SENTINEL" Bundle.listD A s s.heap) (hS : va_S A s.heap H locs) (hsize : ls.size = c.maxLocals)
    (d0 : decode cc pc = .ok (.new ik, 3)) (d3 : decode cc (pc + 3) = .ok (.dup, 1)) (d4 : decode cc (pc + 4) = .ok (.invokespecial ic, 3)) (d7 : decode cc (pc + 7) = .ok (.athrow, 1))
    (hout : ∀ x ∈ c.exceptionTable.toList, covers x (pc + 7) = false)
    (hRframes : names.length + 3 < R.frames) (hRlocals : (rest.map fun v => v.category).sum + (13 * (names.length + 1) + 42) ≤ R.locals) (hRcells : cells + 1 ≤ R.cells) (hRslots : slots + 6 ≤ R.slots) (hlocks : meth.locks = false)
    (hx : ∀ t : State, s.vm.Alike t.vm → H.size ≤ t.heap.size → (∀ q : Nat, q < H.size → t.heap[q]? = H[q]?) → XC cls s t)
    (hf : ∀ z ∈ locs, free z.base) (hc : cells + 1 ≤ mc) (hs : slots + 6 ≤ ms) :
    W p l e R s m args below meth c H locs cells slots (vx_MQ below Qc XC args s mc ms free) (F0 m pc ls rest) := by
  intro T hT X
  have htr : e.platform.stackTraces = false := (show e.platform.stackTraces = l.stackTraces by rw [X.admits.platform]).trans hl
  have Y := vx_rebase X (R' := { frames := R.frames, locals := R.locals, cells := 1, slots := 6 }) (Nat.le_refl _) (Nat.le_refl _) hRcells hRslots
  obtain ⟨s', hA⟩ : ∃ z, z = (T.setVm s.vm).setFrames (.invoking m args :: below) := ⟨_, rfl⟩
  rw [← hA] at Y
  have hvm : s'.vm = s.vm := by rw [hA]; rfl
  have hhp : s'.heap = H := by rw [hA]; exact hT
  have hW0 : s.WarmedH s'.vm := by rw [hvm]; exact State.WarmedH.refl s
  have hat' : ∀ w ∈ vx_at0 own ic cls names, w.before args s' = true := fun w hw => vx_ot_at hW0 hvm.symm (hgood w (List.mem_cons_of_mem _ (List.mem_cons_of_mem _ hw))) (hat w hw)
  have hk' : (Cond.classLink own ik cls).before args s' = true := vx_ot_at hW0 hvm.symm (hgood _ List.mem_cons_self) hk
  have hini' : (Cond.initialized cls).before args s' = true := vx_ot_at hW0 hvm.symm (hgood _ (List.mem_cons_of_mem _ List.mem_cons_self)) hini
  have hU' : vx_Zq Bundle.tN "UNASSIGNED_STACK" Bundle.steD A s' s'.heap := by rw [hhp]; exact vx_Zq.moved hW0.alike (hU.kept hS.2.1)
  have hN' : vx_Zq Bundle.tN "SUPPRESSED_SENTINEL" Bundle.listD A s' s'.heap := by rw [hhp]; exact vx_Zq.moved hW0.alike (hN.kept hS.2.1)
  have h : ∀ w ∈ Bundle.ownAtoms0 own ic cls names, w.before args s' = true := vx_own hat' (vx_isRefq hU'.1) (vx_isRefq hN'.1) hU'.2.word hN'.2.word
  have hown' : s'.vm.findClass own = some m.cls := by rw [hvm]; exact hown
  have hins : (Cond.instantiable cls 6).before args s' = true := h _ (by simp [Bundle.ownAtoms0])
  obtain ⟨vm₁, cX, kX, hfX, hkX, -, -, X₁, st1⟩ := Y.newCold hexec (own := own) (C := cls) (index := ik) (n := 6) hown' hk' hins hini'
    (g := F0 m pc ls rest) rfl (by rw [hb]; exact d0) (Nat.le_refl _) (Nat.le_refl _)
  generalize hT1 : (T.setVm vm₁).pushCell { cls := cX, slots := kX.instanceTypes.map defaultValue, vm := .none } = T1 at X₁ st1
  have hcat : (Value.ref T.heap.size).category = 1 := rfl
  have hcellA : T1.heap[T.heap.size]? = some (freshCell cX kX) := by rw [← hT1]; exact State.heap_pushCell_size _ _
  have d3' : decode c.code (pc + 3) = .ok (.dup, 1) := by rw [hb]; exact d3
  obtain ⟨U, hsteps, hrun, hend, hW, hsame, ce, hce, hO⟩ := X₁.ctorThrow0 hexec htr (own := own) (cls := cls) (names := names) (ic := ic) hown' hcls hnames h (fun x hx => nomatch hx) hfX hkX hcellA (by rw [hhp, hT]; exact Nat.le_refl _)
    (g := { method := m, pc := pc + 4, locals := ls, stack := .ref T.heap.size :: .ref T.heap.size :: rest, locked := none }) rfl hsize rfl rfl (rest := rest) rfl
    (by rw [hb]; exact d4) (by rw [hb]; exact d7) hout hRframes (by simp only [List.map_cons, List.sum_cons, hcat]; omega) hlocks
  obtain ⟨f1, f2⟩ := vx_frame hsame
  rw [hhp] at f1 f2
  have hWs : s.WarmedH U.vm := State.WarmedH.trans hW0 hW
  have hcl : s.vm.findClass cls = some ce.cls := by
    have h9 := hO.cls
    rw [hvm] at h9
    exact h9
  have hall : s.sameButNew ({ U with vm := s.vm } : State) locs mc ms := by
    subst hA
    obtain ⟨e1, e2⟩ := hsame
    rw [State.setFrames_setFrames] at e1
    have h2 : (T.setVm s.vm).sameButNew ({ U with vm := s.vm } : State) [] (0 + 1) (0 + 6) := ⟨e1, e2⟩
    have h3 := X.same.trans h2
    rw [List.append_nil] at h3
    exact h3.mono hc hs
  refine ⟨U, ?_, .threw T.heap.size, hrun, hend, Or.inr ⟨T.heap.size, rfl, cls, ce, locs, hx U hWs.alike f1 (fun q hq => f2 q hq (fun z hz => nomatch hz)), hce, hO.vm, hcl, hWs, hall, hf⟩⟩
  refine st1 _ ?_
  show Steps p.tables e below (T1.setTop { method := m, pc := pc + 3, locals := ls, stack := .ref T.heap.size :: rest, locked := none }) _
  jvm_step X₁.here [X₁.here.top, hexec, d3', Value.category]
  exact hsteps
/-- 'throw new E("text")': new; dup; ldc; invokespecial; athrow -/
theorem vx_throwS {cc : ByteArray} {pc : Nat} (hexec : p.tables.exec = Jvm.exec) (hb : c.code = cc) (hl : l.stackTraces = false) {own cls text : String} {names : List String} {ik is ic mc ms sa : Nat} {A : Nat → Prop}
    (hown : s.vm.findClass own = some m.cls) (hcls : Bundle.fit cls = true) (hnames : ∀ n ∈ names, Bundle.fit n = true)
    (hk : (Cond.classLink own ik cls).before args s = true) (hini : (Cond.initialized cls).before args s = true) (hstr : vk_R own is text sa s) (hat : ∀ w ∈ vx_atS own ic cls names, w.before args s = true)
    (hgood : ∀ w ∈ Cond.classLink own ik cls :: Cond.initialized cls :: vx_atS own ic cls names, vx_ot w = true)
    (hU : vx_Zq Bundle.tN "UNASSIGNED_STACK" Bundle.steD A s s.heap) (hN : vx_Zq Bundle.tN "SUPPRESSED_SENTINEL" Bundle.listD A s s.heap) (hS : va_S A s.heap H locs) (hsize : ls.size = c.maxLocals)
    (d0 : decode cc pc = .ok (.new ik, 3)) (d3 : decode cc (pc + 3) = .ok (.dup, 1)) (d4 : decode cc (pc + 4) = .ok (.ldc is, 2)) (d6 : decode cc (pc + 6) = .ok (.invokespecial ic, 3)) (d9 : decode cc (pc + 9) = .ok (.athrow, 1))
    (hout : ∀ x ∈ c.exceptionTable.toList, covers x (pc + 9) = false)
    (hRframes : names.length + 3 < R.frames) (hRlocals : (rest.map fun v => v.category).sum + (13 * (names.length + 1) + 43) ≤ R.locals) (hRcells : cells + 1 ≤ R.cells) (hRslots : slots + 6 ≤ R.slots) (hlocks : meth.locks = false)
    (hx : ∀ t : State, s.vm.Alike t.vm → H.size ≤ t.heap.size → (∀ q : Nat, q < H.size → t.heap[q]? = H[q]?) → XC cls s t)
    (hf : ∀ z ∈ locs, free z.base) (hc : cells + 1 ≤ mc) (hs : slots + 6 ≤ ms) :
    W p l e R s m args below meth c H locs cells slots (vx_MQ below Qc XC args s mc ms free) (F0 m pc ls rest) := by
  intro T hT X
  have htr : e.platform.stackTraces = false := (show e.platform.stackTraces = l.stackTraces by rw [X.admits.platform]).trans hl
  have Y := vx_rebase X (R' := { frames := R.frames, locals := R.locals, cells := 1, slots := 6 }) (Nat.le_refl _) (Nat.le_refl _) hRcells hRslots
  obtain ⟨s', hA⟩ : ∃ z, z = (T.setVm s.vm).setFrames (.invoking m args :: below) := ⟨_, rfl⟩
  rw [← hA] at Y
  have hvm : s'.vm = s.vm := by rw [hA]; rfl
  have hhp : s'.heap = H := by rw [hA]; exact hT
  have hW0 : s.WarmedH s'.vm := by rw [hvm]; exact State.WarmedH.refl s
  have hat' : ∀ w ∈ vx_atS own ic cls names, w.before args s' = true := fun w hw => vx_ot_at hW0 hvm.symm (hgood w (List.mem_cons_of_mem _ (List.mem_cons_of_mem _ hw))) (hat w hw)
  have hk' : (Cond.classLink own ik cls).before args s' = true := vx_ot_at hW0 hvm.symm (hgood _ List.mem_cons_self) hk
  have hini' : (Cond.initialized cls).before args s' = true := vx_ot_at hW0 hvm.symm (hgood _ (List.mem_cons_of_mem _ List.mem_cons_self)) hini
  have hU' : vx_Zq Bundle.tN "UNASSIGNED_STACK" Bundle.steD A s' s'.heap := by rw [hhp]; exact vx_Zq.moved hW0.alike (hU.kept hS.2.1)
  have hN' : vx_Zq Bundle.tN "SUPPRESSED_SENTINEL" Bundle.listD A s' s'.heap := by rw [hhp]; exact vx_Zq.moved hW0.alike (hN.kept hS.2.1)
  have h : ∀ w ∈ Bundle.ownAtoms own ic cls names, w.before args s' = true := vx_own hat' (vx_isRefq hU'.1) (vx_isRefq hN'.1) hU'.2.word hN'.2.word
  have hown' : s'.vm.findClass own = some m.cls := by rw [hvm]; exact hown
  have hins : (Cond.instantiable cls 6).before args s' = true := h _ (by simp [Bundle.ownAtoms])
  obtain ⟨vm₁, cX, kX, hfX, hkX, -, -, X₁, st1⟩ := Y.newCold hexec (own := own) (C := cls) (index := ik) (n := 6) hown' hk' hins hini'
    (g := F0 m pc ls rest) rfl (by rw [hb]; exact d0) (Nat.le_refl _) (Nat.le_refl _)
  generalize hT1 : (T.setVm vm₁).pushCell { cls := cX, slots := kX.instanceTypes.map defaultValue, vm := .none } = T1 at X₁ st1
  have hcat : (Value.ref T.heap.size).category = 1 := rfl
  have hcellA : T1.heap[T.heap.size]? = some (freshCell cX kX) := by rw [← hT1]; exact State.heap_pushCell_size _ _
  have d3' : decode c.code (pc + 3) = .ok (.dup, 1) := by rw [hb]; exact d3
  have d4' : decode c.code (pc + 4) = .ok (.ldc is, 2) := by rw [hb]; exact d4
  have hstr' : vk_R own is text sa s' := vk_R.warm hW0 hstr
  obtain ⟨U, hsteps, hrun, hend, hW, hsame, ce, hce, hO⟩ := X₁.ctorThrowS hexec htr (own := own) (cls := cls) (names := names) (ic := ic) hown' hcls hnames h (fun x hx => nomatch hx) hfX hkX hcellA (by rw [hhp, hT]; exact Nat.le_refl _) (msg := .ref sa) rfl
    (g := { method := m, pc := pc + 6, locals := ls, stack := .ref sa :: .ref T.heap.size :: .ref T.heap.size :: rest, locked := none }) rfl hsize rfl rfl (rest := rest) rfl
    (by rw [hb]; exact d6) (by rw [hb]; exact d9) hout hRframes (by simp only [List.map_cons, List.sum_cons, hcat]; omega) hlocks
  obtain ⟨f1, f2⟩ := vx_frame hsame
  rw [hhp] at f1 f2
  have hWs : s.WarmedH U.vm := State.WarmedH.trans hW0 hW
  have hcl : s.vm.findClass cls = some ce.cls := by
    have h9 := hO.cls
    rw [hvm] at h9
    exact h9
  have hall : s.sameButNew ({ U with vm := s.vm } : State) locs mc ms := by
    subst hA
    obtain ⟨e1, e2⟩ := hsame
    rw [State.setFrames_setFrames] at e1
    have h2 : (T.setVm s.vm).sameButNew ({ U with vm := s.vm } : State) [] (0 + 1) (0 + 6) := ⟨e1, e2⟩
    have h3 := X.same.trans h2
    rw [List.append_nil] at h3
    exact h3.mono hc hs
  refine ⟨U, ?_, .threw T.heap.size, hrun, hend, Or.inr ⟨T.heap.size, rfl, cls, ce, locs, hx U hWs.alike f1 (fun q hq => f2 q hq (fun z hz => nomatch hz)), hce, hO.vm, hcl, hWs, hall, hf⟩⟩
  refine st1 _ ?_
  show Steps p.tables e below (T1.setTop { method := m, pc := pc + 3, locals := ls, stack := .ref T.heap.size :: rest, locked := none }) _
  jvm_step X₁.here [X₁.here.top, hexec, d3', Value.category]
  exact X₁.ldcString hexec (own := own) (text := text) (index := is) (a := sa) hown' hstr'.1 hstr'.2
    (g := { method := m, pc := pc + 4, locals := ls, stack := .ref T.heap.size :: .ref T.heap.size :: rest, locked := none }) rfl d4' _ hsteps
/-- 'throw new E("text")', the text by a wide index -/
theorem vx_throwSW {cc : ByteArray} {pc : Nat} (hexec : p.tables.exec = Jvm.exec) (hb : c.code = cc) (hl : l.stackTraces = false) {own cls text : String} {names : List String} {ik is ic mc ms sa : Nat} {A : Nat → Prop}
    (hown : s.vm.findClass own = some m.cls) (hcls : Bundle.fit cls = true) (hnames : ∀ n ∈ names, Bundle.fit n = true)
    (hk : (Cond.classLink own ik cls).before args s = true) (hini : (Cond.initialized cls).before args s = true) (hstr : vk_R own is text sa s) (hat : ∀ w ∈ vx_atS own ic cls names, w.before args s = true)
    (hgood : ∀ w ∈ Cond.classLink own ik cls :: Cond.initialized cls :: vx_atS own ic cls names, vx_ot w = true)
    (hU : vx_Zq Bundle.tN "UNASSIGNED_STACK" Bundle.steD A s s.heap) (hN : vx_Zq Bundle.tN "SUPPRESSED_SENTINEL" Bundle.listD A s s.heap) (hS : va_S A s.heap H locs) (hsize : ls.size = c.maxLocals)
    (d0 : decode cc pc = .ok (.new ik, 3)) (d3 : decode cc (pc + 3) = .ok (.dup, 1)) (d4 : decode cc (pc + 4) = .ok (.ldc_w is, 3)) (d7 : decode cc (pc + 7) = .ok (.invokespecial ic, 3)) (d10 : decode cc (pc + 10) = .ok (.athrow, 1))
    (hout : ∀ x ∈ c.exceptionTable.toList, covers x (pc + 10) = false)
    (hRframes : names.length + 3 < R.frames) (hRlocals : (rest.map fun v => v.category).sum + (13 * (names.length + 1) + 43) ≤ R.locals) (hRcells : cells + 1 ≤ R.cells) (hRslots : slots + 6 ≤ R.slots) (hlocks : meth.locks = false)
    (hx : ∀ t : State, s.vm.Alike t.vm → H.size ≤ t.heap.size → (∀ q : Nat, q < H.size → t.heap[q]? = H[q]?) → XC cls s t)
    (hf : ∀ z ∈ locs, free z.base) (hc : cells + 1 ≤ mc) (hs : slots + 6 ≤ ms) :
    W p l e R s m args below meth c H locs cells slots (vx_MQ below Qc XC args s mc ms free) (F0 m pc ls rest) := by
  intro T hT X
  have htr : e.platform.stackTraces = false := (show e.platform.stackTraces = l.stackTraces by rw [X.admits.platform]).trans hl
  have Y := vx_rebase X (R' := { frames := R.frames, locals := R.locals, cells := 1, slots := 6 }) (Nat.le_refl _) (Nat.le_refl _) hRcells hRslots
  obtain ⟨s', hA⟩ : ∃ z, z = (T.setVm s.vm).setFrames (.invoking m args :: below) := ⟨_, rfl⟩
  rw [← hA] at Y
  have hvm : s'.vm = s.vm := by rw [hA]; rfl
  have hhp : s'.heap = H := by rw [hA]; exact hT
  have hW0 : s.WarmedH s'.vm := by rw [hvm]; exact State.WarmedH.refl s
  have hat' : ∀ w ∈ vx_atS own ic cls names, w.before args s' = true := fun w hw => vx_ot_at hW0 hvm.symm (hgood w (List.mem_cons_of_mem _ (List.mem_cons_of_mem _ hw))) (hat w hw)
  have hk' : (Cond.classLink own ik cls).before args s' = true := vx_ot_at hW0 hvm.symm (hgood _ List.mem_cons_self) hk
  have hini' : (Cond.initialized cls).before args s' = true := vx_ot_at hW0 hvm.symm (hgood _ (List.mem_cons_of_mem _ List.mem_cons_self)) hini
  have hU' : vx_Zq Bundle.tN "UNASSIGNED_STACK" Bundle.steD A s' s'.heap := by rw [hhp]; exact vx_Zq.moved hW0.alike (hU.kept hS.2.1)
  have hN' : vx_Zq Bundle.tN "SUPPRESSED_SENTINEL" Bundle.listD A s' s'.heap := by rw [hhp]; exact vx_Zq.moved hW0.alike (hN.kept hS.2.1)
  have h : ∀ w ∈ Bundle.ownAtoms own ic cls names, w.before args s' = true := vx_own hat' (vx_isRefq hU'.1) (vx_isRefq hN'.1) hU'.2.word hN'.2.word
  have hown' : s'.vm.findClass own = some m.cls := by rw [hvm]; exact hown
  have hins : (Cond.instantiable cls 6).before args s' = true := h _ (by simp [Bundle.ownAtoms])
  obtain ⟨vm₁, cX, kX, hfX, hkX, -, -, X₁, st1⟩ := Y.newCold hexec (own := own) (C := cls) (index := ik) (n := 6) hown' hk' hins hini'
    (g := F0 m pc ls rest) rfl (by rw [hb]; exact d0) (Nat.le_refl _) (Nat.le_refl _)
  generalize hT1 : (T.setVm vm₁).pushCell { cls := cX, slots := kX.instanceTypes.map defaultValue, vm := .none } = T1 at X₁ st1
  have hcat : (Value.ref T.heap.size).category = 1 := rfl
  have hcellA : T1.heap[T.heap.size]? = some (freshCell cX kX) := by rw [← hT1]; exact State.heap_pushCell_size _ _
  have d3' : decode c.code (pc + 3) = .ok (.dup, 1) := by rw [hb]; exact d3
  have d4' : decode c.code (pc + 4) = .ok (.ldc_w is, 3) := by rw [hb]; exact d4
  have hstr' : vk_R own is text sa s' := vk_R.warm hW0 hstr
  obtain ⟨U, hsteps, hrun, hend, hW, hsame, ce, hce, hO⟩ := X₁.ctorThrowS hexec htr (own := own) (cls := cls) (names := names) (ic := ic) hown' hcls hnames h (fun x hx => nomatch hx) hfX hkX hcellA (by rw [hhp, hT]; exact Nat.le_refl _) (msg := .ref sa) rfl
    (g := { method := m, pc := pc + 7, locals := ls, stack := .ref sa :: .ref T.heap.size :: .ref T.heap.size :: rest, locked := none }) rfl hsize rfl rfl (rest := rest) rfl
    (by rw [hb]; exact d7) (by rw [hb]; exact d10) hout hRframes (by simp only [List.map_cons, List.sum_cons, hcat]; omega) hlocks
  obtain ⟨f1, f2⟩ := vx_frame hsame
  rw [hhp] at f1 f2
  have hWs : s.WarmedH U.vm := State.WarmedH.trans hW0 hW
  have hcl : s.vm.findClass cls = some ce.cls := by
    have h9 := hO.cls
    rw [hvm] at h9
    exact h9
  have hall : s.sameButNew ({ U with vm := s.vm } : State) locs mc ms := by
    subst hA
    obtain ⟨e1, e2⟩ := hsame
    rw [State.setFrames_setFrames] at e1
    have h2 : (T.setVm s.vm).sameButNew ({ U with vm := s.vm } : State) [] (0 + 1) (0 + 6) := ⟨e1, e2⟩
    have h3 := X.same.trans h2
    rw [List.append_nil] at h3
    exact h3.mono hc hs
  refine ⟨U, ?_, .threw T.heap.size, hrun, hend, Or.inr ⟨T.heap.size, rfl, cls, ce, locs, hx U hWs.alike f1 (fun q hq => f2 q hq (fun z hz => nomatch hz)), hce, hO.vm, hcl, hWs, hall, hf⟩⟩
  refine st1 _ ?_
  show Steps p.tables e below (T1.setTop { method := m, pc := pc + 3, locals := ls, stack := .ref T.heap.size :: rest, locked := none }) _
  jvm_step X₁.here [X₁.here.top, hexec, d3', Value.category]
  exact X₁.ldcStringW hexec (own := own) (text := text) (index := is) (a := sa) hown' hstr'.1 hstr'.2
    (g := { method := m, pc := pc + 4, locals := ls, stack := .ref T.heap.size :: .ref T.heap.size :: rest, locked := none }) rfl d4' _ hsteps
end Ends
section Bodies
variable {l : Launch}
theorem vx_ofW {y : MethodName} {ws ws' : List Cond} {rm : Room} {Pc : Array Value → State → Prop} {Qc : Array Value → State → Outcome → State → Prop} {XC : String → State → State → Prop} {mc ms : Nat} {free : Addr → Prop} {cc : ByteArray} {maxL : Nat} {ret : Option FieldType}
    (hy : plainName y.cls = true) (hw : ws = Cond.code y cc maxL ret :: ws')
    (body : ∀ p e s m args below meth c s₁, BodyLoose p l y (headSpec ws rm) cc maxL ret e s m args below meth c s₁ → c.maxLocals = maxL → (∀ x ∈ c.exceptionTable.toList, False) → Pc args s →
      W p l e (headSpec ws rm).room s m args below meth c s.heap [] 0 0 (vx_MQ below Qc XC args s mc ms free) (entryFrame m args maxL)) : vx_Met l y ws rm Pc Qc XC mc ms free := by
  refine MetFree.of_bodyS (code := cc) (maxLocals := maxL) (ret := ret) hy ?_ ?_
  · intro args s m h hn
    obtain ⟨meth, c, h1, h2, h3, h4, h5, h6, -, -⟩ := Cond.code_spec hn (atoms_spec (ws := ws) h _ (by rw [hw]; exact List.mem_cons_self))
    exact ⟨meth, c, h1, h2, h3, h4, h5, h6⟩
  · intro p e s m args below meth c s₁ B hml hP _
    have hh0 : s₁.heap = s.heap := by rw [B.state]; rfl
    have ht : ∀ x ∈ c.exceptionTable.toList, False := by
      obtain ⟨meth9, c9, h1, h2, -, -, -, -, h7, -⟩ := Cond.code_spec B.named (atoms_spec (ws := ws) B.pre _ (by rw [hw]; exact List.mem_cons_self))
      cases Option.some.inj (h1.symm.trans B.method)
      cases Option.some.inj (h2.symm.trans (Stand.of_body B).code)
      intro x hx
      rw [Array.isEmpty_iff.mp h7] at hx
      cases hx
    obtain ⟨t, a1, o, b1, b2, b3⟩ := body p e s m args below meth c s₁ B hml ht hP s₁ hh0 (Stand.of_body B)
    exact ⟨t, o, a1, b1, b2, b3⟩
/-- the table of a body with handlers -/
theorem vx_table {p : Program} {x y : MethodName} {S : Spec} {cc bytes : ByteArray} {maxL maxL' : Nat} {ret ret' : Option FieldType} {e : Env} {s s₁ : State} {m : MethodId} {args : Array Value} {below : List Frame} {meth : Method} {c : Code} {hh : List (Nat × Nat × Nat × Nat)}
    (B : BodyLoose p l y S cc maxL ret e s m args below meth c s₁) (h : (Cond.codeWith y bytes maxL' ret' hh).before args s = true) : c.exceptionTable.toList = tableOf hh := by
  obtain ⟨m9, meth9, c9, hn9, h1, h2, -, -, h6, -⟩ := Cond.codeWith_spec h
  cases Option.some.inj (hn9.symm.trans B.named)
  cases Option.some.inj (h1.symm.trans B.method)
  cases Option.some.inj (h2.symm.trans (Stand.of_body B).code)
  rw [← h6, table_eq]
end Bodies
end VXA
/-! ===== END ===== -/
/-! ===== BEGIN a static call of a method with an exception table ===== -/
section VXS
variable {p : Program} {l : Launch} {e : Env} {R : Room} {s : State} {m : MethodId} {args : Array Value} {below : List Frame} {meth : Method} {c : Code} {T : State} {H : Heap} {locs : List Loc} {cells slots : Nat}
abbrev vx_CSW (R : Room) (s : State) (args : Array Value) (own : String) (index : Nat) (y : MethodName) (bytes : ByteArray) (maxL : Nat) (ret : Option FieldType) (hh : List (Nat × Nat × Nat × Nat)) (ws : List Cond) (rm : Room) (mc ms n : Nat) : Prop :=
  (rm.cells = mc ∧ rm.slots = ms ∧ rm.frames + 1 ≤ R.frames ∧ 8 + (maxL + 11) + rm.locals ≤ R.locals ∧ (∀ w ∈ ws, ∀ (a' : Array Value) (U : State), s.WarmedH U.vm → w.before a' U = true) ∧ Cond.codeWith y bytes maxL ret hh ∈ ws) ∧
  (Cond.codeWith y bytes maxL ret hh).before args s = true ∧ (Cond.initialized y.cls).before args s = true ∧ (y.cls ≠ "java/lang/invoke/MethodHandle" ∧ y.cls ≠ "java/lang/invoke/VarHandle") ∧
  (∀ sig, parseMethodDescriptor y.desc = some sig → n = sig.parameters.length) ∧ (Cond.methodLink own index y).before args s = true ∧ (Cond.static y).before args s = true
theorem vx_cwSW {own : String} {index maxL mc ms : Nat} {y : MethodName} {bytes : ByteArray} {ret : Option FieldType} {hh : List (Nat × Nat × Nat × Nat)} {Ts ws ws' : List Cond} {rm : Room} (n : Nat) (ht : ∀ w ∈ Ts, w.before args s = true) (hT : GoodIn Ts (va_wsS own index y ws)) (hw : ws = Cond.codeWith y bytes maxL ret hh :: ws') (hrc : rm.cells = mc) (hrs : rm.slots = ms)
    (hd : y.cls ≠ "java/lang/invoke/MethodHandle" ∧ y.cls ≠ "java/lang/invoke/VarHandle" ∧ (parseMethodDescriptor y.desc).map (fun d => d.parameters.length) = some n) (hR : rm.frames + 1 ≤ R.frames ∧ 8 + (maxL + 11) + rm.locals ≤ R.locals) :
    vx_CSW R s args own index y bytes maxL ret hh ws rm mc ms n := by
  have ok : ∀ w ∈ va_wsS own index y ws, w.before args s = true := fun w h => ht w (hT w h).1
  have hG : GoodIn Ts ws := fun w h => hT w (by unfold va_wsS; exact List.mem_append_right _ h)
  have hc : Cond.codeWith y bytes maxL ret hh ∈ ws := by rw [hw]; exact List.mem_cons_self
  refine ⟨⟨hrc, hrs, hR.1, hR.2, pay_in ht hG, hc⟩, ht _ (hG _ hc).1, ok _ (by simp [va_wsS]), ⟨hd.1, hd.2.1⟩, fun sig h => ?_, ok _ (by simp [va_wsS]), ok _ (by simp [va_wsS])⟩
  have h2 := hd.2.2
  rw [h] at h2
  exact (Option.some.inj h2).symm
theorem vx_callSW (X : Stand p l e R s m args below meth c T locs cells slots) (hexec : p.tables.exec = Jvm.exec) {own : String} {index : Nat} {y : MethodName} {bytes : ByteArray} {maxL : Nat} {ret : Option FieldType} {hh : List (Nat × Nat × Nat × Nat)}
    (hown : s.vm.findClass own = some m.cls) (hlink : (Cond.methodLink own index y).before args s = true) (hstat : (Cond.static y).before args s = true) (hinit : (Cond.initialized y.cls).before args s = true)
    (hcode : (Cond.codeWith y bytes maxL ret hh).before args s = true) (hy : y.cls ≠ "java/lang/invoke/MethodHandle" ∧ y.cls ≠ "java/lang/invoke/VarHandle")
    {W9 : Nat} {Pre : Pt → Array Value → Prop} {Post : Pt → Array Value → Option Value → Pt → Prop} (hK : Back l R p e below s args y 3 W9 Pre Post)
    {g : JFrame} (hg : g.method = m) (hsize : g.locals.size = c.maxLocals) {argsL rest : List Value} (hlen : ∀ sig, parseMethodDescriptor y.desc = some sig → argsL.length = sig.parameters.length)
    (hstack : g.stack = argsL.reverse ++ rest) (hW : 2 * g.monitorRoom + (rest.map fun v => v.category).sum ≤ W9) (hdg : decode c.code g.pc = .ok (.invokestatic index, 3))
    (hpre : ∀ vm₁, s.WarmedH vm₁ → Pre ⟨T.setVm vm₁, locs, cells, slots⟩ argsL.toArray) :
    ∃ (v : Option Value) (vm₁ : Vm) (B : Pt), s.WarmedH vm₁ ∧ Stand p l e R s m args below meth c B.U B.locs B.cells B.slots ∧ Post ⟨T.setVm vm₁, locs, cells, slots⟩ argsL.toArray v B ∧
      ∀ target, Steps p.tables e below (B.U.setTop { g with pc := g.pc + 3, stack := v.toList ++ rest }) target → Steps p.tables e below (T.setTop g) target := by
  obtain ⟨mk, methM, cM, hnamed, hmethM, -, -, -, -, -, -, hsigM⟩ := Cond.codeWith_spec hcode
  have hstatic : methM.isStatic = true := Cond.static_spec hnamed hmethM hstat
  obtain ⟨kP, hkP, -⟩ := className_of_methodNamed hnamed
  have hinitP : kP.init = .initialized := Cond.initialized_spec (findClass_of_methodNamed hnamed) hkP hinit
  obtain ⟨vm₁, X₁, hstep₁⟩ := X.invokestatic hexec hown hlink hnamed hmethM hstatic hkP hinitP hy (g := g) hg (argsL := argsL) (rest := rest) (hlen _ hsigM) hstack hdg
  obtain ⟨v, B, X', hpost, hsteps⟩ := hK m meth c ⟨T.setVm vm₁, locs, cells, slots⟩ { g with stack := rest } (.invokestatic index) mk argsL.toArray X₁ hg hsize hdg hW (X₁.named hnamed) (hpre vm₁ X₁.warmed)
  exact ⟨v, vm₁, B, X₁.warmed, X', hpost, fun target h => hstep₁ _ fun acts => by rw [doInvoke_state]; exact hsteps.trans h⟩
theorem vx_runSW {y : MethodName} {bytes cc : ByteArray} {maxL nL mc ms n index : Nat} {ret : Option FieldType} {hh : List (Nat × Nat × Nat × Nat)} {ws : List Cond} {rm : Room} {Pc : Array Value → State → Prop} {Qc : Array Value → State → Outcome → State → Prop} {free : Addr → Prop} {Ts : List Cond} {own : String} {As rest : List Value} {g : JFrame}
    (S : CallFix p m c cc nL s args Ts own) (hM : Met l y ws rm Pc Qc mc ms free) (cw : vx_CSW R s args own index y bytes maxL ret hh ws rm mc ms n) (hp : PreS s H Pc As)
    (hg : g.method = m) (hn : As.length = n) (hsize : g.locals.size = nL) (hstack : g.stack = As.reverse ++ rest) (hW : 2 * g.monitorRoom + (rest.map fun v => v.category).sum ≤ 8) (hdg : decode cc g.pc = .ok (.invokestatic index, 3)) (hf : cells + mc ≤ R.cells ∧ slots + ms ≤ R.slots) :
    va_Run p l e R s m args below meth c H locs cells slots mc ms g rest (Qc As.toArray) (free) := by
  obtain ⟨⟨hrc, hrs, hfr, hlo, hws, hcw⟩, hcode, hini, hy, hlen, hl, hstt⟩ := cw
  have hK : Back l R p e below s args y 3 8 (PreOf R mc ms Pc) (PostOf Qc mc ms free) := va_backW (hh := hh) (bytes := bytes) (maxL := maxL) (ret := ret) hM hp.1 hrc hrs hfr hlo hws hcw (fun a' U hW => word_at hW (Or.inl (by first | rfl | simp [Cond.onTables, Cond.keeps, Cond.steady])) hini)
  obtain ⟨hx, hb, hml, ho, -⟩ := S
  intro T hT X
  obtain ⟨v, vm₁, ⟨U', l2, c2, s2⟩, hW₁, X', ⟨g', mk, t, L, e1, e2, hq, h1, hL, h2, h3⟩, st⟩ := vx_callSW X hx (hh := hh) (bytes := bytes) (maxL := maxL) (ret := ret) ho hl hstt hini hcode hy hK hg (hsize.trans hml.symm) (argsL := As) (rest := rest) (fun sig h => hn.trans (hlen sig h)) hstack hW (by rw [hb]; exact hdg)
    (fun vm₁ hW₁ => ⟨hf.1, hf.2, hp.2 (T.setVm vm₁) hT hW₁⟩)
  dsimp only [Pt.U, Pt.locs, Pt.cells, Pt.slots] at X' e1 e2 h1 h2 h3 st
  subst h1; subst h2; subst h3
  exact ⟨v, (T.setVm vm₁).calling g' mk As.toArray, t, U', L, hT, X', hL, e1, e2, hq, st⟩
/-- not caught here, past rows that name other classes: it goes on to the caller -/
theorem vx_outP {p : Program} {l : Launch} {e : Env} {R : Room} {s : State} {m : MethodId} {args : Array Value} {below : List Frame} {meth : Method} {c : Code} {H : Heap} {locs : List Loc} {cells slots : Nat} {free : Addr → Prop} {ls : Array Slot} {rest : List Value} {Qc : Array Value → State → Outcome → State → Prop} {XC : String → State → State → Prop}
    {pc : Nat} {own E : String} {ce : Cell} {q : Addr} {mc ms : Nat} (hown : s.vm.findClass own = some m.cls) (hlocks : meth.locks = false)
    (hpass : ∀ z ∈ c.exceptionTable.toList, covers z pc = false ∨ (z.catchType ≠ 0 ∧ ∃ nm : String, (Cond.classLink own z.catchType nm).before args s = true ∧ va_Nc E nm s)) (hcell : H[q]? = some ce) (hv : ce.vm = .none) (hcl : s.vm.findClass E = some ce.cls)
    (hx : ∀ t : State, t.heap = H → s.vm.Alike t.vm → XC E s t) (hf : ∀ z ∈ locs, free z.base) (hc : cells ≤ mc) (hs : slots ≤ ms) :
    vx_W p l e R s m args below meth c H locs cells slots (vx_MQ below Qc XC args s mc ms free) (F0 m pc ls rest) q := by
  intro T hT X
  have hpl : e.platform.magicAccessors = ({} : Platform).magicAccessors := by rw [X.admits.platform]
  obtain ⟨vm', hW', X', st⟩ := X.outThrough hlocks q (g := F0 m pc ls rest) rfl rfl rfl (cell := ce) (by rw [hT]; exact hcell) (by rw [hv]; rfl)
    (by obtain ⟨k9, h9, -⟩ := Vm.findClass_spec hcl; exact ⟨k9, h9⟩) (fun z hz => by
      rcases hpass z hz with h | ⟨hz0, nm, hl1, hn1⟩
      · exact Or.inl h
      · obtain ⟨c6, hc6, hcl6⟩ := Cond.classLink_spec hown hl1 e.platform hpl
        obtain ⟨a8, b8, h1, h2, h3⟩ := hn1
        cases Option.some.inj (h1.symm.trans hcl)
        cases Option.some.inj (h2.symm.trans hc6)
        exact Or.inr ⟨hz0, _, hcl6, h3⟩)
  obtain ⟨g₀, hfr⟩ := X'.frames_eq
  have hcell9 : ((T.setVm vm').setFrames (.throwing q :: below)).heap[q]? = some ce := by
    show T.heap[q]? = some ce
    rw [hT]; exact hcell
  have hend : Ended ((T.setVm vm').setFrames (.throwing q :: below)) below (.threw q) := State.frames_setFrames _ (State.cur_lt_of_frames hfr)
  refine ⟨(T.setVm vm').setFrames (.throwing q :: below), ?_, .threw q, X'.here.running, hend, Or.inr ⟨q, rfl, E, ce, locs, hx _ hT (X'.ends _).1.alike, hcell9, hv, hcl, (X'.ends _).1, (X'.ends _).2.mono hc hs, hf⟩⟩
  rw [X.pushThrowing_eq]
  exact st
/-- a thing of a world lies in the heap -/
theorem vx_lt {D : va_G} {cl : List vw_C} {ws : va_W} {H1 : Heap} (h : va_P D cl ws H1) {k : Nat} {q : Nat × va_E} (hk : ws[k]? = some q) : q.1 < H1.size := (h k q hk).lt
end VXS
/-! ===== END ===== -/
/-! ===== BEGIN methods with a table of their own: called by a name, returning or throwing ===== -/
section VXH
/-! vx_backW, vx_callVX, vx_callSX, vx_callVW, vx_runVW, vx_runVX, vx_runSX, vx_ofWH follow the same proofs as their sisters above (Free/Laws.lean, Shelf42/LK1.lean); vx_outP calls Shelf42/NT130.lean (outThrough). -/
section
variable {l : Launch} {R : Room} {p : Program} {e : Env} {below : List Frame} {s : State} {sargs : Array Value} {y : MethodName} {len W9 : Nat}
theorem vx_backW {ws : List Cond} {rm : Room} {Pc : Array Value → State → Prop} {Qc : Array Value → State → Outcome → State → Prop} {XC : String → State → State → Prop} {mc ms : Nat} {free : Addr → Prop} {bytes : ByteArray} {maxL : Nat} {ret : Option FieldType} {hh : List (Nat × Nat × Nat × Nat)}
    (hM : vx_Met l y ws rm Pc Qc XC mc ms free) (hblind : FrameBlind Pc) (hrc : rm.cells = mc) (hrs : rm.slots = ms)
    (hframes : rm.frames + 1 ≤ R.frames) (hlocals : W9 + (maxL + 11) + rm.locals ≤ R.locals)
    (hws : ∀ w ∈ ws, ∀ a' U, s.WarmedH U.vm → w.before a' U = true) (hcode : Cond.codeWith y bytes maxL ret hh ∈ ws) (hinit : ∀ a' U, s.WarmedH U.vm → (Cond.initialized y.cls).before a' U = true) :
    vx_Back l R p e below s sargs y len W9 (PreOf R mc ms Pc) (PostOf Qc mc ms free) (vx_Post XC mc ms free) := by
  intro m meth c A g ig mk a X hg hsize hdg hW hn hp
  have h1 : (headSpec ws rm).pre.before a A.U = true := atoms_intro fun w hw => hws w hw _ _ X.warmed
  have h2 : (Cond.codeWith y bytes maxL ret hh).before a A.U = true := hws _ hcode _ _ X.warmed
  have h3 : (Cond.initialized y.cls).before a A.U = true := hinit _ _ X.warmed
  have h4 : A.cells + (headSpec ws rm).room.cells ≤ R.cells := by rw [show (headSpec ws rm).room.cells = mc from hrc]; exact hp.1
  have h5 : A.slots + (headSpec ws rm).room.slots ≤ R.slots := by rw [show (headSpec ws rm).room.slots = ms from hrs]; exact hp.2.1
  have hPc : Pc a (A.U.calling g mk a) := hblind _ _ _ _ hp.2.2
  obtain ⟨U, Ls, c0, s0⟩ := A
  dsimp only [Pt.U, Pt.locs, Pt.cells, Pt.slots] at h1 h2 h3 h4 h5 X hn hPc ⊢
  obtain ⟨m9, methY, cY, hn9, hmY, hcY, -, hlY, -⟩ := Cond.codeWith_spec h2
  cases Option.some.inj (hn9.symm.trans hn)
  obtain ⟨kY, hkY, -⟩ := className_of_methodNamed hn
  have hinitY : kY.init = .initialized := Cond.initialized_spec (findClass_of_methodNamed hn) hkY h3
  have h : At U g.method c below := by rw [hg]; exact X.here
  have hlocals9 : W9 + (maxL + 11) + (headSpec ws rm).room.locals ≤ R.locals := hlocals
  have happ : (headSpec ws rm).appliesLoose y e.platform (U.calling g mk a) = true :=
    Spec.appliesLoose_calling (g := g) h hdg hn hkY hinitY
      (X.room_calling (g := g) (R' := (headSpec ws rm).room) hsize hmY hcY hframes (by rw [hlY]; omega) h4 h5) h1
  obtain ⟨mid, hmid⟩ := h.above
  have hfr : (U.setTop g).frames = (.java g :: mid) ++ below := by rw [State.frames_setTop' g h.top, hmid]; rfl
  obtain ⟨o, s₂, hsteps, -, hend, hq⟩ := Steps.callFree hM p X.admits X.cas X.clock (acts := []) hfr happ hPc trivial
  have hq' : vx_Q Qc XC mc ms free a (U.calling g mk a) o s₂ := hq
  rw [State.frames_setTop' g h.top] at hend
  obtain ⟨g₀, hg0⟩ := Option.isSome_iff_exists.mp h.top
  obtain ⟨r, hr⟩ := State.topJava?_eq_some.mp hg0
  have hr' : (({ U with heap := s₂.heap, slotsUsed := s₂.slotsUsed } : State).setVm s₂.vm).frames = .java g₀ :: r := hr
  rcases hq' with ⟨hqc, L, hfe, hL⟩ | ⟨q, rfl, E, ce, L, hx, hce, hcv, hcl, hW₂, hsm, hL⟩
  · obtain ⟨⟨v, rfl⟩, hW₂, e2, q2, q3, q4, q5, q6⟩ := id hfe
    have e3 : s₂ = ({ (U.calling g mk a).setFrames s₂.frames with heap := s₂.heap, slotsUsed := s₂.slotsUsed } : State).setVm s₂.vm := by
      have : s₂ = ({ s₂ with vm := (U.calling g mk a).vm } : State).setVm s₂.vm := rfl
      rw [e2] at this
      exact this
    obtain ⟨c₂, i₂, len₂, hc₂, hd₂, hf₂⟩ := hend
    have hW' : U.WarmedH s₂.vm := hW₂
    have hcc : c₂ = c := by
      have h1 : s₂.code? g.method = U.code? g.method := by
        rw [State.code?_eq, State.code?_eq, hW'.alike.method?]
      exact Option.some.inj (hc₂.symm.trans (h1.trans h.code))
    subst hcc
    have hlen : len₂ = len := by rw [hdg] at hd₂; cases hd₂; rfl
    subst hlen
    have hs₂ : s₂ = (({ U with heap := s₂.heap, slotsUsed := s₂.slotsUsed } : State).setVm s₂.vm).setTop { g with pc := g.pc + len₂, stack := v.toList ++ g.stack } := by
      refine e3.trans ?_
      rw [hf₂, State.calling_eq h.top, State.setFrames_setFrames, State.setTop_of_frames _ hr', hr]
      rfl
    have hsame : U.sameButNew ({ U with heap := s₂.heap, slotsUsed := s₂.slotsUsed } : State) L mc ms := by
      refine ⟨?_, q2, q3, q4, q5, q6⟩
      obtain ⟨t, ht, -⟩ := State.frames_cons hr
      show ({ U with heap := s₂.heap, slotsUsed := s₂.slotsUsed } : State) = { U.setFrames U.frames with heap := s₂.heap, slotsUsed := s₂.slotsUsed }
      rw [State.setFrames_self ht]
    subst hg
    refine Or.inl ⟨v, ⟨(({ U with heap := s₂.heap, slotsUsed := s₂.slotsUsed } : State).setVm s₂.vm), Ls ++ L, c0 + mc, s0 + ms⟩,
      ⟨X.admits, X.cas, X.clock, X.frames, X.room, X.hears, X.method, X.code, (X.here.setHeapUsed s₂.heap s₂.slotsUsed).setVm hW'.alike, X.tail, State.WarmedH.trans X.warmed hW', X.limits, X.bytes, X.same.trans (hsame.setVm s.vm)⟩,
      ⟨g, mk, s₂, L, rfl, rfl, hqc, rfl, hL, rfl, rfl⟩, ?_⟩
    show Steps p.tables e below _ ((({ U with heap := s₂.heap, slotsUsed := s₂.slotsUsed } : State).setVm s₂.vm).setTop { g with pc := g.pc + len₂, stack := v.toList ++ g.stack })
    rw [← hs₂]
    exact hsteps
  · obtain ⟨e2, q2, q3, q4, q5, q6⟩ := id hsm
    have e3 : s₂ = ({ (U.calling g mk a).setFrames s₂.frames with heap := s₂.heap, slotsUsed := s₂.slotsUsed } : State).setVm s₂.vm := by
      have : s₂ = ({ s₂ with vm := (U.calling g mk a).vm } : State).setVm s₂.vm := rfl
      rw [e2] at this
      exact this
    have hf₂ : s₂.frames = .throwing q :: .java g :: U.frames.tail := hend
    have hW' : U.WarmedH s₂.vm := hW₂
    have hs₂ : s₂ = ((({ U with heap := s₂.heap, slotsUsed := s₂.slotsUsed } : State).setVm s₂.vm).setTop g).pushFrame (.throwing q) := by
      refine e3.trans ?_
      rw [hf₂, State.calling_eq h.top, State.setFrames_setFrames, State.pushFrame, State.frames_setTop _ hr', State.setTop_of_frames _ hr', State.setFrames_setFrames, hr]
      rfl
    have hsame : U.sameButNew ({ U with heap := s₂.heap, slotsUsed := s₂.slotsUsed } : State) L mc ms := by
      refine ⟨?_, q2, q3, q4, q5, q6⟩
      obtain ⟨t, ht, -⟩ := State.frames_cons hr
      show ({ U with heap := s₂.heap, slotsUsed := s₂.slotsUsed } : State) = { U.setFrames U.frames with heap := s₂.heap, slotsUsed := s₂.slotsUsed }
      rw [State.setFrames_self ht]
    subst hg
    refine Or.inr ⟨q, ⟨(({ U with heap := s₂.heap, slotsUsed := s₂.slotsUsed } : State).setVm s₂.vm), Ls ++ L, c0 + mc, s0 + ms⟩,
      ⟨X.admits, X.cas, X.clock, X.frames, X.room, X.hears, X.method, X.code, (X.here.setHeapUsed s₂.heap s₂.slotsUsed).setVm hW'.alike, X.tail, State.WarmedH.trans X.warmed hW', X.limits, X.bytes, X.same.trans (hsame.setVm s.vm)⟩,
      ⟨g, mk, s₂, L, E, ce, rfl, rfl, hx, hce, hcv, hcl, rfl, hL, rfl, rfl⟩, ?_⟩
    show Steps p.tables e below _ (((({ U with heap := s₂.heap, slotsUsed := s₂.slotsUsed } : State).setVm s₂.vm).setTop g).pushFrame (.throwing q))
    rw [← hs₂]
    exact hsteps
end
variable {p : Program} {l : Launch} {e : Env} {R : Room} {s : State} {m : MethodId} {args : Array Value} {below : List Frame} {meth : Method} {c : Code} {T : State} {H : Heap} {locs : List Loc} {cells slots : Nat}
theorem vx_callVX (X : Stand p l e R s m args below meth c T locs cells slots) (hexec : p.tables.exec = Jvm.exec) {own C : String} {index : Nat} {y : MethodName} {bytes : ByteArray} {maxL : Nat} {ret : Option FieldType} {hh : List (Nat × Nat × Nat × Nat)}
    (hown : s.vm.findClass own = some m.cls) (hlink : (Cond.methodLink own index y).before args s = true) (hinst : (Cond.instanceMethod y).before args s = true) (hsel : (Cond.selects C y y).before args s = true)
    (hcode : (Cond.codeWith y bytes maxL ret hh).before args s = true) (hy : y.cls ≠ "java/lang/invoke/MethodHandle" ∧ y.cls ≠ "java/lang/invoke/VarHandle")
    {W9 : Nat} {Pre : Pt → Array Value → Prop} {Post : Pt → Array Value → Option Value → Pt → Prop} {PostX : Pt → Array Value → Addr → Pt → Prop} (hK : vx_Back l R p e below s args y 3 W9 Pre Post PostX)
    {b : Addr} {cellB : Cell} (hcell : T.heap[b]? = some cellB) (hobj : cellB.vm.isStatics = false) (hcls : s.vm.findClass C = some cellB.cls)
    {g : JFrame} (hg : g.method = m) (hsize : g.locals.size = c.maxLocals) {argsL rest : List Value} (hlen : ∀ sig, parseMethodDescriptor y.desc = some sig → argsL.length = sig.parameters.length)
    (hstack : g.stack = argsL.reverse ++ .ref b :: rest) (hW : 2 * g.monitorRoom + (rest.map fun v => v.category).sum ≤ W9) (hdg : decode c.code g.pc = .ok (.invokevirtual index, 3))
    (hpre : ∀ vm₁, s.WarmedH vm₁ → Pre ⟨T.setVm vm₁, locs, cells, slots⟩ (Value.ref b :: argsL).toArray) :
    (∃ (v : Option Value) (vm₁ : Vm) (B : Pt), s.WarmedH vm₁ ∧ Stand p l e R s m args below meth c B.U B.locs B.cells B.slots ∧ Post ⟨T.setVm vm₁, locs, cells, slots⟩ (Value.ref b :: argsL).toArray v B ∧
      ∀ target, Steps p.tables e below (B.U.setTop { g with pc := g.pc + 3, stack := v.toList ++ rest }) target → Steps p.tables e below (T.setTop g) target) ∨
    (∃ (q : Addr) (vm₁ : Vm) (B : Pt), s.WarmedH vm₁ ∧ Stand p l e R s m args below meth c B.U B.locs B.cells B.slots ∧ PostX ⟨T.setVm vm₁, locs, cells, slots⟩ (Value.ref b :: argsL).toArray q B ∧
      Steps p.tables e below (T.setTop g) ((B.U.setTop { g with stack := rest }).pushFrame (.throwing q))) := by
  obtain ⟨mk, methM, hnamed, hmethM, hstM, habM⟩ := Cond.instanceMethod_spec hinst
  obtain ⟨m8, methM', cM, hn8, hmethM', -, -, -, -, -, -, hsigM⟩ := Cond.codeWith_spec hcode
  cases Option.some.inj (hn8.symm.trans hnamed)
  cases hmethM.symm.trans hmethM'
  obtain ⟨c2, r2, m2, q1, q2, q3, q4, kP, hkP, hkPi⟩ := Cond.selects_spec hsel
  cases hcls.symm.trans q1
  cases (State.methodFound?_of_named hnamed hy).symm.trans q2
  cases hnamed.symm.trans q3
  have hselP : selectMethod e.platform s.vm cellB.cls mk = .method mk := by rw [Launch.admits_selectMethod X.admits]; exact q4
  obtain ⟨vm₁, X₁, hstep₁⟩ := X.invokevirtual hexec hown hlink hnamed hmethM hstM hkP hkPi hy (a := b) (cell := cellB) hcell
    (fun z h => by rw [h] at hobj; cases hobj) hselP hmethM habM hkP hkPi (g := g) hg (argsL := argsL) (rest := rest) (hlen _ hsigM) hstack hdg
  rcases hK m meth c ⟨T.setVm vm₁, locs, cells, slots⟩ { g with stack := rest } (.invokevirtual index) mk (Value.ref b :: argsL).toArray X₁ hg hsize hdg hW (X₁.named hnamed) (hpre vm₁ X₁.warmed) with ⟨v, B, X', hpost, hsteps⟩ | ⟨q, B, X', hpost, hsteps⟩
  · exact Or.inl ⟨v, vm₁, B, X₁.warmed, X', hpost, fun target h => hstep₁ _ fun acts => by rw [doInvoke_state]; exact hsteps.trans h⟩
  · exact Or.inr ⟨q, vm₁, B, X₁.warmed, X', hpost, hstep₁ _ fun acts => by rw [doInvoke_state]; exact hsteps⟩
theorem vx_callSX (X : Stand p l e R s m args below meth c T locs cells slots) (hexec : p.tables.exec = Jvm.exec) {own : String} {index : Nat} {y : MethodName} {bytes : ByteArray} {maxL : Nat} {ret : Option FieldType} {hh : List (Nat × Nat × Nat × Nat)}
    (hown : s.vm.findClass own = some m.cls) (hlink : (Cond.methodLink own index y).before args s = true) (hstat : (Cond.static y).before args s = true) (hinit : (Cond.initialized y.cls).before args s = true)
    (hcode : (Cond.codeWith y bytes maxL ret hh).before args s = true) (hy : y.cls ≠ "java/lang/invoke/MethodHandle" ∧ y.cls ≠ "java/lang/invoke/VarHandle")
    {W9 : Nat} {Pre : Pt → Array Value → Prop} {Post : Pt → Array Value → Option Value → Pt → Prop} {PostX : Pt → Array Value → Addr → Pt → Prop} (hK : vx_Back l R p e below s args y 3 W9 Pre Post PostX)
    {g : JFrame} (hg : g.method = m) (hsize : g.locals.size = c.maxLocals) {argsL rest : List Value} (hlen : ∀ sig, parseMethodDescriptor y.desc = some sig → argsL.length = sig.parameters.length)
    (hstack : g.stack = argsL.reverse ++ rest) (hW : 2 * g.monitorRoom + (rest.map fun v => v.category).sum ≤ W9) (hdg : decode c.code g.pc = .ok (.invokestatic index, 3))
    (hpre : ∀ vm₁, s.WarmedH vm₁ → Pre ⟨T.setVm vm₁, locs, cells, slots⟩ argsL.toArray) :
    (∃ (v : Option Value) (vm₁ : Vm) (B : Pt), s.WarmedH vm₁ ∧ Stand p l e R s m args below meth c B.U B.locs B.cells B.slots ∧ Post ⟨T.setVm vm₁, locs, cells, slots⟩ argsL.toArray v B ∧
      ∀ target, Steps p.tables e below (B.U.setTop { g with pc := g.pc + 3, stack := v.toList ++ rest }) target → Steps p.tables e below (T.setTop g) target) ∨
    (∃ (q : Addr) (vm₁ : Vm) (B : Pt), s.WarmedH vm₁ ∧ Stand p l e R s m args below meth c B.U B.locs B.cells B.slots ∧ PostX ⟨T.setVm vm₁, locs, cells, slots⟩ argsL.toArray q B ∧
      Steps p.tables e below (T.setTop g) ((B.U.setTop { g with stack := rest }).pushFrame (.throwing q))) := by
  obtain ⟨mk, methM, cM, hnamed, hmethM, -, -, -, -, -, -, hsigM⟩ := Cond.codeWith_spec hcode
  have hstatic : methM.isStatic = true := Cond.static_spec hnamed hmethM hstat
  obtain ⟨kP, hkP, -⟩ := className_of_methodNamed hnamed
  have hinitP : kP.init = .initialized := Cond.initialized_spec (findClass_of_methodNamed hnamed) hkP hinit
  obtain ⟨vm₁, X₁, hstep₁⟩ := X.invokestatic hexec hown hlink hnamed hmethM hstatic hkP hinitP hy (g := g) hg (argsL := argsL) (rest := rest) (hlen _ hsigM) hstack hdg
  rcases hK m meth c ⟨T.setVm vm₁, locs, cells, slots⟩ { g with stack := rest } (.invokestatic index) mk argsL.toArray X₁ hg hsize hdg hW (X₁.named hnamed) (hpre vm₁ X₁.warmed) with ⟨v, B, X', hpost, hsteps⟩ | ⟨q, B, X', hpost, hsteps⟩
  · exact Or.inl ⟨v, vm₁, B, X₁.warmed, X', hpost, fun target h => hstep₁ _ fun acts => by rw [doInvoke_state]; exact hsteps.trans h⟩
  · exact Or.inr ⟨q, vm₁, B, X₁.warmed, X', hpost, hstep₁ _ fun acts => by rw [doInvoke_state]; exact hsteps⟩
theorem vx_callVW (X : Stand p l e R s m args below meth c T locs cells slots) (hexec : p.tables.exec = Jvm.exec) {own C : String} {index : Nat} {y : MethodName} {bytes : ByteArray} {maxL : Nat} {ret : Option FieldType} {hh : List (Nat × Nat × Nat × Nat)}
    (hown : s.vm.findClass own = some m.cls) (hlink : (Cond.methodLink own index y).before args s = true) (hinst : (Cond.instanceMethod y).before args s = true) (hsel : (Cond.selects C y y).before args s = true)
    (hcode : (Cond.codeWith y bytes maxL ret hh).before args s = true) (hy : y.cls ≠ "java/lang/invoke/MethodHandle" ∧ y.cls ≠ "java/lang/invoke/VarHandle")
    {W9 : Nat} {Pre : Pt → Array Value → Prop} {Post : Pt → Array Value → Option Value → Pt → Prop} (hK : Back l R p e below s args y 3 W9 Pre Post)
    {b : Addr} {cellB : Cell} (hcell : T.heap[b]? = some cellB) (hobj : cellB.vm.isStatics = false) (hcls : s.vm.findClass C = some cellB.cls)
    {g : JFrame} (hg : g.method = m) (hsize : g.locals.size = c.maxLocals) {argsL rest : List Value} (hlen : ∀ sig, parseMethodDescriptor y.desc = some sig → argsL.length = sig.parameters.length)
    (hstack : g.stack = argsL.reverse ++ .ref b :: rest) (hW : 2 * g.monitorRoom + (rest.map fun v => v.category).sum ≤ W9) (hdg : decode c.code g.pc = .ok (.invokevirtual index, 3))
    (hpre : ∀ vm₁, s.WarmedH vm₁ → Pre ⟨T.setVm vm₁, locs, cells, slots⟩ (Value.ref b :: argsL).toArray) :
    ∃ (v : Option Value) (vm₁ : Vm) (B : Pt), s.WarmedH vm₁ ∧ Stand p l e R s m args below meth c B.U B.locs B.cells B.slots ∧ Post ⟨T.setVm vm₁, locs, cells, slots⟩ (Value.ref b :: argsL).toArray v B ∧
      ∀ target, Steps p.tables e below (B.U.setTop { g with pc := g.pc + 3, stack := v.toList ++ rest }) target → Steps p.tables e below (T.setTop g) target := by
  obtain ⟨mk, methM, hnamed, hmethM, hstM, habM⟩ := Cond.instanceMethod_spec hinst
  obtain ⟨m8, methM', cM, hn8, hmethM', -, -, -, -, -, -, hsigM⟩ := Cond.codeWith_spec hcode
  cases Option.some.inj (hn8.symm.trans hnamed)
  cases hmethM.symm.trans hmethM'
  obtain ⟨c2, r2, m2, q1, q2, q3, q4, kP, hkP, hkPi⟩ := Cond.selects_spec hsel
  cases hcls.symm.trans q1
  cases (State.methodFound?_of_named hnamed hy).symm.trans q2
  cases hnamed.symm.trans q3
  have hselP : selectMethod e.platform s.vm cellB.cls mk = .method mk := by rw [Launch.admits_selectMethod X.admits]; exact q4
  obtain ⟨vm₁, X₁, hstep₁⟩ := X.invokevirtual hexec hown hlink hnamed hmethM hstM hkP hkPi hy (a := b) (cell := cellB) hcell
    (fun z h => by rw [h] at hobj; cases hobj) hselP hmethM habM hkP hkPi (g := g) hg (argsL := argsL) (rest := rest) (hlen _ hsigM) hstack hdg
  obtain ⟨v, B, X', hpost, hsteps⟩ := hK m meth c ⟨T.setVm vm₁, locs, cells, slots⟩ { g with stack := rest } (.invokevirtual index) mk (Value.ref b :: argsL).toArray X₁ hg hsize hdg hW (X₁.named hnamed) (hpre vm₁ X₁.warmed)
  exact ⟨v, vm₁, B, X₁.warmed, X', hpost, fun target h => hstep₁ _ fun acts => by rw [doInvoke_state]; exact hsteps.trans h⟩
abbrev vx_CVW (R : Room) (s : State) (args : Array Value) (own C : String) (index : Nat) (y : MethodName) (bytes : ByteArray) (maxL : Nat) (ret : Option FieldType) (hh : List (Nat × Nat × Nat × Nat)) (ws : List Cond) (rm : Room) (mc ms n : Nat) : Prop :=
  (rm.cells = mc ∧ rm.slots = ms ∧ rm.frames + 1 ≤ R.frames ∧ 8 + (maxL + 11) + rm.locals ≤ R.locals ∧ (∀ w ∈ ws, ∀ (a' : Array Value) (U : State), s.WarmedH U.vm → w.before a' U = true) ∧ Cond.codeWith y bytes maxL ret hh ∈ ws) ∧
  (Cond.codeWith y bytes maxL ret hh).before args s = true ∧ (Cond.initialized y.cls).before args s = true ∧ (y.cls ≠ "java/lang/invoke/MethodHandle" ∧ y.cls ≠ "java/lang/invoke/VarHandle") ∧
  (∀ sig, parseMethodDescriptor y.desc = some sig → n = sig.parameters.length) ∧ (Cond.methodLink own index y).before args s = true ∧ (Cond.instanceMethod y).before args s = true ∧ (Cond.selects C y y).before args s = true
theorem vx_cwVW {own C : String} {index maxL mc ms : Nat} {y : MethodName} {bytes : ByteArray} {ret : Option FieldType} {hh : List (Nat × Nat × Nat × Nat)} {Ts ws ws' : List Cond} {rm : Room} (n : Nat) (ht : ∀ w ∈ Ts, w.before args s = true) (hT : GoodIn Ts (wsV own index C y ws)) (hw : ws = Cond.codeWith y bytes maxL ret hh :: ws') (hrc : rm.cells = mc) (hrs : rm.slots = ms)
    (hd : y.cls = C ∧ y.cls ≠ "java/lang/invoke/MethodHandle" ∧ y.cls ≠ "java/lang/invoke/VarHandle" ∧ (parseMethodDescriptor y.desc).map (fun d => d.parameters.length) = some n) (hR : rm.frames + 1 ≤ R.frames ∧ 8 + (maxL + 11) + rm.locals ≤ R.locals) :
    vx_CVW R s args own C index y bytes maxL ret hh ws rm mc ms n := by
  obtain ⟨hC, hd⟩ := hd
  subst hC
  have ok : ∀ w ∈ wsV own index y.cls y ws, w.before args s = true := fun w h => ht w (hT w h).1
  have hG : GoodIn Ts ws := fun w h => hT w (by unfold wsV; exact List.mem_append_right _ h)
  have hc : Cond.codeWith y bytes maxL ret hh ∈ ws := by rw [hw]; exact List.mem_cons_self
  refine ⟨⟨hrc, hrs, hR.1, hR.2, pay_in ht hG, hc⟩, ht _ (hG _ hc).1, ok _ (by simp [wsV]), ⟨hd.1, hd.2.1⟩, fun sig h => ?_, ok _ (by simp [wsV]), ok _ (by simp [wsV]), ok _ (by simp [wsV])⟩
  have h2 := hd.2.2
  rw [h] at h2
  exact (Option.some.inj h2).symm
theorem vx_runVW {y : MethodName} {bytes cc : ByteArray} {maxL nL mc ms n index : Nat} {ret : Option FieldType} {hh : List (Nat × Nat × Nat × Nat)} {ws : List Cond} {rm : Room} {Pc : Array Value → State → Prop} {Qc : Array Value → State → Outcome → State → Prop} {free : Addr → Prop} {Ts : List Cond} {own C : String} {b : Addr} {As rest : List Value} {g : JFrame}
    (S : CallFix p m c cc nL s args Ts own) (hM : Met l y ws rm Pc Qc mc ms free) (cw : vx_CVW R s args own C index y bytes maxL ret hh ws rm mc ms n) (hp : PreV s H C b Pc As)
    (hg : g.method = m) (hn : As.length = n) (hsize : g.locals.size = nL) (hstack : g.stack = As.reverse ++ .ref b :: rest) (hW : 2 * g.monitorRoom + (rest.map fun v => v.category).sum ≤ 8) (hdg : decode cc g.pc = .ok (.invokevirtual index, 3)) (hf : cells + mc ≤ R.cells ∧ slots + ms ≤ R.slots) :
    va_Run p l e R s m args below meth c H locs cells slots mc ms g rest (Qc (Value.ref b :: As).toArray) free := by
  obtain ⟨⟨hrc, hrs, hfr, hlo, hws, hcw⟩, hcode, hini, hy, hlen, hl, hin, hse⟩ := cw
  have hK : Back l R p e below s args y 3 8 (PreOf R mc ms Pc) (PostOf Qc mc ms free) := va_backW (hh := hh) (bytes := bytes) (maxL := maxL) (ret := ret) hM hp.1 hrc hrs hfr hlo hws hcw (fun a' U hW => word_at hW (Or.inl (by first | rfl | simp [Cond.onTables, Cond.keeps, Cond.steady])) hini)
  obtain ⟨hx, hb, hml, ho, -⟩ := S
  obtain ⟨-, ⟨cellB, hcB, hoB, hclB⟩, hPc⟩ := hp
  intro T hT X
  obtain ⟨v, vm₁, ⟨U', l2, c2, s2⟩, hW₁, X', ⟨g', mk, t, L, e1, e2, hq, h1, hL, h2, h3⟩, st⟩ := vx_callVW X hx (C := C) (hh := hh) (bytes := bytes) (maxL := maxL) (ret := ret) ho hl hin hse hcode hy hK (by rw [hT]; exact hcB) hoB hclB hg (hsize.trans hml.symm) (argsL := As) (rest := rest) (fun sig h => hn.trans (hlen sig h)) hstack hW (by rw [hb]; exact hdg)
    (fun vm₁ hW₁ => ⟨hf.1, hf.2, hPc (T.setVm vm₁) hT hW₁⟩)
  dsimp only [Pt.U, Pt.locs, Pt.cells, Pt.slots] at X' e1 e2 h1 h2 h3 st
  subst h1; subst h2; subst h3
  exact ⟨v, (T.setVm vm₁).calling g' mk (Value.ref b :: As).toArray, t, U', L, hT, X', hL, e1, e2, hq, st⟩
section
variable {y : MethodName} {bytes cc : ByteArray} {maxL nL mc ms n index : Nat} {ret : Option FieldType} {ws : List Cond} {rm : Room} {Pc : Array Value → State → Prop} {Qc : Array Value → State → Outcome → State → Prop} {XC : String → State → State → Prop} {free : Addr → Prop} {Ts : List Cond} {own C : String} {b : Addr} {As rest : List Value} {g : JFrame}
theorem vx_runVX {hh : List (Nat × Nat × Nat × Nat)} (S : CallFix p m c cc nL s args Ts own) (hM : vx_Met l y ws rm Pc Qc XC mc ms free) (cw : vx_CVW R s args own C index y bytes maxL ret hh ws rm mc ms n) (hp : PreV s H C b Pc As)
    (hg : g.method = m) (hn : As.length = n) (hsize : g.locals.size = nL) (hstack : g.stack = As.reverse ++ .ref b :: rest) (hW : 2 * g.monitorRoom + (rest.map fun v => v.category).sum ≤ 8) (hdg : decode cc g.pc = .ok (.invokevirtual index, 3)) (hf : cells + mc ≤ R.cells ∧ slots + ms ≤ R.slots) :
    vx_Run p l e R s m args below meth c H locs cells slots mc ms g rest (Qc (Value.ref b :: As).toArray) XC free := by
  obtain ⟨⟨hrc, hrs, hfr, hlo, hws, hcw⟩, hcode, hini, hy, hlen, hl, hin, hse⟩ := cw
  have hK : vx_Back l R p e below s args y 3 8 (PreOf R mc ms Pc) (PostOf Qc mc ms free) (vx_Post XC mc ms free) := vx_backW (hh := hh) (bytes := bytes) (maxL := maxL) (ret := ret) hM hp.1 hrc hrs hfr hlo hws hcw (fun a' U hW => word_at hW (Or.inl (by first | rfl | simp [Cond.onTables, Cond.keeps, Cond.steady])) hini)
  obtain ⟨hx, hb, hml, ho, -⟩ := S
  obtain ⟨-, ⟨cellB, hcB, hoB, hclB⟩, hPc⟩ := hp
  intro T hT X
  rcases vx_callVX X hx (C := C) (hh := hh) (bytes := bytes) (maxL := maxL) (ret := ret) ho hl hin hse hcode hy hK (by rw [hT]; exact hcB) hoB hclB hg (hsize.trans hml.symm) (argsL := As) (rest := rest) (fun sig h => hn.trans (hlen sig h)) hstack hW (by rw [hb]; exact hdg)
    (fun vm₁ hW₁ => ⟨hf.1, hf.2, hPc (T.setVm vm₁) hT hW₁⟩) with ⟨v, vm₁, ⟨U', l2, c2, s2⟩, hW₁, X', ⟨g', mk, t, L, e1, e2, hq, h1, hL, h2, h3⟩, st⟩ | ⟨q, vm₁, ⟨U', l2, c2, s2⟩, hW₁, X', ⟨g', mk, t, L, E, ce, e1, e2, hq, hce, hcv, hcl, h1, hL, h2, h3⟩, st⟩
  · dsimp only [Pt.U, Pt.locs, Pt.cells, Pt.slots] at X' e1 e2 h1 h2 h3 st
    subst h1; subst h2; subst h3
    exact Or.inl ⟨v, (T.setVm vm₁).calling g' mk (Value.ref b :: As).toArray, t, U', L, hT, X', hL, e1, e2, hq, st⟩
  · dsimp only [Pt.U, Pt.locs, Pt.cells, Pt.slots] at X' e1 e2 h1 h2 h3 st hcl
    subst h1; subst h2; subst h3
    exact Or.inr ⟨q, (T.setVm vm₁).calling g' mk (Value.ref b :: As).toArray, t, U', L, E, ce, hT, X', hL, e1, e2, hq, hce, hcv, vx_cls hW₁ hcl, st⟩
theorem vx_runSX {hh : List (Nat × Nat × Nat × Nat)} (S : CallFix p m c cc nL s args Ts own) (hM : vx_Met l y ws rm Pc Qc XC mc ms free) (cw : vx_CSW R s args own index y bytes maxL ret hh ws rm mc ms n) (hp : PreS s H Pc As)
    (hg : g.method = m) (hn : As.length = n) (hsize : g.locals.size = nL) (hstack : g.stack = As.reverse ++ rest) (hW : 2 * g.monitorRoom + (rest.map fun v => v.category).sum ≤ 8) (hdg : decode cc g.pc = .ok (.invokestatic index, 3)) (hf : cells + mc ≤ R.cells ∧ slots + ms ≤ R.slots) :
    vx_Run p l e R s m args below meth c H locs cells slots mc ms g rest (Qc As.toArray) XC free := by
  obtain ⟨⟨hrc, hrs, hfr, hlo, hws, hcw⟩, hcode, hini, hy, hlen, hl, hstt⟩ := cw
  have hK : vx_Back l R p e below s args y 3 8 (PreOf R mc ms Pc) (PostOf Qc mc ms free) (vx_Post XC mc ms free) := vx_backW (hh := hh) (bytes := bytes) (maxL := maxL) (ret := ret) hM hp.1 hrc hrs hfr hlo hws hcw (fun a' U hW => word_at hW (Or.inl (by first | rfl | simp [Cond.onTables, Cond.keeps, Cond.steady])) hini)
  obtain ⟨hx, hb, hml, ho, -⟩ := S
  intro T hT X
  rcases vx_callSX X hx (hh := hh) (bytes := bytes) (maxL := maxL) (ret := ret) ho hl hstt hini hcode hy hK hg (hsize.trans hml.symm) (argsL := As) (rest := rest) (fun sig h => hn.trans (hlen sig h)) hstack hW (by rw [hb]; exact hdg)
    (fun vm₁ hW₁ => ⟨hf.1, hf.2, hp.2 (T.setVm vm₁) hT hW₁⟩) with ⟨v, vm₁, ⟨U', l2, c2, s2⟩, hW₁, X', ⟨g', mk, t, L, e1, e2, hq, h1, hL, h2, h3⟩, st⟩ | ⟨q, vm₁, ⟨U', l2, c2, s2⟩, hW₁, X', ⟨g', mk, t, L, E, ce, e1, e2, hq, hce, hcv, hcl, h1, hL, h2, h3⟩, st⟩
  · dsimp only [Pt.U, Pt.locs, Pt.cells, Pt.slots] at X' e1 e2 h1 h2 h3 st
    subst h1; subst h2; subst h3
    exact Or.inl ⟨v, (T.setVm vm₁).calling g' mk As.toArray, t, U', L, hT, X', hL, e1, e2, hq, st⟩
  · dsimp only [Pt.U, Pt.locs, Pt.cells, Pt.slots] at X' e1 e2 h1 h2 h3 st hcl
    subst h1; subst h2; subst h3
    exact Or.inr ⟨q, (T.setVm vm₁).calling g' mk As.toArray, t, U', L, E, ce, hT, X', hL, e1, e2, hq, hce, hcv, vx_cls hW₁ hcl, st⟩
end
end VXH
theorem vx_ofWH {l : Launch} {y : MethodName} {ws ws' : List Cond} {rm : Room} {Pc : Array Value → State → Prop} {Qc : Array Value → State → Outcome → State → Prop} {XC : String → State → State → Prop} {mc ms : Nat} {free : Addr → Prop} {cc : ByteArray} {maxL : Nat} {ret : Option FieldType} {hh : List (Nat × Nat × Nat × Nat)}
    (hy : plainName y.cls = true) (hw : ws = Cond.codeWith y cc maxL ret hh :: ws')
    (body : ∀ p e s m args below meth c s₁, BodyLoose p l y (headSpec ws rm) cc maxL ret e s m args below meth c s₁ → c.maxLocals = maxL → Pc args s →
      W p l e (headSpec ws rm).room s m args below meth c s.heap [] 0 0 (vx_MQ below Qc XC args s mc ms free) (entryFrame m args maxL)) : vx_Met l y ws rm Pc Qc XC mc ms free := by
  refine MetFree.of_bodyS (code := cc) (maxLocals := maxL) (ret := ret) hy ?_ ?_
  · intro args s m h hn
    obtain ⟨m9, meth, c, hn9, h1, h2, h3, h4, -, h5, h6, -⟩ := Cond.codeWith_spec (atoms_spec (ws := ws) h _ (by rw [hw]; exact List.mem_cons_self))
    cases hn.symm.trans hn9
    exact ⟨meth, c, h1, h2, h3, h4, h5, h6⟩
  · intro p e s m args below meth c s₁ B hml hP _
    have hh0 : s₁.heap = s.heap := by rw [B.state]; rfl
    obtain ⟨t, a1, o, b1, b2, b3⟩ := body p e s m args below meth c s₁ B hml hP s₁ hh0 (Stand.of_body B)
    exact ⟨t, o, a1, b1, b2, b3⟩
/-! ===== END ===== -/
end
section
def RX0 : String := "LeastRows$Cutter"
def TX0 : u_T := fun k => match k with
  | 0 => ("LeastRows$Cutter", "state", "LLeastRows$State;", true)
  | 1 => ("LeastRows$Cutter", "least", "[I", true)
  | 2 => ("LeastRows$Cutter", "lastCut", "[I", true)
  | 3 => ("LeastRows$Cutter", "firstTogether", "[I", true)
  | _ => ("LeastRows$Cutter", "tried", "[I", true)
def tyX0 : Nat → FieldType := fun k => match k with
  | 0 => .object "LeastRows$State"
  | 1 => .array .int
  | 2 => .array .int
  | 3 => .array .int
  | _ => .array .int
abbrev wsX00 : List Cond := u_ws RX0 TX0 5
theorem nmX0 : ∀ a, a < 5 → ∀ b, b < 5 → a ≠ b → (TX0 a).2.1 ≠ (TX0 b).2.1 := by decide +kernel
theorem tyX0_ok : ∀ k, k < 5 → parseFieldDescriptor (TX0 k).2.2.1 = some (tyX0 k) := by decide +kernel
abbrev cX0_init : ByteArray := prog_2_method_1_code
def yX0_init : MethodName := ⟨RX0, "<init>", "(LLeastRows$State;)V"⟩
abbrev cX0_planCuts : ByteArray := prog_2_method_2_code
def yX0_planCuts : MethodName := ⟨RX0, "planCuts", "()V"⟩
abbrev cX0_plannedCost : ByteArray := prog_2_method_3_code
def yX0_plannedCost : MethodName := ⟨RX0, "plannedCost", "(I)I"⟩
abbrev cX0_plannedCut : ByteArray := prog_2_method_4_code
def yX0_plannedCut : MethodName := ⟨RX0, "plannedCut", "(II)I"⟩
abbrev cX0_fewestPartsFor : ByteArray := prog_2_method_5_code
def yX0_fewestPartsFor : MethodName := ⟨RX0, "fewestPartsFor", "(I)I"⟩
abbrev cX0_tryAllCuts : ByteArray := prog_2_method_6_code
def yX0_tryAllCuts : MethodName := ⟨RX0, "tryAllCuts", "()V"⟩
abbrev cX0_triedCost : ByteArray := prog_2_method_7_code
def yX0_triedCost : MethodName := ⟨RX0, "triedCost", "(I)I"⟩
abbrev cX0_planLastCut : ByteArray := prog_2_method_8_code
def yX0_planLastCut : MethodName := ⟨RX0, "planLastCut", "(II)V"⟩
abbrev cX0_tryNextPart : ByteArray := prog_2_method_9_code
def yX0_tryNextPart : MethodName := ⟨RX0, "tryNextPart", "(LLeastRows$Cutter;III)V"⟩
def RX1 : String := "LeastRows$Finder"
def TX1 : u_T := fun k => match k with
  | 0 => ("LeastRows$Finder", "table", "LLeastRows$State;", true)
  | 1 => ("LeastRows$Finder", "places", "[I", true)
  | 2 => ("LeastRows$Finder", "looksMade", "[I", true)
  | 3 => ("LeastRows$Finder", "left", "[I", true)
  | 4 => ("LeastRows$Finder", "leftCount", "[I", true)
  | 5 => ("LeastRows$Finder", "way", "I", false)
  | _ => ("LeastRows$Finder", "looksNow", "I", false)
def tyX1 : Nat → FieldType := fun k => match k with
  | 0 => .object "LeastRows$State"
  | 1 => .array .int
  | 2 => .array .int
  | 3 => .array .int
  | 4 => .array .int
  | 5 => .int
  | _ => .int
abbrev wsX10 : List Cond := u_ws RX1 TX1 7
theorem nmX1 : ∀ a, a < 7 → ∀ b, b < 7 → a ≠ b → (TX1 a).2.1 ≠ (TX1 b).2.1 := by decide +kernel
theorem tyX1_ok : ∀ k, k < 7 → parseFieldDescriptor (TX1 k).2.2.1 = some (tyX1 k) := by decide +kernel
abbrev cX1_init : ByteArray := prog_3_method_1_code
def yX1_init : MethodName := ⟨RX1, "<init>", "(LLeastRows$State;)V"⟩
abbrev cX1_seek : ByteArray := prog_3_method_2_code
def yX1_seek : MethodName := ⟨RX1, "seek", "(I)V"⟩
abbrev cX1_tellNothing : ByteArray := prog_3_method_3_code
def yX1_tellNothing : MethodName := ⟨RX1, "tellNothing", "(I)V"⟩
abbrev cX1_looksBy : ByteArray := prog_3_method_4_code
def yX1_looksBy : MethodName := ⟨RX1, "looksBy", "(I)I"⟩
abbrev cX1_placeBy : ByteArray := prog_3_method_5_code
def yX1_placeBy : MethodName := ⟨RX1, "placeBy", "(II)I"⟩
abbrev cX1_placesGoneBack : ByteArray := prog_3_method_6_code
def yX1_placesGoneBack : MethodName := ⟨RX1, "placesGoneBack", "()I"⟩
abbrev cX1_shareOfHalves : ByteArray := prog_3_method_7_code
def yX1_shareOfHalves : MethodName := ⟨RX1, "shareOfHalves", "()D"⟩
abbrev cX1_leaveAllColumns : ByteArray := prog_3_method_8_code
def yX1_leaveAllColumns : MethodName := ⟨RX1, "leaveAllColumns", "()V"⟩
abbrev cX1_lookAtAll : ByteArray := prog_3_method_9_code
def yX1_lookAtAll : MethodName := ⟨RX1, "lookAtAll", "()V"⟩
abbrev cX1_halve : ByteArray := prog_3_method_10_code
def yX1_halve : MethodName := ⟨RX1, "halve", "(LLeastRows$Finder;IIIII)V"⟩
abbrev cX1_rowsAt : ByteArray := prog_3_method_11_code
def yX1_rowsAt : MethodName := ⟨RX1, "rowsAt", "(I)I"⟩
abbrev cX1_rowAt : ByteArray := prog_3_method_12_code
def yX1_rowAt : MethodName := ⟨RX1, "rowAt", "(II)I"⟩
abbrev cX1_columnLeft : ByteArray := prog_3_method_13_code
def yX1_columnLeft : MethodName := ⟨RX1, "columnLeft", "(II)I"⟩
abbrev cX1_pileColumns : ByteArray := prog_3_method_14_code
def yX1_pileColumns : MethodName := ⟨RX1, "pileColumns", "(I)V"⟩
abbrev cX1_heightAfterThrowing : ByteArray := prog_3_method_15_code
def yX1_heightAfterThrowing : MethodName := ⟨RX1, "heightAfterThrowing", "(III)I"⟩
abbrev cX1_fillBetween : ByteArray := prog_3_method_16_code
def yX1_fillBetween : MethodName := ⟨RX1, "fillBetween", "(I)V"⟩
abbrev cX1_leftmostLeast : ByteArray := prog_3_method_17_code
def yX1_leftmostLeast : MethodName := ⟨RX1, "leftmostLeast", "(IIII)I"⟩
abbrev cX1_look : ByteArray := prog_3_method_18_code
def yX1_look : MethodName := ⟨RX1, "look", "(II)I"⟩
abbrev cX1_setPlace : ByteArray := prog_3_method_19_code
def yX1_setPlace : MethodName := ⟨RX1, "setPlace", "(II)V"⟩
def RX2 : String := "LeastRows$History"
def TX2 : u_T := fun k => match k with
  | 0 => ("LeastRows$History", "count", "I", false)
  | 1 => ("LeastRows$History", "oldest", "I", false)
  | _ => ("LeastRows$History", "saved", "[LLeastRows$State;", true)
def tyX2 : Nat → FieldType := fun k => match k with
  | 0 => .int
  | 1 => .int
  | _ => .array (.object "LeastRows$State")
abbrev wsX20 : List Cond := u_ws RX2 TX2 3
theorem nmX2 : ∀ a, a < 3 → ∀ b, b < 3 → a ≠ b → (TX2 a).2.1 ≠ (TX2 b).2.1 := by decide +kernel
theorem tyX2_ok : ∀ k, k < 3 → parseFieldDescriptor (TX2 k).2.2.1 = some (tyX2 k) := by decide +kernel
abbrev cX2_init : ByteArray := prog_4_method_1_code
def yX2_init : MethodName := ⟨RX2, "<init>", "()V"⟩
abbrev cX2_save : ByteArray := prog_4_method_2_code
def yX2_save : MethodName := ⟨RX2, "save", "(LLeastRows$State;)V"⟩
abbrev cX2_latest : ByteArray := prog_4_method_3_code
def yX2_latest : MethodName := ⟨RX2, "latest", "()LLeastRows$State;"⟩
abbrev cX2_stateAt : ByteArray := prog_4_method_4_code
def yX2_stateAt : MethodName := ⟨RX2, "stateAt", "(I)LLeastRows$State;"⟩
def RX3 : String := "LeastRows$Rule"
def TX3 : u_T := fun k => match k with
  | 0 => ("LeastRows$Rule", "row", "I", false)
  | 1 => ("LeastRows$Rule", "left", "I", false)
  | 2 => ("LeastRows$Rule", "right", "I", false)
  | 3 => ("LeastRows$Rule", "witnesses", "I", false)
  | _ => ("LeastRows$Rule", "table", "LLeastRows$State;", true)
def tyX3 : Nat → FieldType := fun k => match k with
  | 0 => .int
  | 1 => .int
  | 2 => .int
  | 3 => .int
  | _ => .object "LeastRows$State"
abbrev wsX30 : List Cond := u_ws RX3 TX3 5
theorem nmX3 : ∀ a, a < 5 → ∀ b, b < 5 → a ≠ b → (TX3 a).2.1 ≠ (TX3 b).2.1 := by decide +kernel
theorem tyX3_ok : ∀ k, k < 5 → parseFieldDescriptor (TX3 k).2.2.1 = some (tyX3 k) := by decide +kernel
abbrev cX3_init : ByteArray := prog_5_method_1_code
def yX3_init : MethodName := ⟨RX3, "<init>", "(LLeastRows$State;)V"⟩
abbrev cX3_isKept : ByteArray := prog_5_method_2_code
def yX3_isKept : MethodName := ⟨RX3, "isKept", "()Z"⟩
abbrev cX3_examine : ByteArray := prog_5_method_3_code
def yX3_examine : MethodName := ⟨RX3, "examine", "()V"⟩
abbrev cX3_told : ByteArray := prog_5_method_4_code
def yX3_told : MethodName := ⟨RX3, "told", "(I)I"⟩
abbrev cX3_isGreater : ByteArray := prog_5_method_5_code
def yX3_isGreater : MethodName := ⟨RX3, "isGreater", "(III)Z"⟩
abbrev cX3_note : ByteArray := prog_5_method_6_code
def yX3_note : MethodName := ⟨RX3, "note", "(III)V"⟩
def RX4 : String := "LeastRows$Slot"
def TX4 : u_T := fun k => match k with
  | 0 => ("LeastRows$Slot", "isFilled", "Z", false)
  | _ => ("LeastRows$Slot", "snapshot", "LLeastRows$State;", true)
def tyX4 : Nat → FieldType := fun k => match k with
  | 0 => .boolean
  | _ => .object "LeastRows$State"
abbrev wsX40 : List Cond := u_ws RX4 TX4 2
theorem nmX4 : ∀ a, a < 2 → ∀ b, b < 2 → a ≠ b → (TX4 a).2.1 ≠ (TX4 b).2.1 := by decide +kernel
theorem tyX4_ok : ∀ k, k < 2 → parseFieldDescriptor (TX4 k).2.2.1 = some (tyX4 k) := by decide +kernel
abbrev cX4_init : ByteArray := prog_6_method_1_code
def yX4_init : MethodName := ⟨RX4, "<init>", "()V"⟩
abbrev cX4_fillFrom : ByteArray := prog_6_method_2_code
def yX4_fillFrom : MethodName := ⟨RX4, "fillFrom", "(LLeastRows$State;)V"⟩
def RX5 : String := "LeastRows$State"
def TX5 : u_T := fun k => match k with
  | 0 => ("LeastRows$State", "rows", "I", false)
  | 1 => ("LeastRows$State", "columns", "I", false)
  | 2 => ("LeastRows$State", "weightCount", "I", false)
  | 3 => ("LeastRows$State", "looksCounted", "I", false)
  | 4 => ("LeastRows$State", "timesFound", "I", false)
  | 5 => ("LeastRows$State", "timesMended", "I", false)
  | 6 => ("LeastRows$State", "cells", "[I", true)
  | _ => ("LeastRows$State", "weights", "[I", true)
def tyX5 : Nat → FieldType := fun k => match k with
  | 0 => .int
  | 1 => .int
  | 2 => .int
  | 3 => .int
  | 4 => .int
  | 5 => .int
  | 6 => .array .int
  | _ => .array .int
abbrev wsX50 : List Cond := u_ws RX5 TX5 8
theorem nmX5 : ∀ a, a < 8 → ∀ b, b < 8 → a ≠ b → (TX5 a).2.1 ≠ (TX5 b).2.1 := by decide +kernel
theorem tyX5_ok : ∀ k, k < 8 → parseFieldDescriptor (TX5 k).2.2.1 = some (tyX5 k) := by decide +kernel
abbrev cX5_init : ByteArray := prog_7_method_1_code
def yX5_init : MethodName := ⟨RX5, "<init>", "()V"⟩
abbrev cX5_hasCell : ByteArray := prog_7_method_2_code
def yX5_hasCell : MethodName := ⟨RX5, "hasCell", "(II)Z"⟩
abbrev cX5_sizeCode : ByteArray := prog_7_method_3_code
def yX5_sizeCode : MethodName := ⟨RX5, "sizeCode", "()I"⟩
abbrev cX5_numberAt : ByteArray := prog_7_method_4_code
def yX5_numberAt : MethodName := ⟨RX5, "numberAt", "(II)I"⟩
abbrev cX5_setNumber : ByteArray := prog_7_method_5_code
def yX5_setNumber : MethodName := ⟨RX5, "setNumber", "(III)V"⟩
abbrev cX5_weightAt : ByteArray := prog_7_method_6_code
def yX5_weightAt : MethodName := ⟨RX5, "weightAt", "(I)I"⟩
abbrev cX5_addWeight : ByteArray := prog_7_method_7_code
def yX5_addWeight : MethodName := ⟨RX5, "addWeight", "(I)V"⟩
abbrev cX5_weightsTogether : ByteArray := prog_7_method_8_code
def yX5_weightsTogether : MethodName := ⟨RX5, "weightsTogether", "()I"⟩
abbrev cX5_copyFrom : ByteArray := prog_7_method_9_code
def yX5_copyFrom : MethodName := ⟨RX5, "copyFrom", "(LLeastRows$State;)V"⟩
def RX6 : String := "LeastRows$Text"
def TX6 : u_T := fun k => match k with
  | 0 => ("LeastRows$Text", "length", "I", false)
  | 1 => ("LeastRows$Text", "codes", "[I", true)
  | 2 => ("LeastRows$Text", "numbers", "[I", true)
  | 3 => ("LeastRows$Text", "row", "I", false)
  | 4 => ("LeastRows$Text", "column", "I", false)
  | 5 => ("LeastRows$Text", "columnsOfFirst", "I", false)
  | 6 => ("LeastRows$Text", "digits", "I", false)
  | _ => ("LeastRows$Text", "number", "I", false)
def tyX6 : Nat → FieldType := fun k => match k with
  | 0 => .int
  | 1 => .array .int
  | 2 => .array .int
  | 3 => .int
  | 4 => .int
  | 5 => .int
  | 6 => .int
  | _ => .int
abbrev wsX60 : List Cond := u_ws RX6 TX6 8
theorem nmX6 : ∀ a, a < 8 → ∀ b, b < 8 → a ≠ b → (TX6 a).2.1 ≠ (TX6 b).2.1 := by decide +kernel
theorem tyX6_ok : ∀ k, k < 8 → parseFieldDescriptor (TX6 k).2.2.1 = some (tyX6 k) := by decide +kernel
abbrev cX6_init : ByteArray := prog_8_method_1_code
def yX6_init : MethodName := ⟨RX6, "<init>", "()V"⟩
abbrev cX6_add : ByteArray := prog_8_method_2_code
def yX6_add : MethodName := ⟨RX6, "add", "(I)V"⟩
abbrev cX6_clear : ByteArray := prog_8_method_3_code
def yX6_clear : MethodName := ⟨RX6, "clear", "()V"⟩
abbrev cX6_codeAt : ByteArray := prog_8_method_4_code
def yX6_codeAt : MethodName := ⟨RX6, "codeAt", "(I)I"⟩
abbrev cX6_readToError : ByteArray := prog_8_method_5_code
def yX6_readToError : MethodName := ⟨RX6, "readToError", "()I"⟩
abbrev cX6_tellsTable : ByteArray := prog_8_method_6_code
def yX6_tellsTable : MethodName := ⟨RX6, "tellsTable", "()Z"⟩
abbrev cX6_rowsTold : ByteArray := prog_8_method_7_code
def yX6_rowsTold : MethodName := ⟨RX6, "rowsTold", "()I"⟩
abbrev cX6_columnsTold : ByteArray := prog_8_method_8_code
def yX6_columnsTold : MethodName := ⟨RX6, "columnsTold", "()I"⟩
abbrev cX6_numberTold : ByteArray := prog_8_method_9_code
def yX6_numberTold : MethodName := ⟨RX6, "numberTold", "(II)I"⟩
abbrev cX6_takes : ByteArray := prog_8_method_10_code
def yX6_takes : MethodName := ⟨RX6, "takes", "(I)Z"⟩
abbrev cX6_takesDigit : ByteArray := prog_8_method_11_code
def yX6_takesDigit : MethodName := ⟨RX6, "takesDigit", "(I)Z"⟩
abbrev cX6_takesComma : ByteArray := prog_8_method_12_code
def yX6_takesComma : MethodName := ⟨RX6, "takesComma", "()Z"⟩
abbrev cX6_takesSlash : ByteArray := prog_8_method_13_code
def yX6_takesSlash : MethodName := ⟨RX6, "takesSlash", "()Z"⟩
abbrev cX6_isRowFull : ByteArray := prog_8_method_14_code
def yX6_isRowFull : MethodName := ⟨RX6, "isRowFull", "()Z"⟩
def RX7 : String := "LeastRows"
def TX7 : u_T := fun k => match k with
  | 0 => ("LeastRows", "now", "LLeastRows$State;", true)
  | 1 => ("LeastRows", "rule", "LLeastRows$Rule;", true)
  | 2 => ("LeastRows", "finder", "LLeastRows$Finder;", true)
  | 3 => ("LeastRows", "cutter", "LLeastRows$Cutter;", true)
  | 4 => ("LeastRows", "text", "LLeastRows$Text;", true)
  | 5 => ("LeastRows", "history", "LLeastRows$History;", true)
  | 6 => ("LeastRows", "slotZero", "LLeastRows$Slot;", true)
  | _ => ("LeastRows", "slotOne", "LLeastRows$Slot;", true)
def tyX7 : Nat → FieldType := fun k => match k with
  | 0 => .object "LeastRows$State"
  | 1 => .object "LeastRows$Rule"
  | 2 => .object "LeastRows$Finder"
  | 3 => .object "LeastRows$Cutter"
  | 4 => .object "LeastRows$Text"
  | 5 => .object "LeastRows$History"
  | 6 => .object "LeastRows$Slot"
  | _ => .object "LeastRows$Slot"
abbrev wsX70 : List Cond := u_ws RX7 TX7 8
theorem nmX7 : ∀ a, a < 8 → ∀ b, b < 8 → a ≠ b → (TX7 a).2.1 ≠ (TX7 b).2.1 := by decide +kernel
theorem tyX7_ok : ∀ k, k < 8 → parseFieldDescriptor (TX7 k).2.2.1 = some (tyX7 k) := by decide +kernel
abbrev cX7_init : ByteArray := prog_1_method_1_code
def yX7_init : MethodName := ⟨RX7, "<init>", "()V"⟩
abbrev cX7_size : ByteArray := prog_1_method_2_code
def yX7_size : MethodName := ⟨RX7, "size", "(II)I"⟩
abbrev cX7_put : ByteArray := prog_1_method_3_code
def yX7_put : MethodName := ⟨RX7, "put", "(III)I"⟩
abbrev cX7_points : ByteArray := prog_1_method_4_code
def yX7_points : MethodName := ⟨RX7, "points", "(IIII)I"⟩
abbrev cX7_mend : ByteArray := prog_1_method_5_code
def yX7_mend : MethodName := ⟨RX7, "mend", "()I"⟩
abbrev cX7_find : ByteArray := prog_1_method_6_code
def yX7_find : MethodName := ⟨RX7, "find", "(I)I"⟩
abbrev cX7_weigh : ByteArray := prog_1_method_7_code
def yX7_weigh : MethodName := ⟨RX7, "weigh", "(I)I"⟩
abbrev cX7_unweigh : ByteArray := prog_1_method_8_code
def yX7_unweigh : MethodName := ⟨RX7, "unweigh", "()I"⟩
abbrev cX7_append : ByteArray := prog_1_method_9_code
def yX7_append : MethodName := ⟨RX7, "append", "(I)I"⟩
abbrev cX7_clearBuffer : ByteArray := prog_1_method_10_code
def yX7_clearBuffer : MethodName := ⟨RX7, "clearBuffer", "()I"⟩
abbrev cX7_firstError : ByteArray := prog_1_method_11_code
def yX7_firstError : MethodName := ⟨RX7, "firstError", "()I"⟩
abbrev cX7_load : ByteArray := prog_1_method_12_code
def yX7_load : MethodName := ⟨RX7, "load", "()I"⟩
abbrev cX7_keep : ByteArray := prog_1_method_13_code
def yX7_keep : MethodName := ⟨RX7, "keep", "(I)I"⟩
abbrev cX7_goBack : ByteArray := prog_1_method_14_code
def yX7_goBack : MethodName := ⟨RX7, "goBack", "(I)I"⟩
abbrev cX7_undo : ByteArray := prog_1_method_15_code
def yX7_undo : MethodName := ⟨RX7, "undo", "()I"⟩
abbrev cX7_cell : ByteArray := prog_1_method_16_code
def yX7_cell : MethodName := ⟨RX7, "cell", "(II)I"⟩
abbrev cX7_place : ByteArray := prog_1_method_17_code
def yX7_place : MethodName := ⟨RX7, "place", "(II)I"⟩
abbrev cX7_looks : ByteArray := prog_1_method_18_code
def yX7_looks : MethodName := ⟨RX7, "looks", "(I)I"⟩
abbrev cX7_bound : ByteArray := prog_1_method_19_code
def yX7_bound : MethodName := ⟨RX7, "bound", "()I"⟩
abbrev cX7_witness : ByteArray := prog_1_method_20_code
def yX7_witness : MethodName := ⟨RX7, "witness", "(I)I"⟩
abbrev cX7_count : ByteArray := prog_1_method_21_code
def yX7_count : MethodName := ⟨RX7, "count", "(I)I"⟩
abbrev cX7_weight : ByteArray := prog_1_method_22_code
def yX7_weight : MethodName := ⟨RX7, "weight", "(I)I"⟩
abbrev cX7_cost : ByteArray := prog_1_method_23_code
def yX7_cost : MethodName := ⟨RX7, "cost", "(II)I"⟩
abbrev cX7_cut : ByteArray := prog_1_method_24_code
def yX7_cut : MethodName := ⟨RX7, "cut", "(II)I"⟩
abbrev cX7_fewestParts : ByteArray := prog_1_method_25_code
def yX7_fewestParts : MethodName := ⟨RX7, "fewestParts", "(I)I"⟩
abbrev cX7_halfShare : ByteArray := prog_1_method_26_code
def yX7_halfShare : MethodName := ⟨RX7, "halfShare", "()D"⟩
abbrev cX7_digest : ByteArray := prog_1_method_27_code
def yX7_digest : MethodName := ⟨RX7, "digest", "()J"⟩
abbrev cX7_isFromTo : ByteArray := prog_1_method_28_code
def yX7_isFromTo : MethodName := ⟨RX7, "isFromTo", "(III)Z"⟩
abbrev cX7_isWay : ByteArray := prog_1_method_29_code
def yX7_isWay : MethodName := ⟨RX7, "isWay", "(I)Z"⟩
abbrev cX7_isOpen : ByteArray := prog_1_method_30_code
def yX7_isOpen : MethodName := ⟨RX7, "isOpen", "(I)Z"⟩
abbrev cX7_slotAt : ByteArray := prog_1_method_31_code
def yX7_slotAt : MethodName := ⟨RX7, "slotAt", "(I)LLeastRows$Slot;"⟩
abbrev cX7_counted : ByteArray := prog_1_method_32_code
def yX7_counted : MethodName := ⟨RX7, "counted", "(I)I"⟩
abbrev cX7_mixed : ByteArray := prog_1_method_33_code
def yX7_mixed : MethodName := ⟨RX7, "mixed", "(JJ)J"⟩
abbrev cX7_mixedCells : ByteArray := prog_1_method_34_code
def yX7_mixedCells : MethodName := ⟨RX7, "mixedCells", "(J)J"⟩
abbrev cX7_seekByAllWays : ByteArray := prog_1_method_35_code
def yX7_seekByAllWays : MethodName := ⟨RX7, "seekByAllWays", "()V"⟩
abbrev cX7_mixedPlaces : ByteArray := prog_1_method_36_code
def yX7_mixedPlaces : MethodName := ⟨RX7, "mixedPlaces", "(J)J"⟩
abbrev cX7_mixedWeights : ByteArray := prog_1_method_37_code
def yX7_mixedWeights : MethodName := ⟨RX7, "mixedWeights", "(J)J"⟩
abbrev cX7_bitsOf : ByteArray := prog_1_method_38_code
def yX7_bitsOf : MethodName := ⟨RX7, "bitsOf", "(D)J"⟩
abbrev cX7_numberIn : ByteArray := prog_1_method_39_code
def yX7_numberIn : MethodName := ⟨RX7, "numberIn", "([II)I"⟩
abbrev cX7_setIn : ByteArray := prog_1_method_40_code
def yX7_setIn : MethodName := ⟨RX7, "setIn", "([III)V"⟩
abbrev cX7_copyAll : ByteArray := prog_1_method_41_code
def yX7_copyAll : MethodName := ⟨RX7, "copyAll", "([I[I)V"⟩
def RX8 : String := "LeastRowsModel"
def TX8 : u_T := fun k => match k with
  | 0 => ("LeastRowsModel", "now", "[I", true)
  | 1 => ("LeastRowsModel", "past", "[I", true)
  | 2 => ("LeastRowsModel", "states", "I", false)
  | 3 => ("LeastRowsModel", "kept", "[I", true)
  | 4 => ("LeastRowsModel", "isKept", "[I", true)
  | 5 => ("LeastRowsModel", "text", "[I", true)
  | 6 => ("LeastRowsModel", "length", "I", false)
  | 7 => ("LeastRowsModel", "thrown", "I", false)
  | 8 => ("LeastRowsModel", "places", "[I", true)
  | 9 => ("LeastRowsModel", "looked", "I", false)
  | 10 => ("LeastRowsModel", "open", "[I", true)
  | 11 => ("LeastRowsModel", "opened", "I", false)
  | 12 => ("LeastRowsModel", "left", "[I", true)
  | 13 => ("LeastRowsModel", "lefts", "[I", true)
  | 14 => ("LeastRowsModel", "spot", "I", false)
  | 15 => ("LeastRowsModel", "told", "[I", true)
  | 16 => ("LeastRowsModel", "toldRows", "I", false)
  | 17 => ("LeastRowsModel", "toldColumns", "I", false)
  | 18 => ("LeastRowsModel", "costs", "[I", true)
  | 19 => ("LeastRowsModel", "lasts", "[I", true)
  | _ => ("LeastRowsModel", "hash", "J", false)
def tyX8 : Nat → FieldType := fun k => match k with
  | 0 => .array .int
  | 1 => .array .int
  | 2 => .int
  | 3 => .array .int
  | 4 => .array .int
  | 5 => .array .int
  | 6 => .int
  | 7 => .int
  | 8 => .array .int
  | 9 => .int
  | 10 => .array .int
  | 11 => .int
  | 12 => .array .int
  | 13 => .array .int
  | 14 => .int
  | 15 => .array .int
  | 16 => .int
  | 17 => .int
  | 18 => .array .int
  | 19 => .array .int
  | _ => .long
abbrev wsX80 : List Cond := u_ws RX8 TX8 21
theorem nmX8 : ∀ a, a < 21 → ∀ b, b < 21 → a ≠ b → (TX8 a).2.1 ≠ (TX8 b).2.1 := by decide +kernel
theorem tyX8_ok : ∀ k, k < 21 → parseFieldDescriptor (TX8 k).2.2.1 = some (tyX8 k) := by decide +kernel
abbrev cX8_init : ByteArray := prog_10_method_1_code
def yX8_init : MethodName := ⟨RX8, "<init>", "()V"⟩
abbrev cX8_thrown : ByteArray := prog_10_method_2_code
def yX8_thrown : MethodName := ⟨RX8, "thrown", "()I"⟩
abbrev cX8_refuses : ByteArray := prog_10_method_3_code
def yX8_refuses : MethodName := ⟨RX8, "refuses", "(I)I"⟩
abbrev cX8_in : ByteArray := prog_10_method_4_code
def yX8_in : MethodName := ⟨RX8, "in", "(III)Z"⟩
abbrev cX8_lays : ByteArray := prog_10_method_5_code
def yX8_lays : MethodName := ⟨RX8, "lays", "([II[II)V"⟩
abbrev cX8_saves : ByteArray := prog_10_method_6_code
def yX8_saves : MethodName := ⟨RX8, "saves", "()V"⟩
abbrev cX8_at : ByteArray := prog_10_method_7_code
def yX8_at : MethodName := ⟨RX8, "at", "(II)I"⟩
abbrev cX8_becomes : ByteArray := prog_10_method_8_code
def yX8_becomes : MethodName := ⟨RX8, "becomes", "(III)V"⟩
abbrev cX8_isAgainst : ByteArray := prog_10_method_9_code
def yX8_isAgainst : MethodName := ⟨RX8, "isAgainst", "(III)Z"⟩
abbrev cX8_witnesses : ByteArray := prog_10_method_10_code
def yX8_witnesses : MethodName := ⟨RX8, "witnesses", "()I"⟩
abbrev cX8_first : ByteArray := prog_10_method_11_code
def yX8_first : MethodName := ⟨RX8, "first", "()I"⟩
abbrev cX8_isKeeping : ByteArray := prog_10_method_12_code
def yX8_isKeeping : MethodName := ⟨RX8, "isKeeping", "()Z"⟩
abbrev cX8_least : ByteArray := prog_10_method_13_code
def yX8_least : MethodName := ⟨RX8, "least", "(III)I"⟩
abbrev cX8_byAll : ByteArray := prog_10_method_14_code
def yX8_byAll : MethodName := ⟨RX8, "byAll", "()V"⟩
abbrev cX8_opens : ByteArray := prog_10_method_15_code
def yX8_opens : MethodName := ⟨RX8, "opens", "(IIII)V"⟩
abbrev cX8_byHalves : ByteArray := prog_10_method_16_code
def yX8_byHalves : MethodName := ⟨RX8, "byHalves", "()V"⟩
abbrev cX8_rowAt : ByteArray := prog_10_method_17_code
def yX8_rowAt : MethodName := ⟨RX8, "rowAt", "(II)I"⟩
abbrev cX8_piles : ByteArray := prog_10_method_18_code
def yX8_piles : MethodName := ⟨RX8, "piles", "(III)I"⟩
abbrev cX8_throwsOut : ByteArray := prog_10_method_19_code
def yX8_throwsOut : MethodName := ⟨RX8, "throwsOut", "(I)V"⟩
abbrev cX8_leastLeft : ByteArray := prog_10_method_20_code
def yX8_leastLeft : MethodName := ⟨RX8, "leastLeft", "(IIII)I"⟩
abbrev cX8_fills : ByteArray := prog_10_method_21_code
def yX8_fills : MethodName := ⟨RX8, "fills", "(I)V"⟩
abbrev cX8_byThrowing : ByteArray := prog_10_method_22_code
def yX8_byThrowing : MethodName := ⟨RX8, "byThrowing", "()V"⟩
abbrev cX8_finds : ByteArray := prog_10_method_23_code
def yX8_finds : MethodName := ⟨RX8, "finds", "(I)V"⟩
abbrev cX8_canGo : ByteArray := prog_10_method_24_code
def yX8_canGo : MethodName := ⟨RX8, "canGo", "(I)Z"⟩
abbrev cX8_looksBy : ByteArray := prog_10_method_25_code
def yX8_looksBy : MethodName := ⟨RX8, "looksBy", "(I)I"⟩
abbrev cX8_placeBy : ByteArray := prog_10_method_26_code
def yX8_placeBy : MethodName := ⟨RX8, "placeBy", "(II)I"⟩
abbrev cX8_isRow : ByteArray := prog_10_method_27_code
def yX8_isRow : MethodName := ⟨RX8, "isRow", "(I)Z"⟩
abbrev cX8_isCell : ByteArray := prog_10_method_28_code
def yX8_isCell : MethodName := ⟨RX8, "isCell", "(II)Z"⟩
abbrev cX8_size : ByteArray := prog_10_method_29_code
def yX8_size : MethodName := ⟨RX8, "size", "(II)I"⟩
abbrev cX8_put : ByteArray := prog_10_method_30_code
def yX8_put : MethodName := ⟨RX8, "put", "(III)I"⟩
abbrev cX8_points : ByteArray := prog_10_method_31_code
def yX8_points : MethodName := ⟨RX8, "points", "(IIII)I"⟩
abbrev cX8_mend : ByteArray := prog_10_method_32_code
def yX8_mend : MethodName := ⟨RX8, "mend", "()I"⟩
abbrev cX8_find : ByteArray := prog_10_method_33_code
def yX8_find : MethodName := ⟨RX8, "find", "(I)I"⟩
abbrev cX8_weigh : ByteArray := prog_10_method_34_code
def yX8_weigh : MethodName := ⟨RX8, "weigh", "(I)I"⟩
abbrev cX8_unweigh : ByteArray := prog_10_method_35_code
def yX8_unweigh : MethodName := ⟨RX8, "unweigh", "()I"⟩
abbrev cX8_append : ByteArray := prog_10_method_36_code
def yX8_append : MethodName := ⟨RX8, "append", "(I)I"⟩
abbrev cX8_clearBuffer : ByteArray := prog_10_method_37_code
def yX8_clearBuffer : MethodName := ⟨RX8, "clearBuffer", "()I"⟩
abbrev cX8_sees : ByteArray := prog_10_method_38_code
def yX8_sees : MethodName := ⟨RX8, "sees", "(II)Z"⟩
abbrev cX8_takes : ByteArray := prog_10_method_39_code
def yX8_takes : MethodName := ⟨RX8, "takes", "(I)Z"⟩
abbrev cX8_isNumber : ByteArray := prog_10_method_40_code
def yX8_isNumber : MethodName := ⟨RX8, "isNumber", "(II)Z"⟩
abbrev cX8_isLine : ByteArray := prog_10_method_41_code
def yX8_isLine : MethodName := ⟨RX8, "isLine", "(I)I"⟩
abbrev cX8_isWhole : ByteArray := prog_10_method_42_code
def yX8_isWhole : MethodName := ⟨RX8, "isWhole", "()Z"⟩
abbrev cX8_firstError : ByteArray := prog_10_method_43_code
def yX8_firstError : MethodName := ⟨RX8, "firstError", "()I"⟩
abbrev cX8_load : ByteArray := prog_10_method_44_code
def yX8_load : MethodName := ⟨RX8, "load", "()I"⟩
abbrev cX8_keep : ByteArray := prog_10_method_45_code
def yX8_keep : MethodName := ⟨RX8, "keep", "(I)I"⟩
abbrev cX8_goBack : ByteArray := prog_10_method_46_code
def yX8_goBack : MethodName := ⟨RX8, "goBack", "(I)I"⟩
abbrev cX8_undo : ByteArray := prog_10_method_47_code
def yX8_undo : MethodName := ⟨RX8, "undo", "()I"⟩
abbrev cX8_cell : ByteArray := prog_10_method_48_code
def yX8_cell : MethodName := ⟨RX8, "cell", "(II)I"⟩
abbrev cX8_place : ByteArray := prog_10_method_49_code
def yX8_place : MethodName := ⟨RX8, "place", "(II)I"⟩
abbrev cX8_looks : ByteArray := prog_10_method_50_code
def yX8_looks : MethodName := ⟨RX8, "looks", "(I)I"⟩
abbrev cX8_bounds : ByteArray := prog_10_method_51_code
def yX8_bounds : MethodName := ⟨RX8, "bounds", "()I"⟩
abbrev cX8_bound : ByteArray := prog_10_method_52_code
def yX8_bound : MethodName := ⟨RX8, "bound", "()I"⟩
abbrev cX8_testified : ByteArray := prog_10_method_53_code
def yX8_testified : MethodName := ⟨RX8, "testified", "(I)I"⟩
abbrev cX8_witness : ByteArray := prog_10_method_54_code
def yX8_witness : MethodName := ⟨RX8, "witness", "(I)I"⟩
abbrev cX8_weighs : ByteArray := prog_10_method_55_code
def yX8_weighs : MethodName := ⟨RX8, "weighs", "(II)I"⟩
abbrev cX8_goingBack : ByteArray := prog_10_method_56_code
def yX8_goingBack : MethodName := ⟨RX8, "goingBack", "()I"⟩
abbrev cX8_counted : ByteArray := prog_10_method_57_code
def yX8_counted : MethodName := ⟨RX8, "counted", "(I)I"⟩
abbrev cX8_count : ByteArray := prog_10_method_58_code
def yX8_count : MethodName := ⟨RX8, "count", "(I)I"⟩
abbrev cX8_weight : ByteArray := prog_10_method_59_code
def yX8_weight : MethodName := ⟨RX8, "weight", "(I)I"⟩
abbrev cX8_part : ByteArray := prog_10_method_60_code
def yX8_part : MethodName := ⟨RX8, "part", "(II)V"⟩
abbrev cX8_cuts : ByteArray := prog_10_method_61_code
def yX8_cuts : MethodName := ⟨RX8, "cuts", "()V"⟩
abbrev cX8_leastCost : ByteArray := prog_10_method_62_code
def yX8_leastCost : MethodName := ⟨RX8, "leastCost", "(I)I"⟩
abbrev cX8_isParts : ByteArray := prog_10_method_63_code
def yX8_isParts : MethodName := ⟨RX8, "isParts", "(I)Z"⟩
abbrev cX8_cost : ByteArray := prog_10_method_64_code
def yX8_cost : MethodName := ⟨RX8, "cost", "(II)I"⟩
abbrev cX8_cutAt : ByteArray := prog_10_method_65_code
def yX8_cutAt : MethodName := ⟨RX8, "cutAt", "(II)I"⟩
abbrev cX8_cut : ByteArray := prog_10_method_66_code
def yX8_cut : MethodName := ⟨RX8, "cut", "(II)I"⟩
abbrev cX8_fewest : ByteArray := prog_10_method_67_code
def yX8_fewest : MethodName := ⟨RX8, "fewest", "(I)I"⟩
abbrev cX8_fewestParts : ByteArray := prog_10_method_68_code
def yX8_fewestParts : MethodName := ⟨RX8, "fewestParts", "(I)I"⟩
abbrev cX8_share : ByteArray := prog_10_method_69_code
def yX8_share : MethodName := ⟨RX8, "share", "()D"⟩
abbrev cX8_halfShare : ByteArray := prog_10_method_70_code
def yX8_halfShare : MethodName := ⟨RX8, "halfShare", "()D"⟩
abbrev cX8_mixes : ByteArray := prog_10_method_71_code
def yX8_mixes : MethodName := ⟨RX8, "mixes", "(J)V"⟩
abbrev cX8_mixesTable : ByteArray := prog_10_method_72_code
def yX8_mixesTable : MethodName := ⟨RX8, "mixesTable", "()V"⟩
abbrev cX8_mixesCuts : ByteArray := prog_10_method_73_code
def yX8_mixesCuts : MethodName := ⟨RX8, "mixesCuts", "(I)V"⟩
abbrev cX8_digest : ByteArray := prog_10_method_74_code
def yX8_digest : MethodName := ⟨RX8, "digest", "()J"⟩
def RJxe99ae : String := "java/lang/Double"
def TJxe99ae : u_T := fun k => match k with
  | _ => ("", "", "", false)
def tyJxe99ae : Nat → FieldType := fun k => match k with
  | _ => .int
abbrev wsJxe99ae0 : List Cond := u_ws RJxe99ae TJxe99ae 0
theorem nmJxe99ae : ∀ a, a < 0 → ∀ b, b < 0 → a ≠ b → (TJxe99ae a).2.1 ≠ (TJxe99ae b).2.1 := by decide +kernel
theorem tyJxe99ae_ok : ∀ k, k < 0 → parseFieldDescriptor (TJxe99ae k).2.2.1 = some (tyJxe99ae k) := by decide +kernel
abbrev cJxe99ae_isNaN_b9ae7 : ByteArray := prog_11_method_6_code
def yJxe99ae_isNaN_b9ae7 : MethodName := ⟨RJxe99ae, "isNaN", "(D)Z"⟩
abbrev cJxe99ae_doubleToLongBits_ccdee : ByteArray := prog_11_method_23_code
def yJxe99ae_doubleToLongBits_ccdee : MethodName := ⟨RJxe99ae, "doubleToLongBits", "(D)J"⟩
def RJ9 : String := "java/lang/Math"
def TJ9 : u_T := fun k => match k with
  | _ => ("", "", "", false)
def tyJ9 : Nat → FieldType := fun k => match k with
  | _ => .int
abbrev wsJ90 : List Cond := u_ws RJ9 TJ9 0
theorem nmJ9 : ∀ a, a < 0 → ∀ b, b < 0 → a ≠ b → (TJ9 a).2.1 ≠ (TJ9 b).2.1 := by decide +kernel
theorem tyJ9_ok : ∀ k, k < 0 → parseFieldDescriptor (TJ9 k).2.2.1 = some (tyJ9 k) := by decide +kernel
abbrev cJ9_min_7cf53 : ByteArray := prog_16_method_69_code
def yJ9_min_7cf53 : MethodName := ⟨RJ9, "min", "(II)I"⟩
def RJ0 : String := "java/lang/String"
def TJ0 : u_T := fun k => match k with
  | _ => ("", "", "", false)
def tyJ0 : Nat → FieldType := fun k => match k with
  | _ => .int
abbrev wsJ00 : List Cond := u_ws RJ0 TJ0 0
theorem nmJ0 : ∀ a, a < 0 → ∀ b, b < 0 → a ≠ b → (TJ0 a).2.1 ≠ (TJ0 b).2.1 := by decide +kernel
theorem tyJ0_ok : ∀ k, k < 0 → parseFieldDescriptor (TJ0 k).2.2.1 = some (tyJ0 k) := by decide +kernel
def RL : String := "LeastRowsLaw"
abbrev cL_size : ByteArray := method_3_code
def yL_size : MethodName := ⟨RL, "size", "(LLeastRows;II[J)I"⟩
abbrev cL_put : ByteArray := method_4_code
def yL_put : MethodName := ⟨RL, "put", "(LLeastRows;III[J)I"⟩
abbrev cL_points : ByteArray := method_5_code
def yL_points : MethodName := ⟨RL, "points", "(LLeastRows;IIII[J)I"⟩
abbrev cL_find : ByteArray := method_6_code
def yL_find : MethodName := ⟨RL, "find", "(LLeastRows;I[J)I"⟩
abbrev cL_weigh : ByteArray := method_7_code
def yL_weigh : MethodName := ⟨RL, "weigh", "(LLeastRows;I[J)I"⟩
abbrev cL_unweigh : ByteArray := method_8_code
def yL_unweigh : MethodName := ⟨RL, "unweigh", "(LLeastRows;[J)I"⟩
abbrev cL_append : ByteArray := method_9_code
def yL_append : MethodName := ⟨RL, "append", "(LLeastRows;I[J)I"⟩
abbrev cL_load : ByteArray := method_10_code
def yL_load : MethodName := ⟨RL, "load", "(LLeastRows;[J)I"⟩
abbrev cL_keep : ByteArray := method_11_code
def yL_keep : MethodName := ⟨RL, "keep", "(LLeastRows;I[J)I"⟩
abbrev cL_goBack : ByteArray := method_12_code
def yL_goBack : MethodName := ⟨RL, "goBack", "(LLeastRows;I[J)I"⟩
abbrev cL_undo : ByteArray := method_13_code
def yL_undo : MethodName := ⟨RL, "undo", "(LLeastRows;[J)I"⟩
abbrev cL_cell : ByteArray := method_14_code
def yL_cell : MethodName := ⟨RL, "cell", "(LLeastRows;II[J)I"⟩
abbrev cL_place : ByteArray := method_15_code
def yL_place : MethodName := ⟨RL, "place", "(LLeastRows;II[J)I"⟩
abbrev cL_looks : ByteArray := method_16_code
def yL_looks : MethodName := ⟨RL, "looks", "(LLeastRows;I[J)I"⟩
abbrev cL_witness : ByteArray := method_17_code
def yL_witness : MethodName := ⟨RL, "witness", "(LLeastRows;I[J)I"⟩
abbrev cL_count : ByteArray := method_18_code
def yL_count : MethodName := ⟨RL, "count", "(LLeastRows;I[J)I"⟩
abbrev cL_weight : ByteArray := method_19_code
def yL_weight : MethodName := ⟨RL, "weight", "(LLeastRows;I[J)I"⟩
abbrev cL_cost : ByteArray := method_20_code
def yL_cost : MethodName := ⟨RL, "cost", "(LLeastRows;II[J)I"⟩
abbrev cL_cut : ByteArray := method_21_code
def yL_cut : MethodName := ⟨RL, "cut", "(LLeastRows;II[J)I"⟩
abbrev cL_fewestParts : ByteArray := method_22_code
def yL_fewestParts : MethodName := ⟨RL, "fewestParts", "(LLeastRows;I[J)I"⟩
abbrev cL_law : ByteArray := code
def yL_law : MethodName := ⟨RL, "law", "([I)Z"⟩
abbrev vwCl : List vw_C := [(RX0, TX0, 5), (RX1, TX1, 7), (RX2, TX2, 3), (RX3, TX3, 5), (RX4, TX4, 2), (RX5, TX5, 8), (RX6, TX6, 8), (RX7, TX7, 8), (RX8, TX8, 21)]
end
section
def TBG : List Cond := lw_tbl.filter goodWord
theorem TBG_in : ∀ w ∈ TBG, w ∈ lw_tbl := fun w h => (List.mem_filter.mp h).1
theorem TBG_gd {w : Cond} (h : w ∈ TBG) : (w.onTables && w.keeps) = true ∨ ∃ ty, w = .arrayClass ty := good_of_word (List.mem_filter.mp h).2
theorem tbq {w : Cond} (h : w ∈ tables_1) (g : goodWord w = true) : w ∈ TBG := List.mem_filter.mpr ⟨List.mem_append_right _ h, g⟩
theorem tbs {w : Cond} (h : w ∈ k2_sels lw_privs) (g : goodWord w = true) : w ∈ TBG := List.mem_filter.mpr ⟨List.mem_append_left _ h, g⟩
theorem tbt_1 {w : Cond} (h : w ∈ tables_1_1) (g : goodWord w = true) : w ∈ TBG := tbq (List.mem_append_left _ h) g
theorem tbl_1 {w : Cond} (h : w ∈ tables_1_1) : w ∈ lw_tbl := List.mem_append_right _ (List.mem_append_left _ h)
theorem tbt_2 {w : Cond} (h : w ∈ tables_1_2) (g : goodWord w = true) : w ∈ TBG := tbq (List.mem_append_right _ (List.mem_append_left _ h)) g
theorem tbl_2 {w : Cond} (h : w ∈ tables_1_2) : w ∈ lw_tbl := List.mem_append_right _ (List.mem_append_right _ (List.mem_append_left _ h))
theorem tbt_3 {w : Cond} (h : w ∈ tables_1_3) (g : goodWord w = true) : w ∈ TBG := tbq (List.mem_append_right _ (List.mem_append_right _ (List.mem_append_left _ h))) g
theorem tbl_3 {w : Cond} (h : w ∈ tables_1_3) : w ∈ lw_tbl := List.mem_append_right _ (List.mem_append_right _ (List.mem_append_right _ (List.mem_append_left _ h)))
theorem tbt_4 {w : Cond} (h : w ∈ tables_1_4) (g : goodWord w = true) : w ∈ TBG := tbq (List.mem_append_right _ (List.mem_append_right _ (List.mem_append_right _ (List.mem_append_left _ h)))) g
theorem tbl_4 {w : Cond} (h : w ∈ tables_1_4) : w ∈ lw_tbl := List.mem_append_right _ (List.mem_append_right _ (List.mem_append_right _ (List.mem_append_right _ (List.mem_append_left _ h))))
theorem tbt_5 {w : Cond} (h : w ∈ tables_1_5) (g : goodWord w = true) : w ∈ TBG := tbq (List.mem_append_right _ (List.mem_append_right _ (List.mem_append_right _ (List.mem_append_right _ (List.mem_append_left _ h))))) g
theorem tbl_5 {w : Cond} (h : w ∈ tables_1_5) : w ∈ lw_tbl := List.mem_append_right _ (List.mem_append_right _ (List.mem_append_right _ (List.mem_append_right _ (List.mem_append_right _ (List.mem_append_left _ h)))))
theorem tbt_6 {w : Cond} (h : w ∈ tables_1_6) (g : goodWord w = true) : w ∈ TBG := tbq (List.mem_append_right _ (List.mem_append_right _ (List.mem_append_right _ (List.mem_append_right _ (List.mem_append_right _ (h)))))) g
theorem tbl_6 {w : Cond} (h : w ∈ tables_1_6) : w ∈ lw_tbl := List.mem_append_right _ (List.mem_append_right _ (List.mem_append_right _ (List.mem_append_right _ (List.mem_append_right _ (List.mem_append_right _ (h))))))
theorem q0 : (.initialized RL : Cond) ∈ TBG := tbt_1 (List.mem_of_getElem? (i := 0) rfl) rfl
theorem q1 : (.initialized RX7 : Cond) ∈ TBG := tbt_1 (List.mem_of_getElem? (i := 1) rfl) rfl
theorem q2 : (.initialized RX5 : Cond) ∈ TBG := tbt_1 (List.mem_of_getElem? (i := 2) rfl) rfl
theorem q3 : (.initialized RX3 : Cond) ∈ TBG := tbt_1 (List.mem_of_getElem? (i := 3) rfl) rfl
theorem q4 : (.initialized RX1 : Cond) ∈ TBG := tbt_1 (List.mem_of_getElem? (i := 4) rfl) rfl
theorem q5 : (.initialized RX0 : Cond) ∈ TBG := tbt_1 (List.mem_of_getElem? (i := 5) rfl) rfl
theorem q6 : (.initialized RX6 : Cond) ∈ TBG := tbt_1 (List.mem_of_getElem? (i := 6) rfl) rfl
theorem q7 : (.initialized RX2 : Cond) ∈ TBG := tbt_1 (List.mem_of_getElem? (i := 7) rfl) rfl
theorem q8 : (.initialized RX4 : Cond) ∈ TBG := tbt_1 (List.mem_of_getElem? (i := 8) rfl) rfl
theorem q9 : (.initialized RX8 : Cond) ∈ TBG := tbt_1 (List.mem_of_getElem? (i := 9) rfl) rfl
theorem q10 : (.initialized "java/lang/Throwable" : Cond) ∈ TBG := tbt_1 (List.mem_of_getElem? (i := 10) rfl) rfl
theorem q11 : (.initialized "java/lang/Exception" : Cond) ∈ TBG := tbt_1 (List.mem_of_getElem? (i := 11) rfl) rfl
theorem q12 : (.initialized "java/lang/RuntimeException" : Cond) ∈ TBG := tbt_1 (List.mem_of_getElem? (i := 12) rfl) rfl
theorem q13 : (.initialized "java/lang/IllegalArgumentException" : Cond) ∈ TBG := tbt_1 (List.mem_of_getElem? (i := 13) rfl) rfl
theorem q14 : (.initialized "java/lang/IndexOutOfBoundsException" : Cond) ∈ TBG := tbt_1 (List.mem_of_getElem? (i := 14) rfl) rfl
theorem q15 : (.initialized RJ9 : Cond) ∈ TBG := tbt_1 (List.mem_of_getElem? (i := 15) rfl) rfl
theorem q16 : (.initialized "java/lang/IllegalStateException" : Cond) ∈ TBG := tbt_1 (List.mem_of_getElem? (i := 16) rfl) rfl
theorem q17 : (.initialized RJxe99ae : Cond) ∈ TBG := tbt_1 (List.mem_of_getElem? (i := 17) rfl) rfl
theorem q18 : (.classLink RL 8 RX7 : Cond) ∈ TBG := tbt_1 (List.mem_of_getElem? (i := 18) rfl) rfl
theorem q19 : (.instantiable RX7 8 : Cond) ∈ TBG := tbt_1 (List.mem_of_getElem? (i := 19) rfl) rfl
theorem q20 : (.methodLink RL 80 yX7_init : Cond) ∈ TBG := tbt_1 (List.mem_of_getElem? (i := 20) rfl) rfl
theorem q21 : (.instanceMethod yX7_init : Cond) ∈ TBG := tbt_1 (List.mem_of_getElem? (i := 21) rfl) rfl
theorem q22 : (.code yX7_init cX7_init 1 none : Cond) ∈ TBG := tbt_1 (List.mem_of_getElem? (i := 22) rfl) rfl
theorem q23 : (.methodLink RX7 1 objectInit : Cond) ∈ TBG := tbt_1 (List.mem_of_getElem? (i := 23) rfl) rfl
theorem q24 : (.instanceMethod objectInit : Cond) ∈ TBG := tbt_1 (List.mem_of_getElem? (i := 24) rfl) rfl
theorem q25 : (.code objectInit object_method_1_code 1 none : Cond) ∈ TBG := tbt_1 (List.mem_of_getElem? (i := 25) rfl) rfl
theorem q26 : (.classLink RX7 7 RX5 : Cond) ∈ TBG := tbt_1 (List.mem_of_getElem? (i := 26) rfl) rfl
theorem q27 : (.instantiable RX5 8 : Cond) ∈ TBG := tbt_1 (List.mem_of_getElem? (i := 27) rfl) rfl
theorem q28 : (.methodLink RX7 9 yX5_init : Cond) ∈ TBG := tbt_1 (List.mem_of_getElem? (i := 28) rfl) rfl
theorem q29 : (.instanceMethod yX5_init : Cond) ∈ TBG := tbt_1 (List.mem_of_getElem? (i := 29) rfl) rfl
theorem q30 : (.code yX5_init cX5_init 1 none : Cond) ∈ TBG := tbt_1 (List.mem_of_getElem? (i := 30) rfl) rfl
theorem q31 : (.methodLink RX5 3 objectInit : Cond) ∈ TBG := tbt_1 (List.mem_of_getElem? (i := 31) rfl) rfl
theorem q32 : (.methodLinkNest RX5 37 yX7_setIn RX7 : Cond) ∈ lw_tbl := tbl_1 (List.mem_of_getElem? (i := 32) rfl)
theorem q33 : (.static yX7_setIn : Cond) ∈ TBG := tbt_1 (List.mem_of_getElem? (i := 33) rfl) rfl
theorem q34 : (.code yX7_setIn cX7_setIn 3 none : Cond) ∈ TBG := tbt_1 (List.mem_of_getElem? (i := 34) rfl) rfl
theorem q35 : (.fieldLink RX5 9 "LeastRows$State" "rows" "I" : Cond) ∈ TBG := tbt_1 (List.mem_of_getElem? (i := 35) rfl) rfl
theorem q36 : (.fieldLink RX1 38 "LeastRows$State" "rows" "I" : Cond) ∈ TBG := tbt_1 (List.mem_of_getElem? (i := 36) rfl) rfl
theorem q37 : (.fieldLink RX7 81 "LeastRows$State" "rows" "I" : Cond) ∈ TBG := tbt_1 (List.mem_of_getElem? (i := 37) rfl) rfl
theorem q38 : (.fieldLink RX3 31 "LeastRows$State" "rows" "I" : Cond) ∈ TBG := tbt_1 (List.mem_of_getElem? (i := 38) rfl) rfl
theorem q39 : (.fieldLink RX5 15 "LeastRows$State" "columns" "I" : Cond) ∈ TBG := tbt_1 (List.mem_of_getElem? (i := 39) rfl) rfl
theorem q40 : (.fieldLink RX1 43 "LeastRows$State" "columns" "I" : Cond) ∈ TBG := tbt_1 (List.mem_of_getElem? (i := 40) rfl) rfl
theorem q41 : (.fieldLink RX7 85 "LeastRows$State" "columns" "I" : Cond) ∈ TBG := tbt_1 (List.mem_of_getElem? (i := 41) rfl) rfl
theorem q42 : (.fieldLink RX3 36 "LeastRows$State" "columns" "I" : Cond) ∈ TBG := tbt_1 (List.mem_of_getElem? (i := 42) rfl) rfl
theorem q43 : (.fieldLink RX5 18 "LeastRows$State" "weightCount" "I" : Cond) ∈ TBG := tbt_1 (List.mem_of_getElem? (i := 43) rfl) rfl
theorem q44 : (.fieldLink RX0 28 "LeastRows$State" "weightCount" "I" : Cond) ∈ TBG := tbt_1 (List.mem_of_getElem? (i := 44) rfl) rfl
theorem q45 : (.fieldLink RX7 166 "LeastRows$State" "weightCount" "I" : Cond) ∈ TBG := tbt_1 (List.mem_of_getElem? (i := 45) rfl) rfl
theorem q46 : (.fieldLink RX5 21 "LeastRows$State" "looksCounted" "I" : Cond) ∈ TBG := tbt_1 (List.mem_of_getElem? (i := 46) rfl) rfl
theorem q47 : (.fieldLink RX7 158 "LeastRows$State" "looksCounted" "I" : Cond) ∈ TBG := tbt_1 (List.mem_of_getElem? (i := 47) rfl) rfl
theorem q48 : (.fieldLink RX5 24 "LeastRows$State" "timesFound" "I" : Cond) ∈ TBG := tbt_1 (List.mem_of_getElem? (i := 48) rfl) rfl
theorem q49 : (.fieldLink RX7 161 "LeastRows$State" "timesFound" "I" : Cond) ∈ TBG := tbt_1 (List.mem_of_getElem? (i := 49) rfl) rfl
theorem q50 : (.fieldLink RX5 27 "LeastRows$State" "timesMended" "I" : Cond) ∈ TBG := tbt_1 (List.mem_of_getElem? (i := 50) rfl) rfl
theorem q51 : (.fieldLink RX7 133 "LeastRows$State" "timesMended" "I" : Cond) ∈ TBG := tbt_1 (List.mem_of_getElem? (i := 51) rfl) rfl
theorem q52 : (.fieldLink RX5 30 "LeastRows$State" "cells" "[I" : Cond) ∈ TBG := tbt_1 (List.mem_of_getElem? (i := 52) rfl) rfl
theorem q53 : (.fieldLink RX5 34 "LeastRows$State" "weights" "[I" : Cond) ∈ TBG := tbt_1 (List.mem_of_getElem? (i := 53) rfl) rfl
theorem q54 : (.arrayClass .int : Cond) ∈ TBG := tbt_1 (List.mem_of_getElem? (i := 71) rfl) rfl
theorem q55 : (.classLink RX7 16 RX3 : Cond) ∈ TBG := tbt_1 (List.mem_of_getElem? (i := 72) rfl) rfl
theorem q56 : (.instantiable RX3 5 : Cond) ∈ TBG := tbt_1 (List.mem_of_getElem? (i := 73) rfl) rfl
theorem q57 : (.methodLink RX7 18 yX3_init : Cond) ∈ TBG := tbt_1 (List.mem_of_getElem? (i := 74) rfl) rfl
theorem q58 : (.instanceMethod yX3_init : Cond) ∈ TBG := tbt_1 (List.mem_of_getElem? (i := 75) rfl) rfl
theorem q59 : (.code yX3_init cX3_init 2 none : Cond) ∈ TBG := tbt_1 (List.mem_of_getElem? (i := 76) rfl) rfl
theorem q60 : (.methodLink RX3 3 objectInit : Cond) ∈ TBG := tbt_1 (List.mem_of_getElem? (i := 77) rfl) rfl
theorem q61 : (.fieldLink RX3 9 "LeastRows$Rule" "row" "I" : Cond) ∈ TBG := tbt_1 (List.mem_of_getElem? (i := 78) rfl) rfl
theorem q62 : (.fieldLink RX7 124 "LeastRows$Rule" "row" "I" : Cond) ∈ TBG := tbt_1 (List.mem_of_getElem? (i := 79) rfl) rfl
theorem q63 : (.fieldLink RX3 15 "LeastRows$Rule" "left" "I" : Cond) ∈ TBG := tbt_1 (List.mem_of_getElem? (i := 80) rfl) rfl
theorem q64 : (.fieldLink RX7 130 "LeastRows$Rule" "left" "I" : Cond) ∈ TBG := tbt_1 (List.mem_of_getElem? (i := 81) rfl) rfl
theorem q65 : (.fieldLink RX3 18 "LeastRows$Rule" "right" "I" : Cond) ∈ TBG := tbt_1 (List.mem_of_getElem? (i := 82) rfl) rfl
theorem q66 : (.fieldLink RX7 127 "LeastRows$Rule" "right" "I" : Cond) ∈ TBG := tbt_1 (List.mem_of_getElem? (i := 83) rfl) rfl
theorem q67 : (.fieldLink RX3 21 "LeastRows$Rule" "witnesses" "I" : Cond) ∈ TBG := tbt_1 (List.mem_of_getElem? (i := 84) rfl) rfl
theorem q68 : (.fieldLink RX7 121 "LeastRows$Rule" "witnesses" "I" : Cond) ∈ TBG := tbt_1 (List.mem_of_getElem? (i := 85) rfl) rfl
theorem q69 : (.fieldLink RX3 24 "LeastRows$Rule" "table" "LLeastRows$State;" : Cond) ∈ TBG := tbt_1 (List.mem_of_getElem? (i := 86) rfl) rfl
theorem q70 : (.classLink RX7 25 RX1 : Cond) ∈ TBG := tbt_1 (List.mem_of_getElem? (i := 98) rfl) rfl
theorem q71 : (.instantiable RX1 7 : Cond) ∈ TBG := tbt_1 (List.mem_of_getElem? (i := 99) rfl) rfl
theorem q72 : (.methodLink RX7 27 yX1_init : Cond) ∈ TBG := tbt_1 (List.mem_of_getElem? (i := 100) rfl) rfl
theorem q73 : (.instanceMethod yX1_init : Cond) ∈ TBG := tbt_1 (List.mem_of_getElem? (i := 101) rfl) rfl
theorem q74 : (.code yX1_init cX1_init 2 none : Cond) ∈ TBG := tbt_1 (List.mem_of_getElem? (i := 102) rfl) rfl
theorem q75 : (.methodLink RX1 3 objectInit : Cond) ∈ TBG := tbt_1 (List.mem_of_getElem? (i := 103) rfl) rfl
theorem q76 : (.fieldLink RX1 31 "LeastRows$Finder" "table" "LLeastRows$State;" : Cond) ∈ TBG := tbt_1 (List.mem_of_getElem? (i := 104) rfl) rfl
theorem q77 : (.fieldLink RX1 9 "LeastRows$Finder" "places" "[I" : Cond) ∈ TBG := tbt_1 (List.mem_of_getElem? (i := 105) rfl) rfl
theorem q78 : (.fieldLink RX1 15 "LeastRows$Finder" "looksMade" "[I" : Cond) ∈ TBG := tbt_1 (List.mem_of_getElem? (i := 106) rfl) rfl
theorem q79 : (.fieldLink RX1 18 "LeastRows$Finder" "left" "[I" : Cond) ∈ TBG := tbt_1 (List.mem_of_getElem? (i := 107) rfl) rfl
theorem q80 : (.fieldLink RX1 21 "LeastRows$Finder" "leftCount" "[I" : Cond) ∈ TBG := tbt_1 (List.mem_of_getElem? (i := 108) rfl) rfl
theorem q81 : (.fieldLink RX1 24 "LeastRows$Finder" "way" "I" : Cond) ∈ TBG := tbt_1 (List.mem_of_getElem? (i := 109) rfl) rfl
theorem q82 : (.fieldLink RX1 28 "LeastRows$Finder" "looksNow" "I" : Cond) ∈ TBG := tbt_1 (List.mem_of_getElem? (i := 110) rfl) rfl
theorem q83 : (.classLink RX7 32 RX0 : Cond) ∈ TBG := tbt_1 (List.mem_of_getElem? (i := 126) rfl) rfl
theorem q84 : (.instantiable RX0 5 : Cond) ∈ TBG := tbt_1 (List.mem_of_getElem? (i := 127) rfl) rfl
theorem q85 : (.methodLink RX7 34 yX0_init : Cond) ∈ TBG := tbt_1 (List.mem_of_getElem? (i := 128) rfl) rfl
theorem q86 : (.instanceMethod yX0_init : Cond) ∈ TBG := tbt_1 (List.mem_of_getElem? (i := 129) rfl) rfl
theorem q87 : (.code yX0_init cX0_init 2 none : Cond) ∈ TBG := tbt_1 (List.mem_of_getElem? (i := 130) rfl) rfl
theorem q88 : (.methodLink RX0 3 objectInit : Cond) ∈ TBG := tbt_1 (List.mem_of_getElem? (i := 131) rfl) rfl
theorem q89 : (.fieldLink RX0 24 "LeastRows$Cutter" "state" "LLeastRows$State;" : Cond) ∈ TBG := tbt_1 (List.mem_of_getElem? (i := 132) rfl) rfl
theorem q90 : (.fieldLink RX0 11 "LeastRows$Cutter" "least" "[I" : Cond) ∈ TBG := tbt_1 (List.mem_of_getElem? (i := 133) rfl) rfl
theorem q91 : (.fieldLink RX0 15 "LeastRows$Cutter" "lastCut" "[I" : Cond) ∈ TBG := tbt_1 (List.mem_of_getElem? (i := 134) rfl) rfl
theorem q92 : (.fieldLink RX0 18 "LeastRows$Cutter" "firstTogether" "[I" : Cond) ∈ TBG := tbt_1 (List.mem_of_getElem? (i := 135) rfl) rfl
theorem q93 : (.fieldLink RX0 21 "LeastRows$Cutter" "tried" "[I" : Cond) ∈ TBG := tbt_1 (List.mem_of_getElem? (i := 136) rfl) rfl
theorem q94 : (.classLink RX7 39 RX6 : Cond) ∈ TBG := tbt_1 (List.mem_of_getElem? (i := 148) rfl) rfl
theorem q95 : (.instantiable RX6 8 : Cond) ∈ TBG := tbt_1 (List.mem_of_getElem? (i := 149) rfl) rfl
theorem q96 : (.methodLinkNest RX7 41 yX6_init RX7 : Cond) ∈ lw_tbl := tbl_1 (List.mem_of_getElem? (i := 150) rfl)
theorem q97 : (.instanceMethod yX6_init : Cond) ∈ TBG := tbt_1 (List.mem_of_getElem? (i := 151) rfl) rfl
theorem q98 : (.code yX6_init cX6_init 1 none : Cond) ∈ TBG := tbt_1 (List.mem_of_getElem? (i := 152) rfl) rfl
theorem q99 : (.methodLink RX6 3 objectInit : Cond) ∈ TBG := tbt_1 (List.mem_of_getElem? (i := 153) rfl) rfl
theorem q100 : (.fieldLink RX6 9 "LeastRows$Text" "length" "I" : Cond) ∈ TBG := tbt_1 (List.mem_of_getElem? (i := 154) rfl) rfl
theorem q101 : (.fieldLink RX7 181 "LeastRows$Text" "length" "I" : Cond) ∈ TBG := tbt_1 (List.mem_of_getElem? (i := 155) rfl) rfl
theorem q102 : (.fieldLink RX6 15 "LeastRows$Text" "codes" "[I" : Cond) ∈ TBG := tbt_1 (List.mem_of_getElem? (i := 156) rfl) rfl
theorem q103 : (.fieldLink RX6 19 "LeastRows$Text" "numbers" "[I" : Cond) ∈ TBG := tbt_1 (List.mem_of_getElem? (i := 157) rfl) rfl
theorem q104 : (.fieldLink RX6 22 "LeastRows$Text" "row" "I" : Cond) ∈ TBG := tbt_1 (List.mem_of_getElem? (i := 158) rfl) rfl
theorem q105 : (.fieldLink RX6 25 "LeastRows$Text" "column" "I" : Cond) ∈ TBG := tbt_1 (List.mem_of_getElem? (i := 159) rfl) rfl
theorem q106 : (.fieldLink RX6 28 "LeastRows$Text" "columnsOfFirst" "I" : Cond) ∈ TBG := tbt_1 (List.mem_of_getElem? (i := 160) rfl) rfl
theorem q107 : (.fieldLink RX6 31 "LeastRows$Text" "digits" "I" : Cond) ∈ TBG := tbt_1 (List.mem_of_getElem? (i := 161) rfl) rfl
theorem q108 : (.fieldLink RX6 34 "LeastRows$Text" "number" "I" : Cond) ∈ TBG := tbt_1 (List.mem_of_getElem? (i := 162) rfl) rfl
theorem q109 : (.classLink RX7 46 RX2 : Cond) ∈ TBG := tbt_1 (List.mem_of_getElem? (i := 180) rfl) rfl
theorem q110 : (.instantiable RX2 3 : Cond) ∈ TBG := tbt_1 (List.mem_of_getElem? (i := 181) rfl) rfl
theorem q111 : (.methodLink RX7 48 yX2_init : Cond) ∈ TBG := tbt_1 (List.mem_of_getElem? (i := 182) rfl) rfl
theorem q112 : (.instanceMethod yX2_init : Cond) ∈ TBG := tbt_1 (List.mem_of_getElem? (i := 183) rfl) rfl
theorem q113 : (.code yX2_init cX2_init 2 none : Cond) ∈ TBG := tbt_1 (List.mem_of_getElem? (i := 184) rfl) rfl
theorem q114 : (.methodLink RX2 3 objectInit : Cond) ∈ TBG := tbt_1 (List.mem_of_getElem? (i := 185) rfl) rfl
theorem q115 : (.classLink RX2 18 RX5 : Cond) ∈ TBG := tbt_1 (List.mem_of_getElem? (i := 186) rfl) rfl
theorem q116 : (.methodLink RX2 24 yX5_init : Cond) ∈ TBG := tbt_1 (List.mem_of_getElem? (i := 188) rfl) rfl
theorem q117 : (.fieldLink RX2 9 "LeastRows$History" "count" "I" : Cond) ∈ TBG := tbt_1 (List.mem_of_getElem? (i := 189) rfl) rfl
theorem q118 : (.fieldLink RX7 230 "LeastRows$History" "count" "I" : Cond) ∈ TBG := tbt_1 (List.mem_of_getElem? (i := 190) rfl) rfl
theorem q119 : (.fieldLink RX2 15 "LeastRows$History" "oldest" "I" : Cond) ∈ TBG := tbt_1 (List.mem_of_getElem? (i := 191) rfl) rfl
theorem q120 : (.fieldLink RX2 20 "LeastRows$History" "saved" "[LLeastRows$State;" : Cond) ∈ TBG := tbt_1 (List.mem_of_getElem? (i := 192) rfl) rfl
theorem q121 : (.classLink RX7 53 RX4 : Cond) ∈ TBG := tbt_1 (List.mem_of_getElem? (i := 200) rfl) rfl
theorem q122 : (.instantiable RX4 2 : Cond) ∈ TBG := tbt_1 (List.mem_of_getElem? (i := 201) rfl) rfl
theorem q123 : (.methodLinkNest RX7 55 yX4_init RX7 : Cond) ∈ lw_tbl := tbl_1 (List.mem_of_getElem? (i := 202) rfl)
theorem q124 : (.instanceMethod yX4_init : Cond) ∈ TBG := tbt_1 (List.mem_of_getElem? (i := 203) rfl) rfl
theorem q125 : (.code yX4_init cX4_init 1 none : Cond) ∈ TBG := tbt_1 (List.mem_of_getElem? (i := 204) rfl) rfl
theorem q126 : (.methodLink RX4 1 objectInit : Cond) ∈ TBG := tbt_1 (List.mem_of_getElem? (i := 205) rfl) rfl
theorem q127 : (.classLink RX4 13 RX5 : Cond) ∈ TBG := tbt_1 (List.mem_of_getElem? (i := 206) rfl) rfl
theorem q128 : (.methodLink RX4 15 yX5_init : Cond) ∈ TBG := tbt_1 (List.mem_of_getElem? (i := 207) rfl) rfl
theorem q129 : (.fieldLink RX4 7 "LeastRows$Slot" "isFilled" "Z" : Cond) ∈ TBG := tbt_1 (List.mem_of_getElem? (i := 208) rfl) rfl
theorem q130 : (.fieldLink RX7 218 "LeastRows$Slot" "isFilled" "Z" : Cond) ∈ TBG := tbt_1 (List.mem_of_getElem? (i := 209) rfl) rfl
theorem q131 : (.fieldLink RX4 16 "LeastRows$Slot" "snapshot" "LLeastRows$State;" : Cond) ∈ TBG := tbt_1 (List.mem_of_getElem? (i := 210) rfl) rfl
theorem q132 : (.fieldLink RX7 224 "LeastRows$Slot" "snapshot" "LLeastRows$State;" : Cond) ∈ TBG := tbt_1 (List.mem_of_getElem? (i := 211) rfl) rfl
theorem q133 : (.fieldLink RX7 10 "LeastRows" "now" "LLeastRows$State;" : Cond) ∈ TBG := tbt_1 (List.mem_of_getElem? (i := 217) rfl) rfl
theorem q134 : (.fieldLink RX7 21 "LeastRows" "rule" "LLeastRows$Rule;" : Cond) ∈ TBG := tbt_1 (List.mem_of_getElem? (i := 218) rfl) rfl
theorem q135 : (.fieldLink RX7 28 "LeastRows" "finder" "LLeastRows$Finder;" : Cond) ∈ TBG := tbt_1 (List.mem_of_getElem? (i := 219) rfl) rfl
theorem q136 : (.fieldLink RX7 35 "LeastRows" "cutter" "LLeastRows$Cutter;" : Cond) ∈ TBG := tbt_1 (List.mem_of_getElem? (i := 220) rfl) rfl
theorem q137 : (.fieldLink RX7 42 "LeastRows" "text" "LLeastRows$Text;" : Cond) ∈ TBG := tbt_1 (List.mem_of_getElem? (i := 221) rfl) rfl
theorem q138 : (.fieldLink RX7 49 "LeastRows" "history" "LLeastRows$History;" : Cond) ∈ TBG := tbt_1 (List.mem_of_getElem? (i := 222) rfl) rfl
theorem q139 : (.fieldLink RX7 56 "LeastRows" "slotZero" "LLeastRows$Slot;" : Cond) ∈ TBG := tbt_1 (List.mem_of_getElem? (i := 223) rfl) rfl
theorem q140 : (.fieldLink RX7 60 "LeastRows" "slotOne" "LLeastRows$Slot;" : Cond) ∈ TBG := tbt_1 (List.mem_of_getElem? (i := 224) rfl) rfl
theorem q141 : (.methodLink RL 101 yX7_mend : Cond) ∈ TBG := tbt_2 (List.mem_of_getElem? (i := 2) rfl) rfl
theorem q142 : (.instanceMethod yX7_mend : Cond) ∈ TBG := tbt_2 (List.mem_of_getElem? (i := 3) rfl) rfl
theorem q143 : (.selects RX7 yX7_mend yX7_mend : Cond) ∈ TBG := tbt_2 (List.mem_of_getElem? (i := 4) rfl) rfl
theorem q144 : (.code yX7_mend cX7_mend 2 (some .int) : Cond) ∈ TBG := tbt_2 (List.mem_of_getElem? (i := 5) rfl) rfl
theorem q145 : (.methodLink RX7 74 yX2_save : Cond) ∈ TBG := tbt_2 (List.mem_of_getElem? (i := 6) rfl) rfl
theorem q146 : (.instanceMethod yX2_save : Cond) ∈ TBG := tbt_2 (List.mem_of_getElem? (i := 7) rfl) rfl
theorem q147 : (.selects RX2 yX2_save yX2_save : Cond) ∈ TBG := tbt_2 (List.mem_of_getElem? (i := 8) rfl) rfl
theorem q148 : (.code yX2_save cX2_save 3 none : Cond) ∈ TBG := tbt_2 (List.mem_of_getElem? (i := 9) rfl) rfl
theorem q149 : (.methodLink RX2 25 yX2_stateAt : Cond) ∈ TBG := tbt_2 (List.mem_of_getElem? (i := 10) rfl) rfl
theorem q150 : (.instanceMethod yX2_stateAt : Cond) ∈ TBG := tbt_2 (List.mem_of_getElem? (i := 12) rfl) rfl
theorem q151 : (.code yX2_stateAt cX2_stateAt 3 (some (.object "LeastRows$State")) : Cond) ∈ TBG := tbt_2 (List.mem_of_getElem? (i := 13) rfl) rfl
theorem q152 : (.methodLink RX2 29 yX5_copyFrom : Cond) ∈ TBG := tbt_2 (List.mem_of_getElem? (i := 14) rfl) rfl
theorem q153 : (.instanceMethod yX5_copyFrom : Cond) ∈ TBG := tbt_2 (List.mem_of_getElem? (i := 15) rfl) rfl
theorem q154 : (.selects RX5 yX5_copyFrom yX5_copyFrom : Cond) ∈ TBG := tbt_2 (List.mem_of_getElem? (i := 16) rfl) rfl
theorem q155 : (.code yX5_copyFrom cX5_copyFrom 2 none : Cond) ∈ TBG := tbt_2 (List.mem_of_getElem? (i := 17) rfl) rfl
theorem q156 : (.methodLinkNest RX5 53 yX7_copyAll RX7 : Cond) ∈ lw_tbl := tbl_2 (List.mem_of_getElem? (i := 18) rfl)
theorem q157 : (.static yX7_copyAll : Cond) ∈ TBG := tbt_2 (List.mem_of_getElem? (i := 19) rfl) rfl
theorem q158 : (.code yX7_copyAll cX7_copyAll 3 none : Cond) ∈ TBG := tbt_2 (List.mem_of_getElem? (i := 20) rfl) rfl
theorem q159 : (.methodLink RX7 118 yX3_examine : Cond) ∈ TBG := tbt_2 (List.mem_of_getElem? (i := 21) rfl) rfl
theorem q160 : (.instanceMethod yX3_examine : Cond) ∈ TBG := tbt_2 (List.mem_of_getElem? (i := 22) rfl) rfl
theorem q161 : (.selects RX3 yX3_examine yX3_examine : Cond) ∈ TBG := tbt_2 (List.mem_of_getElem? (i := 23) rfl) rfl
theorem q162 : (.code yX3_examine cX3_examine 4 none : Cond) ∈ TBG := tbt_2 (List.mem_of_getElem? (i := 24) rfl) rfl
theorem q163 : (.methodLink RX3 39 yX3_isGreater : Cond) ∈ TBG := tbt_2 (List.mem_of_getElem? (i := 25) rfl) rfl
theorem q164 : (.instanceMethod yX3_isGreater : Cond) ∈ TBG := tbt_2 (List.mem_of_getElem? (i := 27) rfl) rfl
theorem q165 : (.code yX3_isGreater cX3_isGreater 4 (some .boolean) : Cond) ∈ TBG := tbt_2 (List.mem_of_getElem? (i := 28) rfl) rfl
theorem q166 : (.methodLink RX3 47 yX5_numberAt : Cond) ∈ TBG := tbt_2 (List.mem_of_getElem? (i := 29) rfl) rfl
theorem q167 : (.instanceMethod yX5_numberAt : Cond) ∈ TBG := tbt_2 (List.mem_of_getElem? (i := 30) rfl) rfl
theorem q168 : (.selects RX5 yX5_numberAt yX5_numberAt : Cond) ∈ TBG := tbt_2 (List.mem_of_getElem? (i := 31) rfl) rfl
theorem q169 : (.code yX5_numberAt cX5_numberAt 4 (some .int) : Cond) ∈ TBG := tbt_2 (List.mem_of_getElem? (i := 32) rfl) rfl
theorem q170 : (.methodLink RX3 43 yX3_note : Cond) ∈ TBG := tbt_2 (List.mem_of_getElem? (i := 33) rfl) rfl
theorem q171 : (.instanceMethod yX3_note : Cond) ∈ TBG := tbt_2 (List.mem_of_getElem? (i := 35) rfl) rfl
theorem q172 : (.code yX3_note cX3_note 4 none : Cond) ∈ TBG := tbt_2 (List.mem_of_getElem? (i := 36) rfl) rfl
theorem q173 : (.methodLink RX7 99 yX5_numberAt : Cond) ∈ TBG := tbt_2 (List.mem_of_getElem? (i := 37) rfl) rfl
theorem q174 : (.methodLink RX7 103 yX5_setNumber : Cond) ∈ TBG := tbt_2 (List.mem_of_getElem? (i := 38) rfl) rfl
theorem q175 : (.instanceMethod yX5_setNumber : Cond) ∈ TBG := tbt_2 (List.mem_of_getElem? (i := 39) rfl) rfl
theorem q176 : (.selects RX5 yX5_setNumber yX5_setNumber : Cond) ∈ TBG := tbt_2 (List.mem_of_getElem? (i := 40) rfl) rfl
theorem q177 : (.code yX5_setNumber cX5_setNumber 4 none : Cond) ∈ TBG := tbt_2 (List.mem_of_getElem? (i := 41) rfl) rfl
theorem q178 : (.methodLink RL 119 yX7_clearBuffer : Cond) ∈ TBG := tbt_2 (List.mem_of_getElem? (i := 42) rfl) rfl
theorem q179 : (.instanceMethod yX7_clearBuffer : Cond) ∈ TBG := tbt_2 (List.mem_of_getElem? (i := 43) rfl) rfl
theorem q180 : (.selects RX7 yX7_clearBuffer yX7_clearBuffer : Cond) ∈ TBG := tbt_2 (List.mem_of_getElem? (i := 44) rfl) rfl
theorem q181 : (.code yX7_clearBuffer cX7_clearBuffer 2 (some .int) : Cond) ∈ TBG := tbt_2 (List.mem_of_getElem? (i := 45) rfl) rfl
theorem q182 : (.methodLink RX7 189 yX6_clear : Cond) ∈ TBG := tbt_2 (List.mem_of_getElem? (i := 46) rfl) rfl
theorem q183 : (.instanceMethod yX6_clear : Cond) ∈ TBG := tbt_2 (List.mem_of_getElem? (i := 47) rfl) rfl
theorem q184 : (.selects RX6 yX6_clear yX6_clear : Cond) ∈ TBG := tbt_2 (List.mem_of_getElem? (i := 48) rfl) rfl
theorem q185 : (.code yX6_clear cX6_clear 1 none : Cond) ∈ TBG := tbt_2 (List.mem_of_getElem? (i := 49) rfl) rfl
theorem q186 : (.methodLink RL 123 yX7_firstError : Cond) ∈ TBG := tbt_2 (List.mem_of_getElem? (i := 50) rfl) rfl
theorem q187 : (.instanceMethod yX7_firstError : Cond) ∈ TBG := tbt_2 (List.mem_of_getElem? (i := 51) rfl) rfl
theorem q188 : (.selects RX7 yX7_firstError yX7_firstError : Cond) ∈ TBG := tbt_2 (List.mem_of_getElem? (i := 52) rfl) rfl
theorem q189 : (.code yX7_firstError cX7_firstError 1 (some .int) : Cond) ∈ TBG := tbt_2 (List.mem_of_getElem? (i := 53) rfl) rfl
theorem q190 : (.methodLink RX7 192 yX6_readToError : Cond) ∈ TBG := tbt_2 (List.mem_of_getElem? (i := 54) rfl) rfl
theorem q191 : (.instanceMethod yX6_readToError : Cond) ∈ TBG := tbt_2 (List.mem_of_getElem? (i := 55) rfl) rfl
theorem q192 : (.selects RX6 yX6_readToError yX6_readToError : Cond) ∈ TBG := tbt_2 (List.mem_of_getElem? (i := 56) rfl) rfl
theorem q193 : (.code yX6_readToError cX6_readToError 2 (some .int) : Cond) ∈ TBG := tbt_2 (List.mem_of_getElem? (i := 57) rfl) rfl
theorem q194 : (.methodLink RX6 45 yX6_codeAt : Cond) ∈ TBG := tbt_2 (List.mem_of_getElem? (i := 58) rfl) rfl
theorem q195 : (.instanceMethod yX6_codeAt : Cond) ∈ TBG := tbt_2 (List.mem_of_getElem? (i := 59) rfl) rfl
theorem q196 : (.selects RX6 yX6_codeAt yX6_codeAt : Cond) ∈ TBG := tbt_2 (List.mem_of_getElem? (i := 60) rfl) rfl
theorem q197 : (.code yX6_codeAt cX6_codeAt 2 (some .int) : Cond) ∈ TBG := tbt_2 (List.mem_of_getElem? (i := 61) rfl) rfl
theorem q198 : (.methodLinkNest RX6 41 yX7_numberIn RX7 : Cond) ∈ lw_tbl := tbl_2 (List.mem_of_getElem? (i := 62) rfl)
theorem q199 : (.static yX7_numberIn : Cond) ∈ TBG := tbt_2 (List.mem_of_getElem? (i := 63) rfl) rfl
theorem q200 : (.code yX7_numberIn cX7_numberIn 2 (some .int) : Cond) ∈ TBG := tbt_2 (List.mem_of_getElem? (i := 64) rfl) rfl
theorem q201 : (.methodLink RX6 49 yX6_takes : Cond) ∈ TBG := tbt_2 (List.mem_of_getElem? (i := 65) rfl) rfl
theorem q202 : (.instanceMethod yX6_takes : Cond) ∈ TBG := tbt_2 (List.mem_of_getElem? (i := 67) rfl) rfl
theorem q203 : (.code yX6_takes cX6_takes 2 (some .boolean) : Cond) ∈ TBG := tbt_2 (List.mem_of_getElem? (i := 68) rfl) rfl
theorem q204 : (.methodLinkNest RX6 61 yX7_isFromTo RX7 : Cond) ∈ lw_tbl := tbl_2 (List.mem_of_getElem? (i := 69) rfl)
theorem q205 : (.static yX7_isFromTo : Cond) ∈ TBG := tbt_2 (List.mem_of_getElem? (i := 70) rfl) rfl
theorem q206 : (.code yX7_isFromTo cX7_isFromTo 3 (some .boolean) : Cond) ∈ TBG := tbt_2 (List.mem_of_getElem? (i := 71) rfl) rfl
theorem q207 : (.methodLink RX6 65 yX6_takesDigit : Cond) ∈ TBG := tbt_2 (List.mem_of_getElem? (i := 72) rfl) rfl
theorem q208 : (.instanceMethod yX6_takesDigit : Cond) ∈ TBG := tbt_2 (List.mem_of_getElem? (i := 74) rfl) rfl
theorem q209 : (.code yX6_takesDigit cX6_takesDigit 3 (some .boolean) : Cond) ∈ TBG := tbt_2 (List.mem_of_getElem? (i := 75) rfl) rfl
theorem q210 : (.methodLinkNest RX6 37 yX7_setIn RX7 : Cond) ∈ lw_tbl := tbl_2 (List.mem_of_getElem? (i := 76) rfl)
theorem q211 : (.methodLink RX6 68 yX6_takesComma : Cond) ∈ TBG := tbt_2 (List.mem_of_getElem? (i := 77) rfl) rfl
theorem q212 : (.instanceMethod yX6_takesComma : Cond) ∈ TBG := tbt_2 (List.mem_of_getElem? (i := 79) rfl) rfl
theorem q213 : (.code yX6_takesComma cX6_takesComma 1 (some .boolean) : Cond) ∈ TBG := tbt_2 (List.mem_of_getElem? (i := 80) rfl) rfl
theorem q214 : (.methodLink RX6 71 yX6_takesSlash : Cond) ∈ TBG := tbt_2 (List.mem_of_getElem? (i := 81) rfl) rfl
theorem q215 : (.instanceMethod yX6_takesSlash : Cond) ∈ TBG := tbt_2 (List.mem_of_getElem? (i := 83) rfl) rfl
theorem q216 : (.code yX6_takesSlash cX6_takesSlash 1 (some .boolean) : Cond) ∈ TBG := tbt_2 (List.mem_of_getElem? (i := 84) rfl) rfl
theorem q217 : (.methodLink RX6 57 yX6_isRowFull : Cond) ∈ TBG := tbt_2 (List.mem_of_getElem? (i := 85) rfl) rfl
theorem q218 : (.instanceMethod yX6_isRowFull : Cond) ∈ TBG := tbt_2 (List.mem_of_getElem? (i := 87) rfl) rfl
theorem q219 : (.code yX6_isRowFull cX6_isRowFull 1 (some .boolean) : Cond) ∈ TBG := tbt_2 (List.mem_of_getElem? (i := 88) rfl) rfl
theorem q220 : (.methodLink RL 148 yX7_bound : Cond) ∈ TBG := tbt_2 (List.mem_of_getElem? (i := 89) rfl) rfl
theorem q221 : (.instanceMethod yX7_bound : Cond) ∈ TBG := tbt_2 (List.mem_of_getElem? (i := 90) rfl) rfl
theorem q222 : (.selects RX7 yX7_bound yX7_bound : Cond) ∈ TBG := tbt_2 (List.mem_of_getElem? (i := 91) rfl) rfl
theorem q223 : (.code yX7_bound cX7_bound 3 (some .int) : Cond) ∈ TBG := tbt_2 (List.mem_of_getElem? (i := 92) rfl) rfl
theorem q224 : (.methodLink RL 170 yX7_halfShare : Cond) ∈ TBG := tbt_2 (List.mem_of_getElem? (i := 93) rfl) rfl
theorem q225 : (.instanceMethod yX7_halfShare : Cond) ∈ TBG := tbt_2 (List.mem_of_getElem? (i := 94) rfl) rfl
theorem q226 : (.selects RX7 yX7_halfShare yX7_halfShare : Cond) ∈ TBG := tbt_2 (List.mem_of_getElem? (i := 95) rfl) rfl
theorem q227 : (.code yX7_halfShare cX7_halfShare 1 (some .double) : Cond) ∈ TBG := tbt_2 (List.mem_of_getElem? (i := 96) rfl) rfl
theorem q228 : (.methodLink RX7 114 yX3_isKept : Cond) ∈ TBG := tbt_2 (List.mem_of_getElem? (i := 97) rfl) rfl
theorem q229 : (.instanceMethod yX3_isKept : Cond) ∈ TBG := tbt_2 (List.mem_of_getElem? (i := 98) rfl) rfl
theorem q230 : (.selects RX3 yX3_isKept yX3_isKept : Cond) ∈ TBG := tbt_2 (List.mem_of_getElem? (i := 99) rfl) rfl
theorem q231 : (.code yX3_isKept cX3_isKept 1 (some .boolean) : Cond) ∈ TBG := tbt_2 (List.mem_of_getElem? (i := 100) rfl) rfl
theorem q232 : (.methodLink RX3 28 yX3_examine : Cond) ∈ TBG := tbt_2 (List.mem_of_getElem? (i := 101) rfl) rfl
theorem q233 : (.methodLink RX7 150 yX1_seek : Cond) ∈ TBG := tbt_2 (List.mem_of_getElem? (i := 102) rfl) rfl
theorem q234 : (.instanceMethod yX1_seek : Cond) ∈ TBG := tbt_2 (List.mem_of_getElem? (i := 103) rfl) rfl
theorem q235 : (.selects RX1 yX1_seek yX1_seek : Cond) ∈ TBG := tbt_2 (List.mem_of_getElem? (i := 104) rfl) rfl
theorem q236 : (.code yX1_seek cX1_seek 3 none : Cond) ∈ TBG := tbt_2 (List.mem_of_getElem? (i := 105) rfl) rfl
theorem q237 : (.methodLink RX1 35 yX1_leaveAllColumns : Cond) ∈ TBG := tbt_2 (List.mem_of_getElem? (i := 106) rfl) rfl
theorem q238 : (.instanceMethod yX1_leaveAllColumns : Cond) ∈ TBG := tbt_2 (List.mem_of_getElem? (i := 108) rfl) rfl
theorem q239 : (.code yX1_leaveAllColumns cX1_leaveAllColumns 2 none : Cond) ∈ TBG := tbt_2 (List.mem_of_getElem? (i := 109) rfl) rfl
theorem q240 : (.methodLinkNest RX1 60 yX7_setIn RX7 : Cond) ∈ lw_tbl := tbl_2 (List.mem_of_getElem? (i := 110) rfl)
theorem q241 : (.methodLink RX1 46 yX1_halve : Cond) ∈ TBG := tbt_2 (List.mem_of_getElem? (i := 111) rfl) rfl
theorem q242 : (.static yX1_halve : Cond) ∈ TBG := tbt_2 (List.mem_of_getElem? (i := 112) rfl) rfl
theorem q243 : (.code yX1_halve cX1_halve 8 none : Cond) ∈ TBG := tbt_2 (List.mem_of_getElem? (i := 113) rfl) rfl
theorem q244 : (.methodLink RX1 76 yX1_leftmostLeast : Cond) ∈ TBG := tbt_2 (List.mem_of_getElem? (i := 114) rfl) rfl
theorem q245 : (.instanceMethod yX1_leftmostLeast : Cond) ∈ TBG := tbt_2 (List.mem_of_getElem? (i := 116) rfl) rfl
theorem q246 : (.code yX1_leftmostLeast cX1_leftmostLeast 11 (some .int) : Cond) ∈ TBG := tbt_2 (List.mem_of_getElem? (i := 117) rfl) rfl
theorem q247 : (.methodLinkNest RX1 64 yX7_numberIn RX7 : Cond) ∈ lw_tbl := tbl_2 (List.mem_of_getElem? (i := 118) rfl)
theorem q248 : (.methodLink RX1 87 yX1_columnLeft : Cond) ∈ TBG := tbt_2 (List.mem_of_getElem? (i := 119) rfl) rfl
theorem q249 : (.instanceMethod yX1_columnLeft : Cond) ∈ TBG := tbt_2 (List.mem_of_getElem? (i := 121) rfl) rfl
theorem q250 : (.code yX1_columnLeft cX1_columnLeft 3 (some .int) : Cond) ∈ TBG := tbt_2 (List.mem_of_getElem? (i := 122) rfl) rfl
theorem q251 : (.methodLinkNest RX1 100 yX7_isFromTo RX7 : Cond) ∈ lw_tbl := tbl_2 (List.mem_of_getElem? (i := 123) rfl)
theorem q252 : (.methodLink RX1 97 yX1_look : Cond) ∈ TBG := tbt_2 (List.mem_of_getElem? (i := 124) rfl) rfl
theorem q253 : (.instanceMethod yX1_look : Cond) ∈ TBG := tbt_2 (List.mem_of_getElem? (i := 126) rfl) rfl
theorem q254 : (.code yX1_look cX1_look 3 (some .int) : Cond) ∈ TBG := tbt_2 (List.mem_of_getElem? (i := 127) rfl) rfl
theorem q255 : (.methodLink RX1 104 yX5_numberAt : Cond) ∈ TBG := tbt_2 (List.mem_of_getElem? (i := 128) rfl) rfl
theorem q256 : (.methodLink RX1 80 yX1_setPlace : Cond) ∈ TBG := tbt_2 (List.mem_of_getElem? (i := 129) rfl) rfl
theorem q257 : (.instanceMethod yX1_setPlace : Cond) ∈ TBG := tbt_2 (List.mem_of_getElem? (i := 131) rfl) rfl
theorem q258 : (.code yX1_setPlace cX1_setPlace 3 none : Cond) ∈ TBG := tbt_2 (List.mem_of_getElem? (i := 132) rfl) rfl
theorem q259 : (.methodLink RX1 50 yX1_pileColumns : Cond) ∈ TBG := tbt_2 (List.mem_of_getElem? (i := 133) rfl) rfl
theorem q260 : (.instanceMethod yX1_pileColumns : Cond) ∈ TBG := tbt_2 (List.mem_of_getElem? (i := 135) rfl) rfl
theorem q261 : (.code yX1_pileColumns cX1_pileColumns 7 none : Cond) ∈ TBG := tbt_2 (List.mem_of_getElem? (i := 136) rfl) rfl
theorem q262 : (.methodLink RX1 84 yX1_rowsAt : Cond) ∈ TBG := tbt_2 (List.mem_of_getElem? (i := 137) rfl) rfl
theorem q263 : (.instanceMethod yX1_rowsAt : Cond) ∈ TBG := tbt_2 (List.mem_of_getElem? (i := 139) rfl) rfl
theorem q264 : (.code yX1_rowsAt cX1_rowsAt 2 (some .int) : Cond) ∈ TBG := tbt_2 (List.mem_of_getElem? (i := 140) rfl) rfl
theorem q265 : (.methodLink RX1 90 yX1_heightAfterThrowing : Cond) ∈ TBG := tbt_2 (List.mem_of_getElem? (i := 141) rfl) rfl
theorem q266 : (.instanceMethod yX1_heightAfterThrowing : Cond) ∈ TBG := tbt_2 (List.mem_of_getElem? (i := 143) rfl) rfl
theorem q267 : (.code yX1_heightAfterThrowing cX1_heightAfterThrowing 8 (some .int) : Cond) ∈ TBG := tbt_2 (List.mem_of_getElem? (i := 144) rfl) rfl
theorem q268 : (.methodLink RX1 94 yX1_rowAt : Cond) ∈ TBG := tbt_2 (List.mem_of_getElem? (i := 145) rfl) rfl
theorem q269 : (.instanceMethod yX1_rowAt : Cond) ∈ TBG := tbt_2 (List.mem_of_getElem? (i := 147) rfl) rfl
theorem q270 : (.code yX1_rowAt cX1_rowAt 3 (some .int) : Cond) ∈ TBG := tbt_2 (List.mem_of_getElem? (i := 148) rfl) rfl
theorem q271 : (.methodLink RX1 54 yX1_fillBetween : Cond) ∈ TBG := tbt_2 (List.mem_of_getElem? (i := 149) rfl) rfl
theorem q272 : (.instanceMethod yX1_fillBetween : Cond) ∈ TBG := tbt_2 (List.mem_of_getElem? (i := 151) rfl) rfl
theorem q273 : (.code yX1_fillBetween cX1_fillBetween 7 none : Cond) ∈ TBG := tbt_2 (List.mem_of_getElem? (i := 152) rfl) rfl
theorem q274 : (.methodLink RX1 68 yX1_placeBy : Cond) ∈ TBG := tbt_2 (List.mem_of_getElem? (i := 153) rfl) rfl
theorem q275 : (.instanceMethod yX1_placeBy : Cond) ∈ TBG := tbt_2 (List.mem_of_getElem? (i := 154) rfl) rfl
theorem q276 : (.selects RX1 yX1_placeBy yX1_placeBy : Cond) ∈ TBG := tbt_2 (List.mem_of_getElem? (i := 155) rfl) rfl
theorem q277 : (.code yX1_placeBy cX1_placeBy 3 (some .int) : Cond) ∈ TBG := tbt_2 (List.mem_of_getElem? (i := 156) rfl) rfl
theorem q278 : (.methodLink RX1 57 yX1_lookAtAll : Cond) ∈ TBG := tbt_2 (List.mem_of_getElem? (i := 157) rfl) rfl
theorem q279 : (.instanceMethod yX1_lookAtAll : Cond) ∈ TBG := tbt_2 (List.mem_of_getElem? (i := 159) rfl) rfl
theorem q280 : (.code yX1_lookAtAll cX1_lookAtAll 2 none : Cond) ∈ TBG := tbt_2 (List.mem_of_getElem? (i := 160) rfl) rfl
theorem q281 : (.methodLink RX7 281 yX1_shareOfHalves : Cond) ∈ TBG := tbt_2 (List.mem_of_getElem? (i := 161) rfl) rfl
theorem q282 : (.instanceMethod yX1_shareOfHalves : Cond) ∈ TBG := tbt_2 (List.mem_of_getElem? (i := 162) rfl) rfl
theorem q283 : (.selects RX1 yX1_shareOfHalves yX1_shareOfHalves : Cond) ∈ TBG := tbt_2 (List.mem_of_getElem? (i := 163) rfl) rfl
theorem q284 : (.code yX1_shareOfHalves cX1_shareOfHalves 2 (some .double) : Cond) ∈ TBG := tbt_2 (List.mem_of_getElem? (i := 164) rfl) rfl
theorem q285 : (.methodLink RX1 72 yX1_looksBy : Cond) ∈ TBG := tbt_2 (List.mem_of_getElem? (i := 165) rfl) rfl
theorem q286 : (.instanceMethod yX1_looksBy : Cond) ∈ TBG := tbt_2 (List.mem_of_getElem? (i := 166) rfl) rfl
theorem q287 : (.selects RX1 yX1_looksBy yX1_looksBy : Cond) ∈ TBG := tbt_2 (List.mem_of_getElem? (i := 167) rfl) rfl
theorem q288 : (.code yX1_looksBy cX1_looksBy 2 (some .int) : Cond) ∈ TBG := tbt_2 (List.mem_of_getElem? (i := 168) rfl) rfl
theorem q289 : (.methodLink RL 175 yX7_digest : Cond) ∈ TBG := tbt_2 (List.mem_of_getElem? (i := 169) rfl) rfl
theorem q290 : (.instanceMethod yX7_digest : Cond) ∈ TBG := tbt_2 (List.mem_of_getElem? (i := 170) rfl) rfl
theorem q291 : (.selects RX7 yX7_digest yX7_digest : Cond) ∈ TBG := tbt_2 (List.mem_of_getElem? (i := 171) rfl) rfl
theorem q292 : (.code yX7_digest cX7_digest 4 (some .long) : Cond) ∈ TBG := tbt_2 (List.mem_of_getElem? (i := 172) rfl) rfl
theorem q293 : (.constantLong RX7 285 (3613) : Cond) ∈ TBG := tbt_2 (List.mem_of_getElem? (i := 173) rfl) rfl
theorem q294 : (.methodLink RX7 251 yX7_counted : Cond) ∈ TBG := tbt_2 (List.mem_of_getElem? (i := 174) rfl) rfl
theorem q295 : (.instanceMethod yX7_counted : Cond) ∈ TBG := tbt_2 (List.mem_of_getElem? (i := 176) rfl) rfl
theorem q296 : (.code yX7_counted cX7_counted 2 (some .int) : Cond) ∈ TBG := tbt_2 (List.mem_of_getElem? (i := 177) rfl) rfl
theorem q297 : (.methodLink RX7 314 yX5_weightsTogether : Cond) ∈ TBG := tbt_2 (List.mem_of_getElem? (i := 178) rfl) rfl
theorem q298 : (.instanceMethod yX5_weightsTogether : Cond) ∈ TBG := tbt_2 (List.mem_of_getElem? (i := 179) rfl) rfl
theorem q299 : (.selects RX5 yX5_weightsTogether yX5_weightsTogether : Cond) ∈ TBG := tbt_2 (List.mem_of_getElem? (i := 180) rfl) rfl
theorem q300 : (.code yX5_weightsTogether cX5_weightsTogether 3 (some .int) : Cond) ∈ TBG := tbt_2 (List.mem_of_getElem? (i := 181) rfl) rfl
theorem q301 : (.methodLink RX5 49 yX5_weightAt : Cond) ∈ TBG := tbt_2 (List.mem_of_getElem? (i := 182) rfl) rfl
theorem q302 : (.instanceMethod yX5_weightAt : Cond) ∈ TBG := tbt_2 (List.mem_of_getElem? (i := 183) rfl) rfl
theorem q303 : (.selects RX5 yX5_weightAt yX5_weightAt : Cond) ∈ TBG := tbt_2 (List.mem_of_getElem? (i := 184) rfl) rfl
theorem q304 : (.code yX5_weightAt cX5_weightAt 2 (some .int) : Cond) ∈ TBG := tbt_2 (List.mem_of_getElem? (i := 185) rfl) rfl
theorem q305 : (.methodLinkNest RX5 45 yX7_numberIn RX7 : Cond) ∈ lw_tbl := tbl_2 (List.mem_of_getElem? (i := 186) rfl)
theorem q306 : (.methodLink RX7 317 yX1_placesGoneBack : Cond) ∈ TBG := tbt_2 (List.mem_of_getElem? (i := 187) rfl) rfl
theorem q307 : (.instanceMethod yX1_placesGoneBack : Cond) ∈ TBG := tbt_2 (List.mem_of_getElem? (i := 188) rfl) rfl
theorem q308 : (.selects RX1 yX1_placesGoneBack yX1_placesGoneBack : Cond) ∈ TBG := tbt_2 (List.mem_of_getElem? (i := 189) rfl) rfl
theorem q309 : (.code yX1_placesGoneBack cX1_placesGoneBack 3 (some .int) : Cond) ∈ TBG := tbt_2 (List.mem_of_getElem? (i := 190) rfl) rfl
theorem q310 : (.methodLink RX7 287 yX7_mixed : Cond) ∈ TBG := tbt_2 (List.mem_of_getElem? (i := 191) rfl) rfl
theorem q311 : (.static yX7_mixed : Cond) ∈ TBG := tbt_2 (List.mem_of_getElem? (i := 192) rfl) rfl
theorem q312 : (.code yX7_mixed cX7_mixed 4 (some .long) : Cond) ∈ TBG := tbt_2 (List.mem_of_getElem? (i := 193) rfl) rfl
theorem q313 : (.constantLong RX7 320 (31) : Cond) ∈ TBG := tbt_2 (List.mem_of_getElem? (i := 194) rfl) rfl
theorem q314 : (.methodLink RX7 291 yX7_mixedCells : Cond) ∈ TBG := tbt_2 (List.mem_of_getElem? (i := 195) rfl) rfl
theorem q315 : (.instanceMethod yX7_mixedCells : Cond) ∈ TBG := tbt_2 (List.mem_of_getElem? (i := 197) rfl) rfl
theorem q316 : (.code yX7_mixedCells cX7_mixedCells 7 (some .long) : Cond) ∈ TBG := tbt_2 (List.mem_of_getElem? (i := 198) rfl) rfl
theorem q317 : (.methodLink RX7 295 yX7_seekByAllWays : Cond) ∈ TBG := tbt_2 (List.mem_of_getElem? (i := 199) rfl) rfl
theorem q318 : (.instanceMethod yX7_seekByAllWays : Cond) ∈ TBG := tbt_2 (List.mem_of_getElem? (i := 201) rfl) rfl
theorem q319 : (.code yX7_seekByAllWays cX7_seekByAllWays 2 none : Cond) ∈ TBG := tbt_2 (List.mem_of_getElem? (i := 202) rfl) rfl
theorem q320 : (.methodLink RX7 322 yX1_tellNothing : Cond) ∈ TBG := tbt_2 (List.mem_of_getElem? (i := 203) rfl) rfl
theorem q321 : (.instanceMethod yX1_tellNothing : Cond) ∈ TBG := tbt_2 (List.mem_of_getElem? (i := 204) rfl) rfl
theorem q322 : (.selects RX1 yX1_tellNothing yX1_tellNothing : Cond) ∈ TBG := tbt_2 (List.mem_of_getElem? (i := 205) rfl) rfl
theorem q323 : (.code yX1_tellNothing cX1_tellNothing 3 none : Cond) ∈ TBG := tbt_2 (List.mem_of_getElem? (i := 206) rfl) rfl
theorem q324 : (.methodLink RX7 298 yX7_mixedPlaces : Cond) ∈ TBG := tbt_2 (List.mem_of_getElem? (i := 207) rfl) rfl
theorem q325 : (.instanceMethod yX7_mixedPlaces : Cond) ∈ TBG := tbt_2 (List.mem_of_getElem? (i := 209) rfl) rfl
theorem q326 : (.code yX7_mixedPlaces cX7_mixedPlaces 7 (some .long) : Cond) ∈ TBG := tbt_2 (List.mem_of_getElem? (i := 210) rfl) rfl
theorem q327 : (.methodLink RX7 241 yX1_placeBy : Cond) ∈ TBG := tbt_2 (List.mem_of_getElem? (i := 211) rfl) rfl
theorem q328 : (.methodLink RX7 154 yX1_looksBy : Cond) ∈ TBG := tbt_2 (List.mem_of_getElem? (i := 212) rfl) rfl
theorem q329 : (.methodLink RX7 325 yX7_bound : Cond) ∈ TBG := tbt_2 (List.mem_of_getElem? (i := 213) rfl) rfl
theorem q330 : (.methodLink RX7 246 yX3_told : Cond) ∈ TBG := tbt_2 (List.mem_of_getElem? (i := 214) rfl) rfl
theorem q331 : (.instanceMethod yX3_told : Cond) ∈ TBG := tbt_2 (List.mem_of_getElem? (i := 215) rfl) rfl
theorem q332 : (.selects RX3 yX3_told yX3_told : Cond) ∈ TBG := tbt_2 (List.mem_of_getElem? (i := 216) rfl) rfl
theorem q333 : (.code yX3_told cX3_told 2 (some .int) : Cond) ∈ TBG := tbt_2 (List.mem_of_getElem? (i := 217) rfl) rfl
theorem q334 : (.methodLink RX7 301 yX7_mixedWeights : Cond) ∈ TBG := tbt_2 (List.mem_of_getElem? (i := 218) rfl) rfl
theorem q335 : (.instanceMethod yX7_mixedWeights : Cond) ∈ TBG := tbt_2 (List.mem_of_getElem? (i := 220) rfl) rfl
theorem q336 : (.code yX7_mixedWeights cX7_mixedWeights 7 (some .long) : Cond) ∈ TBG := tbt_2 (List.mem_of_getElem? (i := 221) rfl) rfl
theorem q337 : (.methodLink RX7 176 yX5_weightAt : Cond) ∈ TBG := tbt_2 (List.mem_of_getElem? (i := 222) rfl) rfl
theorem q338 : (.methodLink RX7 258 yX0_planCuts : Cond) ∈ TBG := tbt_2 (List.mem_of_getElem? (i := 223) rfl) rfl
theorem q339 : (.instanceMethod yX0_planCuts : Cond) ∈ TBG := tbt_2 (List.mem_of_getElem? (i := 224) rfl) rfl
theorem q340 : (.selects RX0 yX0_planCuts yX0_planCuts : Cond) ∈ TBG := tbt_2 (List.mem_of_getElem? (i := 225) rfl) rfl
theorem q341 : (.code yX0_planCuts cX0_planCuts 4 none : Cond) ∈ TBG := tbt_2 (List.mem_of_getElem? (i := 226) rfl) rfl
theorem q342 : (.methodLink RX0 34 yX5_weightAt : Cond) ∈ TBG := tbt_2 (List.mem_of_getElem? (i := 227) rfl) rfl
theorem q343 : (.methodLinkNest RX0 38 yX7_setIn RX7 : Cond) ∈ lw_tbl := tbl_2 (List.mem_of_getElem? (i := 228) rfl)
theorem q344 : (.methodLink RX0 42 yX0_planLastCut : Cond) ∈ TBG := tbt_2 (List.mem_of_getElem? (i := 229) rfl) rfl
theorem q345 : (.instanceMethod yX0_planLastCut : Cond) ∈ TBG := tbt_2 (List.mem_of_getElem? (i := 231) rfl) rfl
theorem q346 : (.code yX0_planLastCut cX0_planLastCut 9 none : Cond) ∈ TBG := tbt_2 (List.mem_of_getElem? (i := 232) rfl) rfl
theorem q347 : (.constant RX0 53 (1000000000) : Cond) ∈ TBG := tbt_2 (List.mem_of_getElem? (i := 233) rfl) rfl
theorem q348 : (.methodLinkNest RX0 46 yX7_numberIn RX7 : Cond) ∈ lw_tbl := tbl_2 (List.mem_of_getElem? (i := 234) rfl)
theorem q349 : (.methodLink RX7 264 yX0_tryAllCuts : Cond) ∈ TBG := tbt_2 (List.mem_of_getElem? (i := 235) rfl) rfl
theorem q350 : (.instanceMethod yX0_tryAllCuts : Cond) ∈ TBG := tbt_2 (List.mem_of_getElem? (i := 236) rfl) rfl
theorem q351 : (.selects RX0 yX0_tryAllCuts yX0_tryAllCuts : Cond) ∈ TBG := tbt_2 (List.mem_of_getElem? (i := 237) rfl) rfl
theorem q352 : (.code yX0_tryAllCuts cX0_tryAllCuts 2 none : Cond) ∈ TBG := tbt_2 (List.mem_of_getElem? (i := 238) rfl) rfl
theorem q353 : (.methodLink RX0 54 yX0_tryNextPart : Cond) ∈ TBG := tbt_2 (List.mem_of_getElem? (i := 239) rfl) rfl
theorem q354 : (.static yX0_tryNextPart : Cond) ∈ TBG := tbt_3 (List.mem_of_getElem? (i := 0) rfl) rfl
theorem q355 : (.code yX0_tryNextPart cX0_tryNextPart 7 none : Cond) ∈ TBG := tbt_3 (List.mem_of_getElem? (i := 1) rfl) rfl
theorem q356 : (.methodLink RX0 58 yX0_triedCost : Cond) ∈ TBG := tbt_3 (List.mem_of_getElem? (i := 2) rfl) rfl
theorem q357 : (.instanceMethod yX0_triedCost : Cond) ∈ TBG := tbt_3 (List.mem_of_getElem? (i := 3) rfl) rfl
theorem q358 : (.selects RX0 yX0_triedCost yX0_triedCost : Cond) ∈ TBG := tbt_3 (List.mem_of_getElem? (i := 4) rfl) rfl
theorem q359 : (.code yX0_triedCost cX0_triedCost 2 (some .int) : Cond) ∈ TBG := tbt_3 (List.mem_of_getElem? (i := 5) rfl) rfl
theorem q360 : (.methodLink RX0 61 yJ9_min_7cf53 : Cond) ∈ TBG := tbt_3 (List.mem_of_getElem? (i := 6) rfl) rfl
theorem q361 : (.static yJ9_min_7cf53 : Cond) ∈ TBG := tbt_3 (List.mem_of_getElem? (i := 7) rfl) rfl
theorem q362 : (.code yJ9_min_7cf53 cJ9_min_7cf53 2 (some .int) : Cond) ∈ TBG := tbt_3 (List.mem_of_getElem? (i := 8) rfl) rfl
theorem q363 : (.methodLink RX7 261 yX0_plannedCost : Cond) ∈ TBG := tbt_3 (List.mem_of_getElem? (i := 9) rfl) rfl
theorem q364 : (.instanceMethod yX0_plannedCost : Cond) ∈ TBG := tbt_3 (List.mem_of_getElem? (i := 10) rfl) rfl
theorem q365 : (.selects RX0 yX0_plannedCost yX0_plannedCost : Cond) ∈ TBG := tbt_3 (List.mem_of_getElem? (i := 11) rfl) rfl
theorem q366 : (.code yX0_plannedCost cX0_plannedCost 2 (some .int) : Cond) ∈ TBG := tbt_3 (List.mem_of_getElem? (i := 12) rfl) rfl
theorem q367 : (.methodLink RX7 267 yX0_triedCost : Cond) ∈ TBG := tbt_3 (List.mem_of_getElem? (i := 13) rfl) rfl
theorem q368 : (.methodLink RX7 272 yX0_plannedCut : Cond) ∈ TBG := tbt_3 (List.mem_of_getElem? (i := 14) rfl) rfl
theorem q369 : (.instanceMethod yX0_plannedCut : Cond) ∈ TBG := tbt_3 (List.mem_of_getElem? (i := 15) rfl) rfl
theorem q370 : (.selects RX0 yX0_plannedCut yX0_plannedCut : Cond) ∈ TBG := tbt_3 (List.mem_of_getElem? (i := 16) rfl) rfl
theorem q371 : (.code yX0_plannedCut cX0_plannedCut 5 (some .int) : Cond) ∈ TBG := tbt_3 (List.mem_of_getElem? (i := 17) rfl) rfl
theorem q372 : (.methodLink RX7 278 yX0_fewestPartsFor : Cond) ∈ TBG := tbt_3 (List.mem_of_getElem? (i := 18) rfl) rfl
theorem q373 : (.instanceMethod yX0_fewestPartsFor : Cond) ∈ TBG := tbt_3 (List.mem_of_getElem? (i := 19) rfl) rfl
theorem q374 : (.selects RX0 yX0_fewestPartsFor yX0_fewestPartsFor : Cond) ∈ TBG := tbt_3 (List.mem_of_getElem? (i := 20) rfl) rfl
theorem q375 : (.code yX0_fewestPartsFor cX0_fewestPartsFor 3 (some .int) : Cond) ∈ TBG := tbt_3 (List.mem_of_getElem? (i := 21) rfl) rfl
theorem q376 : (.methodLink RX0 50 yX0_plannedCost : Cond) ∈ TBG := tbt_3 (List.mem_of_getElem? (i := 22) rfl) rfl
theorem q377 : (.methodLink RX7 304 yX7_halfShare : Cond) ∈ TBG := tbt_3 (List.mem_of_getElem? (i := 23) rfl) rfl
theorem q378 : (.methodLink RX7 307 yX7_bitsOf : Cond) ∈ TBG := tbt_3 (List.mem_of_getElem? (i := 24) rfl) rfl
theorem q379 : (.static yX7_bitsOf : Cond) ∈ TBG := tbt_3 (List.mem_of_getElem? (i := 25) rfl) rfl
theorem q380 : (.code yX7_bitsOf cX7_bitsOf 8 (some .long) : Cond) ∈ TBG := tbt_3 (List.mem_of_getElem? (i := 26) rfl) rfl
theorem q381 : (.constantLong RX7 328 (1023) : Cond) ∈ TBG := tbt_3 (List.mem_of_getElem? (i := 27) rfl) rfl
theorem q382 : (.constantDouble RX7 330 (4611686018427387904) : Cond) ∈ TBG := tbt_3 (List.mem_of_getElem? (i := 28) rfl) rfl
theorem q383 : (.constantDouble RX7 332 (4841369599423283200) : Cond) ∈ TBG := tbt_3 (List.mem_of_getElem? (i := 29) rfl) rfl
theorem q384 : (.methodLink RX7 311 yX6_codeAt : Cond) ∈ TBG := tbt_3 (List.mem_of_getElem? (i := 30) rfl) rfl
theorem q385 : (.methodLink RL 84 yL_size : Cond) ∈ TBG := tbt_3 (List.mem_of_getElem? (i := 31) rfl) rfl
theorem q386 : (.static yL_size : Cond) ∈ TBG := tbt_3 (List.mem_of_getElem? (i := 32) rfl) rfl
theorem q387 : (.codeWith yL_size cL_size 5 (some .int) [((0), (10), (13), (13))] : Cond) ∈ TBG := tbt_3 (List.mem_of_getElem? (i := 33) rfl) rfl
theorem q388 : (.classLink RL 13 "java/lang/IllegalArgumentException" : Cond) ∈ TBG := tbt_3 (List.mem_of_getElem? (i := 34) rfl) rfl
theorem q389 : (.methodLink RL 7 yX7_size : Cond) ∈ TBG := tbt_3 (List.mem_of_getElem? (i := 35) rfl) rfl
theorem q390 : (.instanceMethod yX7_size : Cond) ∈ TBG := tbt_3 (List.mem_of_getElem? (i := 36) rfl) rfl
theorem q391 : (.selects RX7 yX7_size yX7_size : Cond) ∈ TBG := tbt_3 (List.mem_of_getElem? (i := 37) rfl) rfl
theorem q392 : (.code yX7_size cX7_size 4 (some .int) : Cond) ∈ TBG := tbt_3 (List.mem_of_getElem? (i := 38) rfl) rfl
theorem q393 : (.methodLink RX7 63 yX7_isFromTo : Cond) ∈ TBG := tbt_3 (List.mem_of_getElem? (i := 39) rfl) rfl
theorem q394 : (.classLink RX7 67 "java/lang/IllegalArgumentException" : Cond) ∈ TBG := tbt_3 (List.mem_of_getElem? (i := 40) rfl) rfl
theorem q395 : (.instantiable "java/lang/IllegalArgumentException" 6 : Cond) ∈ TBG := tbt_3 (List.mem_of_getElem? (i := 41) rfl) rfl
theorem q396 : (.castable "java/lang/IllegalArgumentException" "java/lang/IllegalArgumentException" : Cond) ∈ lw_tbl := tbl_3 (List.mem_of_getElem? (i := 42) rfl)
theorem q397 : (.selects "java/lang/IllegalArgumentException" (⟨"java/lang/Throwable", "fillInStackTrace", "(I)Ljava/lang/Throwable;"⟩ : MethodName) (⟨"java/lang/Throwable", "fillInStackTrace", "(I)Ljava/lang/Throwable;"⟩ : MethodName) : Cond) ∈ TBG := tbt_3 (List.mem_of_getElem? (i := 49) rfl) rfl
theorem q398 : (.selects "java/lang/IllegalArgumentException" (⟨"java/lang/Throwable", "fillInStackTrace", "()Ljava/lang/Throwable;"⟩ : MethodName) (⟨"java/lang/Throwable", "fillInStackTrace", "()Ljava/lang/Throwable;"⟩ : MethodName) : Cond) ∈ TBG := tbt_3 (List.mem_of_getElem? (i := 50) rfl) rfl
theorem q399 : (.fieldLink "java/lang/Throwable" 198 "java/lang/Throwable" "backtrace" "Ljava/lang/Object;" : Cond) ∈ TBG := tbt_3 (List.mem_of_getElem? (i := 61) rfl) rfl
theorem q400 : (.instanceMethod (⟨"java/lang/Throwable", "<init>", "()V"⟩ : MethodName) : Cond) ∈ TBG := tbt_3 (List.mem_of_getElem? (i := 63) rfl) rfl
theorem q401 : (.code (⟨"java/lang/Throwable", "<init>", "()V"⟩ : MethodName) prog_19_method_1_code 1 none : Cond) ∈ TBG := tbt_3 (List.mem_of_getElem? (i := 64) rfl) rfl
theorem q402 : (.methodLink "java/lang/Throwable" 1 objectInit : Cond) ∈ TBG := tbt_3 (List.mem_of_getElem? (i := 65) rfl) rfl
theorem q403 : (.fieldLink "java/lang/Throwable" 13 "java/lang/Throwable" "UNASSIGNED_STACK" "[Ljava/lang/StackTraceElement;" : Cond) ∈ TBG := tbt_3 (List.mem_of_getElem? (i := 66) rfl) rfl
theorem q404 : (.fieldLink "java/lang/Throwable" 20 "java/lang/Throwable" "SUPPRESSED_SENTINEL" "Ljava/util/List;" : Cond) ∈ TBG := tbt_3 (List.mem_of_getElem? (i := 68) rfl) rfl
theorem q405 : (.methodLink "java/lang/Throwable" 27 (⟨"java/lang/Throwable", "fillInStackTrace", "()Ljava/lang/Throwable;"⟩ : MethodName) : Cond) ∈ TBG := tbt_3 (List.mem_of_getElem? (i := 70) rfl) rfl
theorem q406 : (.instanceMethod (⟨"java/lang/Throwable", "fillInStackTrace", "()Ljava/lang/Throwable;"⟩ : MethodName) : Cond) ∈ TBG := tbt_3 (List.mem_of_getElem? (i := 71) rfl) rfl
theorem q407 : (.selects "java/lang/IllegalStateException" (⟨"java/lang/Throwable", "fillInStackTrace", "()Ljava/lang/Throwable;"⟩ : MethodName) (⟨"java/lang/Throwable", "fillInStackTrace", "()Ljava/lang/Throwable;"⟩ : MethodName) : Cond) ∈ TBG := tbt_3 (List.mem_of_getElem? (i := 73) rfl) rfl
theorem q408 : (.selects "java/lang/IndexOutOfBoundsException" (⟨"java/lang/Throwable", "fillInStackTrace", "()Ljava/lang/Throwable;"⟩ : MethodName) (⟨"java/lang/Throwable", "fillInStackTrace", "()Ljava/lang/Throwable;"⟩ : MethodName) : Cond) ∈ TBG := tbt_3 (List.mem_of_getElem? (i := 74) rfl) rfl
theorem q409 : (.methodLink "java/lang/Throwable" 202 (⟨"java/lang/Throwable", "fillInStackTrace", "(I)Ljava/lang/Throwable;"⟩ : MethodName) : Cond) ∈ TBG := tbt_3 (List.mem_of_getElem? (i := 76) rfl) rfl
theorem q410 : (.instanceMethod (⟨"java/lang/Throwable", "fillInStackTrace", "(I)Ljava/lang/Throwable;"⟩ : MethodName) : Cond) ∈ TBG := tbt_3 (List.mem_of_getElem? (i := 78) rfl) rfl
theorem q411 : (.instantiable "java/lang/Throwable" 6 : Cond) ∈ TBG := tbt_3 (List.mem_of_getElem? (i := 79) rfl) rfl
theorem q412 : (.methodLink RX7 71 (⟨"java/lang/IllegalArgumentException", "<init>", "(Ljava/lang/String;)V"⟩ : MethodName) : Cond) ∈ TBG := tbt_3 (List.mem_of_getElem? (i := 82) rfl) rfl
theorem q413 : (.instanceMethod (⟨"java/lang/IllegalArgumentException", "<init>", "(Ljava/lang/String;)V"⟩ : MethodName) : Cond) ∈ TBG := tbt_3 (List.mem_of_getElem? (i := 83) rfl) rfl
theorem q414 : (.code (⟨"java/lang/IllegalArgumentException", "<init>", "(Ljava/lang/String;)V"⟩ : MethodName) prog_13_method_2_code 2 none : Cond) ∈ TBG := tbt_3 (List.mem_of_getElem? (i := 84) rfl) rfl
theorem q415 : (.methodLink "java/lang/IllegalArgumentException" 7 (⟨"java/lang/RuntimeException", "<init>", "(Ljava/lang/String;)V"⟩ : MethodName) : Cond) ∈ TBG := tbt_3 (List.mem_of_getElem? (i := 85) rfl) rfl
theorem q416 : (.instanceMethod (⟨"java/lang/RuntimeException", "<init>", "(Ljava/lang/String;)V"⟩ : MethodName) : Cond) ∈ TBG := tbt_3 (List.mem_of_getElem? (i := 86) rfl) rfl
theorem q417 : (.code (⟨"java/lang/RuntimeException", "<init>", "(Ljava/lang/String;)V"⟩ : MethodName) prog_17_method_2_code 2 none : Cond) ∈ TBG := tbt_3 (List.mem_of_getElem? (i := 87) rfl) rfl
theorem q418 : (.methodLink "java/lang/RuntimeException" 7 (⟨"java/lang/Exception", "<init>", "(Ljava/lang/String;)V"⟩ : MethodName) : Cond) ∈ TBG := tbt_3 (List.mem_of_getElem? (i := 88) rfl) rfl
theorem q419 : (.instanceMethod (⟨"java/lang/Exception", "<init>", "(Ljava/lang/String;)V"⟩ : MethodName) : Cond) ∈ TBG := tbt_3 (List.mem_of_getElem? (i := 89) rfl) rfl
theorem q420 : (.code (⟨"java/lang/Exception", "<init>", "(Ljava/lang/String;)V"⟩ : MethodName) prog_12_method_2_code 2 none : Cond) ∈ TBG := tbt_3 (List.mem_of_getElem? (i := 90) rfl) rfl
theorem q421 : (.methodLink "java/lang/Exception" 7 (⟨"java/lang/Throwable", "<init>", "(Ljava/lang/String;)V"⟩ : MethodName) : Cond) ∈ TBG := tbt_3 (List.mem_of_getElem? (i := 91) rfl) rfl
theorem q422 : (.instanceMethod (⟨"java/lang/Throwable", "<init>", "(Ljava/lang/String;)V"⟩ : MethodName) : Cond) ∈ TBG := tbt_3 (List.mem_of_getElem? (i := 92) rfl) rfl
theorem q423 : (.code (⟨"java/lang/Throwable", "<init>", "(Ljava/lang/String;)V"⟩ : MethodName) prog_19_method_2_code 2 none : Cond) ∈ TBG := tbt_3 (List.mem_of_getElem? (i := 93) rfl) rfl
theorem q424 : (.fieldLink "java/lang/Throwable" 198 "java/lang/Throwable" "backtrace" "Ljava/lang/Object;" : Cond) ∈ TBG := tbt_3 (List.mem_of_getElem? (i := 94) rfl) rfl
theorem q425 : (.fieldLink "java/lang/Throwable" 31 "java/lang/Throwable" "detailMessage" "Ljava/lang/String;" : Cond) ∈ TBG := tbt_3 (List.mem_of_getElem? (i := 95) rfl) rfl
theorem q426 : (.fieldLink "java/lang/Throwable" 7 "java/lang/Throwable" "cause" "Ljava/lang/Throwable;" : Cond) ∈ TBG := tbt_3 (List.mem_of_getElem? (i := 96) rfl) rfl
theorem q427 : (.fieldLink "java/lang/Throwable" 17 "java/lang/Throwable" "stackTrace" "[Ljava/lang/StackTraceElement;" : Cond) ∈ TBG := tbt_3 (List.mem_of_getElem? (i := 97) rfl) rfl
theorem q428 : (.fieldLink "java/lang/Throwable" 24 "java/lang/Throwable" "suppressedExceptions" "Ljava/util/List;" : Cond) ∈ TBG := tbt_3 (List.mem_of_getElem? (i := 98) rfl) rfl
theorem q429 : (.arrayClass .byte : Cond) ∈ TBG := tbt_3 (List.mem_of_getElem? (i := 107) rfl) rfl
theorem q430 : (.methodLink RX7 77 yX5_sizeCode : Cond) ∈ TBG := tbt_3 (List.mem_of_getElem? (i := 108) rfl) rfl
theorem q431 : (.instanceMethod yX5_sizeCode : Cond) ∈ TBG := tbt_3 (List.mem_of_getElem? (i := 109) rfl) rfl
theorem q432 : (.selects RX5 yX5_sizeCode yX5_sizeCode : Cond) ∈ TBG := tbt_3 (List.mem_of_getElem? (i := 110) rfl) rfl
theorem q433 : (.code yX5_sizeCode cX5_sizeCode 1 (some .int) : Cond) ∈ TBG := tbt_3 (List.mem_of_getElem? (i := 111) rfl) rfl
theorem q434 : (.methodLink RL 93 yL_put : Cond) ∈ TBG := tbt_3 (List.mem_of_getElem? (i := 112) rfl) rfl
theorem q435 : (.static yL_put : Cond) ∈ TBG := tbt_3 (List.mem_of_getElem? (i := 113) rfl) rfl
theorem q436 : (.codeWith yL_put cL_put 6 (some .int) [((0), (12), (15), (19)), ((0), (12), (19), (13))] : Cond) ∈ TBG := tbt_3 (List.mem_of_getElem? (i := 114) rfl) rfl
theorem q437 : (.classLink RL 19 "java/lang/IndexOutOfBoundsException" : Cond) ∈ TBG := tbt_3 (List.mem_of_getElem? (i := 115) rfl) rfl
theorem q438 : (.methodLink RL 15 yX7_put : Cond) ∈ TBG := tbt_3 (List.mem_of_getElem? (i := 116) rfl) rfl
theorem q439 : (.instanceMethod yX7_put : Cond) ∈ TBG := tbt_3 (List.mem_of_getElem? (i := 117) rfl) rfl
theorem q440 : (.selects RX7 yX7_put yX7_put : Cond) ∈ TBG := tbt_3 (List.mem_of_getElem? (i := 118) rfl) rfl
theorem q441 : (.code yX7_put cX7_put 5 (some .int) : Cond) ∈ TBG := tbt_3 (List.mem_of_getElem? (i := 119) rfl) rfl
theorem q442 : (.methodLink RX7 88 yX5_hasCell : Cond) ∈ TBG := tbt_3 (List.mem_of_getElem? (i := 120) rfl) rfl
theorem q443 : (.instanceMethod yX5_hasCell : Cond) ∈ TBG := tbt_3 (List.mem_of_getElem? (i := 121) rfl) rfl
theorem q444 : (.selects RX5 yX5_hasCell yX5_hasCell : Cond) ∈ TBG := tbt_3 (List.mem_of_getElem? (i := 122) rfl) rfl
theorem q445 : (.code yX5_hasCell cX5_hasCell 3 (some .boolean) : Cond) ∈ TBG := tbt_3 (List.mem_of_getElem? (i := 123) rfl) rfl
theorem q446 : (.methodLinkNest RX5 41 yX7_isFromTo RX7 : Cond) ∈ lw_tbl := tbl_3 (List.mem_of_getElem? (i := 124) rfl)
theorem q447 : (.classLink RX7 92 "java/lang/IndexOutOfBoundsException" : Cond) ∈ TBG := tbt_3 (List.mem_of_getElem? (i := 125) rfl) rfl
theorem q448 : (.instantiable "java/lang/IndexOutOfBoundsException" 6 : Cond) ∈ TBG := tbt_3 (List.mem_of_getElem? (i := 126) rfl) rfl
theorem q449 : (.castable "java/lang/IndexOutOfBoundsException" "java/lang/IndexOutOfBoundsException" : Cond) ∈ lw_tbl := tbl_3 (List.mem_of_getElem? (i := 127) rfl)
theorem q450 : (.selects "java/lang/IndexOutOfBoundsException" (⟨"java/lang/Throwable", "fillInStackTrace", "(I)Ljava/lang/Throwable;"⟩ : MethodName) (⟨"java/lang/Throwable", "fillInStackTrace", "(I)Ljava/lang/Throwable;"⟩ : MethodName) : Cond) ∈ TBG := tbt_3 (List.mem_of_getElem? (i := 128) rfl) rfl
theorem q451 : (.methodLink RX7 96 (⟨"java/lang/IndexOutOfBoundsException", "<init>", "(Ljava/lang/String;)V"⟩ : MethodName) : Cond) ∈ TBG := tbt_3 (List.mem_of_getElem? (i := 135) rfl) rfl
theorem q452 : (.instanceMethod (⟨"java/lang/IndexOutOfBoundsException", "<init>", "(Ljava/lang/String;)V"⟩ : MethodName) : Cond) ∈ TBG := tbt_3 (List.mem_of_getElem? (i := 136) rfl) rfl
theorem q453 : (.code (⟨"java/lang/IndexOutOfBoundsException", "<init>", "(Ljava/lang/String;)V"⟩ : MethodName) prog_15_method_2_code 2 none : Cond) ∈ TBG := tbt_3 (List.mem_of_getElem? (i := 137) rfl) rfl
theorem q454 : (.methodLink "java/lang/IndexOutOfBoundsException" 7 (⟨"java/lang/RuntimeException", "<init>", "(Ljava/lang/String;)V"⟩ : MethodName) : Cond) ∈ TBG := tbt_3 (List.mem_of_getElem? (i := 138) rfl) rfl
theorem q455 : (.methodLink RL 97 yL_points : Cond) ∈ TBG := tbt_3 (List.mem_of_getElem? (i := 142) rfl) rfl
theorem q456 : (.static yL_points : Cond) ∈ TBG := tbt_3 (List.mem_of_getElem? (i := 143) rfl) rfl
theorem q457 : (.codeWith yL_points cL_points 7 (some .int) [((0), (14), (17), (13))] : Cond) ∈ TBG := tbt_3 (List.mem_of_getElem? (i := 144) rfl) rfl
theorem q458 : (.methodLink RL 21 yX7_points : Cond) ∈ TBG := tbt_3 (List.mem_of_getElem? (i := 145) rfl) rfl
theorem q459 : (.instanceMethod yX7_points : Cond) ∈ TBG := tbt_3 (List.mem_of_getElem? (i := 146) rfl) rfl
theorem q460 : (.selects RX7 yX7_points yX7_points : Cond) ∈ TBG := tbt_3 (List.mem_of_getElem? (i := 147) rfl) rfl
theorem q461 : (.code yX7_points cX7_points 8 (some .int) : Cond) ∈ TBG := tbt_3 (List.mem_of_getElem? (i := 148) rfl) rfl
theorem q462 : (.methodLink RX7 109 yJ9_min_7cf53 : Cond) ∈ TBG := tbt_3 (List.mem_of_getElem? (i := 150) rfl) rfl
theorem q463 : (.methodLink RL 105 yL_find : Cond) ∈ TBG := tbt_3 (List.mem_of_getElem? (i := 151) rfl) rfl
theorem q464 : (.static yL_find : Cond) ∈ TBG := tbt_3 (List.mem_of_getElem? (i := 152) rfl) rfl
theorem q465 : (.codeWith yL_find cL_find 4 (some .int) [((0), (9), (12), (13)), ((0), (9), (15), (29))] : Cond) ∈ TBG := tbt_3 (List.mem_of_getElem? (i := 153) rfl) rfl
theorem q466 : (.classLink RL 29 "java/lang/IllegalStateException" : Cond) ∈ TBG := tbt_3 (List.mem_of_getElem? (i := 154) rfl) rfl
theorem q467 : (.methodLink RL 25 yX7_find : Cond) ∈ TBG := tbt_3 (List.mem_of_getElem? (i := 155) rfl) rfl
theorem q468 : (.instanceMethod yX7_find : Cond) ∈ TBG := tbt_3 (List.mem_of_getElem? (i := 156) rfl) rfl
theorem q469 : (.selects RX7 yX7_find yX7_find : Cond) ∈ TBG := tbt_3 (List.mem_of_getElem? (i := 157) rfl) rfl
theorem q470 : (.code yX7_find cX7_find 3 (some .int) : Cond) ∈ TBG := tbt_3 (List.mem_of_getElem? (i := 158) rfl) rfl
theorem q471 : (.methodLink RX7 136 yX7_isWay : Cond) ∈ TBG := tbt_3 (List.mem_of_getElem? (i := 159) rfl) rfl
theorem q472 : (.static yX7_isWay : Cond) ∈ TBG := tbt_3 (List.mem_of_getElem? (i := 160) rfl) rfl
theorem q473 : (.code yX7_isWay cX7_isWay 1 (some .boolean) : Cond) ∈ TBG := tbt_3 (List.mem_of_getElem? (i := 161) rfl) rfl
theorem q474 : (.methodLink RX7 142 yX7_isOpen : Cond) ∈ TBG := tbt_3 (List.mem_of_getElem? (i := 163) rfl) rfl
theorem q475 : (.instanceMethod yX7_isOpen : Cond) ∈ TBG := tbt_3 (List.mem_of_getElem? (i := 165) rfl) rfl
theorem q476 : (.code yX7_isOpen cX7_isOpen 2 (some .boolean) : Cond) ∈ TBG := tbt_3 (List.mem_of_getElem? (i := 166) rfl) rfl
theorem q477 : (.classLink RX7 145 "java/lang/IllegalStateException" : Cond) ∈ TBG := tbt_3 (List.mem_of_getElem? (i := 167) rfl) rfl
theorem q478 : (.instantiable "java/lang/IllegalStateException" 6 : Cond) ∈ TBG := tbt_3 (List.mem_of_getElem? (i := 168) rfl) rfl
theorem q479 : (.castable "java/lang/IllegalStateException" "java/lang/IllegalStateException" : Cond) ∈ lw_tbl := tbl_3 (List.mem_of_getElem? (i := 169) rfl)
theorem q480 : (.selects "java/lang/IllegalStateException" (⟨"java/lang/Throwable", "fillInStackTrace", "(I)Ljava/lang/Throwable;"⟩ : MethodName) (⟨"java/lang/Throwable", "fillInStackTrace", "(I)Ljava/lang/Throwable;"⟩ : MethodName) : Cond) ∈ TBG := tbt_3 (List.mem_of_getElem? (i := 170) rfl) rfl
theorem q481 : (.methodLink RX7 149 (⟨"java/lang/IllegalStateException", "<init>", "(Ljava/lang/String;)V"⟩ : MethodName) : Cond) ∈ TBG := tbt_3 (List.mem_of_getElem? (i := 177) rfl) rfl
theorem q482 : (.instanceMethod (⟨"java/lang/IllegalStateException", "<init>", "(Ljava/lang/String;)V"⟩ : MethodName) : Cond) ∈ TBG := tbt_3 (List.mem_of_getElem? (i := 178) rfl) rfl
theorem q483 : (.code (⟨"java/lang/IllegalStateException", "<init>", "(Ljava/lang/String;)V"⟩ : MethodName) prog_14_method_2_code 2 none : Cond) ∈ TBG := tbt_3 (List.mem_of_getElem? (i := 179) rfl) rfl
theorem q484 : (.methodLink "java/lang/IllegalStateException" 7 (⟨"java/lang/RuntimeException", "<init>", "(Ljava/lang/String;)V"⟩ : MethodName) : Cond) ∈ TBG := tbt_3 (List.mem_of_getElem? (i := 180) rfl) rfl
theorem q485 : (.methodLink RL 109 yL_weigh : Cond) ∈ TBG := tbt_3 (List.mem_of_getElem? (i := 183) rfl) rfl
theorem q486 : (.static yL_weigh : Cond) ∈ TBG := tbt_3 (List.mem_of_getElem? (i := 184) rfl) rfl
theorem q487 : (.codeWith yL_weigh cL_weigh 4 (some .int) [((0), (9), (12), (13)), ((0), (9), (15), (29))] : Cond) ∈ TBG := tbt_3 (List.mem_of_getElem? (i := 185) rfl) rfl
theorem q488 : (.methodLink RL 31 yX7_weigh : Cond) ∈ TBG := tbt_3 (List.mem_of_getElem? (i := 186) rfl) rfl
theorem q489 : (.instanceMethod yX7_weigh : Cond) ∈ TBG := tbt_3 (List.mem_of_getElem? (i := 187) rfl) rfl
theorem q490 : (.selects RX7 yX7_weigh yX7_weigh : Cond) ∈ TBG := tbt_3 (List.mem_of_getElem? (i := 188) rfl) rfl
theorem q491 : (.code yX7_weigh cX7_weigh 2 (some .int) : Cond) ∈ TBG := tbt_3 (List.mem_of_getElem? (i := 189) rfl) rfl
theorem q492 : (.methodLink RX7 171 yX5_addWeight : Cond) ∈ TBG := tbt_3 (List.mem_of_getElem? (i := 192) rfl) rfl
theorem q493 : (.instanceMethod yX5_addWeight : Cond) ∈ TBG := tbt_3 (List.mem_of_getElem? (i := 193) rfl) rfl
theorem q494 : (.selects RX5 yX5_addWeight yX5_addWeight : Cond) ∈ TBG := tbt_3 (List.mem_of_getElem? (i := 194) rfl) rfl
theorem q495 : (.code yX5_addWeight cX5_addWeight 2 none : Cond) ∈ TBG := tbt_3 (List.mem_of_getElem? (i := 195) rfl) rfl
theorem q496 : (.methodLink RL 112 yL_unweigh : Cond) ∈ TBG := tbt_3 (List.mem_of_getElem? (i := 196) rfl) rfl
theorem q497 : (.static yL_unweigh : Cond) ∈ TBG := tbt_3 (List.mem_of_getElem? (i := 197) rfl) rfl
theorem q498 : (.codeWith yL_unweigh cL_unweigh 3 (some .int) [((0), (8), (11), (29))] : Cond) ∈ TBG := tbt_3 (List.mem_of_getElem? (i := 198) rfl) rfl
theorem q499 : (.methodLink RL 34 yX7_unweigh : Cond) ∈ TBG := tbt_3 (List.mem_of_getElem? (i := 199) rfl) rfl
theorem q500 : (.instanceMethod yX7_unweigh : Cond) ∈ TBG := tbt_3 (List.mem_of_getElem? (i := 200) rfl) rfl
theorem q501 : (.selects RX7 yX7_unweigh yX7_unweigh : Cond) ∈ TBG := tbt_3 (List.mem_of_getElem? (i := 201) rfl) rfl
theorem q502 : (.code yX7_unweigh cX7_unweigh 1 (some .int) : Cond) ∈ TBG := tbt_3 (List.mem_of_getElem? (i := 202) rfl) rfl
theorem q503 : (.methodLink RL 116 yL_append : Cond) ∈ TBG := tbt_3 (List.mem_of_getElem? (i := 204) rfl) rfl
theorem q504 : (.static yL_append : Cond) ∈ TBG := tbt_3 (List.mem_of_getElem? (i := 205) rfl) rfl
theorem q505 : (.codeWith yL_append cL_append 4 (some .int) [((0), (9), (12), (13)), ((0), (9), (15), (29))] : Cond) ∈ TBG := tbt_3 (List.mem_of_getElem? (i := 206) rfl) rfl
theorem q506 : (.methodLink RL 38 yX7_append : Cond) ∈ TBG := tbt_3 (List.mem_of_getElem? (i := 207) rfl) rfl
theorem q507 : (.instanceMethod yX7_append : Cond) ∈ TBG := tbt_3 (List.mem_of_getElem? (i := 208) rfl) rfl
theorem q508 : (.selects RX7 yX7_append yX7_append : Cond) ∈ TBG := tbt_3 (List.mem_of_getElem? (i := 209) rfl) rfl
theorem q509 : (.code yX7_append cX7_append 2 (some .int) : Cond) ∈ TBG := tbt_3 (List.mem_of_getElem? (i := 210) rfl) rfl
theorem q510 : (.methodLink RX7 186 yX6_add : Cond) ∈ TBG := tbt_3 (List.mem_of_getElem? (i := 213) rfl) rfl
theorem q511 : (.instanceMethod yX6_add : Cond) ∈ TBG := tbt_3 (List.mem_of_getElem? (i := 214) rfl) rfl
theorem q512 : (.selects RX6 yX6_add yX6_add : Cond) ∈ TBG := tbt_3 (List.mem_of_getElem? (i := 215) rfl) rfl
theorem q513 : (.code yX6_add cX6_add 2 none : Cond) ∈ TBG := tbt_3 (List.mem_of_getElem? (i := 216) rfl) rfl
theorem q514 : (.methodLink RL 127 yL_load : Cond) ∈ TBG := tbt_3 (List.mem_of_getElem? (i := 217) rfl) rfl
theorem q515 : (.static yL_load : Cond) ∈ TBG := tbt_3 (List.mem_of_getElem? (i := 218) rfl) rfl
theorem q516 : (.codeWith yL_load cL_load 3 (some .int) [((0), (8), (11), (13))] : Cond) ∈ TBG := tbt_3 (List.mem_of_getElem? (i := 219) rfl) rfl
theorem q517 : (.methodLink RL 41 yX7_load : Cond) ∈ TBG := tbt_3 (List.mem_of_getElem? (i := 220) rfl) rfl
theorem q518 : (.instanceMethod yX7_load : Cond) ∈ TBG := tbt_3 (List.mem_of_getElem? (i := 221) rfl) rfl
theorem q519 : (.selects RX7 yX7_load yX7_load : Cond) ∈ TBG := tbt_3 (List.mem_of_getElem? (i := 222) rfl) rfl
theorem q520 : (.code yX7_load cX7_load 3 (some .int) : Cond) ∈ TBG := tbt_3 (List.mem_of_getElem? (i := 223) rfl) rfl
theorem q521 : (.methodLink RX7 195 yX6_tellsTable : Cond) ∈ TBG := tbt_3 (List.mem_of_getElem? (i := 224) rfl) rfl
theorem q522 : (.instanceMethod yX6_tellsTable : Cond) ∈ TBG := tbt_3 (List.mem_of_getElem? (i := 225) rfl) rfl
theorem q523 : (.selects RX6 yX6_tellsTable yX6_tellsTable : Cond) ∈ TBG := tbt_3 (List.mem_of_getElem? (i := 226) rfl) rfl
theorem q524 : (.code yX6_tellsTable cX6_tellsTable 1 (some .boolean) : Cond) ∈ TBG := tbt_3 (List.mem_of_getElem? (i := 227) rfl) rfl
theorem q525 : (.methodLink RX6 53 yX6_readToError : Cond) ∈ TBG := tbt_3 (List.mem_of_getElem? (i := 228) rfl) rfl
theorem q526 : (.methodLink RX7 200 yX6_rowsTold : Cond) ∈ TBG := tbt_3 (List.mem_of_getElem? (i := 230) rfl) rfl
theorem q527 : (.instanceMethod yX6_rowsTold : Cond) ∈ TBG := tbt_3 (List.mem_of_getElem? (i := 231) rfl) rfl
theorem q528 : (.selects RX6 yX6_rowsTold yX6_rowsTold : Cond) ∈ TBG := tbt_3 (List.mem_of_getElem? (i := 232) rfl) rfl
theorem q529 : (.code yX6_rowsTold cX6_rowsTold 1 (some .int) : Cond) ∈ TBG := tbt_3 (List.mem_of_getElem? (i := 233) rfl) rfl
theorem q530 : (.methodLink RX7 203 yX6_columnsTold : Cond) ∈ TBG := tbt_3 (List.mem_of_getElem? (i := 234) rfl) rfl
theorem q531 : (.instanceMethod yX6_columnsTold : Cond) ∈ TBG := tbt_3 (List.mem_of_getElem? (i := 235) rfl) rfl
theorem q532 : (.selects RX6 yX6_columnsTold yX6_columnsTold : Cond) ∈ TBG := tbt_3 (List.mem_of_getElem? (i := 236) rfl) rfl
theorem q533 : (.code yX6_columnsTold cX6_columnsTold 1 (some .int) : Cond) ∈ TBG := tbt_3 (List.mem_of_getElem? (i := 237) rfl) rfl
theorem q534 : (.methodLink RX7 206 yX6_numberTold : Cond) ∈ TBG := tbt_3 (List.mem_of_getElem? (i := 238) rfl) rfl
theorem q535 : (.instanceMethod yX6_numberTold : Cond) ∈ TBG := tbt_3 (List.mem_of_getElem? (i := 239) rfl) rfl
theorem q536 : (.selects RX6 yX6_numberTold yX6_numberTold : Cond) ∈ TBG := tbt_4 (List.mem_of_getElem? (i := 0) rfl) rfl
theorem q537 : (.code yX6_numberTold cX6_numberTold 3 (some .int) : Cond) ∈ TBG := tbt_4 (List.mem_of_getElem? (i := 1) rfl) rfl
theorem q538 : (.methodLink RL 130 yL_keep : Cond) ∈ TBG := tbt_4 (List.mem_of_getElem? (i := 2) rfl) rfl
theorem q539 : (.static yL_keep : Cond) ∈ TBG := tbt_4 (List.mem_of_getElem? (i := 3) rfl) rfl
theorem q540 : (.codeWith yL_keep cL_keep 4 (some .int) [((0), (9), (12), (13))] : Cond) ∈ TBG := tbt_4 (List.mem_of_getElem? (i := 4) rfl) rfl
theorem q541 : (.methodLink RL 44 yX7_keep : Cond) ∈ TBG := tbt_4 (List.mem_of_getElem? (i := 5) rfl) rfl
theorem q542 : (.instanceMethod yX7_keep : Cond) ∈ TBG := tbt_4 (List.mem_of_getElem? (i := 6) rfl) rfl
theorem q543 : (.selects RX7 yX7_keep yX7_keep : Cond) ∈ TBG := tbt_4 (List.mem_of_getElem? (i := 7) rfl) rfl
theorem q544 : (.code yX7_keep cX7_keep 2 (some .int) : Cond) ∈ TBG := tbt_4 (List.mem_of_getElem? (i := 8) rfl) rfl
theorem q545 : (.methodLink RX7 211 yX7_slotAt : Cond) ∈ TBG := tbt_4 (List.mem_of_getElem? (i := 10) rfl) rfl
theorem q546 : (.instanceMethod yX7_slotAt : Cond) ∈ TBG := tbt_4 (List.mem_of_getElem? (i := 12) rfl) rfl
theorem q547 : (.code yX7_slotAt cX7_slotAt 2 (some (.object "LeastRows$Slot")) : Cond) ∈ TBG := tbt_4 (List.mem_of_getElem? (i := 13) rfl) rfl
theorem q548 : (.methodLink RX7 215 yX4_fillFrom : Cond) ∈ TBG := tbt_4 (List.mem_of_getElem? (i := 14) rfl) rfl
theorem q549 : (.instanceMethod yX4_fillFrom : Cond) ∈ TBG := tbt_4 (List.mem_of_getElem? (i := 15) rfl) rfl
theorem q550 : (.selects RX4 yX4_fillFrom yX4_fillFrom : Cond) ∈ TBG := tbt_4 (List.mem_of_getElem? (i := 16) rfl) rfl
theorem q551 : (.code yX4_fillFrom cX4_fillFrom 2 none : Cond) ∈ TBG := tbt_4 (List.mem_of_getElem? (i := 17) rfl) rfl
theorem q552 : (.methodLink RX4 20 yX5_copyFrom : Cond) ∈ TBG := tbt_4 (List.mem_of_getElem? (i := 18) rfl) rfl
theorem q553 : (.methodLink RL 133 yL_goBack : Cond) ∈ TBG := tbt_4 (List.mem_of_getElem? (i := 19) rfl) rfl
theorem q554 : (.static yL_goBack : Cond) ∈ TBG := tbt_4 (List.mem_of_getElem? (i := 20) rfl) rfl
theorem q555 : (.codeWith yL_goBack cL_goBack 4 (some .int) [((0), (9), (12), (13)), ((0), (9), (15), (29))] : Cond) ∈ TBG := tbt_4 (List.mem_of_getElem? (i := 21) rfl) rfl
theorem q556 : (.methodLink RL 47 yX7_goBack : Cond) ∈ TBG := tbt_4 (List.mem_of_getElem? (i := 22) rfl) rfl
theorem q557 : (.instanceMethod yX7_goBack : Cond) ∈ TBG := tbt_4 (List.mem_of_getElem? (i := 23) rfl) rfl
theorem q558 : (.selects RX7 yX7_goBack yX7_goBack : Cond) ∈ TBG := tbt_4 (List.mem_of_getElem? (i := 24) rfl) rfl
theorem q559 : (.code yX7_goBack cX7_goBack 3 (some .int) : Cond) ∈ TBG := tbt_4 (List.mem_of_getElem? (i := 25) rfl) rfl
theorem q560 : (.methodLink RX7 227 yX5_copyFrom : Cond) ∈ TBG := tbt_4 (List.mem_of_getElem? (i := 27) rfl) rfl
theorem q561 : (.methodLink RL 136 yL_undo : Cond) ∈ TBG := tbt_4 (List.mem_of_getElem? (i := 28) rfl) rfl
theorem q562 : (.static yL_undo : Cond) ∈ TBG := tbt_4 (List.mem_of_getElem? (i := 29) rfl) rfl
theorem q563 : (.codeWith yL_undo cL_undo 3 (some .int) [((0), (8), (11), (29))] : Cond) ∈ TBG := tbt_4 (List.mem_of_getElem? (i := 30) rfl) rfl
theorem q564 : (.methodLink RL 50 yX7_undo : Cond) ∈ TBG := tbt_4 (List.mem_of_getElem? (i := 31) rfl) rfl
theorem q565 : (.instanceMethod yX7_undo : Cond) ∈ TBG := tbt_4 (List.mem_of_getElem? (i := 32) rfl) rfl
theorem q566 : (.selects RX7 yX7_undo yX7_undo : Cond) ∈ TBG := tbt_4 (List.mem_of_getElem? (i := 33) rfl) rfl
theorem q567 : (.code yX7_undo cX7_undo 1 (some .int) : Cond) ∈ TBG := tbt_4 (List.mem_of_getElem? (i := 34) rfl) rfl
theorem q568 : (.methodLink RX7 235 yX2_latest : Cond) ∈ TBG := tbt_4 (List.mem_of_getElem? (i := 36) rfl) rfl
theorem q569 : (.instanceMethod yX2_latest : Cond) ∈ TBG := tbt_4 (List.mem_of_getElem? (i := 37) rfl) rfl
theorem q570 : (.selects RX2 yX2_latest yX2_latest : Cond) ∈ TBG := tbt_4 (List.mem_of_getElem? (i := 38) rfl) rfl
theorem q571 : (.code yX2_latest cX2_latest 1 (some (.object "LeastRows$State")) : Cond) ∈ TBG := tbt_4 (List.mem_of_getElem? (i := 39) rfl) rfl
theorem q572 : (.methodLink RL 139 yL_cell : Cond) ∈ TBG := tbt_4 (List.mem_of_getElem? (i := 40) rfl) rfl
theorem q573 : (.static yL_cell : Cond) ∈ TBG := tbt_4 (List.mem_of_getElem? (i := 41) rfl) rfl
theorem q574 : (.codeWith yL_cell cL_cell 5 (some .int) [((0), (10), (13), (19))] : Cond) ∈ TBG := tbt_4 (List.mem_of_getElem? (i := 42) rfl) rfl
theorem q575 : (.methodLink RL 53 yX7_cell : Cond) ∈ TBG := tbt_4 (List.mem_of_getElem? (i := 43) rfl) rfl
theorem q576 : (.instanceMethod yX7_cell : Cond) ∈ TBG := tbt_4 (List.mem_of_getElem? (i := 44) rfl) rfl
theorem q577 : (.selects RX7 yX7_cell yX7_cell : Cond) ∈ TBG := tbt_4 (List.mem_of_getElem? (i := 45) rfl) rfl
theorem q578 : (.code yX7_cell cX7_cell 3 (some .int) : Cond) ∈ TBG := tbt_4 (List.mem_of_getElem? (i := 46) rfl) rfl
theorem q579 : (.methodLink RL 142 yL_place : Cond) ∈ TBG := tbt_4 (List.mem_of_getElem? (i := 47) rfl) rfl
theorem q580 : (.static yL_place : Cond) ∈ TBG := tbt_4 (List.mem_of_getElem? (i := 48) rfl) rfl
theorem q581 : (.codeWith yL_place cL_place 5 (some .int) [((0), (10), (13), (19)), ((0), (10), (17), (13))] : Cond) ∈ TBG := tbt_4 (List.mem_of_getElem? (i := 49) rfl) rfl
theorem q582 : (.methodLink RL 56 yX7_place : Cond) ∈ TBG := tbt_4 (List.mem_of_getElem? (i := 50) rfl) rfl
theorem q583 : (.instanceMethod yX7_place : Cond) ∈ TBG := tbt_4 (List.mem_of_getElem? (i := 51) rfl) rfl
theorem q584 : (.selects RX7 yX7_place yX7_place : Cond) ∈ TBG := tbt_4 (List.mem_of_getElem? (i := 52) rfl) rfl
theorem q585 : (.code yX7_place cX7_place 3 (some .int) : Cond) ∈ TBG := tbt_4 (List.mem_of_getElem? (i := 53) rfl) rfl
theorem q586 : (.methodLink RL 145 yL_looks : Cond) ∈ TBG := tbt_4 (List.mem_of_getElem? (i := 55) rfl) rfl
theorem q587 : (.static yL_looks : Cond) ∈ TBG := tbt_4 (List.mem_of_getElem? (i := 56) rfl) rfl
theorem q588 : (.codeWith yL_looks cL_looks 4 (some .int) [((0), (9), (12), (13))] : Cond) ∈ TBG := tbt_4 (List.mem_of_getElem? (i := 57) rfl) rfl
theorem q589 : (.methodLink RL 59 yX7_looks : Cond) ∈ TBG := tbt_4 (List.mem_of_getElem? (i := 58) rfl) rfl
theorem q590 : (.instanceMethod yX7_looks : Cond) ∈ TBG := tbt_4 (List.mem_of_getElem? (i := 59) rfl) rfl
theorem q591 : (.selects RX7 yX7_looks yX7_looks : Cond) ∈ TBG := tbt_4 (List.mem_of_getElem? (i := 60) rfl) rfl
theorem q592 : (.code yX7_looks cX7_looks 2 (some .int) : Cond) ∈ TBG := tbt_4 (List.mem_of_getElem? (i := 61) rfl) rfl
theorem q593 : (.methodLink RL 152 yL_witness : Cond) ∈ TBG := tbt_4 (List.mem_of_getElem? (i := 62) rfl) rfl
theorem q594 : (.static yL_witness : Cond) ∈ TBG := tbt_4 (List.mem_of_getElem? (i := 63) rfl) rfl
theorem q595 : (.codeWith yL_witness cL_witness 4 (some .int) [((0), (9), (12), (13))] : Cond) ∈ TBG := tbt_4 (List.mem_of_getElem? (i := 64) rfl) rfl
theorem q596 : (.methodLink RL 62 yX7_witness : Cond) ∈ TBG := tbt_4 (List.mem_of_getElem? (i := 65) rfl) rfl
theorem q597 : (.instanceMethod yX7_witness : Cond) ∈ TBG := tbt_4 (List.mem_of_getElem? (i := 66) rfl) rfl
theorem q598 : (.selects RX7 yX7_witness yX7_witness : Cond) ∈ TBG := tbt_4 (List.mem_of_getElem? (i := 67) rfl) rfl
theorem q599 : (.code yX7_witness cX7_witness 2 (some .int) : Cond) ∈ TBG := tbt_4 (List.mem_of_getElem? (i := 68) rfl) rfl
theorem q600 : (.methodLink RL 155 yL_count : Cond) ∈ TBG := tbt_4 (List.mem_of_getElem? (i := 70) rfl) rfl
theorem q601 : (.static yL_count : Cond) ∈ TBG := tbt_4 (List.mem_of_getElem? (i := 71) rfl) rfl
theorem q602 : (.codeWith yL_count cL_count 4 (some .int) [((0), (9), (12), (13))] : Cond) ∈ TBG := tbt_4 (List.mem_of_getElem? (i := 72) rfl) rfl
theorem q603 : (.methodLink RL 65 yX7_count : Cond) ∈ TBG := tbt_4 (List.mem_of_getElem? (i := 73) rfl) rfl
theorem q604 : (.instanceMethod yX7_count : Cond) ∈ TBG := tbt_4 (List.mem_of_getElem? (i := 74) rfl) rfl
theorem q605 : (.selects RX7 yX7_count yX7_count : Cond) ∈ TBG := tbt_4 (List.mem_of_getElem? (i := 75) rfl) rfl
theorem q606 : (.code yX7_count cX7_count 2 (some .int) : Cond) ∈ TBG := tbt_4 (List.mem_of_getElem? (i := 76) rfl) rfl
theorem q607 : (.methodLink RL 158 yL_weight : Cond) ∈ TBG := tbt_4 (List.mem_of_getElem? (i := 78) rfl) rfl
theorem q608 : (.static yL_weight : Cond) ∈ TBG := tbt_4 (List.mem_of_getElem? (i := 79) rfl) rfl
theorem q609 : (.codeWith yL_weight cL_weight 4 (some .int) [((0), (9), (12), (19))] : Cond) ∈ TBG := tbt_4 (List.mem_of_getElem? (i := 80) rfl) rfl
theorem q610 : (.methodLink RL 68 yX7_weight : Cond) ∈ TBG := tbt_4 (List.mem_of_getElem? (i := 81) rfl) rfl
theorem q611 : (.instanceMethod yX7_weight : Cond) ∈ TBG := tbt_4 (List.mem_of_getElem? (i := 82) rfl) rfl
theorem q612 : (.selects RX7 yX7_weight yX7_weight : Cond) ∈ TBG := tbt_4 (List.mem_of_getElem? (i := 83) rfl) rfl
theorem q613 : (.code yX7_weight cX7_weight 2 (some .int) : Cond) ∈ TBG := tbt_4 (List.mem_of_getElem? (i := 84) rfl) rfl
theorem q614 : (.methodLink RL 161 yL_cost : Cond) ∈ TBG := tbt_4 (List.mem_of_getElem? (i := 86) rfl) rfl
theorem q615 : (.static yL_cost : Cond) ∈ TBG := tbt_4 (List.mem_of_getElem? (i := 87) rfl) rfl
theorem q616 : (.codeWith yL_cost cL_cost 5 (some .int) [((0), (10), (13), (13))] : Cond) ∈ TBG := tbt_4 (List.mem_of_getElem? (i := 88) rfl) rfl
theorem q617 : (.methodLink RL 71 yX7_cost : Cond) ∈ TBG := tbt_4 (List.mem_of_getElem? (i := 89) rfl) rfl
theorem q618 : (.instanceMethod yX7_cost : Cond) ∈ TBG := tbt_4 (List.mem_of_getElem? (i := 90) rfl) rfl
theorem q619 : (.selects RX7 yX7_cost yX7_cost : Cond) ∈ TBG := tbt_4 (List.mem_of_getElem? (i := 91) rfl) rfl
theorem q620 : (.code yX7_cost cX7_cost 3 (some .int) : Cond) ∈ TBG := tbt_4 (List.mem_of_getElem? (i := 92) rfl) rfl
theorem q621 : (.methodLink RL 164 yL_cut : Cond) ∈ TBG := tbt_4 (List.mem_of_getElem? (i := 94) rfl) rfl
theorem q622 : (.static yL_cut : Cond) ∈ TBG := tbt_4 (List.mem_of_getElem? (i := 95) rfl) rfl
theorem q623 : (.codeWith yL_cut cL_cut 5 (some .int) [((0), (10), (13), (13))] : Cond) ∈ TBG := tbt_4 (List.mem_of_getElem? (i := 96) rfl) rfl
theorem q624 : (.methodLink RL 74 yX7_cut : Cond) ∈ TBG := tbt_4 (List.mem_of_getElem? (i := 97) rfl) rfl
theorem q625 : (.instanceMethod yX7_cut : Cond) ∈ TBG := tbt_4 (List.mem_of_getElem? (i := 98) rfl) rfl
theorem q626 : (.selects RX7 yX7_cut yX7_cut : Cond) ∈ TBG := tbt_4 (List.mem_of_getElem? (i := 99) rfl) rfl
theorem q627 : (.code yX7_cut cX7_cut 3 (some .int) : Cond) ∈ TBG := tbt_4 (List.mem_of_getElem? (i := 100) rfl) rfl
theorem q628 : (.methodLink RL 167 yL_fewestParts : Cond) ∈ TBG := tbt_4 (List.mem_of_getElem? (i := 102) rfl) rfl
theorem q629 : (.static yL_fewestParts : Cond) ∈ TBG := tbt_4 (List.mem_of_getElem? (i := 103) rfl) rfl
theorem q630 : (.codeWith yL_fewestParts cL_fewestParts 4 (some .int) [((0), (9), (12), (13))] : Cond) ∈ TBG := tbt_4 (List.mem_of_getElem? (i := 104) rfl) rfl
theorem q631 : (.methodLink RL 77 yX7_fewestParts : Cond) ∈ TBG := tbt_4 (List.mem_of_getElem? (i := 105) rfl) rfl
theorem q632 : (.instanceMethod yX7_fewestParts : Cond) ∈ TBG := tbt_4 (List.mem_of_getElem? (i := 106) rfl) rfl
theorem q633 : (.selects RX7 yX7_fewestParts yX7_fewestParts : Cond) ∈ TBG := tbt_4 (List.mem_of_getElem? (i := 107) rfl) rfl
theorem q634 : (.code yX7_fewestParts cX7_fewestParts 2 (some .int) : Cond) ∈ TBG := tbt_4 (List.mem_of_getElem? (i := 108) rfl) rfl
theorem q635 : (.constant RX7 275 (999999) : Cond) ∈ TBG := tbt_4 (List.mem_of_getElem? (i := 109) rfl) rfl
theorem q636 : (.classLink RL 81 RX8 : Cond) ∈ TBG := tbt_4 (List.mem_of_getElem? (i := 111) rfl) rfl
theorem q637 : (.instantiable RX8 21 : Cond) ∈ TBG := tbt_4 (List.mem_of_getElem? (i := 112) rfl) rfl
theorem q638 : (.methodLink RL 83 yX8_init : Cond) ∈ TBG := tbt_4 (List.mem_of_getElem? (i := 113) rfl) rfl
theorem q639 : (.instanceMethod yX8_init : Cond) ∈ TBG := tbt_4 (List.mem_of_getElem? (i := 114) rfl) rfl
theorem q640 : (.code yX8_init cX8_init 1 none : Cond) ∈ TBG := tbt_4 (List.mem_of_getElem? (i := 115) rfl) rfl
theorem q641 : (.methodLink RX8 1 objectInit : Cond) ∈ TBG := tbt_4 (List.mem_of_getElem? (i := 116) rfl) rfl
theorem q642 : (.fieldLink RX8 7 "LeastRowsModel" "now" "[I" : Cond) ∈ TBG := tbt_4 (List.mem_of_getElem? (i := 117) rfl) rfl
theorem q643 : (.fieldLink RX8 13 "LeastRowsModel" "past" "[I" : Cond) ∈ TBG := tbt_4 (List.mem_of_getElem? (i := 118) rfl) rfl
theorem q644 : (.fieldLink RX8 50 "LeastRowsModel" "states" "I" : Cond) ∈ TBG := tbt_4 (List.mem_of_getElem? (i := 119) rfl) rfl
theorem q645 : (.fieldLink RX8 16 "LeastRowsModel" "kept" "[I" : Cond) ∈ TBG := tbt_4 (List.mem_of_getElem? (i := 120) rfl) rfl
theorem q646 : (.fieldLink RX8 19 "LeastRowsModel" "isKept" "[I" : Cond) ∈ TBG := tbt_4 (List.mem_of_getElem? (i := 121) rfl) rfl
theorem q647 : (.fieldLink RX8 22 "LeastRowsModel" "text" "[I" : Cond) ∈ TBG := tbt_4 (List.mem_of_getElem? (i := 122) rfl) rfl
theorem q648 : (.fieldLink RX8 141 "LeastRowsModel" "length" "I" : Cond) ∈ TBG := tbt_4 (List.mem_of_getElem? (i := 123) rfl) rfl
theorem q649 : (.fieldLink RX8 46 "LeastRowsModel" "thrown" "I" : Cond) ∈ TBG := tbt_4 (List.mem_of_getElem? (i := 124) rfl) rfl
theorem q650 : (.fieldLink RX8 25 "LeastRowsModel" "places" "[I" : Cond) ∈ TBG := tbt_4 (List.mem_of_getElem? (i := 125) rfl) rfl
theorem q651 : (.fieldLink RX8 69 "LeastRowsModel" "looked" "I" : Cond) ∈ TBG := tbt_4 (List.mem_of_getElem? (i := 126) rfl) rfl
theorem q652 : (.fieldLink RX8 28 "LeastRowsModel" "open" "[I" : Cond) ∈ TBG := tbt_4 (List.mem_of_getElem? (i := 127) rfl) rfl
theorem q653 : (.fieldLink RX8 76 "LeastRowsModel" "opened" "I" : Cond) ∈ TBG := tbt_4 (List.mem_of_getElem? (i := 128) rfl) rfl
theorem q654 : (.fieldLink RX8 31 "LeastRowsModel" "left" "[I" : Cond) ∈ TBG := tbt_4 (List.mem_of_getElem? (i := 129) rfl) rfl
theorem q655 : (.fieldLink RX8 34 "LeastRowsModel" "lefts" "[I" : Cond) ∈ TBG := tbt_4 (List.mem_of_getElem? (i := 130) rfl) rfl
theorem q656 : (.fieldLink RX8 144 "LeastRowsModel" "spot" "I" : Cond) ∈ TBG := tbt_4 (List.mem_of_getElem? (i := 131) rfl) rfl
theorem q657 : (.fieldLink RX8 37 "LeastRowsModel" "told" "[I" : Cond) ∈ TBG := tbt_4 (List.mem_of_getElem? (i := 132) rfl) rfl
theorem q658 : (.fieldLink RX8 159 "LeastRowsModel" "toldRows" "I" : Cond) ∈ TBG := tbt_4 (List.mem_of_getElem? (i := 133) rfl) rfl
theorem q659 : (.fieldLink RX8 150 "LeastRowsModel" "toldColumns" "I" : Cond) ∈ TBG := tbt_4 (List.mem_of_getElem? (i := 134) rfl) rfl
theorem q660 : (.fieldLink RX8 40 "LeastRowsModel" "costs" "[I" : Cond) ∈ TBG := tbt_4 (List.mem_of_getElem? (i := 135) rfl) rfl
theorem q661 : (.fieldLink RX8 43 "LeastRowsModel" "lasts" "[I" : Cond) ∈ TBG := tbt_4 (List.mem_of_getElem? (i := 136) rfl) rfl
theorem q662 : (.fieldLink RX8 218 "LeastRowsModel" "hash" "J" : Cond) ∈ TBG := tbt_4 (List.mem_of_getElem? (i := 137) rfl) rfl
theorem q663 : (.methodLink RL 90 yX8_thrown : Cond) ∈ TBG := tbt_4 (List.mem_of_getElem? (i := 181) rfl) rfl
theorem q664 : (.instanceMethod yX8_thrown : Cond) ∈ TBG := tbt_4 (List.mem_of_getElem? (i := 182) rfl) rfl
theorem q665 : (.selects RX8 yX8_thrown yX8_thrown : Cond) ∈ TBG := tbt_4 (List.mem_of_getElem? (i := 183) rfl) rfl
theorem q666 : (.code yX8_thrown cX8_thrown 1 (some .int) : Cond) ∈ TBG := tbt_4 (List.mem_of_getElem? (i := 184) rfl) rfl
theorem q667 : (.methodLink RL 89 yX8_size : Cond) ∈ TBG := tbt_4 (List.mem_of_getElem? (i := 185) rfl) rfl
theorem q668 : (.instanceMethod yX8_size : Cond) ∈ TBG := tbt_4 (List.mem_of_getElem? (i := 186) rfl) rfl
theorem q669 : (.selects RX8 yX8_size yX8_size : Cond) ∈ TBG := tbt_4 (List.mem_of_getElem? (i := 187) rfl) rfl
theorem q670 : (.code yX8_size cX8_size 4 (some .int) : Cond) ∈ TBG := tbt_4 (List.mem_of_getElem? (i := 188) rfl) rfl
theorem q671 : (.methodLink RX8 89 yX8_in : Cond) ∈ TBG := tbt_4 (List.mem_of_getElem? (i := 189) rfl) rfl
theorem q672 : (.static yX8_in : Cond) ∈ TBG := tbt_4 (List.mem_of_getElem? (i := 190) rfl) rfl
theorem q673 : (.code yX8_in cX8_in 3 (some .boolean) : Cond) ∈ TBG := tbt_4 (List.mem_of_getElem? (i := 191) rfl) rfl
theorem q674 : (.methodLink RX8 126 yX8_refuses : Cond) ∈ TBG := tbt_4 (List.mem_of_getElem? (i := 192) rfl) rfl
theorem q675 : (.instanceMethod yX8_refuses : Cond) ∈ TBG := tbt_4 (List.mem_of_getElem? (i := 194) rfl) rfl
theorem q676 : (.code yX8_refuses cX8_refuses 2 (some .int) : Cond) ∈ TBG := tbt_4 (List.mem_of_getElem? (i := 195) rfl) rfl
theorem q677 : (.methodLink RX8 130 yX8_saves : Cond) ∈ TBG := tbt_4 (List.mem_of_getElem? (i := 196) rfl) rfl
theorem q678 : (.instanceMethod yX8_saves : Cond) ∈ TBG := tbt_4 (List.mem_of_getElem? (i := 198) rfl) rfl
theorem q679 : (.code yX8_saves cX8_saves 2 none : Cond) ∈ TBG := tbt_4 (List.mem_of_getElem? (i := 199) rfl) rfl
theorem q680 : (.methodLink RX8 53 yX8_lays : Cond) ∈ TBG := tbt_4 (List.mem_of_getElem? (i := 200) rfl) rfl
theorem q681 : (.static yX8_lays : Cond) ∈ TBG := tbt_4 (List.mem_of_getElem? (i := 201) rfl) rfl
theorem q682 : (.code yX8_lays cX8_lays 5 none : Cond) ∈ TBG := tbt_4 (List.mem_of_getElem? (i := 202) rfl) rfl
theorem q683 : (.methodLink RL 96 yX8_put : Cond) ∈ TBG := tbt_4 (List.mem_of_getElem? (i := 203) rfl) rfl
theorem q684 : (.instanceMethod yX8_put : Cond) ∈ TBG := tbt_4 (List.mem_of_getElem? (i := 204) rfl) rfl
theorem q685 : (.selects RX8 yX8_put yX8_put : Cond) ∈ TBG := tbt_4 (List.mem_of_getElem? (i := 205) rfl) rfl
theorem q686 : (.code yX8_put cX8_put 5 (some .int) : Cond) ∈ TBG := tbt_4 (List.mem_of_getElem? (i := 206) rfl) rfl
theorem q687 : (.methodLink RX8 133 yX8_isCell : Cond) ∈ TBG := tbt_4 (List.mem_of_getElem? (i := 207) rfl) rfl
theorem q688 : (.instanceMethod yX8_isCell : Cond) ∈ TBG := tbt_4 (List.mem_of_getElem? (i := 209) rfl) rfl
theorem q689 : (.code yX8_isCell cX8_isCell 3 (some .boolean) : Cond) ∈ TBG := tbt_4 (List.mem_of_getElem? (i := 210) rfl) rfl
theorem q690 : (.methodLink RX8 123 yX8_isRow : Cond) ∈ TBG := tbt_4 (List.mem_of_getElem? (i := 211) rfl) rfl
theorem q691 : (.instanceMethod yX8_isRow : Cond) ∈ TBG := tbt_4 (List.mem_of_getElem? (i := 213) rfl) rfl
theorem q692 : (.code yX8_isRow cX8_isRow 2 (some .boolean) : Cond) ∈ TBG := tbt_4 (List.mem_of_getElem? (i := 214) rfl) rfl
theorem q693 : (.methodLink RX8 57 yX8_at : Cond) ∈ TBG := tbt_4 (List.mem_of_getElem? (i := 215) rfl) rfl
theorem q694 : (.instanceMethod yX8_at : Cond) ∈ TBG := tbt_4 (List.mem_of_getElem? (i := 217) rfl) rfl
theorem q695 : (.code yX8_at cX8_at 3 (some .int) : Cond) ∈ TBG := tbt_4 (List.mem_of_getElem? (i := 218) rfl) rfl
theorem q696 : (.methodLink RX8 137 yX8_becomes : Cond) ∈ TBG := tbt_4 (List.mem_of_getElem? (i := 219) rfl) rfl
theorem q697 : (.instanceMethod yX8_becomes : Cond) ∈ TBG := tbt_4 (List.mem_of_getElem? (i := 221) rfl) rfl
theorem q698 : (.code yX8_becomes cX8_becomes 4 none : Cond) ∈ TBG := tbt_4 (List.mem_of_getElem? (i := 222) rfl) rfl
theorem q699 : (.methodLink RL 100 yX8_points : Cond) ∈ TBG := tbt_4 (List.mem_of_getElem? (i := 223) rfl) rfl
theorem q700 : (.instanceMethod yX8_points : Cond) ∈ TBG := tbt_4 (List.mem_of_getElem? (i := 224) rfl) rfl
theorem q701 : (.selects RX8 yX8_points yX8_points : Cond) ∈ TBG := tbt_4 (List.mem_of_getElem? (i := 225) rfl) rfl
theorem q702 : (.code yX8_points cX8_points 7 (some .int) : Cond) ∈ TBG := tbt_4 (List.mem_of_getElem? (i := 226) rfl) rfl
theorem q703 : (.methodLink RX8 112 yX8_isKeeping : Cond) ∈ TBG := tbt_4 (List.mem_of_getElem? (i := 227) rfl) rfl
theorem q704 : (.instanceMethod yX8_isKeeping : Cond) ∈ TBG := tbt_4 (List.mem_of_getElem? (i := 229) rfl) rfl
theorem q705 : (.code yX8_isKeeping cX8_isKeeping 1 (some .boolean) : Cond) ∈ TBG := tbt_4 (List.mem_of_getElem? (i := 230) rfl) rfl
theorem q706 : (.methodLink RX8 65 yX8_first : Cond) ∈ TBG := tbt_4 (List.mem_of_getElem? (i := 231) rfl) rfl
theorem q707 : (.instanceMethod yX8_first : Cond) ∈ TBG := tbt_4 (List.mem_of_getElem? (i := 233) rfl) rfl
theorem q708 : (.code yX8_first cX8_first 4 (some .int) : Cond) ∈ TBG := tbt_4 (List.mem_of_getElem? (i := 234) rfl) rfl
theorem q709 : (.methodLink RX8 61 yX8_isAgainst : Cond) ∈ TBG := tbt_4 (List.mem_of_getElem? (i := 235) rfl) rfl
theorem q710 : (.instanceMethod yX8_isAgainst : Cond) ∈ TBG := tbt_4 (List.mem_of_getElem? (i := 237) rfl) rfl
theorem q711 : (.code yX8_isAgainst cX8_isAgainst 4 (some .boolean) : Cond) ∈ TBG := tbt_4 (List.mem_of_getElem? (i := 238) rfl) rfl
theorem q712 : (.methodLink RL 104 yX8_mend : Cond) ∈ TBG := tbt_4 (List.mem_of_getElem? (i := 239) rfl) rfl
theorem q713 : (.instanceMethod yX8_mend : Cond) ∈ TBG := tbt_5 (List.mem_of_getElem? (i := 0) rfl) rfl
theorem q714 : (.selects RX8 yX8_mend yX8_mend : Cond) ∈ TBG := tbt_5 (List.mem_of_getElem? (i := 1) rfl) rfl
theorem q715 : (.code yX8_mend cX8_mend 4 (some .int) : Cond) ∈ TBG := tbt_5 (List.mem_of_getElem? (i := 2) rfl) rfl
theorem q716 : (.methodLink RL 108 yX8_find : Cond) ∈ TBG := tbt_5 (List.mem_of_getElem? (i := 3) rfl) rfl
theorem q717 : (.instanceMethod yX8_find : Cond) ∈ TBG := tbt_5 (List.mem_of_getElem? (i := 4) rfl) rfl
theorem q718 : (.selects RX8 yX8_find yX8_find : Cond) ∈ TBG := tbt_5 (List.mem_of_getElem? (i := 5) rfl) rfl
theorem q719 : (.code yX8_find cX8_find 2 (some .int) : Cond) ∈ TBG := tbt_5 (List.mem_of_getElem? (i := 6) rfl) rfl
theorem q720 : (.methodLink RX8 116 yX8_canGo : Cond) ∈ TBG := tbt_5 (List.mem_of_getElem? (i := 7) rfl) rfl
theorem q721 : (.instanceMethod yX8_canGo : Cond) ∈ TBG := tbt_5 (List.mem_of_getElem? (i := 9) rfl) rfl
theorem q722 : (.code yX8_canGo cX8_canGo 2 (some .boolean) : Cond) ∈ TBG := tbt_5 (List.mem_of_getElem? (i := 10) rfl) rfl
theorem q723 : (.methodLink RX8 120 yX8_finds : Cond) ∈ TBG := tbt_5 (List.mem_of_getElem? (i := 11) rfl) rfl
theorem q724 : (.instanceMethod yX8_finds : Cond) ∈ TBG := tbt_5 (List.mem_of_getElem? (i := 13) rfl) rfl
theorem q725 : (.code yX8_finds cX8_finds 2 none : Cond) ∈ TBG := tbt_5 (List.mem_of_getElem? (i := 14) rfl) rfl
theorem q726 : (.methodLink RX8 103 yX8_byAll : Cond) ∈ TBG := tbt_5 (List.mem_of_getElem? (i := 15) rfl) rfl
theorem q727 : (.instanceMethod yX8_byAll : Cond) ∈ TBG := tbt_5 (List.mem_of_getElem? (i := 17) rfl) rfl
theorem q728 : (.code yX8_byAll cX8_byAll 2 none : Cond) ∈ TBG := tbt_5 (List.mem_of_getElem? (i := 18) rfl) rfl
theorem q729 : (.methodLink RX8 72 yX8_least : Cond) ∈ TBG := tbt_5 (List.mem_of_getElem? (i := 19) rfl) rfl
theorem q730 : (.instanceMethod yX8_least : Cond) ∈ TBG := tbt_5 (List.mem_of_getElem? (i := 21) rfl) rfl
theorem q731 : (.code yX8_least cX8_least 6 (some .int) : Cond) ∈ TBG := tbt_5 (List.mem_of_getElem? (i := 22) rfl) rfl
theorem q732 : (.methodLink RX8 106 yX8_byHalves : Cond) ∈ TBG := tbt_5 (List.mem_of_getElem? (i := 23) rfl) rfl
theorem q733 : (.instanceMethod yX8_byHalves : Cond) ∈ TBG := tbt_5 (List.mem_of_getElem? (i := 25) rfl) rfl
theorem q734 : (.code yX8_byHalves cX8_byHalves 6 none : Cond) ∈ TBG := tbt_5 (List.mem_of_getElem? (i := 26) rfl) rfl
theorem q735 : (.methodLink RX8 79 yX8_opens : Cond) ∈ TBG := tbt_5 (List.mem_of_getElem? (i := 27) rfl) rfl
theorem q736 : (.instanceMethod yX8_opens : Cond) ∈ TBG := tbt_5 (List.mem_of_getElem? (i := 29) rfl) rfl
theorem q737 : (.code yX8_opens cX8_opens 5 none : Cond) ∈ TBG := tbt_5 (List.mem_of_getElem? (i := 30) rfl) rfl
theorem q738 : (.methodLink RX8 109 yX8_byThrowing : Cond) ∈ TBG := tbt_5 (List.mem_of_getElem? (i := 31) rfl) rfl
theorem q739 : (.instanceMethod yX8_byThrowing : Cond) ∈ TBG := tbt_5 (List.mem_of_getElem? (i := 33) rfl) rfl
theorem q740 : (.code yX8_byThrowing cX8_byThrowing 2 none : Cond) ∈ TBG := tbt_5 (List.mem_of_getElem? (i := 34) rfl) rfl
theorem q741 : (.methodLink RX8 96 yX8_throwsOut : Cond) ∈ TBG := tbt_5 (List.mem_of_getElem? (i := 35) rfl) rfl
theorem q742 : (.instanceMethod yX8_throwsOut : Cond) ∈ TBG := tbt_5 (List.mem_of_getElem? (i := 37) rfl) rfl
theorem q743 : (.code yX8_throwsOut cX8_throwsOut 5 none : Cond) ∈ TBG := tbt_5 (List.mem_of_getElem? (i := 38) rfl) rfl
theorem q744 : (.methodLink RX8 86 yX8_piles : Cond) ∈ TBG := tbt_5 (List.mem_of_getElem? (i := 39) rfl) rfl
theorem q745 : (.instanceMethod yX8_piles : Cond) ∈ TBG := tbt_5 (List.mem_of_getElem? (i := 41) rfl) rfl
theorem q746 : (.code yX8_piles cX8_piles 8 (some .int) : Cond) ∈ TBG := tbt_5 (List.mem_of_getElem? (i := 42) rfl) rfl
theorem q747 : (.methodLink RX8 83 yX8_rowAt : Cond) ∈ TBG := tbt_5 (List.mem_of_getElem? (i := 43) rfl) rfl
theorem q748 : (.static yX8_rowAt : Cond) ∈ TBG := tbt_5 (List.mem_of_getElem? (i := 44) rfl) rfl
theorem q749 : (.code yX8_rowAt cX8_rowAt 2 (some .int) : Cond) ∈ TBG := tbt_5 (List.mem_of_getElem? (i := 45) rfl) rfl
theorem q750 : (.methodLink RX8 100 yX8_fills : Cond) ∈ TBG := tbt_5 (List.mem_of_getElem? (i := 46) rfl) rfl
theorem q751 : (.instanceMethod yX8_fills : Cond) ∈ TBG := tbt_5 (List.mem_of_getElem? (i := 48) rfl) rfl
theorem q752 : (.code yX8_fills cX8_fills 7 none : Cond) ∈ TBG := tbt_5 (List.mem_of_getElem? (i := 49) rfl) rfl
theorem q753 : (.methodLink RX8 92 yX8_leastLeft : Cond) ∈ TBG := tbt_5 (List.mem_of_getElem? (i := 50) rfl) rfl
theorem q754 : (.instanceMethod yX8_leastLeft : Cond) ∈ TBG := tbt_5 (List.mem_of_getElem? (i := 52) rfl) rfl
theorem q755 : (.code yX8_leastLeft cX8_leastLeft 8 (some .int) : Cond) ∈ TBG := tbt_5 (List.mem_of_getElem? (i := 53) rfl) rfl
theorem q756 : (.methodLink RL 111 yX8_weigh : Cond) ∈ TBG := tbt_5 (List.mem_of_getElem? (i := 54) rfl) rfl
theorem q757 : (.instanceMethod yX8_weigh : Cond) ∈ TBG := tbt_5 (List.mem_of_getElem? (i := 55) rfl) rfl
theorem q758 : (.selects RX8 yX8_weigh yX8_weigh : Cond) ∈ TBG := tbt_5 (List.mem_of_getElem? (i := 56) rfl) rfl
theorem q759 : (.code yX8_weigh cX8_weigh 2 (some .int) : Cond) ∈ TBG := tbt_5 (List.mem_of_getElem? (i := 57) rfl) rfl
theorem q760 : (.methodLink RL 115 yX8_unweigh : Cond) ∈ TBG := tbt_5 (List.mem_of_getElem? (i := 58) rfl) rfl
theorem q761 : (.instanceMethod yX8_unweigh : Cond) ∈ TBG := tbt_5 (List.mem_of_getElem? (i := 59) rfl) rfl
theorem q762 : (.selects RX8 yX8_unweigh yX8_unweigh : Cond) ∈ TBG := tbt_5 (List.mem_of_getElem? (i := 60) rfl) rfl
theorem q763 : (.code yX8_unweigh cX8_unweigh 2 (some .int) : Cond) ∈ TBG := tbt_5 (List.mem_of_getElem? (i := 61) rfl) rfl
theorem q764 : (.methodLink RL 118 yX8_append : Cond) ∈ TBG := tbt_5 (List.mem_of_getElem? (i := 62) rfl) rfl
theorem q765 : (.instanceMethod yX8_append : Cond) ∈ TBG := tbt_5 (List.mem_of_getElem? (i := 63) rfl) rfl
theorem q766 : (.selects RX8 yX8_append yX8_append : Cond) ∈ TBG := tbt_5 (List.mem_of_getElem? (i := 64) rfl) rfl
theorem q767 : (.code yX8_append cX8_append 2 (some .int) : Cond) ∈ TBG := tbt_5 (List.mem_of_getElem? (i := 65) rfl) rfl
theorem q768 : (.methodLink RL 122 yX8_clearBuffer : Cond) ∈ TBG := tbt_5 (List.mem_of_getElem? (i := 66) rfl) rfl
theorem q769 : (.instanceMethod yX8_clearBuffer : Cond) ∈ TBG := tbt_5 (List.mem_of_getElem? (i := 67) rfl) rfl
theorem q770 : (.selects RX8 yX8_clearBuffer yX8_clearBuffer : Cond) ∈ TBG := tbt_5 (List.mem_of_getElem? (i := 68) rfl) rfl
theorem q771 : (.code yX8_clearBuffer cX8_clearBuffer 2 (some .int) : Cond) ∈ TBG := tbt_5 (List.mem_of_getElem? (i := 69) rfl) rfl
theorem q772 : (.methodLink RL 126 yX8_firstError : Cond) ∈ TBG := tbt_5 (List.mem_of_getElem? (i := 70) rfl) rfl
theorem q773 : (.instanceMethod yX8_firstError : Cond) ∈ TBG := tbt_5 (List.mem_of_getElem? (i := 71) rfl) rfl
theorem q774 : (.selects RX8 yX8_firstError yX8_firstError : Cond) ∈ TBG := tbt_5 (List.mem_of_getElem? (i := 72) rfl) rfl
theorem q775 : (.code yX8_firstError cX8_firstError 1 (some .int) : Cond) ∈ TBG := tbt_5 (List.mem_of_getElem? (i := 73) rfl) rfl
theorem q776 : (.methodLink RX8 165 yX8_isWhole : Cond) ∈ TBG := tbt_5 (List.mem_of_getElem? (i := 74) rfl) rfl
theorem q777 : (.instanceMethod yX8_isWhole : Cond) ∈ TBG := tbt_5 (List.mem_of_getElem? (i := 76) rfl) rfl
theorem q778 : (.code yX8_isWhole cX8_isWhole 3 (some .boolean) : Cond) ∈ TBG := tbt_5 (List.mem_of_getElem? (i := 77) rfl) rfl
theorem q779 : (.methodLink RX8 162 yX8_isLine : Cond) ∈ TBG := tbt_5 (List.mem_of_getElem? (i := 78) rfl) rfl
theorem q780 : (.instanceMethod yX8_isLine : Cond) ∈ TBG := tbt_5 (List.mem_of_getElem? (i := 80) rfl) rfl
theorem q781 : (.code yX8_isLine cX8_isLine 5 (some .int) : Cond) ∈ TBG := tbt_5 (List.mem_of_getElem? (i := 81) rfl) rfl
theorem q782 : (.methodLink RX8 153 yX8_isNumber : Cond) ∈ TBG := tbt_5 (List.mem_of_getElem? (i := 82) rfl) rfl
theorem q783 : (.instanceMethod yX8_isNumber : Cond) ∈ TBG := tbt_5 (List.mem_of_getElem? (i := 84) rfl) rfl
theorem q784 : (.code yX8_isNumber cX8_isNumber 4 (some .boolean) : Cond) ∈ TBG := tbt_5 (List.mem_of_getElem? (i := 85) rfl) rfl
theorem q785 : (.methodLink RX8 147 yX8_sees : Cond) ∈ TBG := tbt_5 (List.mem_of_getElem? (i := 86) rfl) rfl
theorem q786 : (.instanceMethod yX8_sees : Cond) ∈ TBG := tbt_5 (List.mem_of_getElem? (i := 88) rfl) rfl
theorem q787 : (.code yX8_sees cX8_sees 3 (some .boolean) : Cond) ∈ TBG := tbt_5 (List.mem_of_getElem? (i := 89) rfl) rfl
theorem q788 : (.methodLink RX8 156 yX8_takes : Cond) ∈ TBG := tbt_5 (List.mem_of_getElem? (i := 90) rfl) rfl
theorem q789 : (.instanceMethod yX8_takes : Cond) ∈ TBG := tbt_5 (List.mem_of_getElem? (i := 92) rfl) rfl
theorem q790 : (.code yX8_takes cX8_takes 3 (some .boolean) : Cond) ∈ TBG := tbt_5 (List.mem_of_getElem? (i := 93) rfl) rfl
theorem q791 : (.methodLink RL 129 yX8_load : Cond) ∈ TBG := tbt_5 (List.mem_of_getElem? (i := 94) rfl) rfl
theorem q792 : (.instanceMethod yX8_load : Cond) ∈ TBG := tbt_5 (List.mem_of_getElem? (i := 95) rfl) rfl
theorem q793 : (.selects RX8 yX8_load yX8_load : Cond) ∈ TBG := tbt_5 (List.mem_of_getElem? (i := 96) rfl) rfl
theorem q794 : (.code yX8_load cX8_load 2 (some .int) : Cond) ∈ TBG := tbt_5 (List.mem_of_getElem? (i := 97) rfl) rfl
theorem q795 : (.methodLink RL 132 yX8_keep : Cond) ∈ TBG := tbt_5 (List.mem_of_getElem? (i := 98) rfl) rfl
theorem q796 : (.instanceMethod yX8_keep : Cond) ∈ TBG := tbt_5 (List.mem_of_getElem? (i := 99) rfl) rfl
theorem q797 : (.selects RX8 yX8_keep yX8_keep : Cond) ∈ TBG := tbt_5 (List.mem_of_getElem? (i := 100) rfl) rfl
theorem q798 : (.code yX8_keep cX8_keep 2 (some .int) : Cond) ∈ TBG := tbt_5 (List.mem_of_getElem? (i := 101) rfl) rfl
theorem q799 : (.methodLink RL 135 yX8_goBack : Cond) ∈ TBG := tbt_5 (List.mem_of_getElem? (i := 102) rfl) rfl
theorem q800 : (.instanceMethod yX8_goBack : Cond) ∈ TBG := tbt_5 (List.mem_of_getElem? (i := 103) rfl) rfl
theorem q801 : (.selects RX8 yX8_goBack yX8_goBack : Cond) ∈ TBG := tbt_5 (List.mem_of_getElem? (i := 104) rfl) rfl
theorem q802 : (.code yX8_goBack cX8_goBack 2 (some .int) : Cond) ∈ TBG := tbt_5 (List.mem_of_getElem? (i := 105) rfl) rfl
theorem q803 : (.methodLink RL 138 yX8_undo : Cond) ∈ TBG := tbt_5 (List.mem_of_getElem? (i := 106) rfl) rfl
theorem q804 : (.instanceMethod yX8_undo : Cond) ∈ TBG := tbt_5 (List.mem_of_getElem? (i := 107) rfl) rfl
theorem q805 : (.selects RX8 yX8_undo yX8_undo : Cond) ∈ TBG := tbt_5 (List.mem_of_getElem? (i := 108) rfl) rfl
theorem q806 : (.code yX8_undo cX8_undo 1 (some .int) : Cond) ∈ TBG := tbt_5 (List.mem_of_getElem? (i := 109) rfl) rfl
theorem q807 : (.methodLink RL 141 yX8_cell : Cond) ∈ TBG := tbt_5 (List.mem_of_getElem? (i := 110) rfl) rfl
theorem q808 : (.instanceMethod yX8_cell : Cond) ∈ TBG := tbt_5 (List.mem_of_getElem? (i := 111) rfl) rfl
theorem q809 : (.selects RX8 yX8_cell yX8_cell : Cond) ∈ TBG := tbt_5 (List.mem_of_getElem? (i := 112) rfl) rfl
theorem q810 : (.code yX8_cell cX8_cell 3 (some .int) : Cond) ∈ TBG := tbt_5 (List.mem_of_getElem? (i := 113) rfl) rfl
theorem q811 : (.methodLink RL 144 yX8_place : Cond) ∈ TBG := tbt_5 (List.mem_of_getElem? (i := 114) rfl) rfl
theorem q812 : (.instanceMethod yX8_place : Cond) ∈ TBG := tbt_5 (List.mem_of_getElem? (i := 115) rfl) rfl
theorem q813 : (.selects RX8 yX8_place yX8_place : Cond) ∈ TBG := tbt_5 (List.mem_of_getElem? (i := 116) rfl) rfl
theorem q814 : (.code yX8_place cX8_place 3 (some .int) : Cond) ∈ TBG := tbt_5 (List.mem_of_getElem? (i := 117) rfl) rfl
theorem q815 : (.methodLink RX8 168 yX8_placeBy : Cond) ∈ TBG := tbt_5 (List.mem_of_getElem? (i := 118) rfl) rfl
theorem q816 : (.instanceMethod yX8_placeBy : Cond) ∈ TBG := tbt_5 (List.mem_of_getElem? (i := 120) rfl) rfl
theorem q817 : (.code yX8_placeBy cX8_placeBy 3 (some .int) : Cond) ∈ TBG := tbt_5 (List.mem_of_getElem? (i := 121) rfl) rfl
theorem q818 : (.methodLink RL 147 yX8_looks : Cond) ∈ TBG := tbt_5 (List.mem_of_getElem? (i := 122) rfl) rfl
theorem q819 : (.instanceMethod yX8_looks : Cond) ∈ TBG := tbt_5 (List.mem_of_getElem? (i := 123) rfl) rfl
theorem q820 : (.selects RX8 yX8_looks yX8_looks : Cond) ∈ TBG := tbt_5 (List.mem_of_getElem? (i := 124) rfl) rfl
theorem q821 : (.code yX8_looks cX8_looks 2 (some .int) : Cond) ∈ TBG := tbt_5 (List.mem_of_getElem? (i := 125) rfl) rfl
theorem q822 : (.methodLink RX8 171 yX8_looksBy : Cond) ∈ TBG := tbt_5 (List.mem_of_getElem? (i := 126) rfl) rfl
theorem q823 : (.instanceMethod yX8_looksBy : Cond) ∈ TBG := tbt_5 (List.mem_of_getElem? (i := 128) rfl) rfl
theorem q824 : (.code yX8_looksBy cX8_looksBy 2 (some .int) : Cond) ∈ TBG := tbt_5 (List.mem_of_getElem? (i := 129) rfl) rfl
theorem q825 : (.methodLink RL 151 yX8_bound : Cond) ∈ TBG := tbt_5 (List.mem_of_getElem? (i := 130) rfl) rfl
theorem q826 : (.instanceMethod yX8_bound : Cond) ∈ TBG := tbt_5 (List.mem_of_getElem? (i := 131) rfl) rfl
theorem q827 : (.selects RX8 yX8_bound yX8_bound : Cond) ∈ TBG := tbt_5 (List.mem_of_getElem? (i := 132) rfl) rfl
theorem q828 : (.code yX8_bound cX8_bound 1 (some .int) : Cond) ∈ TBG := tbt_5 (List.mem_of_getElem? (i := 133) rfl) rfl
theorem q829 : (.methodLink RX8 174 yX8_bounds : Cond) ∈ TBG := tbt_5 (List.mem_of_getElem? (i := 134) rfl) rfl
theorem q830 : (.instanceMethod yX8_bounds : Cond) ∈ TBG := tbt_5 (List.mem_of_getElem? (i := 136) rfl) rfl
theorem q831 : (.code yX8_bounds cX8_bounds 3 (some .int) : Cond) ∈ TBG := tbt_5 (List.mem_of_getElem? (i := 137) rfl) rfl
theorem q832 : (.methodLink RL 154 yX8_witness : Cond) ∈ TBG := tbt_5 (List.mem_of_getElem? (i := 138) rfl) rfl
theorem q833 : (.instanceMethod yX8_witness : Cond) ∈ TBG := tbt_5 (List.mem_of_getElem? (i := 139) rfl) rfl
theorem q834 : (.selects RX8 yX8_witness yX8_witness : Cond) ∈ TBG := tbt_5 (List.mem_of_getElem? (i := 140) rfl) rfl
theorem q835 : (.code yX8_witness cX8_witness 2 (some .int) : Cond) ∈ TBG := tbt_5 (List.mem_of_getElem? (i := 141) rfl) rfl
theorem q836 : (.methodLink RX8 180 yX8_testified : Cond) ∈ TBG := tbt_5 (List.mem_of_getElem? (i := 142) rfl) rfl
theorem q837 : (.instanceMethod yX8_testified : Cond) ∈ TBG := tbt_5 (List.mem_of_getElem? (i := 144) rfl) rfl
theorem q838 : (.code yX8_testified cX8_testified 3 (some .int) : Cond) ∈ TBG := tbt_5 (List.mem_of_getElem? (i := 145) rfl) rfl
theorem q839 : (.methodLink RX8 177 yX8_witnesses : Cond) ∈ TBG := tbt_5 (List.mem_of_getElem? (i := 146) rfl) rfl
theorem q840 : (.instanceMethod yX8_witnesses : Cond) ∈ TBG := tbt_5 (List.mem_of_getElem? (i := 148) rfl) rfl
theorem q841 : (.code yX8_witnesses cX8_witnesses 5 (some .int) : Cond) ∈ TBG := tbt_5 (List.mem_of_getElem? (i := 149) rfl) rfl
theorem q842 : (.methodLink RL 157 yX8_count : Cond) ∈ TBG := tbt_5 (List.mem_of_getElem? (i := 150) rfl) rfl
theorem q843 : (.instanceMethod yX8_count : Cond) ∈ TBG := tbt_5 (List.mem_of_getElem? (i := 151) rfl) rfl
theorem q844 : (.selects RX8 yX8_count yX8_count : Cond) ∈ TBG := tbt_5 (List.mem_of_getElem? (i := 152) rfl) rfl
theorem q845 : (.code yX8_count cX8_count 2 (some .int) : Cond) ∈ TBG := tbt_5 (List.mem_of_getElem? (i := 153) rfl) rfl
theorem q846 : (.methodLink RX8 189 yX8_counted : Cond) ∈ TBG := tbt_5 (List.mem_of_getElem? (i := 154) rfl) rfl
theorem q847 : (.instanceMethod yX8_counted : Cond) ∈ TBG := tbt_5 (List.mem_of_getElem? (i := 156) rfl) rfl
theorem q848 : (.code yX8_counted cX8_counted 2 (some .int) : Cond) ∈ TBG := tbt_5 (List.mem_of_getElem? (i := 157) rfl) rfl
theorem q849 : (.methodLink RX8 183 yX8_weighs : Cond) ∈ TBG := tbt_5 (List.mem_of_getElem? (i := 158) rfl) rfl
theorem q850 : (.instanceMethod yX8_weighs : Cond) ∈ TBG := tbt_5 (List.mem_of_getElem? (i := 160) rfl) rfl
theorem q851 : (.code yX8_weighs cX8_weighs 5 (some .int) : Cond) ∈ TBG := tbt_5 (List.mem_of_getElem? (i := 161) rfl) rfl
theorem q852 : (.methodLink RX8 186 yX8_goingBack : Cond) ∈ TBG := tbt_5 (List.mem_of_getElem? (i := 162) rfl) rfl
theorem q853 : (.instanceMethod yX8_goingBack : Cond) ∈ TBG := tbt_5 (List.mem_of_getElem? (i := 164) rfl) rfl
theorem q854 : (.code yX8_goingBack cX8_goingBack 3 (some .int) : Cond) ∈ TBG := tbt_5 (List.mem_of_getElem? (i := 165) rfl) rfl
theorem q855 : (.methodLink RL 160 yX8_weight : Cond) ∈ TBG := tbt_5 (List.mem_of_getElem? (i := 166) rfl) rfl
theorem q856 : (.instanceMethod yX8_weight : Cond) ∈ TBG := tbt_5 (List.mem_of_getElem? (i := 167) rfl) rfl
theorem q857 : (.selects RX8 yX8_weight yX8_weight : Cond) ∈ TBG := tbt_5 (List.mem_of_getElem? (i := 168) rfl) rfl
theorem q858 : (.code yX8_weight cX8_weight 2 (some .int) : Cond) ∈ TBG := tbt_5 (List.mem_of_getElem? (i := 169) rfl) rfl
theorem q859 : (.methodLink RL 163 yX8_cost : Cond) ∈ TBG := tbt_5 (List.mem_of_getElem? (i := 170) rfl) rfl
theorem q860 : (.instanceMethod yX8_cost : Cond) ∈ TBG := tbt_5 (List.mem_of_getElem? (i := 171) rfl) rfl
theorem q861 : (.selects RX8 yX8_cost yX8_cost : Cond) ∈ TBG := tbt_5 (List.mem_of_getElem? (i := 172) rfl) rfl
theorem q862 : (.code yX8_cost cX8_cost 3 (some .int) : Cond) ∈ TBG := tbt_5 (List.mem_of_getElem? (i := 173) rfl) rfl
theorem q863 : (.methodLink RX8 199 yX8_isParts : Cond) ∈ TBG := tbt_5 (List.mem_of_getElem? (i := 174) rfl) rfl
theorem q864 : (.instanceMethod yX8_isParts : Cond) ∈ TBG := tbt_5 (List.mem_of_getElem? (i := 176) rfl) rfl
theorem q865 : (.code yX8_isParts cX8_isParts 2 (some .boolean) : Cond) ∈ TBG := tbt_5 (List.mem_of_getElem? (i := 177) rfl) rfl
theorem q866 : (.methodLink RX8 202 yX8_leastCost : Cond) ∈ TBG := tbt_5 (List.mem_of_getElem? (i := 178) rfl) rfl
theorem q867 : (.instanceMethod yX8_leastCost : Cond) ∈ TBG := tbt_5 (List.mem_of_getElem? (i := 180) rfl) rfl
theorem q868 : (.code yX8_leastCost cX8_leastCost 2 (some .int) : Cond) ∈ TBG := tbt_5 (List.mem_of_getElem? (i := 181) rfl) rfl
theorem q869 : (.methodLink RX8 196 yX8_cuts : Cond) ∈ TBG := tbt_5 (List.mem_of_getElem? (i := 182) rfl) rfl
theorem q870 : (.instanceMethod yX8_cuts : Cond) ∈ TBG := tbt_5 (List.mem_of_getElem? (i := 184) rfl) rfl
theorem q871 : (.code yX8_cuts cX8_cuts 3 none : Cond) ∈ TBG := tbt_5 (List.mem_of_getElem? (i := 185) rfl) rfl
theorem q872 : (.methodLink RX8 192 yX8_part : Cond) ∈ TBG := tbt_5 (List.mem_of_getElem? (i := 186) rfl) rfl
theorem q873 : (.instanceMethod yX8_part : Cond) ∈ TBG := tbt_5 (List.mem_of_getElem? (i := 188) rfl) rfl
theorem q874 : (.code yX8_part cX8_part 8 none : Cond) ∈ TBG := tbt_5 (List.mem_of_getElem? (i := 189) rfl) rfl
theorem q875 : (.methodLink RL 166 yX8_cut : Cond) ∈ TBG := tbt_5 (List.mem_of_getElem? (i := 190) rfl) rfl
theorem q876 : (.instanceMethod yX8_cut : Cond) ∈ TBG := tbt_5 (List.mem_of_getElem? (i := 191) rfl) rfl
theorem q877 : (.selects RX8 yX8_cut yX8_cut : Cond) ∈ TBG := tbt_5 (List.mem_of_getElem? (i := 192) rfl) rfl
theorem q878 : (.code yX8_cut cX8_cut 3 (some .int) : Cond) ∈ TBG := tbt_5 (List.mem_of_getElem? (i := 193) rfl) rfl
theorem q879 : (.methodLink RX8 205 yX8_cutAt : Cond) ∈ TBG := tbt_5 (List.mem_of_getElem? (i := 194) rfl) rfl
theorem q880 : (.instanceMethod yX8_cutAt : Cond) ∈ TBG := tbt_5 (List.mem_of_getElem? (i := 196) rfl) rfl
theorem q881 : (.code yX8_cutAt cX8_cutAt 5 (some .int) : Cond) ∈ TBG := tbt_5 (List.mem_of_getElem? (i := 197) rfl) rfl
theorem q882 : (.methodLink RL 169 yX8_fewestParts : Cond) ∈ TBG := tbt_5 (List.mem_of_getElem? (i := 198) rfl) rfl
theorem q883 : (.instanceMethod yX8_fewestParts : Cond) ∈ TBG := tbt_5 (List.mem_of_getElem? (i := 199) rfl) rfl
theorem q884 : (.selects RX8 yX8_fewestParts yX8_fewestParts : Cond) ∈ TBG := tbt_5 (List.mem_of_getElem? (i := 200) rfl) rfl
theorem q885 : (.code yX8_fewestParts cX8_fewestParts 2 (some .int) : Cond) ∈ TBG := tbt_5 (List.mem_of_getElem? (i := 201) rfl) rfl
theorem q886 : (.constant RX8 208 (999999) : Cond) ∈ TBG := tbt_5 (List.mem_of_getElem? (i := 202) rfl) rfl
theorem q887 : (.methodLink RX8 209 yX8_fewest : Cond) ∈ TBG := tbt_5 (List.mem_of_getElem? (i := 203) rfl) rfl
theorem q888 : (.instanceMethod yX8_fewest : Cond) ∈ TBG := tbt_5 (List.mem_of_getElem? (i := 205) rfl) rfl
theorem q889 : (.code yX8_fewest cX8_fewest 3 (some .int) : Cond) ∈ TBG := tbt_5 (List.mem_of_getElem? (i := 206) rfl) rfl
theorem q890 : (.methodLink RL 174 yX8_halfShare : Cond) ∈ TBG := tbt_5 (List.mem_of_getElem? (i := 207) rfl) rfl
theorem q891 : (.instanceMethod yX8_halfShare : Cond) ∈ TBG := tbt_5 (List.mem_of_getElem? (i := 208) rfl) rfl
theorem q892 : (.selects RX8 yX8_halfShare yX8_halfShare : Cond) ∈ TBG := tbt_5 (List.mem_of_getElem? (i := 209) rfl) rfl
theorem q893 : (.code yX8_halfShare cX8_halfShare 1 (some .double) : Cond) ∈ TBG := tbt_5 (List.mem_of_getElem? (i := 210) rfl) rfl
theorem q894 : (.methodLink RX8 212 yX8_share : Cond) ∈ TBG := tbt_5 (List.mem_of_getElem? (i := 211) rfl) rfl
theorem q895 : (.instanceMethod yX8_share : Cond) ∈ TBG := tbt_5 (List.mem_of_getElem? (i := 213) rfl) rfl
theorem q896 : (.code yX8_share cX8_share 4 (some .double) : Cond) ∈ TBG := tbt_5 (List.mem_of_getElem? (i := 214) rfl) rfl
theorem q897 : (.methodLink RL 179 yX8_digest : Cond) ∈ TBG := tbt_5 (List.mem_of_getElem? (i := 215) rfl) rfl
theorem q898 : (.instanceMethod yX8_digest : Cond) ∈ TBG := tbt_5 (List.mem_of_getElem? (i := 216) rfl) rfl
theorem q899 : (.selects RX8 yX8_digest yX8_digest : Cond) ∈ TBG := tbt_5 (List.mem_of_getElem? (i := 217) rfl) rfl
theorem q900 : (.code yX8_digest cX8_digest 2 (some .long) : Cond) ∈ TBG := tbt_5 (List.mem_of_getElem? (i := 218) rfl) rfl
theorem q901 : (.constantLong RX8 226 (3613) : Cond) ∈ TBG := tbt_5 (List.mem_of_getElem? (i := 219) rfl) rfl
theorem q902 : (.methodLink RX8 222 yX8_mixes : Cond) ∈ TBG := tbt_5 (List.mem_of_getElem? (i := 220) rfl) rfl
theorem q903 : (.instanceMethod yX8_mixes : Cond) ∈ TBG := tbt_5 (List.mem_of_getElem? (i := 222) rfl) rfl
theorem q904 : (.code yX8_mixes cX8_mixes 3 none : Cond) ∈ TBG := tbt_5 (List.mem_of_getElem? (i := 223) rfl) rfl
theorem q905 : (.constantLong RX8 216 (31) : Cond) ∈ TBG := tbt_5 (List.mem_of_getElem? (i := 224) rfl) rfl
theorem q906 : (.methodLink RX8 228 yX8_mixesTable : Cond) ∈ TBG := tbt_5 (List.mem_of_getElem? (i := 225) rfl) rfl
theorem q907 : (.instanceMethod yX8_mixesTable : Cond) ∈ TBG := tbt_5 (List.mem_of_getElem? (i := 227) rfl) rfl
theorem q908 : (.code yX8_mixesTable cX8_mixesTable 2 none : Cond) ∈ TBG := tbt_5 (List.mem_of_getElem? (i := 228) rfl) rfl
theorem q909 : (.methodLink RX8 231 yX8_mixesCuts : Cond) ∈ TBG := tbt_5 (List.mem_of_getElem? (i := 229) rfl) rfl
theorem q910 : (.instanceMethod yX8_mixesCuts : Cond) ∈ TBG := tbt_5 (List.mem_of_getElem? (i := 231) rfl) rfl
theorem q911 : (.code yX8_mixesCuts cX8_mixesCuts 3 none : Cond) ∈ TBG := tbt_5 (List.mem_of_getElem? (i := 232) rfl) rfl
theorem q912 : (.methodLink RX8 234 yJxe99ae_doubleToLongBits_ccdee : Cond) ∈ TBG := tbt_5 (List.mem_of_getElem? (i := 233) rfl) rfl
theorem q913 : (.static yJxe99ae_doubleToLongBits_ccdee : Cond) ∈ TBG := tbt_5 (List.mem_of_getElem? (i := 234) rfl) rfl
theorem q914 : (.code yJxe99ae_doubleToLongBits_ccdee cJxe99ae_doubleToLongBits_ccdee 2 (some .long) : Cond) ∈ TBG := tbt_5 (List.mem_of_getElem? (i := 235) rfl) rfl
theorem q915 : (.methodLink RJxe99ae 122 yJxe99ae_isNaN_b9ae7 : Cond) ∈ TBG := tbt_5 (List.mem_of_getElem? (i := 236) rfl) rfl
theorem q916 : (.static yJxe99ae_isNaN_b9ae7 : Cond) ∈ TBG := tbt_5 (List.mem_of_getElem? (i := 237) rfl) rfl
theorem q917 : (.code yJxe99ae_isNaN_b9ae7 cJxe99ae_isNaN_b9ae7 2 (some .boolean) : Cond) ∈ TBG := tbt_5 (List.mem_of_getElem? (i := 238) rfl) rfl
theorem q918 : (.methodLink RJxe99ae 134 (⟨RJxe99ae, "doubleToRawLongBits", "(D)J"⟩ : MethodName) : Cond) ∈ TBG := tbt_5 (List.mem_of_getElem? (i := 239) rfl) rfl
theorem q919 : (.static (⟨RJxe99ae, "doubleToRawLongBits", "(D)J"⟩ : MethodName) : Cond) ∈ TBG := tbt_6 (List.mem_of_getElem? (i := 0) rfl) rfl
theorem q920 : (.constantLong RJxe99ae 137 (9221120237041090560) : Cond) ∈ TBG := tbt_6 (List.mem_of_getElem? (i := 2) rfl) rfl
theorem q921 : (.arrayClass .long : Cond) ∈ TBG := tbt_6 (List.mem_of_getElem? (i := 3) rfl) rfl
theorem q922 : (.selects RX2 yX2_stateAt yX2_stateAt : Cond) ∈ TBG := tbs (List.mem_of_getElem? (i := 0) rfl) rfl
theorem q923 : (.selects RX3 yX3_isGreater yX3_isGreater : Cond) ∈ TBG := tbs (List.mem_of_getElem? (i := 1) rfl) rfl
theorem q924 : (.selects RX3 yX3_note yX3_note : Cond) ∈ TBG := tbs (List.mem_of_getElem? (i := 2) rfl) rfl
theorem q925 : (.selects RX6 yX6_takes yX6_takes : Cond) ∈ TBG := tbs (List.mem_of_getElem? (i := 3) rfl) rfl
theorem q926 : (.selects RX6 yX6_takesDigit yX6_takesDigit : Cond) ∈ TBG := tbs (List.mem_of_getElem? (i := 4) rfl) rfl
theorem q927 : (.selects RX6 yX6_takesComma yX6_takesComma : Cond) ∈ TBG := tbs (List.mem_of_getElem? (i := 5) rfl) rfl
theorem q928 : (.selects RX6 yX6_takesSlash yX6_takesSlash : Cond) ∈ TBG := tbs (List.mem_of_getElem? (i := 6) rfl) rfl
theorem q929 : (.selects RX6 yX6_isRowFull yX6_isRowFull : Cond) ∈ TBG := tbs (List.mem_of_getElem? (i := 7) rfl) rfl
theorem q930 : (.selects RX1 yX1_leaveAllColumns yX1_leaveAllColumns : Cond) ∈ TBG := tbs (List.mem_of_getElem? (i := 8) rfl) rfl
theorem q931 : (.selects RX1 yX1_leftmostLeast yX1_leftmostLeast : Cond) ∈ TBG := tbs (List.mem_of_getElem? (i := 9) rfl) rfl
theorem q932 : (.selects RX1 yX1_columnLeft yX1_columnLeft : Cond) ∈ TBG := tbs (List.mem_of_getElem? (i := 10) rfl) rfl
theorem q933 : (.selects RX1 yX1_look yX1_look : Cond) ∈ TBG := tbs (List.mem_of_getElem? (i := 11) rfl) rfl
theorem q934 : (.selects RX1 yX1_setPlace yX1_setPlace : Cond) ∈ TBG := tbs (List.mem_of_getElem? (i := 12) rfl) rfl
theorem q935 : (.selects RX1 yX1_pileColumns yX1_pileColumns : Cond) ∈ TBG := tbs (List.mem_of_getElem? (i := 13) rfl) rfl
theorem q936 : (.selects RX1 yX1_rowsAt yX1_rowsAt : Cond) ∈ TBG := tbs (List.mem_of_getElem? (i := 14) rfl) rfl
theorem q937 : (.selects RX1 yX1_heightAfterThrowing yX1_heightAfterThrowing : Cond) ∈ TBG := tbs (List.mem_of_getElem? (i := 15) rfl) rfl
theorem q938 : (.selects RX1 yX1_rowAt yX1_rowAt : Cond) ∈ TBG := tbs (List.mem_of_getElem? (i := 16) rfl) rfl
theorem q939 : (.selects RX1 yX1_fillBetween yX1_fillBetween : Cond) ∈ TBG := tbs (List.mem_of_getElem? (i := 17) rfl) rfl
theorem q940 : (.selects RX1 yX1_lookAtAll yX1_lookAtAll : Cond) ∈ TBG := tbs (List.mem_of_getElem? (i := 18) rfl) rfl
theorem q941 : (.selects RX7 yX7_counted yX7_counted : Cond) ∈ TBG := tbs (List.mem_of_getElem? (i := 19) rfl) rfl
theorem q942 : (.selects RX7 yX7_mixedCells yX7_mixedCells : Cond) ∈ TBG := tbs (List.mem_of_getElem? (i := 20) rfl) rfl
theorem q943 : (.selects RX7 yX7_seekByAllWays yX7_seekByAllWays : Cond) ∈ TBG := tbs (List.mem_of_getElem? (i := 21) rfl) rfl
theorem q944 : (.selects RX7 yX7_mixedPlaces yX7_mixedPlaces : Cond) ∈ TBG := tbs (List.mem_of_getElem? (i := 22) rfl) rfl
theorem q945 : (.selects RX7 yX7_mixedWeights yX7_mixedWeights : Cond) ∈ TBG := tbs (List.mem_of_getElem? (i := 23) rfl) rfl
theorem q946 : (.selects RX0 yX0_planLastCut yX0_planLastCut : Cond) ∈ TBG := tbs (List.mem_of_getElem? (i := 24) rfl) rfl
theorem q947 : (.selects "java/lang/Throwable" (⟨"java/lang/Throwable", "fillInStackTrace", "(I)Ljava/lang/Throwable;"⟩ : MethodName) (⟨"java/lang/Throwable", "fillInStackTrace", "(I)Ljava/lang/Throwable;"⟩ : MethodName) : Cond) ∈ TBG := tbs (List.mem_of_getElem? (i := 25) rfl) rfl
theorem q948 : (.selects RX7 yX7_isOpen yX7_isOpen : Cond) ∈ TBG := tbs (List.mem_of_getElem? (i := 26) rfl) rfl
theorem q949 : (.selects RX7 yX7_slotAt yX7_slotAt : Cond) ∈ TBG := tbs (List.mem_of_getElem? (i := 27) rfl) rfl
theorem q950 : (.selects RX8 yX8_refuses yX8_refuses : Cond) ∈ TBG := tbs (List.mem_of_getElem? (i := 28) rfl) rfl
theorem q951 : (.selects RX8 yX8_saves yX8_saves : Cond) ∈ TBG := tbs (List.mem_of_getElem? (i := 29) rfl) rfl
theorem q952 : (.selects RX8 yX8_isCell yX8_isCell : Cond) ∈ TBG := tbs (List.mem_of_getElem? (i := 30) rfl) rfl
theorem q953 : (.selects RX8 yX8_isRow yX8_isRow : Cond) ∈ TBG := tbs (List.mem_of_getElem? (i := 31) rfl) rfl
theorem q954 : (.selects RX8 yX8_at yX8_at : Cond) ∈ TBG := tbs (List.mem_of_getElem? (i := 32) rfl) rfl
theorem q955 : (.selects RX8 yX8_becomes yX8_becomes : Cond) ∈ TBG := tbs (List.mem_of_getElem? (i := 33) rfl) rfl
theorem q956 : (.selects RX8 yX8_isKeeping yX8_isKeeping : Cond) ∈ TBG := tbs (List.mem_of_getElem? (i := 34) rfl) rfl
theorem q957 : (.selects RX8 yX8_first yX8_first : Cond) ∈ TBG := tbs (List.mem_of_getElem? (i := 35) rfl) rfl
theorem q958 : (.selects RX8 yX8_isAgainst yX8_isAgainst : Cond) ∈ TBG := tbs (List.mem_of_getElem? (i := 36) rfl) rfl
theorem q959 : (.selects RX8 yX8_canGo yX8_canGo : Cond) ∈ TBG := tbs (List.mem_of_getElem? (i := 37) rfl) rfl
theorem q960 : (.selects RX8 yX8_finds yX8_finds : Cond) ∈ TBG := tbs (List.mem_of_getElem? (i := 38) rfl) rfl
theorem q961 : (.selects RX8 yX8_byAll yX8_byAll : Cond) ∈ TBG := tbs (List.mem_of_getElem? (i := 39) rfl) rfl
theorem q962 : (.selects RX8 yX8_least yX8_least : Cond) ∈ TBG := tbs (List.mem_of_getElem? (i := 40) rfl) rfl
theorem q963 : (.selects RX8 yX8_byHalves yX8_byHalves : Cond) ∈ TBG := tbs (List.mem_of_getElem? (i := 41) rfl) rfl
theorem q964 : (.selects RX8 yX8_opens yX8_opens : Cond) ∈ TBG := tbs (List.mem_of_getElem? (i := 42) rfl) rfl
theorem q965 : (.selects RX8 yX8_byThrowing yX8_byThrowing : Cond) ∈ TBG := tbs (List.mem_of_getElem? (i := 43) rfl) rfl
theorem q966 : (.selects RX8 yX8_throwsOut yX8_throwsOut : Cond) ∈ TBG := tbs (List.mem_of_getElem? (i := 44) rfl) rfl
theorem q967 : (.selects RX8 yX8_piles yX8_piles : Cond) ∈ TBG := tbs (List.mem_of_getElem? (i := 45) rfl) rfl
theorem q968 : (.selects RX8 yX8_fills yX8_fills : Cond) ∈ TBG := tbs (List.mem_of_getElem? (i := 46) rfl) rfl
theorem q969 : (.selects RX8 yX8_leastLeft yX8_leastLeft : Cond) ∈ TBG := tbs (List.mem_of_getElem? (i := 47) rfl) rfl
theorem q970 : (.selects RX8 yX8_isWhole yX8_isWhole : Cond) ∈ TBG := tbs (List.mem_of_getElem? (i := 48) rfl) rfl
theorem q971 : (.selects RX8 yX8_isLine yX8_isLine : Cond) ∈ TBG := tbs (List.mem_of_getElem? (i := 49) rfl) rfl
theorem q972 : (.selects RX8 yX8_isNumber yX8_isNumber : Cond) ∈ TBG := tbs (List.mem_of_getElem? (i := 50) rfl) rfl
theorem q973 : (.selects RX8 yX8_sees yX8_sees : Cond) ∈ TBG := tbs (List.mem_of_getElem? (i := 51) rfl) rfl
theorem q974 : (.selects RX8 yX8_takes yX8_takes : Cond) ∈ TBG := tbs (List.mem_of_getElem? (i := 52) rfl) rfl
theorem q975 : (.selects RX8 yX8_placeBy yX8_placeBy : Cond) ∈ TBG := tbs (List.mem_of_getElem? (i := 53) rfl) rfl
theorem q976 : (.selects RX8 yX8_looksBy yX8_looksBy : Cond) ∈ TBG := tbs (List.mem_of_getElem? (i := 54) rfl) rfl
theorem q977 : (.selects RX8 yX8_bounds yX8_bounds : Cond) ∈ TBG := tbs (List.mem_of_getElem? (i := 55) rfl) rfl
theorem q978 : (.selects RX8 yX8_testified yX8_testified : Cond) ∈ TBG := tbs (List.mem_of_getElem? (i := 56) rfl) rfl
theorem q979 : (.selects RX8 yX8_witnesses yX8_witnesses : Cond) ∈ TBG := tbs (List.mem_of_getElem? (i := 57) rfl) rfl
theorem q980 : (.selects RX8 yX8_counted yX8_counted : Cond) ∈ TBG := tbs (List.mem_of_getElem? (i := 58) rfl) rfl
theorem q981 : (.selects RX8 yX8_weighs yX8_weighs : Cond) ∈ TBG := tbs (List.mem_of_getElem? (i := 59) rfl) rfl
theorem q982 : (.selects RX8 yX8_goingBack yX8_goingBack : Cond) ∈ TBG := tbs (List.mem_of_getElem? (i := 60) rfl) rfl
theorem q983 : (.selects RX8 yX8_isParts yX8_isParts : Cond) ∈ TBG := tbs (List.mem_of_getElem? (i := 61) rfl) rfl
theorem q984 : (.selects RX8 yX8_leastCost yX8_leastCost : Cond) ∈ TBG := tbs (List.mem_of_getElem? (i := 62) rfl) rfl
theorem q985 : (.selects RX8 yX8_cuts yX8_cuts : Cond) ∈ TBG := tbs (List.mem_of_getElem? (i := 63) rfl) rfl
theorem q986 : (.selects RX8 yX8_part yX8_part : Cond) ∈ TBG := tbs (List.mem_of_getElem? (i := 64) rfl) rfl
theorem q987 : (.selects RX8 yX8_cutAt yX8_cutAt : Cond) ∈ TBG := tbs (List.mem_of_getElem? (i := 65) rfl) rfl
theorem q988 : (.selects RX8 yX8_fewest yX8_fewest : Cond) ∈ TBG := tbs (List.mem_of_getElem? (i := 66) rfl) rfl
theorem q989 : (.selects RX8 yX8_share yX8_share : Cond) ∈ TBG := tbs (List.mem_of_getElem? (i := 67) rfl) rfl
theorem q990 : (.selects RX8 yX8_mixes yX8_mixes : Cond) ∈ TBG := tbs (List.mem_of_getElem? (i := 68) rfl) rfl
theorem q991 : (.selects RX8 yX8_mixesTable yX8_mixesTable : Cond) ∈ TBG := tbs (List.mem_of_getElem? (i := 69) rfl) rfl
theorem q992 : (.selects RX8 yX8_mixesCuts yX8_mixesCuts : Cond) ∈ TBG := tbs (List.mem_of_getElem? (i := 70) rfl) rfl
def NWL : List Cond := [.methodLinkNest RX5 37 yX7_setIn RX7, .methodLinkNest RX7 41 yX6_init RX7, .methodLinkNest RX7 55 yX4_init RX7, .methodLinkNest RX5 53 yX7_copyAll RX7, .methodLinkNest RX6 41 yX7_numberIn RX7, .methodLinkNest RX6 61 yX7_isFromTo RX7, .methodLinkNest RX6 37 yX7_setIn RX7, .methodLinkNest RX1 60 yX7_setIn RX7, .methodLinkNest RX1 64 yX7_numberIn RX7, .methodLinkNest RX1 100 yX7_isFromTo RX7, .methodLinkNest RX5 45 yX7_numberIn RX7, .methodLinkNest RX0 38 yX7_setIn RX7, .methodLinkNest RX0 46 yX7_numberIn RX7, .methodLinkNest RX5 41 yX7_isFromTo RX7]
theorem NWL_in : ∀ w ∈ NWL, w ∈ lw_tbl := List.forall_mem_cons.mpr ⟨q32, List.forall_mem_cons.mpr ⟨q96, List.forall_mem_cons.mpr ⟨q123, List.forall_mem_cons.mpr ⟨q156, List.forall_mem_cons.mpr ⟨q198, List.forall_mem_cons.mpr ⟨q204, List.forall_mem_cons.mpr ⟨q210, List.forall_mem_cons.mpr ⟨q240, List.forall_mem_cons.mpr ⟨q247, List.forall_mem_cons.mpr ⟨q251, List.forall_mem_cons.mpr ⟨q305, List.forall_mem_cons.mpr ⟨q343, List.forall_mem_cons.mpr ⟨q348, List.forall_mem_cons.mpr ⟨q446, fun _ h => absurd h List.not_mem_nil⟩⟩⟩⟩⟩⟩⟩⟩⟩⟩⟩⟩⟩⟩
theorem nw0 : (.methodLinkNest RX5 37 yX7_setIn RX7 : Cond) ∈ NWL := List.mem_of_getElem? (i := 0) rfl
theorem nw1 : (.methodLinkNest RX7 41 yX6_init RX7 : Cond) ∈ NWL := List.mem_of_getElem? (i := 1) rfl
theorem nw2 : (.methodLinkNest RX7 55 yX4_init RX7 : Cond) ∈ NWL := List.mem_of_getElem? (i := 2) rfl
theorem nw3 : (.methodLinkNest RX5 53 yX7_copyAll RX7 : Cond) ∈ NWL := List.mem_of_getElem? (i := 3) rfl
theorem nw4 : (.methodLinkNest RX6 41 yX7_numberIn RX7 : Cond) ∈ NWL := List.mem_of_getElem? (i := 4) rfl
theorem nw5 : (.methodLinkNest RX6 61 yX7_isFromTo RX7 : Cond) ∈ NWL := List.mem_of_getElem? (i := 5) rfl
theorem nw6 : (.methodLinkNest RX6 37 yX7_setIn RX7 : Cond) ∈ NWL := List.mem_of_getElem? (i := 6) rfl
theorem nw7 : (.methodLinkNest RX1 60 yX7_setIn RX7 : Cond) ∈ NWL := List.mem_of_getElem? (i := 7) rfl
theorem nw8 : (.methodLinkNest RX1 64 yX7_numberIn RX7 : Cond) ∈ NWL := List.mem_of_getElem? (i := 8) rfl
theorem nw9 : (.methodLinkNest RX1 100 yX7_isFromTo RX7 : Cond) ∈ NWL := List.mem_of_getElem? (i := 9) rfl
theorem nw10 : (.methodLinkNest RX5 45 yX7_numberIn RX7 : Cond) ∈ NWL := List.mem_of_getElem? (i := 10) rfl
theorem nw11 : (.methodLinkNest RX0 38 yX7_setIn RX7 : Cond) ∈ NWL := List.mem_of_getElem? (i := 11) rfl
theorem nw12 : (.methodLinkNest RX0 46 yX7_numberIn RX7 : Cond) ∈ NWL := List.mem_of_getElem? (i := 12) rfl
theorem nw13 : (.methodLinkNest RX5 41 yX7_isFromTo RX7 : Cond) ∈ NWL := List.mem_of_getElem? (i := 13) rfl
theorem ly0_0 : u_lay RX0 TX0 0 ∈ TBG := tbt_1 (List.mem_of_getElem? (i := 137) rfl) rfl
theorem ly0_1 : u_lay RX0 TX0 1 ∈ TBG := tbt_1 (List.mem_of_getElem? (i := 139) rfl) rfl
theorem ly0_2 : u_lay RX0 TX0 2 ∈ TBG := tbt_1 (List.mem_of_getElem? (i := 141) rfl) rfl
theorem ly0_3 : u_lay RX0 TX0 3 ∈ TBG := tbt_1 (List.mem_of_getElem? (i := 143) rfl) rfl
theorem ly0_4 : u_lay RX0 TX0 4 ∈ TBG := tbt_1 (List.mem_of_getElem? (i := 145) rfl) rfl
theorem ixX0 : ∀ w ∈ u_ws RX0 TX0 5, w ∈ TBG := by
  show ∀ w ∈ [u_lay RX0 TX0 0, u_lay RX0 TX0 1, u_lay RX0 TX0 2, u_lay RX0 TX0 3, u_lay RX0 TX0 4], w ∈ TBG
  exact List.forall_mem_cons.mpr ⟨ly0_0, List.forall_mem_cons.mpr ⟨ly0_1, List.forall_mem_cons.mpr ⟨ly0_2, List.forall_mem_cons.mpr ⟨ly0_3, List.forall_mem_cons.mpr ⟨ly0_4, fun _ h => absurd h List.not_mem_nil⟩⟩⟩⟩⟩
theorem ly1_0 : u_lay RX1 TX1 0 ∈ TBG := tbt_1 (List.mem_of_getElem? (i := 111) rfl) rfl
theorem ly1_1 : u_lay RX1 TX1 1 ∈ TBG := tbt_1 (List.mem_of_getElem? (i := 113) rfl) rfl
theorem ly1_2 : u_lay RX1 TX1 2 ∈ TBG := tbt_1 (List.mem_of_getElem? (i := 115) rfl) rfl
theorem ly1_3 : u_lay RX1 TX1 3 ∈ TBG := tbt_1 (List.mem_of_getElem? (i := 117) rfl) rfl
theorem ly1_4 : u_lay RX1 TX1 4 ∈ TBG := tbt_1 (List.mem_of_getElem? (i := 119) rfl) rfl
theorem ly1_5 : u_lay RX1 TX1 5 ∈ TBG := tbt_1 (List.mem_of_getElem? (i := 121) rfl) rfl
theorem ly1_6 : u_lay RX1 TX1 6 ∈ TBG := tbt_1 (List.mem_of_getElem? (i := 123) rfl) rfl
theorem ixX1 : ∀ w ∈ u_ws RX1 TX1 7, w ∈ TBG := by
  show ∀ w ∈ [u_lay RX1 TX1 0, u_lay RX1 TX1 1, u_lay RX1 TX1 2, u_lay RX1 TX1 3, u_lay RX1 TX1 4, u_lay RX1 TX1 5, u_lay RX1 TX1 6], w ∈ TBG
  exact List.forall_mem_cons.mpr ⟨ly1_0, List.forall_mem_cons.mpr ⟨ly1_1, List.forall_mem_cons.mpr ⟨ly1_2, List.forall_mem_cons.mpr ⟨ly1_3, List.forall_mem_cons.mpr ⟨ly1_4, List.forall_mem_cons.mpr ⟨ly1_5, List.forall_mem_cons.mpr ⟨ly1_6, fun _ h => absurd h List.not_mem_nil⟩⟩⟩⟩⟩⟩⟩
theorem ly2_0 : u_lay RX2 TX2 0 ∈ TBG := tbt_1 (List.mem_of_getElem? (i := 193) rfl) rfl
theorem ly2_1 : u_lay RX2 TX2 1 ∈ TBG := tbt_1 (List.mem_of_getElem? (i := 195) rfl) rfl
theorem ly2_2 : u_lay RX2 TX2 2 ∈ TBG := tbt_1 (List.mem_of_getElem? (i := 197) rfl) rfl
theorem ixX2 : ∀ w ∈ u_ws RX2 TX2 3, w ∈ TBG := by
  show ∀ w ∈ [u_lay RX2 TX2 0, u_lay RX2 TX2 1, u_lay RX2 TX2 2], w ∈ TBG
  exact List.forall_mem_cons.mpr ⟨ly2_0, List.forall_mem_cons.mpr ⟨ly2_1, List.forall_mem_cons.mpr ⟨ly2_2, fun _ h => absurd h List.not_mem_nil⟩⟩⟩
theorem ly3_0 : u_lay RX3 TX3 0 ∈ TBG := tbt_1 (List.mem_of_getElem? (i := 87) rfl) rfl
theorem ly3_1 : u_lay RX3 TX3 1 ∈ TBG := tbt_1 (List.mem_of_getElem? (i := 89) rfl) rfl
theorem ly3_2 : u_lay RX3 TX3 2 ∈ TBG := tbt_1 (List.mem_of_getElem? (i := 91) rfl) rfl
theorem ly3_3 : u_lay RX3 TX3 3 ∈ TBG := tbt_1 (List.mem_of_getElem? (i := 93) rfl) rfl
theorem ly3_4 : u_lay RX3 TX3 4 ∈ TBG := tbt_1 (List.mem_of_getElem? (i := 95) rfl) rfl
theorem ixX3 : ∀ w ∈ u_ws RX3 TX3 5, w ∈ TBG := by
  show ∀ w ∈ [u_lay RX3 TX3 0, u_lay RX3 TX3 1, u_lay RX3 TX3 2, u_lay RX3 TX3 3, u_lay RX3 TX3 4], w ∈ TBG
  exact List.forall_mem_cons.mpr ⟨ly3_0, List.forall_mem_cons.mpr ⟨ly3_1, List.forall_mem_cons.mpr ⟨ly3_2, List.forall_mem_cons.mpr ⟨ly3_3, List.forall_mem_cons.mpr ⟨ly3_4, fun _ h => absurd h List.not_mem_nil⟩⟩⟩⟩⟩
theorem ly4_0 : u_lay RX4 TX4 0 ∈ TBG := tbt_1 (List.mem_of_getElem? (i := 212) rfl) rfl
theorem ly4_1 : u_lay RX4 TX4 1 ∈ TBG := tbt_1 (List.mem_of_getElem? (i := 214) rfl) rfl
theorem ixX4 : ∀ w ∈ u_ws RX4 TX4 2, w ∈ TBG := by
  show ∀ w ∈ [u_lay RX4 TX4 0, u_lay RX4 TX4 1], w ∈ TBG
  exact List.forall_mem_cons.mpr ⟨ly4_0, List.forall_mem_cons.mpr ⟨ly4_1, fun _ h => absurd h List.not_mem_nil⟩⟩
theorem ly5_0 : u_lay RX5 TX5 0 ∈ TBG := tbt_1 (List.mem_of_getElem? (i := 54) rfl) rfl
theorem ly5_1 : u_lay RX5 TX5 1 ∈ TBG := tbt_1 (List.mem_of_getElem? (i := 56) rfl) rfl
theorem ly5_2 : u_lay RX5 TX5 2 ∈ TBG := tbt_1 (List.mem_of_getElem? (i := 58) rfl) rfl
theorem ly5_3 : u_lay RX5 TX5 3 ∈ TBG := tbt_1 (List.mem_of_getElem? (i := 60) rfl) rfl
theorem ly5_4 : u_lay RX5 TX5 4 ∈ TBG := tbt_1 (List.mem_of_getElem? (i := 62) rfl) rfl
theorem ly5_5 : u_lay RX5 TX5 5 ∈ TBG := tbt_1 (List.mem_of_getElem? (i := 64) rfl) rfl
theorem ly5_6 : u_lay RX5 TX5 6 ∈ TBG := tbt_1 (List.mem_of_getElem? (i := 66) rfl) rfl
theorem ly5_7 : u_lay RX5 TX5 7 ∈ TBG := tbt_1 (List.mem_of_getElem? (i := 68) rfl) rfl
theorem ixX5 : ∀ w ∈ u_ws RX5 TX5 8, w ∈ TBG := by
  show ∀ w ∈ [u_lay RX5 TX5 0, u_lay RX5 TX5 1, u_lay RX5 TX5 2, u_lay RX5 TX5 3, u_lay RX5 TX5 4, u_lay RX5 TX5 5, u_lay RX5 TX5 6, u_lay RX5 TX5 7], w ∈ TBG
  exact List.forall_mem_cons.mpr ⟨ly5_0, List.forall_mem_cons.mpr ⟨ly5_1, List.forall_mem_cons.mpr ⟨ly5_2, List.forall_mem_cons.mpr ⟨ly5_3, List.forall_mem_cons.mpr ⟨ly5_4, List.forall_mem_cons.mpr ⟨ly5_5, List.forall_mem_cons.mpr ⟨ly5_6, List.forall_mem_cons.mpr ⟨ly5_7, fun _ h => absurd h List.not_mem_nil⟩⟩⟩⟩⟩⟩⟩⟩
theorem ly6_0 : u_lay RX6 TX6 0 ∈ TBG := tbt_1 (List.mem_of_getElem? (i := 163) rfl) rfl
theorem ly6_1 : u_lay RX6 TX6 1 ∈ TBG := tbt_1 (List.mem_of_getElem? (i := 165) rfl) rfl
theorem ly6_2 : u_lay RX6 TX6 2 ∈ TBG := tbt_1 (List.mem_of_getElem? (i := 167) rfl) rfl
theorem ly6_3 : u_lay RX6 TX6 3 ∈ TBG := tbt_1 (List.mem_of_getElem? (i := 169) rfl) rfl
theorem ly6_4 : u_lay RX6 TX6 4 ∈ TBG := tbt_1 (List.mem_of_getElem? (i := 171) rfl) rfl
theorem ly6_5 : u_lay RX6 TX6 5 ∈ TBG := tbt_1 (List.mem_of_getElem? (i := 173) rfl) rfl
theorem ly6_6 : u_lay RX6 TX6 6 ∈ TBG := tbt_1 (List.mem_of_getElem? (i := 175) rfl) rfl
theorem ly6_7 : u_lay RX6 TX6 7 ∈ TBG := tbt_1 (List.mem_of_getElem? (i := 177) rfl) rfl
theorem ixX6 : ∀ w ∈ u_ws RX6 TX6 8, w ∈ TBG := by
  show ∀ w ∈ [u_lay RX6 TX6 0, u_lay RX6 TX6 1, u_lay RX6 TX6 2, u_lay RX6 TX6 3, u_lay RX6 TX6 4, u_lay RX6 TX6 5, u_lay RX6 TX6 6, u_lay RX6 TX6 7], w ∈ TBG
  exact List.forall_mem_cons.mpr ⟨ly6_0, List.forall_mem_cons.mpr ⟨ly6_1, List.forall_mem_cons.mpr ⟨ly6_2, List.forall_mem_cons.mpr ⟨ly6_3, List.forall_mem_cons.mpr ⟨ly6_4, List.forall_mem_cons.mpr ⟨ly6_5, List.forall_mem_cons.mpr ⟨ly6_6, List.forall_mem_cons.mpr ⟨ly6_7, fun _ h => absurd h List.not_mem_nil⟩⟩⟩⟩⟩⟩⟩⟩
theorem ly7_0 : u_lay RX7 TX7 0 ∈ TBG := tbt_1 (List.mem_of_getElem? (i := 225) rfl) rfl
theorem ly7_1 : u_lay RX7 TX7 1 ∈ TBG := tbt_1 (List.mem_of_getElem? (i := 227) rfl) rfl
theorem ly7_2 : u_lay RX7 TX7 2 ∈ TBG := tbt_1 (List.mem_of_getElem? (i := 229) rfl) rfl
theorem ly7_3 : u_lay RX7 TX7 3 ∈ TBG := tbt_1 (List.mem_of_getElem? (i := 231) rfl) rfl
theorem ly7_4 : u_lay RX7 TX7 4 ∈ TBG := tbt_1 (List.mem_of_getElem? (i := 233) rfl) rfl
theorem ly7_5 : u_lay RX7 TX7 5 ∈ TBG := tbt_1 (List.mem_of_getElem? (i := 235) rfl) rfl
theorem ly7_6 : u_lay RX7 TX7 6 ∈ TBG := tbt_1 (List.mem_of_getElem? (i := 237) rfl) rfl
theorem ly7_7 : u_lay RX7 TX7 7 ∈ TBG := tbt_1 (List.mem_of_getElem? (i := 239) rfl) rfl
theorem ixX7 : ∀ w ∈ u_ws RX7 TX7 8, w ∈ TBG := by
  show ∀ w ∈ [u_lay RX7 TX7 0, u_lay RX7 TX7 1, u_lay RX7 TX7 2, u_lay RX7 TX7 3, u_lay RX7 TX7 4, u_lay RX7 TX7 5, u_lay RX7 TX7 6, u_lay RX7 TX7 7], w ∈ TBG
  exact List.forall_mem_cons.mpr ⟨ly7_0, List.forall_mem_cons.mpr ⟨ly7_1, List.forall_mem_cons.mpr ⟨ly7_2, List.forall_mem_cons.mpr ⟨ly7_3, List.forall_mem_cons.mpr ⟨ly7_4, List.forall_mem_cons.mpr ⟨ly7_5, List.forall_mem_cons.mpr ⟨ly7_6, List.forall_mem_cons.mpr ⟨ly7_7, fun _ h => absurd h List.not_mem_nil⟩⟩⟩⟩⟩⟩⟩⟩
theorem ly8_0 : u_lay RX8 TX8 0 ∈ TBG := tbt_4 (List.mem_of_getElem? (i := 138) rfl) rfl
theorem ly8_1 : u_lay RX8 TX8 1 ∈ TBG := tbt_4 (List.mem_of_getElem? (i := 140) rfl) rfl
theorem ly8_2 : u_lay RX8 TX8 2 ∈ TBG := tbt_4 (List.mem_of_getElem? (i := 142) rfl) rfl
theorem ly8_3 : u_lay RX8 TX8 3 ∈ TBG := tbt_4 (List.mem_of_getElem? (i := 144) rfl) rfl
theorem ly8_4 : u_lay RX8 TX8 4 ∈ TBG := tbt_4 (List.mem_of_getElem? (i := 146) rfl) rfl
theorem ly8_5 : u_lay RX8 TX8 5 ∈ TBG := tbt_4 (List.mem_of_getElem? (i := 148) rfl) rfl
theorem ly8_6 : u_lay RX8 TX8 6 ∈ TBG := tbt_4 (List.mem_of_getElem? (i := 150) rfl) rfl
theorem ly8_7 : u_lay RX8 TX8 7 ∈ TBG := tbt_4 (List.mem_of_getElem? (i := 152) rfl) rfl
theorem ly8_8 : u_lay RX8 TX8 8 ∈ TBG := tbt_4 (List.mem_of_getElem? (i := 154) rfl) rfl
theorem ly8_9 : u_lay RX8 TX8 9 ∈ TBG := tbt_4 (List.mem_of_getElem? (i := 156) rfl) rfl
theorem ly8_10 : u_lay RX8 TX8 10 ∈ TBG := tbt_4 (List.mem_of_getElem? (i := 158) rfl) rfl
theorem ly8_11 : u_lay RX8 TX8 11 ∈ TBG := tbt_4 (List.mem_of_getElem? (i := 160) rfl) rfl
theorem ly8_12 : u_lay RX8 TX8 12 ∈ TBG := tbt_4 (List.mem_of_getElem? (i := 162) rfl) rfl
theorem ly8_13 : u_lay RX8 TX8 13 ∈ TBG := tbt_4 (List.mem_of_getElem? (i := 164) rfl) rfl
theorem ly8_14 : u_lay RX8 TX8 14 ∈ TBG := tbt_4 (List.mem_of_getElem? (i := 166) rfl) rfl
theorem ly8_15 : u_lay RX8 TX8 15 ∈ TBG := tbt_4 (List.mem_of_getElem? (i := 168) rfl) rfl
theorem ly8_16 : u_lay RX8 TX8 16 ∈ TBG := tbt_4 (List.mem_of_getElem? (i := 170) rfl) rfl
theorem ly8_17 : u_lay RX8 TX8 17 ∈ TBG := tbt_4 (List.mem_of_getElem? (i := 172) rfl) rfl
theorem ly8_18 : u_lay RX8 TX8 18 ∈ TBG := tbt_4 (List.mem_of_getElem? (i := 174) rfl) rfl
theorem ly8_19 : u_lay RX8 TX8 19 ∈ TBG := tbt_4 (List.mem_of_getElem? (i := 176) rfl) rfl
theorem ly8_20 : u_lay RX8 TX8 20 ∈ TBG := tbt_4 (List.mem_of_getElem? (i := 178) rfl) rfl
theorem ixX8 : ∀ w ∈ u_ws RX8 TX8 21, w ∈ TBG := by
  show ∀ w ∈ [u_lay RX8 TX8 0, u_lay RX8 TX8 1, u_lay RX8 TX8 2, u_lay RX8 TX8 3, u_lay RX8 TX8 4, u_lay RX8 TX8 5, u_lay RX8 TX8 6, u_lay RX8 TX8 7, u_lay RX8 TX8 8, u_lay RX8 TX8 9, u_lay RX8 TX8 10, u_lay RX8 TX8 11, u_lay RX8 TX8 12, u_lay RX8 TX8 13, u_lay RX8 TX8 14, u_lay RX8 TX8 15, u_lay RX8 TX8 16, u_lay RX8 TX8 17, u_lay RX8 TX8 18, u_lay RX8 TX8 19, u_lay RX8 TX8 20], w ∈ TBG
  exact List.forall_mem_cons.mpr ⟨ly8_0, List.forall_mem_cons.mpr ⟨ly8_1, List.forall_mem_cons.mpr ⟨ly8_2, List.forall_mem_cons.mpr ⟨ly8_3, List.forall_mem_cons.mpr ⟨ly8_4, List.forall_mem_cons.mpr ⟨ly8_5, List.forall_mem_cons.mpr ⟨ly8_6, List.forall_mem_cons.mpr ⟨ly8_7, List.forall_mem_cons.mpr ⟨ly8_8, List.forall_mem_cons.mpr ⟨ly8_9, List.forall_mem_cons.mpr ⟨ly8_10, List.forall_mem_cons.mpr ⟨ly8_11, List.forall_mem_cons.mpr ⟨ly8_12, List.forall_mem_cons.mpr ⟨ly8_13, List.forall_mem_cons.mpr ⟨ly8_14, List.forall_mem_cons.mpr ⟨ly8_15, List.forall_mem_cons.mpr ⟨ly8_16, List.forall_mem_cons.mpr ⟨ly8_17, List.forall_mem_cons.mpr ⟨ly8_18, List.forall_mem_cons.mpr ⟨ly8_19, List.forall_mem_cons.mpr ⟨ly8_20, fun _ h => absurd h List.not_mem_nil⟩⟩⟩⟩⟩⟩⟩⟩⟩⟩⟩⟩⟩⟩⟩⟩⟩⟩⟩⟩⟩
end
section
theorem zz_last : True := trivial
end
