section
-- ===== PART A: goes FIRST, ahead of the names: the tables' words, and 'selects' of the private methods out of them =====
/-- a private method of a class that the tables say can be made, by its rows of tables_1 -/
def lw_okq (q : MethodName × Nat) : Prop := (q.1.cls ≠ "java/lang/invoke/MethodHandle" ∧ q.1.cls ≠ "java/lang/invoke/VarHandle") ∧ Cond.instantiable q.1.cls q.2 ∈ tables_1 ∧ Cond.privateMethod q.1 ∈ tables_1 ∧ Cond.instanceMethod q.1 ∈ tables_1
theorem lw_p0 : lw_okq (⟨"BiddenMoves", "saveBeforeBoard", "()V"⟩, 7) := ⟨⟨by decide +kernel, by decide +kernel⟩, List.mem_of_getElem? (i := 20) (by decide +kernel), List.mem_of_getElem? (i := 228) (by decide +kernel), List.mem_of_getElem? (i := 229) (by decide +kernel)⟩
theorem lw_p1 : lw_okq (⟨"BiddenMoves$SavedStates", "push", "(LBiddenMoves$State;)V"⟩, 3) := ⟨⟨by decide +kernel, by decide +kernel⟩, List.mem_of_getElem? (i := 105) (by decide +kernel), List.mem_of_getElem? (i := 232) (by decide +kernel), List.mem_of_getElem? (i := 233) (by decide +kernel)⟩
theorem lw_p2 : lw_okq (⟨"BiddenMoves$State", "copyFrom", "(LBiddenMoves$State;)V"⟩, 11) := ⟨⟨by decide +kernel, by decide +kernel⟩, List.mem_of_getElem? (i := 28) (by decide +kernel), List.mem_of_getElem? (i := 236) (by decide +kernel), List.mem_of_getElem? (i := 237) (by decide +kernel)⟩
theorem lw_p3 : lw_okq (⟨"BiddenMoves$Board", "copyBoard", "(LBiddenMoves$Board;)V"⟩, 3) := ⟨⟨by decide +kernel, by decide +kernel⟩, List.mem_of_getElem? (i := 34) (by decide +kernel), List.mem_of_getElem? (i := 240) (by decide +kernel), List.mem_of_getElem? (i := 241) (by decide +kernel)⟩
theorem lw_p4 : lw_okq (⟨"BiddenMoves", "forgetForced", "()V"⟩, 7) := ⟨⟨by decide +kernel, by decide +kernel⟩, List.mem_of_getElem? (i := 20) (by decide +kernel), List.mem_of_getElem? (i := 251) (by decide +kernel), List.mem_of_getElem? (i := 252) (by decide +kernel)⟩
theorem lw_p5 : lw_okq (⟨"BiddenMoves$Board", "exchangeMarks", "()V"⟩, 3) := ⟨⟨by decide +kernel, by decide +kernel⟩, List.mem_of_getElem? (i := 34) (by decide +kernel), List.mem_of_getElem? (i := 264) (by decide +kernel), List.mem_of_getElem? (i := 265) (by decide +kernel)⟩
theorem lw_p6 : lw_okq (⟨"BiddenMoves", "reasonAgainstBids", "(II)I"⟩, 7) := ⟨⟨by decide +kernel, by decide +kernel⟩, List.mem_of_getElem? (i := 20) (by decide +kernel), List.mem_of_getElem? (i := 272) (by decide +kernel), List.mem_of_getElem? (i := 273) (by decide +kernel)⟩
theorem lw_p7 : lw_okq (⟨"BiddenMoves$State", "isOver", "()Z"⟩, 11) := ⟨⟨by decide +kernel, by decide +kernel⟩, List.mem_of_getElem? (i := 28) (by decide +kernel), List.mem_of_getElem? (i := 276) (by decide +kernel), List.mem_of_getElem? (i := 277) (by decide +kernel)⟩
theorem lw_p8 : lw_okq (⟨"BiddenMoves$Board", "isEnd", "(I)Z"⟩, 3) := ⟨⟨by decide +kernel, by decide +kernel⟩, List.mem_of_getElem? (i := 34) (by decide +kernel), List.mem_of_getElem? (i := 280) (by decide +kernel), List.mem_of_getElem? (i := 281) (by decide +kernel)⟩
theorem lw_p9 : lw_okq (⟨"BiddenMoves$State", "budgetOf", "(I)I"⟩, 11) := ⟨⟨by decide +kernel, by decide +kernel⟩, List.mem_of_getElem? (i := 28) (by decide +kernel), List.mem_of_getElem? (i := 284) (by decide +kernel), List.mem_of_getElem? (i := 285) (by decide +kernel)⟩
theorem lw_p10 : lw_okq (⟨"BiddenMoves$State", "buyTurn", "(II)V"⟩, 11) := ⟨⟨by decide +kernel, by decide +kernel⟩, List.mem_of_getElem? (i := 28) (by decide +kernel), List.mem_of_getElem? (i := 291) (by decide +kernel), List.mem_of_getElem? (i := 292) (by decide +kernel)⟩
theorem lw_p11 : lw_okq (⟨"BiddenMoves", "reasonAgainstMove", "(I)I"⟩, 7) := ⟨⟨by decide +kernel, by decide +kernel⟩, List.mem_of_getElem? (i := 20) (by decide +kernel), List.mem_of_getElem? (i := 299) (by decide +kernel), List.mem_of_getElem? (i := 300) (by decide +kernel)⟩
theorem lw_p12 : lw_okq (⟨"BiddenMoves$Board", "hasMove", "(II)Z"⟩, 3) := ⟨⟨by decide +kernel, by decide +kernel⟩, List.mem_of_getElem? (i := 34) (by decide +kernel), List.mem_of_getElem? (i := 303) (by decide +kernel), List.mem_of_getElem? (i := 304) (by decide +kernel)⟩
theorem lw_p13 : lw_okq (⟨"BiddenMoves$BoardText", "scan", "()I"⟩, 7) := ⟨⟨by decide +kernel, by decide +kernel⟩, List.mem_of_getElem? (i := 125) (by decide +kernel), List.mem_of_getElem? (i := 315) (by decide +kernel), List.mem_of_getElem? (i := 316) (by decide +kernel)⟩
theorem lw_p14 : lw_okq (⟨"BiddenMoves$Board", "empty", "()V"⟩, 3) := ⟨⟨by decide +kernel, by decide +kernel⟩, List.mem_of_getElem? (i := 34) (by decide +kernel), List.mem_of_getElem? (i := 319) (by decide +kernel), List.mem_of_getElem? (i := 320) (by decide +kernel)⟩
theorem lw_p15 : lw_okq (⟨"BiddenMoves$BoardText", "takes", "(C)Z"⟩, 7) := ⟨⟨by decide +kernel, by decide +kernel⟩, List.mem_of_getElem? (i := 125) (by decide +kernel), List.mem_of_getElem? (i := 323) (by decide +kernel), List.mem_of_getElem? (i := 324) (by decide +kernel)⟩
def lw_privs_1 : List (MethodName × Nat) := [(⟨"BiddenMoves", "saveBeforeBoard", "()V"⟩, 7), (⟨"BiddenMoves$SavedStates", "push", "(LBiddenMoves$State;)V"⟩, 3), (⟨"BiddenMoves$State", "copyFrom", "(LBiddenMoves$State;)V"⟩, 11), (⟨"BiddenMoves$Board", "copyBoard", "(LBiddenMoves$Board;)V"⟩, 3), (⟨"BiddenMoves", "forgetForced", "()V"⟩, 7), (⟨"BiddenMoves$Board", "exchangeMarks", "()V"⟩, 3), (⟨"BiddenMoves", "reasonAgainstBids", "(II)I"⟩, 7), (⟨"BiddenMoves$State", "isOver", "()Z"⟩, 11), (⟨"BiddenMoves$Board", "isEnd", "(I)Z"⟩, 3), (⟨"BiddenMoves$State", "budgetOf", "(I)I"⟩, 11), (⟨"BiddenMoves$State", "buyTurn", "(II)V"⟩, 11), (⟨"BiddenMoves", "reasonAgainstMove", "(I)I"⟩, 7), (⟨"BiddenMoves$Board", "hasMove", "(II)Z"⟩, 3), (⟨"BiddenMoves$BoardText", "scan", "()I"⟩, 7), (⟨"BiddenMoves$Board", "empty", "()V"⟩, 3), (⟨"BiddenMoves$BoardText", "takes", "(C)Z"⟩, 7)]
theorem lw_r1 : ∀ q ∈ lw_privs_1, lw_okq q := List.forall_mem_cons.mpr ⟨lw_p0, List.forall_mem_cons.mpr ⟨lw_p1, List.forall_mem_cons.mpr ⟨lw_p2, List.forall_mem_cons.mpr ⟨lw_p3, List.forall_mem_cons.mpr ⟨lw_p4, List.forall_mem_cons.mpr ⟨lw_p5, List.forall_mem_cons.mpr ⟨lw_p6, List.forall_mem_cons.mpr ⟨lw_p7, List.forall_mem_cons.mpr ⟨lw_p8, List.forall_mem_cons.mpr ⟨lw_p9, List.forall_mem_cons.mpr ⟨lw_p10, List.forall_mem_cons.mpr ⟨lw_p11, List.forall_mem_cons.mpr ⟨lw_p12, List.forall_mem_cons.mpr ⟨lw_p13, List.forall_mem_cons.mpr ⟨lw_p14, List.forall_mem_cons.mpr ⟨lw_p15, fun _ h => absurd h List.not_mem_nil⟩⟩⟩⟩⟩⟩⟩⟩⟩⟩⟩⟩⟩⟩⟩⟩
theorem lw_p16 : lw_okq (⟨"BiddenMoves$BoardText", "takesPosition", "(I)Z"⟩, 7) := ⟨⟨by decide +kernel, by decide +kernel⟩, List.mem_of_getElem? (i := 125) (by decide +kernel), List.mem_of_getElem? (i := 330) (by decide +kernel), List.mem_of_getElem? (i := 331) (by decide +kernel)⟩
theorem lw_p17 : lw_okq (⟨"BiddenMoves$BoardText", "takesMark", "(C)Z"⟩, 7) := ⟨⟨by decide +kernel, by decide +kernel⟩, List.mem_of_getElem? (i := 125) (by decide +kernel), List.mem_of_getElem? (i := 334) (by decide +kernel), List.mem_of_getElem? (i := 335) (by decide +kernel)⟩
theorem lw_p18 : lw_okq (⟨"BiddenMoves$BoardText", "takesMove", "(I)Z"⟩, 7) := ⟨⟨by decide +kernel, by decide +kernel⟩, List.mem_of_getElem? (i := 125) (by decide +kernel), List.mem_of_getElem? (i := 338) (by decide +kernel), List.mem_of_getElem? (i := 339) (by decide +kernel)⟩
theorem lw_p19 : lw_okq (⟨"BiddenMoves$Board", "putMove", "(II)V"⟩, 3) := ⟨⟨by decide +kernel, by decide +kernel⟩, List.mem_of_getElem? (i := 34) (by decide +kernel), List.mem_of_getElem? (i := 343) (by decide +kernel), List.mem_of_getElem? (i := 344) (by decide +kernel)⟩
theorem lw_p20 : lw_okq (⟨"BiddenMoves$BoardText", "takesEnd", "(C)Z"⟩, 7) := ⟨⟨by decide +kernel, by decide +kernel⟩, List.mem_of_getElem? (i := 125) (by decide +kernel), List.mem_of_getElem? (i := 347) (by decide +kernel), List.mem_of_getElem? (i := 348) (by decide +kernel)⟩
theorem lw_p21 : lw_okq (⟨"BiddenMoves$Board", "isWonFor", "(II)Z"⟩, 3) := ⟨⟨by decide +kernel, by decide +kernel⟩, List.mem_of_getElem? (i := 34) (by decide +kernel), List.mem_of_getElem? (i := 369) (by decide +kernel), List.mem_of_getElem? (i := 370) (by decide +kernel)⟩
theorem lw_p22 : lw_okq (⟨"BiddenMoves$Board", "moveAt", "(II)I"⟩, 3) := ⟨⟨by decide +kernel, by decide +kernel⟩, List.mem_of_getElem? (i := 34) (by decide +kernel), List.mem_of_getElem? (i := 397) (by decide +kernel), List.mem_of_getElem? (i := 398) (by decide +kernel)⟩
theorem lw_p23 : lw_okq (⟨"BiddenMoves$ForcedBudgets", "leastWinningBid", "(IIII)I"⟩, 4) := ⟨⟨by decide +kernel, by decide +kernel⟩, List.mem_of_getElem? (i := 161) (by decide +kernel), List.mem_of_getElem? (i := 433) (by decide +kernel), List.mem_of_getElem? (i := 434) (by decide +kernel)⟩
theorem lw_p24 : lw_okq (⟨"BiddenMoves$ForcedBudgets", "leastRefutation", "(IIIII)I"⟩, 4) := ⟨⟨by decide +kernel, by decide +kernel⟩, List.mem_of_getElem? (i := 161) (by decide +kernel), List.mem_of_getElem? (i := 437) (by decide +kernel), List.mem_of_getElem? (i := 438) (by decide +kernel)⟩
theorem lw_p25 : lw_okq (⟨"BiddenMoves$Thresholds", "reachedBy", "(IIIII)Z"⟩, 4) := ⟨⟨by decide +kernel, by decide +kernel⟩, List.mem_of_getElem? (i := 191) (by decide +kernel), List.mem_of_getElem? (i := 447) (by decide +kernel), List.mem_of_getElem? (i := 448) (by decide +kernel)⟩
theorem lw_p26 : lw_okq (⟨"java/lang/Throwable", "fillInStackTrace", "(I)Ljava/lang/Throwable;"⟩, 6) := ⟨⟨by decide +kernel, by decide +kernel⟩, List.mem_of_getElem? (i := 513) (by decide +kernel), List.mem_of_getElem? (i := 511) (by decide +kernel), List.mem_of_getElem? (i := 512) (by decide +kernel)⟩
theorem lw_p27 : lw_okq (⟨"BiddenMoves$Board", "allMoves", "()I"⟩, 3) := ⟨⟨by decide +kernel, by decide +kernel⟩, List.mem_of_getElem? (i := 34) (by decide +kernel), List.mem_of_getElem? (i := 543) (by decide +kernel), List.mem_of_getElem? (i := 544) (by decide +kernel)⟩
theorem lw_p28 : lw_okq (⟨"BiddenMoves$Board", "movesTo", "(I)I"⟩, 3) := ⟨⟨by decide +kernel, by decide +kernel⟩, List.mem_of_getElem? (i := 34) (by decide +kernel), List.mem_of_getElem? (i := 570) (by decide +kernel), List.mem_of_getElem? (i := 571) (by decide +kernel)⟩
theorem lw_p29 : lw_okq (⟨"BiddenMoves$Board", "wonFor", "(I)I"⟩, 3) := ⟨⟨by decide +kernel, by decide +kernel⟩, List.mem_of_getElem? (i := 34) (by decide +kernel), List.mem_of_getElem? (i := 598) (by decide +kernel), List.mem_of_getElem? (i := 599) (by decide +kernel)⟩
theorem lw_p30 : lw_okq (⟨"BiddenMoves$ForcedBudgets", "positionsOf", "(LBiddenMoves$State;I)I"⟩, 4) := ⟨⟨by decide +kernel, by decide +kernel⟩, List.mem_of_getElem? (i := 161) (by decide +kernel), List.mem_of_getElem? (i := 603) (by decide +kernel), List.mem_of_getElem? (i := 604) (by decide +kernel)⟩
theorem lw_p31 : lw_okq (⟨"BiddenMoves$State", "shareOut", "(I)V"⟩, 11) := ⟨⟨by decide +kernel, by decide +kernel⟩, List.mem_of_getElem? (i := 28) (by decide +kernel), List.mem_of_getElem? (i := 692) (by decide +kernel), List.mem_of_getElem? (i := 693) (by decide +kernel)⟩
def lw_privs_2 : List (MethodName × Nat) := [(⟨"BiddenMoves$BoardText", "takesPosition", "(I)Z"⟩, 7), (⟨"BiddenMoves$BoardText", "takesMark", "(C)Z"⟩, 7), (⟨"BiddenMoves$BoardText", "takesMove", "(I)Z"⟩, 7), (⟨"BiddenMoves$Board", "putMove", "(II)V"⟩, 3), (⟨"BiddenMoves$BoardText", "takesEnd", "(C)Z"⟩, 7), (⟨"BiddenMoves$Board", "isWonFor", "(II)Z"⟩, 3), (⟨"BiddenMoves$Board", "moveAt", "(II)I"⟩, 3), (⟨"BiddenMoves$ForcedBudgets", "leastWinningBid", "(IIII)I"⟩, 4), (⟨"BiddenMoves$ForcedBudgets", "leastRefutation", "(IIIII)I"⟩, 4), (⟨"BiddenMoves$Thresholds", "reachedBy", "(IIIII)Z"⟩, 4), (⟨"java/lang/Throwable", "fillInStackTrace", "(I)Ljava/lang/Throwable;"⟩, 6), (⟨"BiddenMoves$Board", "allMoves", "()I"⟩, 3), (⟨"BiddenMoves$Board", "movesTo", "(I)I"⟩, 3), (⟨"BiddenMoves$Board", "wonFor", "(I)I"⟩, 3), (⟨"BiddenMoves$ForcedBudgets", "positionsOf", "(LBiddenMoves$State;I)I"⟩, 4), (⟨"BiddenMoves$State", "shareOut", "(I)V"⟩, 11)]
theorem lw_r2 : ∀ q ∈ lw_privs_2, lw_okq q := List.forall_mem_cons.mpr ⟨lw_p16, List.forall_mem_cons.mpr ⟨lw_p17, List.forall_mem_cons.mpr ⟨lw_p18, List.forall_mem_cons.mpr ⟨lw_p19, List.forall_mem_cons.mpr ⟨lw_p20, List.forall_mem_cons.mpr ⟨lw_p21, List.forall_mem_cons.mpr ⟨lw_p22, List.forall_mem_cons.mpr ⟨lw_p23, List.forall_mem_cons.mpr ⟨lw_p24, List.forall_mem_cons.mpr ⟨lw_p25, List.forall_mem_cons.mpr ⟨lw_p26, List.forall_mem_cons.mpr ⟨lw_p27, List.forall_mem_cons.mpr ⟨lw_p28, List.forall_mem_cons.mpr ⟨lw_p29, List.forall_mem_cons.mpr ⟨lw_p30, List.forall_mem_cons.mpr ⟨lw_p31, fun _ h => absurd h List.not_mem_nil⟩⟩⟩⟩⟩⟩⟩⟩⟩⟩⟩⟩⟩⟩⟩⟩
theorem lw_p32 : lw_okq (⟨"BiddenMoves$BoardText", "isWhole", "()Z"⟩, 7) := ⟨⟨by decide +kernel, by decide +kernel⟩, List.mem_of_getElem? (i := 125) (by decide +kernel), List.mem_of_getElem? (i := 719) (by decide +kernel), List.mem_of_getElem? (i := 720) (by decide +kernel)⟩
theorem lw_p33 : lw_okq (⟨"BiddenMoves$SavedStates", "popInto", "(LBiddenMoves$State;)V"⟩, 3) := ⟨⟨by decide +kernel, by decide +kernel⟩, List.mem_of_getElem? (i := 105) (by decide +kernel), List.mem_of_getElem? (i := 749) (by decide +kernel), List.mem_of_getElem? (i := 750) (by decide +kernel)⟩
theorem lw_p34 : lw_okq (⟨"BiddenMovesModel", "hasMove", "(II)Z"⟩, 14) := ⟨⟨by decide +kernel, by decide +kernel⟩, List.mem_of_getElem? (i := 799) (by decide +kernel), List.mem_of_getElem? (i := 862) (by decide +kernel), List.mem_of_getElem? (i := 863) (by decide +kernel)⟩
theorem lw_p35 : lw_okq (⟨"BiddenMovesModel", "of", "(II)I"⟩, 14) := ⟨⟨by decide +kernel, by decide +kernel⟩, List.mem_of_getElem? (i := 799) (by decide +kernel), List.mem_of_getElem? (i := 866) (by decide +kernel), List.mem_of_getElem? (i := 867) (by decide +kernel)⟩
theorem lw_p36 : lw_okq (⟨"BiddenMovesModel", "holds", "(I)Z"⟩, 14) := ⟨⟨by decide +kernel, by decide +kernel⟩, List.mem_of_getElem? (i := 799) (by decide +kernel), List.mem_of_getElem? (i := 870) (by decide +kernel), List.mem_of_getElem? (i := 871) (by decide +kernel)⟩
theorem lw_p37 : lw_okq (⟨"BiddenMovesModel", "save", "()V"⟩, 14) := ⟨⟨by decide +kernel, by decide +kernel⟩, List.mem_of_getElem? (i := 799) (by decide +kernel), List.mem_of_getElem? (i := 874) (by decide +kernel), List.mem_of_getElem? (i := 875) (by decide +kernel)⟩
theorem lw_p38 : lw_okq (⟨"BiddenMovesModel", "put", "(III)V"⟩, 14) := ⟨⟨by decide +kernel, by decide +kernel⟩, List.mem_of_getElem? (i := 799) (by decide +kernel), List.mem_of_getElem? (i := 878) (by decide +kernel), List.mem_of_getElem? (i := 879) (by decide +kernel)⟩
theorem lw_p39 : lw_okq (⟨"BiddenMovesModel", "isOver", "(I)Z"⟩, 14) := ⟨⟨by decide +kernel, by decide +kernel⟩, List.mem_of_getElem? (i := 799) (by decide +kernel), List.mem_of_getElem? (i := 905) (by decide +kernel), List.mem_of_getElem? (i := 906) (by decide +kernel)⟩
theorem lw_p40 : lw_okq (⟨"BiddenMovesModel", "refuse", "(I)I"⟩, 14) := ⟨⟨by decide +kernel, by decide +kernel⟩, List.mem_of_getElem? (i := 799) (by decide +kernel), List.mem_of_getElem? (i := 913) (by decide +kernel), List.mem_of_getElem? (i := 914) (by decide +kernel)⟩
theorem lw_p41 : lw_okq (⟨"BiddenMovesModel", "budgetOf", "(I)I"⟩, 14) := ⟨⟨by decide +kernel, by decide +kernel⟩, List.mem_of_getElem? (i := 799) (by decide +kernel), List.mem_of_getElem? (i := 917) (by decide +kernel), List.mem_of_getElem? (i := 918) (by decide +kernel)⟩
theorem lw_p42 : lw_okq (⟨"BiddenMovesModel", "readText", "()Z"⟩, 14) := ⟨⟨by decide +kernel, by decide +kernel⟩, List.mem_of_getElem? (i := 799) (by decide +kernel), List.mem_of_getElem? (i := 937) (by decide +kernel), List.mem_of_getElem? (i := 938) (by decide +kernel)⟩
theorem lw_p43 : lw_okq (⟨"BiddenMovesModel", "readPart", "()Z"⟩, 14) := ⟨⟨by decide +kernel, by decide +kernel⟩, List.mem_of_getElem? (i := 799) (by decide +kernel), List.mem_of_getElem? (i := 941) (by decide +kernel), List.mem_of_getElem? (i := 942) (by decide +kernel)⟩
theorem lw_p44 : lw_okq (⟨"BiddenMovesModel", "readPosition", "(I)I"⟩, 14) := ⟨⟨by decide +kernel, by decide +kernel⟩, List.mem_of_getElem? (i := 799) (by decide +kernel), List.mem_of_getElem? (i := 945) (by decide +kernel), List.mem_of_getElem? (i := 946) (by decide +kernel)⟩
theorem lw_p45 : lw_okq (⟨"BiddenMovesModel", "isNext", "(II)Z"⟩, 14) := ⟨⟨by decide +kernel, by decide +kernel⟩, List.mem_of_getElem? (i := 799) (by decide +kernel), List.mem_of_getElem? (i := 949) (by decide +kernel), List.mem_of_getElem? (i := 950) (by decide +kernel)⟩
theorem lw_p46 : lw_okq (⟨"BiddenMovesModel", "takes", "(I)Z"⟩, 14) := ⟨⟨by decide +kernel, by decide +kernel⟩, List.mem_of_getElem? (i := 799) (by decide +kernel), List.mem_of_getElem? (i := 953) (by decide +kernel), List.mem_of_getElem? (i := 954) (by decide +kernel)⟩
theorem lw_p47 : lw_okq (⟨"BiddenMovesModel", "readMoves", "(I)Z"⟩, 14) := ⟨⟨by decide +kernel, by decide +kernel⟩, List.mem_of_getElem? (i := 799) (by decide +kernel), List.mem_of_getElem? (i := 957) (by decide +kernel), List.mem_of_getElem? (i := 958) (by decide +kernel)⟩
def lw_privs_3 : List (MethodName × Nat) := [(⟨"BiddenMoves$BoardText", "isWhole", "()Z"⟩, 7), (⟨"BiddenMoves$SavedStates", "popInto", "(LBiddenMoves$State;)V"⟩, 3), (⟨"BiddenMovesModel", "hasMove", "(II)Z"⟩, 14), (⟨"BiddenMovesModel", "of", "(II)I"⟩, 14), (⟨"BiddenMovesModel", "holds", "(I)Z"⟩, 14), (⟨"BiddenMovesModel", "save", "()V"⟩, 14), (⟨"BiddenMovesModel", "put", "(III)V"⟩, 14), (⟨"BiddenMovesModel", "isOver", "(I)Z"⟩, 14), (⟨"BiddenMovesModel", "refuse", "(I)I"⟩, 14), (⟨"BiddenMovesModel", "budgetOf", "(I)I"⟩, 14), (⟨"BiddenMovesModel", "readText", "()Z"⟩, 14), (⟨"BiddenMovesModel", "readPart", "()Z"⟩, 14), (⟨"BiddenMovesModel", "readPosition", "(I)I"⟩, 14), (⟨"BiddenMovesModel", "isNext", "(II)Z"⟩, 14), (⟨"BiddenMovesModel", "takes", "(I)Z"⟩, 14), (⟨"BiddenMovesModel", "readMoves", "(I)Z"⟩, 14)]
theorem lw_r3 : ∀ q ∈ lw_privs_3, lw_okq q := List.forall_mem_cons.mpr ⟨lw_p32, List.forall_mem_cons.mpr ⟨lw_p33, List.forall_mem_cons.mpr ⟨lw_p34, List.forall_mem_cons.mpr ⟨lw_p35, List.forall_mem_cons.mpr ⟨lw_p36, List.forall_mem_cons.mpr ⟨lw_p37, List.forall_mem_cons.mpr ⟨lw_p38, List.forall_mem_cons.mpr ⟨lw_p39, List.forall_mem_cons.mpr ⟨lw_p40, List.forall_mem_cons.mpr ⟨lw_p41, List.forall_mem_cons.mpr ⟨lw_p42, List.forall_mem_cons.mpr ⟨lw_p43, List.forall_mem_cons.mpr ⟨lw_p44, List.forall_mem_cons.mpr ⟨lw_p45, List.forall_mem_cons.mpr ⟨lw_p46, List.forall_mem_cons.mpr ⟨lw_p47, fun _ h => absurd h List.not_mem_nil⟩⟩⟩⟩⟩⟩⟩⟩⟩⟩⟩⟩⟩⟩⟩⟩
theorem lw_p48 : lw_okq (⟨"BiddenMovesModel", "positionTold", "(II)I"⟩, 14) := ⟨⟨by decide +kernel, by decide +kernel⟩, List.mem_of_getElem? (i := 799) (by decide +kernel), List.mem_of_getElem? (i := 981) (by decide +kernel), List.mem_of_getElem? (i := 982) (by decide +kernel)⟩
theorem lw_p49 : lw_okq (⟨"BiddenMovesModel", "lay", "()V"⟩, 14) := ⟨⟨by decide +kernel, by decide +kernel⟩, List.mem_of_getElem? (i := 799) (by decide +kernel), List.mem_of_getElem? (i := 989) (by decide +kernel), List.mem_of_getElem? (i := 990) (by decide +kernel)⟩
theorem lw_p50 : lw_okq (⟨"BiddenMovesModel", "leastBudget", "(IIII)I"⟩, 14) := ⟨⟨by decide +kernel, by decide +kernel⟩, List.mem_of_getElem? (i := 799) (by decide +kernel), List.mem_of_getElem? (i := 993) (by decide +kernel), List.mem_of_getElem? (i := 994) (by decide +kernel)⟩
theorem lw_p51 : lw_okq (⟨"BiddenMovesModel", "isWonFor", "(II)Z"⟩, 14) := ⟨⟨by decide +kernel, by decide +kernel⟩, List.mem_of_getElem? (i := 799) (by decide +kernel), List.mem_of_getElem? (i := 997) (by decide +kernel), List.mem_of_getElem? (i := 998) (by decide +kernel)⟩
theorem lw_p52 : lw_okq (⟨"BiddenMovesModel", "leastBid", "(IIIII)I"⟩, 14) := ⟨⟨by decide +kernel, by decide +kernel⟩, List.mem_of_getElem? (i := 799) (by decide +kernel), List.mem_of_getElem? (i := 1001) (by decide +kernel), List.mem_of_getElem? (i := 1002) (by decide +kernel)⟩
theorem lw_p53 : lw_okq (⟨"BiddenMovesModel", "wins", "(IIIIII)Z"⟩, 14) := ⟨⟨by decide +kernel, by decide +kernel⟩, List.mem_of_getElem? (i := 799) (by decide +kernel), List.mem_of_getElem? (i := 1005) (by decide +kernel), List.mem_of_getElem? (i := 1006) (by decide +kernel)⟩
theorem lw_p54 : lw_okq (⟨"BiddenMovesModel", "isEnough", "(IIIIIII)Z"⟩, 14) := ⟨⟨by decide +kernel, by decide +kernel⟩, List.mem_of_getElem? (i := 799) (by decide +kernel), List.mem_of_getElem? (i := 1009) (by decide +kernel), List.mem_of_getElem? (i := 1010) (by decide +kernel)⟩
theorem lw_p55 : lw_okq (⟨"BiddenMovesModel", "easiest", "(IIII)I"⟩, 14) := ⟨⟨by decide +kernel, by decide +kernel⟩, List.mem_of_getElem? (i := 799) (by decide +kernel), List.mem_of_getElem? (i := 1013) (by decide +kernel), List.mem_of_getElem? (i := 1014) (by decide +kernel)⟩
theorem lw_p56 : lw_okq (⟨"BiddenMovesModel", "leastAt", "(IIII)I"⟩, 14) := ⟨⟨by decide +kernel, by decide +kernel⟩, List.mem_of_getElem? (i := 799) (by decide +kernel), List.mem_of_getElem? (i := 1017) (by decide +kernel), List.mem_of_getElem? (i := 1018) (by decide +kernel)⟩
theorem lw_p57 : lw_okq (⟨"BiddenMovesModel", "hardest", "(IIII)I"⟩, 14) := ⟨⟨by decide +kernel, by decide +kernel⟩, List.mem_of_getElem? (i := 799) (by decide +kernel), List.mem_of_getElem? (i := 1021) (by decide +kernel), List.mem_of_getElem? (i := 1022) (by decide +kernel)⟩
theorem lw_p58 : lw_okq (⟨"BiddenMovesModel", "playerTold", "(II)I"⟩, 14) := ⟨⟨by decide +kernel, by decide +kernel⟩, List.mem_of_getElem? (i := 799) (by decide +kernel), List.mem_of_getElem? (i := 1025) (by decide +kernel), List.mem_of_getElem? (i := 1026) (by decide +kernel)⟩
theorem lw_p59 : lw_okq (⟨"BiddenMovesModel", "positions", "(IZ)I"⟩, 14) := ⟨⟨by decide +kernel, by decide +kernel⟩, List.mem_of_getElem? (i := 799) (by decide +kernel), List.mem_of_getElem? (i := 1029) (by decide +kernel), List.mem_of_getElem? (i := 1030) (by decide +kernel)⟩
theorem lw_p60 : lw_okq (⟨"BiddenMovesModel", "canForce", "(IIIII)Z"⟩, 14) := ⟨⟨by decide +kernel, by decide +kernel⟩, List.mem_of_getElem? (i := 799) (by decide +kernel), List.mem_of_getElem? (i := 1033) (by decide +kernel), List.mem_of_getElem? (i := 1034) (by decide +kernel)⟩
theorem lw_p61 : lw_okq (⟨"BiddenMovesModel", "countTold", "(I)I"⟩, 14) := ⟨⟨by decide +kernel, by decide +kernel⟩, List.mem_of_getElem? (i := 799) (by decide +kernel), List.mem_of_getElem? (i := 1041) (by decide +kernel), List.mem_of_getElem? (i := 1042) (by decide +kernel)⟩
theorem lw_p62 : lw_okq (⟨"BiddenMovesModel", "allMoves", "()I"⟩, 14) := ⟨⟨by decide +kernel, by decide +kernel⟩, List.mem_of_getElem? (i := 799) (by decide +kernel), List.mem_of_getElem? (i := 1045) (by decide +kernel), List.mem_of_getElem? (i := 1046) (by decide +kernel)⟩
theorem lw_p63 : lw_okq (⟨"BiddenMovesModel", "thresholdTold", "(III)I"⟩, 14) := ⟨⟨by decide +kernel, by decide +kernel⟩, List.mem_of_getElem? (i := 799) (by decide +kernel), List.mem_of_getElem? (i := 1061) (by decide +kernel), List.mem_of_getElem? (i := 1062) (by decide +kernel)⟩
def lw_privs_4 : List (MethodName × Nat) := [(⟨"BiddenMovesModel", "positionTold", "(II)I"⟩, 14), (⟨"BiddenMovesModel", "lay", "()V"⟩, 14), (⟨"BiddenMovesModel", "leastBudget", "(IIII)I"⟩, 14), (⟨"BiddenMovesModel", "isWonFor", "(II)Z"⟩, 14), (⟨"BiddenMovesModel", "leastBid", "(IIIII)I"⟩, 14), (⟨"BiddenMovesModel", "wins", "(IIIIII)Z"⟩, 14), (⟨"BiddenMovesModel", "isEnough", "(IIIIIII)Z"⟩, 14), (⟨"BiddenMovesModel", "easiest", "(IIII)I"⟩, 14), (⟨"BiddenMovesModel", "leastAt", "(IIII)I"⟩, 14), (⟨"BiddenMovesModel", "hardest", "(IIII)I"⟩, 14), (⟨"BiddenMovesModel", "playerTold", "(II)I"⟩, 14), (⟨"BiddenMovesModel", "positions", "(IZ)I"⟩, 14), (⟨"BiddenMovesModel", "canForce", "(IIIII)Z"⟩, 14), (⟨"BiddenMovesModel", "countTold", "(I)I"⟩, 14), (⟨"BiddenMovesModel", "allMoves", "()I"⟩, 14), (⟨"BiddenMovesModel", "thresholdTold", "(III)I"⟩, 14)]
theorem lw_r4 : ∀ q ∈ lw_privs_4, lw_okq q := List.forall_mem_cons.mpr ⟨lw_p48, List.forall_mem_cons.mpr ⟨lw_p49, List.forall_mem_cons.mpr ⟨lw_p50, List.forall_mem_cons.mpr ⟨lw_p51, List.forall_mem_cons.mpr ⟨lw_p52, List.forall_mem_cons.mpr ⟨lw_p53, List.forall_mem_cons.mpr ⟨lw_p54, List.forall_mem_cons.mpr ⟨lw_p55, List.forall_mem_cons.mpr ⟨lw_p56, List.forall_mem_cons.mpr ⟨lw_p57, List.forall_mem_cons.mpr ⟨lw_p58, List.forall_mem_cons.mpr ⟨lw_p59, List.forall_mem_cons.mpr ⟨lw_p60, List.forall_mem_cons.mpr ⟨lw_p61, List.forall_mem_cons.mpr ⟨lw_p62, List.forall_mem_cons.mpr ⟨lw_p63, fun _ h => absurd h List.not_mem_nil⟩⟩⟩⟩⟩⟩⟩⟩⟩⟩⟩⟩⟩⟩⟩⟩
theorem lw_p64 : lw_okq (⟨"BiddenMovesModel", "adviceTold", "(I)I"⟩, 14) := ⟨⟨by decide +kernel, by decide +kernel⟩, List.mem_of_getElem? (i := 799) (by decide +kernel), List.mem_of_getElem? (i := 1069) (by decide +kernel), List.mem_of_getElem? (i := 1070) (by decide +kernel)⟩
theorem lw_p65 : lw_okq (⟨"BiddenMovesModel", "isBid", "(II)Z"⟩, 14) := ⟨⟨by decide +kernel, by decide +kernel⟩, List.mem_of_getElem? (i := 799) (by decide +kernel), List.mem_of_getElem? (i := 1077) (by decide +kernel), List.mem_of_getElem? (i := 1078) (by decide +kernel)⟩
theorem lw_p66 : lw_okq (⟨"BiddenMovesModel", "refutedTold", "(II)I"⟩, 14) := ⟨⟨by decide +kernel, by decide +kernel⟩, List.mem_of_getElem? (i := 799) (by decide +kernel), List.mem_of_getElem? (i := 1081) (by decide +kernel), List.mem_of_getElem? (i := 1082) (by decide +kernel)⟩
theorem lw_p67 : lw_okq (⟨"BiddenMovesModel", "bestMoveTold", "(II)I"⟩, 14) := ⟨⟨by decide +kernel, by decide +kernel⟩, List.mem_of_getElem? (i := 799) (by decide +kernel), List.mem_of_getElem? (i := 1089) (by decide +kernel), List.mem_of_getElem? (i := 1090) (by decide +kernel)⟩
theorem lw_p68 : lw_okq (⟨"BiddenMovesModel", "winInTold", "(I)I"⟩, 14) := ⟨⟨by decide +kernel, by decide +kernel⟩, List.mem_of_getElem? (i := 799) (by decide +kernel), List.mem_of_getElem? (i := 1097) (by decide +kernel), List.mem_of_getElem? (i := 1098) (by decide +kernel)⟩
theorem lw_p69 : lw_okq (⟨"BiddenMovesModel", "shareTold", "()D"⟩, 14) := ⟨⟨by decide +kernel, by decide +kernel⟩, List.mem_of_getElem? (i := 799) (by decide +kernel), List.mem_of_getElem? (i := 1105) (by decide +kernel), List.mem_of_getElem? (i := 1106) (by decide +kernel)⟩
theorem lw_p70 : lw_okq (⟨"BiddenMovesModel", "mix", "(J)V"⟩, 14) := ⟨⟨by decide +kernel, by decide +kernel⟩, List.mem_of_getElem? (i := 799) (by decide +kernel), List.mem_of_getElem? (i := 1114) (by decide +kernel), List.mem_of_getElem? (i := 1115) (by decide +kernel)⟩
theorem lw_p71 : lw_okq (⟨"BiddenMovesModel", "mixPosition", "(I)V"⟩, 14) := ⟨⟨by decide +kernel, by decide +kernel⟩, List.mem_of_getElem? (i := 799) (by decide +kernel), List.mem_of_getElem? (i := 1119) (by decide +kernel), List.mem_of_getElem? (i := 1120) (by decide +kernel)⟩
theorem lw_p72 : lw_okq (⟨"BiddenMovesModel", "mixPlayer", "(I)V"⟩, 14) := ⟨⟨by decide +kernel, by decide +kernel⟩, List.mem_of_getElem? (i := 799) (by decide +kernel), List.mem_of_getElem? (i := 1123) (by decide +kernel), List.mem_of_getElem? (i := 1124) (by decide +kernel)⟩
def lw_privs_5 : List (MethodName × Nat) := [(⟨"BiddenMovesModel", "adviceTold", "(I)I"⟩, 14), (⟨"BiddenMovesModel", "isBid", "(II)Z"⟩, 14), (⟨"BiddenMovesModel", "refutedTold", "(II)I"⟩, 14), (⟨"BiddenMovesModel", "bestMoveTold", "(II)I"⟩, 14), (⟨"BiddenMovesModel", "winInTold", "(I)I"⟩, 14), (⟨"BiddenMovesModel", "shareTold", "()D"⟩, 14), (⟨"BiddenMovesModel", "mix", "(J)V"⟩, 14), (⟨"BiddenMovesModel", "mixPosition", "(I)V"⟩, 14), (⟨"BiddenMovesModel", "mixPlayer", "(I)V"⟩, 14)]
theorem lw_r5 : ∀ q ∈ lw_privs_5, lw_okq q := List.forall_mem_cons.mpr ⟨lw_p64, List.forall_mem_cons.mpr ⟨lw_p65, List.forall_mem_cons.mpr ⟨lw_p66, List.forall_mem_cons.mpr ⟨lw_p67, List.forall_mem_cons.mpr ⟨lw_p68, List.forall_mem_cons.mpr ⟨lw_p69, List.forall_mem_cons.mpr ⟨lw_p70, List.forall_mem_cons.mpr ⟨lw_p71, List.forall_mem_cons.mpr ⟨lw_p72, fun _ h => absurd h List.not_mem_nil⟩⟩⟩⟩⟩⟩⟩⟩⟩
def lw_privs : List (MethodName × Nat) := lw_privs_1 ++ (lw_privs_2 ++ (lw_privs_3 ++ (lw_privs_4 ++ (lw_privs_5))))
def lw_tbl : List Cond := k2_sels lw_privs ++ tables_1
theorem lw_privs_ok : ∀ q ∈ lw_privs, lw_okq q := by
  show ∀ q ∈ lw_privs_1 ++ (lw_privs_2 ++ (lw_privs_3 ++ (lw_privs_4 ++ (lw_privs_5)))), lw_okq q
  exact List.forall_mem_append.mpr ⟨lw_r1, List.forall_mem_append.mpr ⟨lw_r2, List.forall_mem_append.mpr ⟨lw_r3, List.forall_mem_append.mpr ⟨lw_r4, lw_r5⟩⟩⟩⟩
/-- the streams that the claim lets the run draw from -/
abbrev lw_cs : List Choice := [Jvm.Choice.named "NaN.bits"]
theorem lw_bits : nanBits ∈ lw_cs := by first | decide | exact List.mem_cons_self | simp [lw_cs, nanBits]
end
section
/-! ===== BEGIN words of one list among another's, by their places ===== -/
theorem goodIn_r {big : List Cond} (ws : List Cond) (ps : List Nat) (hp : ws = ps.filterMap (fun i => big[i]?)) (h : ws.all goodWord = true) : GoodIn big ws := by
  intro w hw
  have h1 := List.all_eq_true.mp h w hw
  rw [hp] at hw
  obtain ⟨i, -, hi⟩ := List.mem_filterMap.mp hw
  have hm : w ∈ big := by first | exact List.mem_of_getElem? hi | exact List.getElem?_mem hi
  exact ⟨hm, good_of_word h1⟩
theorem goodIn_app {big a b : List Cond} (ha : GoodIn big a) (hb : GoodIn big b) : GoodIn big (a ++ b) := fun w h => (List.mem_append.mp h).elim (ha w) (hb w)
theorem goodIn_ca {big a b : List Cond} {c : Cond} (ha : GoodIn big (c :: a)) (hb : GoodIn big b) : GoodIn big (c :: (a ++ b)) := fun w h => (List.mem_cons.mp h).elim (fun e => ha w (List.mem_cons.mpr (Or.inl e))) (fun h => (List.mem_append.mp h).elim (fun h => ha w (List.mem_cons.mpr (Or.inr h))) (hb w))
theorem goodIn_sub {big ws : List Cond} (hm : ∀ w ∈ ws, w ∈ big) (h : ws.all goodWord = true) : GoodIn big ws := fun w hw => ⟨hm w hw, good_of_word (List.all_eq_true.mp h w hw)⟩
/-! ===== END ===== -/

/-! ===== BEGIN exceptions that leave a method, and their catching by the caller (launches without stack traces) ===== -/
section VXA
/-! The laws vx_back, vx_callV, vx_callS, vx_callSW, vx_throw0, vx_throwS follow proofs of the library, with one case more: JvmDerived/Free/Laws.lean (Back.of_free), Shelf42/LK1.lean (callV, callS), Shelf/KitTraced.lean (throwNew0V, throwNewS). -/
/-- where a method has thrown q: the class by its name, the cell, what was written, the world -/
def vx_T (XC : String → State → State → Prop) (st : State) (q : Addr) (t : State) (mc ms : Nat) (free : Addr → Prop) : Prop :=
  ∃ (E : String) (ce : Cell) (L : List Loc), XC E st t ∧ t.heap[q]? = some ce ∧ ce.vm = .none ∧ st.vm.findClass E = some ce.cls ∧ st.WarmedH t.vm ∧ st.sameButNew ({ t with vm := st.vm } : State) L mc ms ∧ ∀ z ∈ L, free z.base
def vx_Q (Qc : Array Value → State → Outcome → State → Prop) (XC : String → State → State → Prop) (mc ms : Nat) (free : Addr → Prop) : Array Value → State → Outcome → State → Prop := fun a st o t =>
  (Qc a st o t ∧ ∃ L, FrameEnd st o t L mc ms ∧ ∀ q ∈ L, free q.base) ∨ ∃ q, o = .threw q ∧ vx_T XC st q t mc ms free
/-- a callee that returns or throws -/
def vx_Met (l : Launch) (y : MethodName) (ws : List Cond) (rm : Room) (Pc : Array Value → State → Prop) (Qc : Array Value → State → Outcome → State → Prop) (XC : String → State → State → Prop) (mc ms : Nat) (free : Addr → Prop) : Prop :=
  MetFree l y (headSpec ws rm) Pc (fun _ _ _ _ _ => True) (vx_Q Qc XC mc ms free)
def vx_Post (XC : String → State → State → Prop) (mc ms : Nat) (free : Addr → Prop) : Pt → Array Value → Addr → Pt → Prop := fun A a q B =>
  ∃ (g : JFrame) (mk : MethodId) (t : State) (L : List Loc) (E : String) (ce : Cell), B.U.heap = t.heap ∧ B.U.vm = t.vm ∧ XC E (A.U.calling g mk a) t ∧ t.heap[q]? = some ce ∧ ce.vm = .none ∧ A.U.vm.findClass E = some ce.cls ∧ B.locs = A.locs ++ L ∧ (∀ z ∈ L, free z.base) ∧ B.cells = A.cells + mc ∧ B.slots = A.slots + ms
def vx_Back (l : Launch) (R : Room) (p : Program) (e : Env) (below : List Frame) (s : State) (sargs : Array Value) (y : MethodName) (len W9 : Nat)
    (Pre : Pt → Array Value → Prop) (Post : Pt → Array Value → Option Value → Pt → Prop) (PostX : Pt → Array Value → Addr → Pt → Prop) : Prop :=
  ∀ (m : MethodId) (meth : Method) (c : Code) (A : Pt) (g : JFrame) (ig : Instr) (mk : MethodId) (a : Array Value),
    Stand p l e R s m sargs below meth c A.U A.locs A.cells A.slots → g.method = m → g.locals.size = c.maxLocals → decode c.code g.pc = .ok (ig, len) →
    2 * g.monitorRoom + (g.stack.map fun v => v.category).sum ≤ W9 → A.U.methodNamed? y = some mk → Pre A a →
    (∃ (v : Option Value) (B : Pt), Stand p l e R s m sargs below meth c B.U B.locs B.cells B.slots ∧ Post A a v B ∧
      Steps p.tables e below (doInvoke e (A.U.setTop g) [] mk a).1 (B.U.setTop { g with pc := g.pc + len, stack := v.toList ++ g.stack })) ∨
    (∃ (q : Addr) (B : Pt), Stand p l e R s m sargs below meth c B.U B.locs B.cells B.slots ∧ PostX A a q B ∧
      Steps p.tables e below (doInvoke e (A.U.setTop g) [] mk a).1 ((B.U.setTop g).pushFrame (.throwing q)))
section Payer
variable {l : Launch} {R : Room} {p : Program} {e : Env} {below : List Frame} {s : State} {sargs : Array Value} {y : MethodName} {len W9 : Nat}
theorem vx_back {ws : List Cond} {rm : Room} {Pc : Array Value → State → Prop} {Qc : Array Value → State → Outcome → State → Prop} {XC : String → State → State → Prop} {mc ms : Nat} {free : Addr → Prop} {bytes : ByteArray} {maxL : Nat} {ret : Option FieldType}
    (hM : vx_Met l y ws rm Pc Qc XC mc ms free) (hblind : FrameBlind Pc) (hrc : rm.cells = mc) (hrs : rm.slots = ms)
    (hframes : rm.frames + 1 ≤ R.frames) (hlocals : W9 + (maxL + 11) + rm.locals ≤ R.locals)
    (hws : ∀ w ∈ ws, ∀ a' U, s.WarmedH U.vm → w.before a' U = true) (hcode : Cond.code y bytes maxL ret ∈ ws) (hinit : ∀ a' U, s.WarmedH U.vm → (Cond.initialized y.cls).before a' U = true) :
    vx_Back l R p e below s sargs y len W9 (PreOf R mc ms Pc) (PostOf Qc mc ms free) (vx_Post XC mc ms free) := by
  intro m meth c A g ig mk a X hg hsize hdg hW hn hp
  have h1 : (headSpec ws rm).pre.before a A.U = true := atoms_intro fun w hw => hws w hw _ _ X.warmed
  have h2 : (Cond.code y bytes maxL ret).before a A.U = true := hws _ hcode _ _ X.warmed
  have h3 : (Cond.initialized y.cls).before a A.U = true := hinit _ _ X.warmed
  have h4 : A.cells + (headSpec ws rm).room.cells ≤ R.cells := by rw [show (headSpec ws rm).room.cells = mc from hrc]; exact hp.1
  have h5 : A.slots + (headSpec ws rm).room.slots ≤ R.slots := by rw [show (headSpec ws rm).room.slots = ms from hrs]; exact hp.2.1
  have hPc : Pc a (A.U.calling g mk a) := hblind _ _ _ _ hp.2.2
  obtain ⟨U, Ls, c0, s0⟩ := A
  dsimp only [Pt.U, Pt.locs, Pt.cells, Pt.slots] at h1 h2 h3 h4 h5 X hn hPc ⊢
  obtain ⟨methY, cY, hmY, hcY, -, hlY, -, -, -, -⟩ := Cond.code_spec hn h2
  obtain ⟨kY, hkY, -⟩ := className_of_methodNamed hn
  have hinitY : kY.init = .initialized := Cond.initialized_spec (findClass_of_methodNamed hn) hkY h3
  have h : At U g.method c below := by rw [hg]; exact X.here
  have hlocals9 : W9 + (maxL + 11) + (headSpec ws rm).room.locals ≤ R.locals := hlocals
  have happ : (headSpec ws rm).appliesLoose y e.platform (U.calling g mk a) = true :=
    Spec.appliesLoose_calling (g := g) h hdg hn hkY hinitY
      (X.room_calling (g := g) (R' := (headSpec ws rm).room) hsize hmY hcY hframes (by rw [hlY]; omega) h4 h5) h1
  obtain ⟨mid, hmid⟩ := h.above
  have hfr : (U.setTop g).frames = (.java g :: mid) ++ below := by rw [State.frames_setTop' g h.top, hmid]; rfl
  obtain ⟨o, s₂, hsteps, -, hend, hq⟩ := Steps.callFree hM p X.admits X.cas X.clock (acts := []) hfr happ hPc trivial
  have hq' : vx_Q Qc XC mc ms free a (U.calling g mk a) o s₂ := hq
  rw [State.frames_setTop' g h.top] at hend
  obtain ⟨g₀, hg0⟩ := Option.isSome_iff_exists.mp h.top
  obtain ⟨r, hr⟩ := State.topJava?_eq_some.mp hg0
  have hr' : (({ U with heap := s₂.heap, slotsUsed := s₂.slotsUsed } : State).setVm s₂.vm).frames = .java g₀ :: r := hr
  rcases hq' with ⟨hqc, L, hfe, hL⟩ | ⟨q, rfl, E, ce, L, hx, hce, hcv, hcl, hW₂, hsm, hL⟩
  · obtain ⟨⟨v, rfl⟩, hW₂, e2, q2, q3, q4, q5, q6⟩ := id hfe
    have e3 : s₂ = ({ (U.calling g mk a).setFrames s₂.frames with heap := s₂.heap, slotsUsed := s₂.slotsUsed } : State).setVm s₂.vm := by
      have : s₂ = ({ s₂ with vm := (U.calling g mk a).vm } : State).setVm s₂.vm := rfl
      rw [e2] at this
      exact this
    obtain ⟨c₂, i₂, len₂, hc₂, hd₂, hf₂⟩ := hend
    have hW' : U.WarmedH s₂.vm := hW₂
    have hcc : c₂ = c := by
      have h1 : s₂.code? g.method = U.code? g.method := by
        rw [State.code?_eq, State.code?_eq, hW'.alike.method?]
      exact Option.some.inj (hc₂.symm.trans (h1.trans h.code))
    subst hcc
    have hlen : len₂ = len := by rw [hdg] at hd₂; cases hd₂; rfl
    subst hlen
    have hs₂ : s₂ = (({ U with heap := s₂.heap, slotsUsed := s₂.slotsUsed } : State).setVm s₂.vm).setTop { g with pc := g.pc + len₂, stack := v.toList ++ g.stack } := by
      refine e3.trans ?_
      rw [hf₂, State.calling_eq h.top, State.setFrames_setFrames, State.setTop_of_frames _ hr', hr]
      rfl
    have hsame : U.sameButNew ({ U with heap := s₂.heap, slotsUsed := s₂.slotsUsed } : State) L mc ms := by
      refine ⟨?_, q2, q3, q4, q5, q6⟩
      obtain ⟨t, ht, -⟩ := State.frames_cons hr
      show ({ U with heap := s₂.heap, slotsUsed := s₂.slotsUsed } : State) = { U.setFrames U.frames with heap := s₂.heap, slotsUsed := s₂.slotsUsed }
      rw [State.setFrames_self ht]
    subst hg
    refine Or.inl ⟨v, ⟨(({ U with heap := s₂.heap, slotsUsed := s₂.slotsUsed } : State).setVm s₂.vm), Ls ++ L, c0 + mc, s0 + ms⟩,
      ⟨X.admits, X.cas, X.clock, X.frames, X.room, X.hears, X.method, X.code, (X.here.setHeapUsed s₂.heap s₂.slotsUsed).setVm hW'.alike, X.tail, State.WarmedH.trans X.warmed hW', X.limits, X.bytes, X.same.trans (hsame.setVm s.vm)⟩,
      ⟨g, mk, s₂, L, rfl, rfl, hqc, rfl, hL, rfl, rfl⟩, ?_⟩
    show Steps p.tables e below _ ((({ U with heap := s₂.heap, slotsUsed := s₂.slotsUsed } : State).setVm s₂.vm).setTop { g with pc := g.pc + len₂, stack := v.toList ++ g.stack })
    rw [← hs₂]
    exact hsteps
  · obtain ⟨e2, q2, q3, q4, q5, q6⟩ := id hsm
    have e3 : s₂ = ({ (U.calling g mk a).setFrames s₂.frames with heap := s₂.heap, slotsUsed := s₂.slotsUsed } : State).setVm s₂.vm := by
      have : s₂ = ({ s₂ with vm := (U.calling g mk a).vm } : State).setVm s₂.vm := rfl
      rw [e2] at this
      exact this
    have hf₂ : s₂.frames = .throwing q :: .java g :: U.frames.tail := hend
    have hW' : U.WarmedH s₂.vm := hW₂
    have hs₂ : s₂ = ((({ U with heap := s₂.heap, slotsUsed := s₂.slotsUsed } : State).setVm s₂.vm).setTop g).pushFrame (.throwing q) := by
      refine e3.trans ?_
      rw [hf₂, State.calling_eq h.top, State.setFrames_setFrames, State.pushFrame, State.frames_setTop _ hr', State.setTop_of_frames _ hr', State.setFrames_setFrames, hr]
      rfl
    have hsame : U.sameButNew ({ U with heap := s₂.heap, slotsUsed := s₂.slotsUsed } : State) L mc ms := by
      refine ⟨?_, q2, q3, q4, q5, q6⟩
      obtain ⟨t, ht, -⟩ := State.frames_cons hr
      show ({ U with heap := s₂.heap, slotsUsed := s₂.slotsUsed } : State) = { U.setFrames U.frames with heap := s₂.heap, slotsUsed := s₂.slotsUsed }
      rw [State.setFrames_self ht]
    subst hg
    refine Or.inr ⟨q, ⟨(({ U with heap := s₂.heap, slotsUsed := s₂.slotsUsed } : State).setVm s₂.vm), Ls ++ L, c0 + mc, s0 + ms⟩,
      ⟨X.admits, X.cas, X.clock, X.frames, X.room, X.hears, X.method, X.code, (X.here.setHeapUsed s₂.heap s₂.slotsUsed).setVm hW'.alike, X.tail, State.WarmedH.trans X.warmed hW', X.limits, X.bytes, X.same.trans (hsame.setVm s.vm)⟩,
      ⟨g, mk, s₂, L, E, ce, rfl, rfl, hx, hce, hcv, hcl, rfl, hL, rfl, rfl⟩, ?_⟩
    show Steps p.tables e below _ (((({ U with heap := s₂.heap, slotsUsed := s₂.slotsUsed } : State).setVm s₂.vm).setTop g).pushFrame (.throwing q))
    rw [← hs₂]
    exact hsteps
end Payer
section Calls
variable {p : Program} {l : Launch} {e : Env} {R : Room} {s : State} {m : MethodId} {args : Array Value} {below : List Frame} {meth : Method} {c : Code} {T : State} {locs : List Loc} {cells slots : Nat}
theorem vx_callV (X : Stand p l e R s m args below meth c T locs cells slots) (hexec : p.tables.exec = Jvm.exec) {own C : String} {index : Nat} {y : MethodName} {bytes : ByteArray} {maxL : Nat} {ret : Option FieldType}
    (hown : s.vm.findClass own = some m.cls) (hlink : (Cond.methodLink own index y).before args s = true) (hinst : (Cond.instanceMethod y).before args s = true) (hsel : (Cond.selects C y y).before args s = true)
    (hcode : (Cond.code y bytes maxL ret).before args s = true) (hy : y.cls ≠ "java/lang/invoke/MethodHandle" ∧ y.cls ≠ "java/lang/invoke/VarHandle")
    {W9 : Nat} {Pre : Pt → Array Value → Prop} {Post : Pt → Array Value → Option Value → Pt → Prop} {PostX : Pt → Array Value → Addr → Pt → Prop} (hK : vx_Back l R p e below s args y 3 W9 Pre Post PostX)
    {b : Addr} {cellB : Cell} (hcell : T.heap[b]? = some cellB) (hobj : cellB.vm.isStatics = false) (hcls : s.vm.findClass C = some cellB.cls)
    {g : JFrame} (hg : g.method = m) (hsize : g.locals.size = c.maxLocals) {argsL rest : List Value} (hlen : ∀ sig, parseMethodDescriptor y.desc = some sig → argsL.length = sig.parameters.length)
    (hstack : g.stack = argsL.reverse ++ .ref b :: rest) (hW : 2 * g.monitorRoom + (rest.map fun v => v.category).sum ≤ W9) (hdg : decode c.code g.pc = .ok (.invokevirtual index, 3))
    (hpre : ∀ vm₁, s.WarmedH vm₁ → Pre ⟨T.setVm vm₁, locs, cells, slots⟩ (Value.ref b :: argsL).toArray) :
    (∃ (v : Option Value) (vm₁ : Vm) (B : Pt), s.WarmedH vm₁ ∧ Stand p l e R s m args below meth c B.U B.locs B.cells B.slots ∧ Post ⟨T.setVm vm₁, locs, cells, slots⟩ (Value.ref b :: argsL).toArray v B ∧
      ∀ target, Steps p.tables e below (B.U.setTop { g with pc := g.pc + 3, stack := v.toList ++ rest }) target → Steps p.tables e below (T.setTop g) target) ∨
    (∃ (q : Addr) (vm₁ : Vm) (B : Pt), s.WarmedH vm₁ ∧ Stand p l e R s m args below meth c B.U B.locs B.cells B.slots ∧ PostX ⟨T.setVm vm₁, locs, cells, slots⟩ (Value.ref b :: argsL).toArray q B ∧
      Steps p.tables e below (T.setTop g) ((B.U.setTop { g with stack := rest }).pushFrame (.throwing q))) := by
  obtain ⟨mk, methM, hnamed, hmethM, hstM, habM⟩ := Cond.instanceMethod_spec hinst
  obtain ⟨methM', cM, hmethM', -, -, -, -, -, -, hsigM⟩ := Cond.code_spec hnamed hcode
  cases hmethM.symm.trans hmethM'
  obtain ⟨c2, r2, m2, q1, q2, q3, q4, kP, hkP, hkPi⟩ := Cond.selects_spec hsel
  cases hcls.symm.trans q1
  cases (State.methodFound?_of_named hnamed hy).symm.trans q2
  cases hnamed.symm.trans q3
  have hselP : selectMethod e.platform s.vm cellB.cls mk = .method mk := by rw [Launch.admits_selectMethod X.admits]; exact q4
  obtain ⟨vm₁, X₁, hstep₁⟩ := X.invokevirtual hexec hown hlink hnamed hmethM hstM hkP hkPi hy (a := b) (cell := cellB) hcell
    (fun z h => by rw [h] at hobj; cases hobj) hselP hmethM habM hkP hkPi (g := g) hg (argsL := argsL) (rest := rest) (hlen _ hsigM) hstack hdg
  rcases hK m meth c ⟨T.setVm vm₁, locs, cells, slots⟩ { g with stack := rest } (.invokevirtual index) mk (Value.ref b :: argsL).toArray X₁ hg hsize hdg hW (X₁.named hnamed) (hpre vm₁ X₁.warmed) with ⟨v, B, X', hpost, hsteps⟩ | ⟨q, B, X', hpost, hsteps⟩
  · exact Or.inl ⟨v, vm₁, B, X₁.warmed, X', hpost, fun target h => hstep₁ _ fun acts => by rw [doInvoke_state]; exact hsteps.trans h⟩
  · exact Or.inr ⟨q, vm₁, B, X₁.warmed, X', hpost, hstep₁ _ fun acts => by rw [doInvoke_state]; exact hsteps⟩
theorem vx_callS (X : Stand p l e R s m args below meth c T locs cells slots) (hexec : p.tables.exec = Jvm.exec) {own : String} {index : Nat} {y : MethodName} {bytes : ByteArray} {maxL : Nat} {ret : Option FieldType}
    (hown : s.vm.findClass own = some m.cls) (hlink : (Cond.methodLink own index y).before args s = true) (hstat : (Cond.static y).before args s = true) (hinit : (Cond.initialized y.cls).before args s = true)
    (hcode : (Cond.code y bytes maxL ret).before args s = true) (hy : y.cls ≠ "java/lang/invoke/MethodHandle" ∧ y.cls ≠ "java/lang/invoke/VarHandle")
    {W9 : Nat} {Pre : Pt → Array Value → Prop} {Post : Pt → Array Value → Option Value → Pt → Prop} {PostX : Pt → Array Value → Addr → Pt → Prop} (hK : vx_Back l R p e below s args y 3 W9 Pre Post PostX)
    {g : JFrame} (hg : g.method = m) (hsize : g.locals.size = c.maxLocals) {argsL rest : List Value} (hlen : ∀ sig, parseMethodDescriptor y.desc = some sig → argsL.length = sig.parameters.length)
    (hstack : g.stack = argsL.reverse ++ rest) (hW : 2 * g.monitorRoom + (rest.map fun v => v.category).sum ≤ W9) (hdg : decode c.code g.pc = .ok (.invokestatic index, 3))
    (hpre : ∀ vm₁, s.WarmedH vm₁ → Pre ⟨T.setVm vm₁, locs, cells, slots⟩ argsL.toArray) :
    (∃ (v : Option Value) (vm₁ : Vm) (B : Pt), s.WarmedH vm₁ ∧ Stand p l e R s m args below meth c B.U B.locs B.cells B.slots ∧ Post ⟨T.setVm vm₁, locs, cells, slots⟩ argsL.toArray v B ∧
      ∀ target, Steps p.tables e below (B.U.setTop { g with pc := g.pc + 3, stack := v.toList ++ rest }) target → Steps p.tables e below (T.setTop g) target) ∨
    (∃ (q : Addr) (vm₁ : Vm) (B : Pt), s.WarmedH vm₁ ∧ Stand p l e R s m args below meth c B.U B.locs B.cells B.slots ∧ PostX ⟨T.setVm vm₁, locs, cells, slots⟩ argsL.toArray q B ∧
      Steps p.tables e below (T.setTop g) ((B.U.setTop { g with stack := rest }).pushFrame (.throwing q))) := by
  obtain ⟨mk, hnamed⟩ := Cond.code_named hcode
  obtain ⟨methM, cM, hmethM, -, -, -, -, -, -, hsigM⟩ := Cond.code_spec hnamed hcode
  have hstatic : methM.isStatic = true := Cond.static_spec hnamed hmethM hstat
  obtain ⟨kP, hkP, -⟩ := className_of_methodNamed hnamed
  have hinitP : kP.init = .initialized := Cond.initialized_spec (findClass_of_methodNamed hnamed) hkP hinit
  obtain ⟨vm₁, X₁, hstep₁⟩ := X.invokestatic hexec hown hlink hnamed hmethM hstatic hkP hinitP hy (g := g) hg (argsL := argsL) (rest := rest) (hlen _ hsigM) hstack hdg
  rcases hK m meth c ⟨T.setVm vm₁, locs, cells, slots⟩ { g with stack := rest } (.invokestatic index) mk argsL.toArray X₁ hg hsize hdg hW (X₁.named hnamed) (hpre vm₁ X₁.warmed) with ⟨v, B, X', hpost, hsteps⟩ | ⟨q, B, X', hpost, hsteps⟩
  · exact Or.inl ⟨v, vm₁, B, X₁.warmed, X', hpost, fun target h => hstep₁ _ fun acts => by rw [doInvoke_state]; exact hsteps.trans h⟩
  · exact Or.inr ⟨q, vm₁, B, X₁.warmed, X', hpost, hstep₁ _ fun acts => by rw [doInvoke_state]; exact hsteps⟩
end Calls
theorem vx_cls {s : State} {T : State} {vm₁ : Vm} {E : String} {k : ClassId} (hW : s.WarmedH vm₁) (h : (T.setVm vm₁).vm.findClass E = some k) : s.vm.findClass E = some k := by
  have h1 : vm₁.findClass E = some k := h
  rw [hW.alike.findClass] at h1
  exact h1
/-- the method's frame g, with q thrown over it -/
def vx_W (p : Program) (l : Launch) (e : Env) (R : Room) (s : State) (m : MethodId) (args : Array Value) (below : List Frame) (meth : Method) (c : Code) (H : Heap) (locs : List Loc) (cells slots : Nat) (Q : State → Prop) (g : JFrame) (q : Addr) : Prop :=
  ∀ T : State, T.heap = H → Stand p l e R s m args below meth c T locs cells slots → ∃ t, Steps p.tables e below ((T.setTop g).pushFrame (.throwing q)) t ∧ Q t
def vx_Run (p : Program) (l : Launch) (e : Env) (R : Room) (s : State) (m : MethodId) (args : Array Value) (below : List Frame) (meth : Method) (c : Code) (H : Heap) (locs : List Loc) (cells slots mc ms : Nat) (g : JFrame) (rest : List Value) (Qa : State → Outcome → State → Prop) (XC : String → State → State → Prop) (free : Addr → Prop) : Prop :=
  ∀ T : State, T.heap = H → Stand p l e R s m args below meth c T locs cells slots →
    (∃ (v : Option Value) (st₀ t T' : State) (L : List Loc), st₀.heap = H ∧ Stand p l e R s m args below meth c T' (locs ++ L) (cells + mc) (slots + ms) ∧ (∀ q ∈ L, free q.base) ∧ T'.heap = t.heap ∧ T'.vm = t.vm ∧ Qa st₀ (.returned v) t ∧
      Goes p e below T g T' { g with pc := g.pc + 3, stack := v.toList ++ rest }) ∨
    (∃ (q : Addr) (st₀ t T' : State) (L : List Loc) (E : String) (ce : Cell), st₀.heap = H ∧ Stand p l e R s m args below meth c T' (locs ++ L) (cells + mc) (slots + ms) ∧ (∀ z ∈ L, free z.base) ∧ T'.heap = t.heap ∧ T'.vm = t.vm ∧ XC E st₀ t ∧ t.heap[q]? = some ce ∧ ce.vm = .none ∧ s.vm.findClass E = some ce.cls ∧
      Steps p.tables e below (T.setTop g) ((T'.setTop { g with stack := rest }).pushFrame (.throwing q)))
def vx_X {S : Type} (px : S → Prop) (B : String → S → State → Prop) (A : Nat → Prop) : String → State → State → Prop := fun E st t => ∃ u : S, px u ∧ B E u t ∧ va_F A st t
section Runs
variable {p : Program} {l : Launch} {e : Env} {R : Room} {s : State} {m : MethodId} {args : Array Value} {below : List Frame} {meth : Method} {c : Code} {H : Heap} {locs : List Loc} {cells slots : Nat}
variable {y : MethodName} {bytes cc : ByteArray} {maxL nL mc ms n index : Nat} {ret : Option FieldType} {ws : List Cond} {rm : Room} {Pc : Array Value → State → Prop} {Qc : Array Value → State → Outcome → State → Prop} {XC : String → State → State → Prop} {free : Addr → Prop} {Ts : List Cond} {own C : String} {b : Addr} {As rest : List Value} {g : JFrame}
theorem vx_callBack (cb : CallB R s args own index y bytes maxL ret ws rm mc ms n) (hM : vx_Met l y ws rm Pc Qc XC mc ms free) (hbl : FrameBlind Pc) : vx_Back l R p e below s args y 3 8 (PreOf R mc ms Pc) (PostOf Qc mc ms free) (vx_Post XC mc ms free) := by
  obtain ⟨hrc, hrs, hfr, hlo, hws, hcw, -, hini, -⟩ := cb
  exact vx_back (bytes := bytes) (maxL := maxL) (ret := ret) hM hbl hrc hrs hfr hlo hws hcw (fun a' U hW => word_at hW (Or.inl (by first | rfl | simp [Cond.onTables, Cond.keeps, Cond.steady])) hini)
theorem vx_runV (S : CallFix p m c cc nL s args Ts own) (hM : vx_Met l y ws rm Pc Qc XC mc ms free) (cw : CallW R s args own C index y bytes maxL ret ws rm mc ms n) (hp : PreV s H C b Pc As)
    (hg : g.method = m) (hn : As.length = n) (hsize : g.locals.size = nL) (hstack : g.stack = As.reverse ++ .ref b :: rest) (hW : 2 * g.monitorRoom + (rest.map fun v => v.category).sum ≤ 8) (hdg : decode cc g.pc = .ok (.invokevirtual index, 3)) (hf : cells + mc ≤ R.cells ∧ slots + ms ≤ R.slots) :
    vx_Run p l e R s m args below meth c H locs cells slots mc ms g rest (Qc (Value.ref b :: As).toArray) XC free := by
  have hK : vx_Back l R p e below s args y 3 8 (PreOf R mc ms Pc) (PostOf Qc mc ms free) (vx_Post XC mc ms free) := vx_callBack cw.1 hM hp.1
  obtain ⟨⟨-, -, -, -, -, -, hcode, -, hy, hlen, hl⟩, hin, hse⟩ := cw
  obtain ⟨hx, hb, hml, ho, -⟩ := S
  obtain ⟨-, ⟨cellB, hcB, hoB, hclB⟩, hPc⟩ := hp
  intro T hT X
  rcases vx_callV X hx (C := C) (bytes := bytes) (maxL := maxL) (ret := ret) ho hl hin hse hcode hy hK (by rw [hT]; exact hcB) hoB hclB hg (hsize.trans hml.symm) (argsL := As) (rest := rest) (fun sig h => hn.trans (hlen sig h)) hstack hW (by rw [hb]; exact hdg)
    (fun vm₁ hW₁ => ⟨hf.1, hf.2, hPc (T.setVm vm₁) hT hW₁⟩) with ⟨v, vm₁, ⟨U', l2, c2, s2⟩, hW₁, X', ⟨g', mk, t, L, e1, e2, hq, h1, hL, h2, h3⟩, st⟩ | ⟨q, vm₁, ⟨U', l2, c2, s2⟩, hW₁, X', ⟨g', mk, t, L, E, ce, e1, e2, hq, hce, hcv, hcl, h1, hL, h2, h3⟩, st⟩
  · dsimp only [Pt.U, Pt.locs, Pt.cells, Pt.slots] at X' e1 e2 h1 h2 h3 st
    subst h1; subst h2; subst h3
    exact Or.inl ⟨v, (T.setVm vm₁).calling g' mk (Value.ref b :: As).toArray, t, U', L, hT, X', hL, e1, e2, hq, st⟩
  · dsimp only [Pt.U, Pt.locs, Pt.cells, Pt.slots] at X' e1 e2 h1 h2 h3 st hcl
    subst h1; subst h2; subst h3
    exact Or.inr ⟨q, (T.setVm vm₁).calling g' mk (Value.ref b :: As).toArray, t, U', L, E, ce, hT, X', hL, e1, e2, hq, hce, hcv, vx_cls hW₁ hcl, st⟩
theorem vx_runS (S : CallFix p m c cc nL s args Ts own) (hM : vx_Met l y ws rm Pc Qc XC mc ms free) (cw : CallB R s args own index y bytes maxL ret ws rm mc ms n ∧ (Cond.static y).before args s = true) (hp : PreS s H Pc As)
    (hg : g.method = m) (hn : As.length = n) (hsize : g.locals.size = nL) (hstack : g.stack = As.reverse ++ rest) (hW : 2 * g.monitorRoom + (rest.map fun v => v.category).sum ≤ 8) (hdg : decode cc g.pc = .ok (.invokestatic index, 3)) (hf : cells + mc ≤ R.cells ∧ slots + ms ≤ R.slots) :
    vx_Run p l e R s m args below meth c H locs cells slots mc ms g rest (Qc As.toArray) XC free := by
  have hK : vx_Back l R p e below s args y 3 8 (PreOf R mc ms Pc) (PostOf Qc mc ms free) (vx_Post XC mc ms free) := vx_callBack cw.1 hM hp.1
  obtain ⟨⟨-, -, -, -, -, -, hcode, hini, hy, hlen, hl⟩, hstt⟩ := cw
  obtain ⟨hx, hb, hml, ho, -⟩ := S
  intro T hT X
  rcases vx_callS X hx (bytes := bytes) (maxL := maxL) (ret := ret) ho hl hstt hini hcode hy hK hg (hsize.trans hml.symm) (argsL := As) (rest := rest) (fun sig h => hn.trans (hlen sig h)) hstack hW (by rw [hb]; exact hdg)
    (fun vm₁ hW₁ => ⟨hf.1, hf.2, hp.2 (T.setVm vm₁) hT hW₁⟩) with ⟨v, vm₁, ⟨U', l2, c2, s2⟩, hW₁, X', ⟨g', mk, t, L, e1, e2, hq, h1, hL, h2, h3⟩, st⟩ | ⟨q, vm₁, ⟨U', l2, c2, s2⟩, hW₁, X', ⟨g', mk, t, L, E, ce, e1, e2, hq, hce, hcv, hcl, h1, hL, h2, h3⟩, st⟩
  · dsimp only [Pt.U, Pt.locs, Pt.cells, Pt.slots] at X' e1 e2 h1 h2 h3 st
    subst h1; subst h2; subst h3
    exact Or.inl ⟨v, (T.setVm vm₁).calling g' mk As.toArray, t, U', L, hT, X', hL, e1, e2, hq, st⟩
  · dsimp only [Pt.U, Pt.locs, Pt.cells, Pt.slots] at X' e1 e2 h1 h2 h3 st hcl
    subst h1; subst h2; subst h3
    exact Or.inr ⟨q, (T.setVm vm₁).calling g' mk As.toArray, t, U', L, E, ce, hT, X', hL, e1, e2, hq, hce, hcv, vx_cls hW₁ hcl, st⟩
end Runs
section Rows
variable {p : Program} {l : Launch} {e : Env} {R : Room} {s : State} {m : MethodId} {args : Array Value} {below : List Frame} {meth : Method} {c : Code} {H : Heap} {locs : List Loc} {cells slots : Nat} {Q : State → Prop}
variable {mc ms : Nat} {free : Addr → Prop} {A0 A1 : Nat → Prop} {H0 : Heap} {a : Array Value} {pc : Nat} {ls : Array Slot} {st0 rest : List Value}
theorem vx_keep {st₀ t T' : State} {L : List Loc} (h0 : st₀.heap = H) (e1 : T'.heap = t.heap) (hS : va_S A0 H0 H locs) (hA : ∀ q, q < H.size → A1 q → A0 q) (hf : ∀ q, free q → A0 q) (hL : ∀ q ∈ L, free q.base) (hF : va_F A1 st₀ t) :
    H.size ≤ T'.heap.size ∧ (∀ q : Nat, q < H.size → ¬ A1 q → T'.heap[q]? = H[q]?) ∧ va_S A0 H0 T'.heap (locs ++ L) := by
  obtain ⟨hz, hk⟩ := hF
  rw [h0] at hz hk
  exact ⟨by rw [e1]; exact hz, fun q h1 h2 => by rw [e1]; exact hk q h1 h2,
    ⟨Nat.le_trans hS.1 (by rw [e1]; exact hz), fun q h1 h2 => by rw [e1, hk q (Nat.lt_of_lt_of_le h1 hS.1) (fun z => h2 (hA q (Nat.lt_of_lt_of_le h1 hS.1) z))]; exact hS.2.1 q h1 h2, fun q hq => by
      rcases List.mem_append.mp hq with h | h
      · exact hS.2.2 q h
      · exact hf _ (hL q h)⟩⟩
theorem vx_calli {S SX : Type} {post : Int32 → S → Prop} {px : SX → Prop} {B : S → State → Prop} {BX : String → SX → State → Prop} {AX : Nat → Prop} (hr : vx_Run p l e R s m args below meth c H locs cells slots mc ms (F0 m pc ls st0) rest (va_Qi post B A1 a) (vx_X px BX AX) free) (hS : va_S A0 H0 H locs) (hA : ∀ q, q < H.size → A1 q → A0 q) (hf : ∀ q, free q → A0 q) (hAX : ∀ q, q < H.size → AX q → A0 q)
    (kx : ∀ (E : String) (ce : Cell) (q9 : Addr) (u : SX) (t : State) (H1 : Heap) (locs1 : List Loc), t.heap = H1 → s.vm.Alike t.vm → px u → BX E u t → H.size ≤ H1.size → (∀ q : Nat, q < H.size → ¬ AX q → H1[q]? = H[q]?) → va_S A0 H0 H1 locs1 → H1[q9]? = some ce → ce.vm = .none → s.vm.findClass E = some ce.cls → vx_W p l e R s m args below meth c H1 locs1 (cells + mc) (slots + ms) Q (F0 m pc ls rest) q9)
    (kk : ∀ (r : Int32) (u : S) (t : State) (H1 : Heap) (locs1 : List Loc), t.heap = H1 → s.vm.Alike t.vm → post r u → B u t → H.size ≤ H1.size → (∀ q : Nat, q < H.size → ¬ A1 q → H1[q]? = H[q]?) → va_S A0 H0 H1 locs1 → W p l e R s m args below meth c H1 locs1 (cells + mc) (slots + ms) Q (F0 m (pc + 3) ls (.int r :: rest))) : W p l e R s m args below meth c H locs cells slots Q (F0 m pc ls st0) := by
  intro T hT X
  rcases hr T hT X with ⟨v, st₀, t, T', L, h0, X', hL, e1, e2, ⟨⟨r, u, hv, hp, hb⟩, hF⟩, st⟩ | ⟨q, st₀, t, T', L, E, ce, h0, X', hL, e1, e2, ⟨u, hp, hb, hF⟩, hce, hcv, hcl, st⟩
  · cases hv
    obtain ⟨k1, k2, k3⟩ := vx_keep h0 e1 hS hA hf hL hF
    obtain ⟨t2, a1, b1⟩ := kk r u t T'.heap (locs ++ L) e1.symm (by rw [← e2]; exact X'.warmed.alike) hp hb k1 k2 k3 T' rfl X'
    exact ⟨t2, st t2 a1, b1⟩
  · obtain ⟨k1, k2, k3⟩ := vx_keep h0 e1 hS hAX hf hL hF
    obtain ⟨t2, a1, b1⟩ := kx E ce q u t T'.heap (locs ++ L) e1.symm (by rw [← e2]; exact X'.warmed.alike) hp hb k1 k2 k3 (by rw [e1]; exact hce) hcv hcl T' rfl X'
    exact ⟨t2, st.trans a1, b1⟩
theorem vx_calll {S SX : Type} {post : Int64 → S → Prop} {px : SX → Prop} {B : S → State → Prop} {BX : String → SX → State → Prop} {AX : Nat → Prop} (hr : vx_Run p l e R s m args below meth c H locs cells slots mc ms (F0 m pc ls st0) rest (va_Ql post B A1 a) (vx_X px BX AX) free) (hS : va_S A0 H0 H locs) (hA : ∀ q, q < H.size → A1 q → A0 q) (hf : ∀ q, free q → A0 q) (hAX : ∀ q, q < H.size → AX q → A0 q)
    (kx : ∀ (E : String) (ce : Cell) (q9 : Addr) (u : SX) (t : State) (H1 : Heap) (locs1 : List Loc), t.heap = H1 → s.vm.Alike t.vm → px u → BX E u t → H.size ≤ H1.size → (∀ q : Nat, q < H.size → ¬ AX q → H1[q]? = H[q]?) → va_S A0 H0 H1 locs1 → H1[q9]? = some ce → ce.vm = .none → s.vm.findClass E = some ce.cls → vx_W p l e R s m args below meth c H1 locs1 (cells + mc) (slots + ms) Q (F0 m pc ls rest) q9)
    (kk : ∀ (r : Int64) (u : S) (t : State) (H1 : Heap) (locs1 : List Loc), t.heap = H1 → s.vm.Alike t.vm → post r u → B u t → H.size ≤ H1.size → (∀ q : Nat, q < H.size → ¬ A1 q → H1[q]? = H[q]?) → va_S A0 H0 H1 locs1 → W p l e R s m args below meth c H1 locs1 (cells + mc) (slots + ms) Q (F0 m (pc + 3) ls (.long r :: rest))) : W p l e R s m args below meth c H locs cells slots Q (F0 m pc ls st0) := by
  intro T hT X
  rcases hr T hT X with ⟨v, st₀, t, T', L, h0, X', hL, e1, e2, ⟨⟨r, u, hv, hp, hb⟩, hF⟩, st⟩ | ⟨q, st₀, t, T', L, E, ce, h0, X', hL, e1, e2, ⟨u, hp, hb, hF⟩, hce, hcv, hcl, st⟩
  · cases hv
    obtain ⟨k1, k2, k3⟩ := vx_keep h0 e1 hS hA hf hL hF
    obtain ⟨t2, a1, b1⟩ := kk r u t T'.heap (locs ++ L) e1.symm (by rw [← e2]; exact X'.warmed.alike) hp hb k1 k2 k3 T' rfl X'
    exact ⟨t2, st t2 a1, b1⟩
  · obtain ⟨k1, k2, k3⟩ := vx_keep h0 e1 hS hAX hf hL hF
    obtain ⟨t2, a1, b1⟩ := kx E ce q u t T'.heap (locs ++ L) e1.symm (by rw [← e2]; exact X'.warmed.alike) hp hb k1 k2 k3 (by rw [e1]; exact hce) hcv hcl T' rfl X'
    exact ⟨t2, st.trans a1, b1⟩
theorem vx_callf {S SX : Type} {post : UInt32 → S → Prop} {px : SX → Prop} {B : S → State → Prop} {BX : String → SX → State → Prop} {AX : Nat → Prop} (hr : vx_Run p l e R s m args below meth c H locs cells slots mc ms (F0 m pc ls st0) rest (va_Qf post B A1 a) (vx_X px BX AX) free) (hS : va_S A0 H0 H locs) (hA : ∀ q, q < H.size → A1 q → A0 q) (hf : ∀ q, free q → A0 q) (hAX : ∀ q, q < H.size → AX q → A0 q)
    (kx : ∀ (E : String) (ce : Cell) (q9 : Addr) (u : SX) (t : State) (H1 : Heap) (locs1 : List Loc), t.heap = H1 → s.vm.Alike t.vm → px u → BX E u t → H.size ≤ H1.size → (∀ q : Nat, q < H.size → ¬ AX q → H1[q]? = H[q]?) → va_S A0 H0 H1 locs1 → H1[q9]? = some ce → ce.vm = .none → s.vm.findClass E = some ce.cls → vx_W p l e R s m args below meth c H1 locs1 (cells + mc) (slots + ms) Q (F0 m pc ls rest) q9)
    (kk : ∀ (r : UInt32) (u : S) (t : State) (H1 : Heap) (locs1 : List Loc), t.heap = H1 → s.vm.Alike t.vm → post r u → B u t → H.size ≤ H1.size → (∀ q : Nat, q < H.size → ¬ A1 q → H1[q]? = H[q]?) → va_S A0 H0 H1 locs1 → W p l e R s m args below meth c H1 locs1 (cells + mc) (slots + ms) Q (F0 m (pc + 3) ls (.float r :: rest))) : W p l e R s m args below meth c H locs cells slots Q (F0 m pc ls st0) := by
  intro T hT X
  rcases hr T hT X with ⟨v, st₀, t, T', L, h0, X', hL, e1, e2, ⟨⟨r, u, hv, hp, hb⟩, hF⟩, st⟩ | ⟨q, st₀, t, T', L, E, ce, h0, X', hL, e1, e2, ⟨u, hp, hb, hF⟩, hce, hcv, hcl, st⟩
  · cases hv
    obtain ⟨k1, k2, k3⟩ := vx_keep h0 e1 hS hA hf hL hF
    obtain ⟨t2, a1, b1⟩ := kk r u t T'.heap (locs ++ L) e1.symm (by rw [← e2]; exact X'.warmed.alike) hp hb k1 k2 k3 T' rfl X'
    exact ⟨t2, st t2 a1, b1⟩
  · obtain ⟨k1, k2, k3⟩ := vx_keep h0 e1 hS hAX hf hL hF
    obtain ⟨t2, a1, b1⟩ := kx E ce q u t T'.heap (locs ++ L) e1.symm (by rw [← e2]; exact X'.warmed.alike) hp hb k1 k2 k3 (by rw [e1]; exact hce) hcv hcl T' rfl X'
    exact ⟨t2, st.trans a1, b1⟩
theorem vx_calld {S SX : Type} {post : UInt64 → S → Prop} {px : SX → Prop} {B : S → State → Prop} {BX : String → SX → State → Prop} {AX : Nat → Prop} (hr : vx_Run p l e R s m args below meth c H locs cells slots mc ms (F0 m pc ls st0) rest (va_Qd post B A1 a) (vx_X px BX AX) free) (hS : va_S A0 H0 H locs) (hA : ∀ q, q < H.size → A1 q → A0 q) (hf : ∀ q, free q → A0 q) (hAX : ∀ q, q < H.size → AX q → A0 q)
    (kx : ∀ (E : String) (ce : Cell) (q9 : Addr) (u : SX) (t : State) (H1 : Heap) (locs1 : List Loc), t.heap = H1 → s.vm.Alike t.vm → px u → BX E u t → H.size ≤ H1.size → (∀ q : Nat, q < H.size → ¬ AX q → H1[q]? = H[q]?) → va_S A0 H0 H1 locs1 → H1[q9]? = some ce → ce.vm = .none → s.vm.findClass E = some ce.cls → vx_W p l e R s m args below meth c H1 locs1 (cells + mc) (slots + ms) Q (F0 m pc ls rest) q9)
    (kk : ∀ (r : UInt64) (u : S) (t : State) (H1 : Heap) (locs1 : List Loc), t.heap = H1 → s.vm.Alike t.vm → post r u → B u t → H.size ≤ H1.size → (∀ q : Nat, q < H.size → ¬ A1 q → H1[q]? = H[q]?) → va_S A0 H0 H1 locs1 → W p l e R s m args below meth c H1 locs1 (cells + mc) (slots + ms) Q (F0 m (pc + 3) ls (.double r :: rest))) : W p l e R s m args below meth c H locs cells slots Q (F0 m pc ls st0) := by
  intro T hT X
  rcases hr T hT X with ⟨v, st₀, t, T', L, h0, X', hL, e1, e2, ⟨⟨r, u, hv, hp, hb⟩, hF⟩, st⟩ | ⟨q, st₀, t, T', L, E, ce, h0, X', hL, e1, e2, ⟨u, hp, hb, hF⟩, hce, hcv, hcl, st⟩
  · cases hv
    obtain ⟨k1, k2, k3⟩ := vx_keep h0 e1 hS hA hf hL hF
    obtain ⟨t2, a1, b1⟩ := kk r u t T'.heap (locs ++ L) e1.symm (by rw [← e2]; exact X'.warmed.alike) hp hb k1 k2 k3 T' rfl X'
    exact ⟨t2, st t2 a1, b1⟩
  · obtain ⟨k1, k2, k3⟩ := vx_keep h0 e1 hS hAX hf hL hF
    obtain ⟨t2, a1, b1⟩ := kx E ce q u t T'.heap (locs ++ L) e1.symm (by rw [← e2]; exact X'.warmed.alike) hp hb k1 k2 k3 (by rw [e1]; exact hce) hcv hcl T' rfl X'
    exact ⟨t2, st.trans a1, b1⟩
theorem vx_callv {S SX : Type} {post : S → Prop} {px : SX → Prop} {B : S → State → Prop} {BX : String → SX → State → Prop} {AX : Nat → Prop} (hr : vx_Run p l e R s m args below meth c H locs cells slots mc ms (F0 m pc ls st0) rest (va_Qv post B A1 a) (vx_X px BX AX) free) (hS : va_S A0 H0 H locs) (hA : ∀ q, q < H.size → A1 q → A0 q) (hf : ∀ q, free q → A0 q) (hAX : ∀ q, q < H.size → AX q → A0 q)
    (kx : ∀ (E : String) (ce : Cell) (q9 : Addr) (u : SX) (t : State) (H1 : Heap) (locs1 : List Loc), t.heap = H1 → s.vm.Alike t.vm → px u → BX E u t → H.size ≤ H1.size → (∀ q : Nat, q < H.size → ¬ AX q → H1[q]? = H[q]?) → va_S A0 H0 H1 locs1 → H1[q9]? = some ce → ce.vm = .none → s.vm.findClass E = some ce.cls → vx_W p l e R s m args below meth c H1 locs1 (cells + mc) (slots + ms) Q (F0 m pc ls rest) q9)
    (kk : ∀ (u : S) (t : State) (H1 : Heap) (locs1 : List Loc), t.heap = H1 → s.vm.Alike t.vm → post u → B u t → H.size ≤ H1.size → (∀ q : Nat, q < H.size → ¬ A1 q → H1[q]? = H[q]?) → va_S A0 H0 H1 locs1 → W p l e R s m args below meth c H1 locs1 (cells + mc) (slots + ms) Q (F0 m (pc + 3) ls (rest))) : W p l e R s m args below meth c H locs cells slots Q (F0 m pc ls st0) := by
  intro T hT X
  rcases hr T hT X with ⟨v, st₀, t, T', L, h0, X', hL, e1, e2, ⟨⟨u, hv, hp, hb⟩, hF⟩, st⟩ | ⟨q, st₀, t, T', L, E, ce, h0, X', hL, e1, e2, ⟨u, hp, hb, hF⟩, hce, hcv, hcl, st⟩
  · cases hv
    obtain ⟨k1, k2, k3⟩ := vx_keep h0 e1 hS hA hf hL hF
    obtain ⟨t2, a1, b1⟩ := kk u t T'.heap (locs ++ L) e1.symm (by rw [← e2]; exact X'.warmed.alike) hp hb k1 k2 k3 T' rfl X'
    exact ⟨t2, st t2 a1, b1⟩
  · obtain ⟨k1, k2, k3⟩ := vx_keep h0 e1 hS hAX hf hL hF
    obtain ⟨t2, a1, b1⟩ := kx E ce q u t T'.heap (locs ++ L) e1.symm (by rw [← e2]; exact X'.warmed.alike) hp hb k1 k2 k3 (by rw [e1]; exact hce) hcv hcl T' rfl X'
    exact ⟨t2, st.trans a1, b1⟩
/-- caught by the row x of this method's table; the rows ahead don't take it -/
theorem vx_catch {own name : String} {E : String} {ce : Cell} {q : Addr} (hown : s.vm.findClass own = some m.cls) (pre : List ExceptionTableEntry) (x : ExceptionTableEntry) (suf : List ExceptionTableEntry) (hsplit : c.exceptionTable.toList = pre ++ x :: suf)
    (hpass : ∀ z ∈ pre, covers z pc = false ∨ (z.catchType ≠ 0 ∧ ∃ nm : String, (Cond.classLink own z.catchType nm).before args s = true ∧ va_Nc E nm s)) (hx : covers x pc = true) (h0 : x.catchType ≠ 0)
    (hlink : (Cond.classLink own x.catchType name).before args s = true) (hcast : (Cond.castable E name).before args s = true) (hcell : H[q]? = some ce) (hv : ce.vm = .none) (hcl : s.vm.findClass E = some ce.cls)
    (kk : W p l e R s m args below meth c H locs cells slots Q (F0 m x.handlerPc ls [.ref q])) : vx_W p l e R s m args below meth c H locs cells slots Q (F0 m pc ls rest) q := by
  intro T hT X
  have hpl : e.platform.magicAccessors = ({} : Platform).magicAccessors := by rw [X.admits.platform]
  obtain ⟨c3, c4, hc3, hc4, hasg⟩ := Cond.castable_spec hcast
  cases Option.some.inj (hc3.symm.trans hcl)
  obtain ⟨c5, hc5, hcl5⟩ := Cond.classLink_spec hown hlink e.platform hpl
  cases Option.some.inj (hc4.symm.trans hc5)
  obtain ⟨vm', X', st⟩ := X.thenCaughtThrough q (g := F0 m pc ls rest) rfl (Steps.refl _) (by rw [hT]; exact hcell) (by rw [hv]; rfl) (by obtain ⟨k9, h9, -⟩ := Vm.findClass_spec hcl; exact ⟨k9, h9⟩) pre x suf hsplit
    (fun z hz => by
      rcases hpass z hz with h | ⟨hz0, nm, hl1, hn1⟩
      · exact Or.inl h
      · obtain ⟨c6, hc6, hcl6⟩ := Cond.classLink_spec hown hl1 e.platform hpl
        obtain ⟨a8, b8, h1, h2, h3⟩ := hn1
        cases Option.some.inj (h1.symm.trans hcl)
        cases Option.some.inj (h2.symm.trans hc6)
        exact Or.inr ⟨hz0, _, hcl6, h3⟩) hx (Or.inr ⟨h0, c4, hcl5, hasg⟩)
  obtain ⟨t, a1, b1⟩ := kk (T.setVm vm') hT X'
  exact ⟨t, st.trans a1, b1⟩
end Rows
section Ends
variable {p : Program} {l : Launch} {e : Env} {R : Room} {s : State} {m : MethodId} {args : Array Value} {below : List Frame} {meth : Method} {c : Code} {H : Heap} {locs : List Loc} {cells slots : Nat} {Q : State → Prop}
variable {mc ms : Nat} {free : Addr → Prop} {A0 A1 : Nat → Prop} {H0 : Heap} {a : Array Value} {ls : Array Slot} {st0 rest : List Value}
variable {Qc : Array Value → State → Outcome → State → Prop} {XC : String → State → State → Prop}
/-- what a body that may throw owes at its end -/
def vx_MQ (below : List Frame) (Qc : Array Value → State → Outcome → State → Prop) (XC : String → State → State → Prop) (a : Array Value) (s : State) (mc ms : Nat) (free : Addr → Prop) : State → Prop := fun t =>
  ∃ o, t.status = .running ∧ Ended t below o ∧ vx_Q Qc XC mc ms free a s o t
theorem vx_ret {g : JFrame} {mc ms : Nat} (k : W p l e R s m args below meth c H locs cells slots (MQ below Qc args s mc ms free) g) : W p l e R s m args below meth c H locs cells slots (vx_MQ below Qc XC args s mc ms free) g := by
  intro T hT X
  obtain ⟨t, a1, o, b1, b2, b3, b4⟩ := k T hT X
  exact ⟨t, a1, o, b1, b2, Or.inl ⟨b3, b4⟩⟩
/-- not caught here: it goes on to the caller -/
theorem vx_widen {g : JFrame} {q : Addr} {k n : Nat} (h1 : cells ≤ k) (h2 : slots ≤ n) (kk : vx_W p l e R s m args below meth c H locs k n Q g q) : vx_W p l e R s m args below meth c H locs cells slots Q g q := fun T hT X => kk T hT (stand_widen X h1 h2)
theorem vx_out {pc : Nat} {E : String} {ce : Cell} {q : Addr} {mc ms : Nat} (hout : ∀ x ∈ c.exceptionTable.toList, covers x pc = false) (hlocks : meth.locks = false) (hcell : H[q]? = some ce) (hv : ce.vm = .none) (hcl : s.vm.findClass E = some ce.cls)
    (hx : ∀ t : State, t.heap = H → s.vm.Alike t.vm → XC E s t) (hf : ∀ z ∈ locs, free z.base) (hc : cells ≤ mc) (hs : slots ≤ ms) :
    vx_W p l e R s m args below meth c H locs cells slots (vx_MQ below Qc XC args s mc ms free) (F0 m pc ls rest) q := by
  intro T hT X
  obtain ⟨st1, hrun, hend, hW, hsm⟩ := X.leaveThrown q (g := F0 m pc ls rest) rfl rfl rfl hout hlocks
  have hcell9 : (T.setFrames (.throwing q :: below)).heap[q]? = some ce := by
    show T.heap[q]? = some ce
    rw [hT]; exact hcell
  exact ⟨_, st1, .threw q, hrun, hend, Or.inr ⟨q, rfl, E, ce, locs, hx _ hT hW.alike, hcell9, hv, hcl, hW, hsm.mono hc hs, hf⟩⟩
theorem vx_frame {U : State} {k n : Nat} (h : s.sameButNew ({ U with vm := s.vm } : State) locs k n) : s.heap.size ≤ U.heap.size ∧ ∀ q : Nat, q < s.heap.size → (∀ z ∈ locs, z.base ≠ q) → U.heap[q]? = s.heap[q]? := by
  obtain ⟨-, h2, -, -, -, h6⟩ := h
  refine ⟨h2, fun q hq hz => ?_⟩
  obtain ⟨c9, e1, e2, e3, e4⟩ := h6 q _ (Array.getElem?_eq_getElem hq)
  have hs : c9.slots = (s.heap[q]).slots := Array.ext_getElem? fun i => e4 i fun hm => hz _ hm rfl
  have h9 : c9 = s.heap[q] := by
    rw [hs] at e2
    exact e2
  have e5 : U.heap[q]? = some c9 := e1
  rw [e5, h9, Array.getElem?_eq_getElem hq]
/-- the words of a throw but the four that speak of the heap -/
def vx_no (w : Cond) : Bool := decide (w ≠ .isRef (.static Bundle.tN "UNASSIGNED_STACK" Bundle.steD)) && decide (w ≠ .isRef (.static Bundle.tN "SUPPRESSED_SENTINEL" Bundle.listD)) && decide (w ≠ .laysStatic Bundle.tN "UNASSIGNED_STACK" Bundle.steD) && decide (w ≠ .laysStatic Bundle.tN "SUPPRESSED_SENTINEL" Bundle.listD)
def vx_at0 (own : String) (ic : Nat) (X : String) (names : List String) : List Cond := (Bundle.ownAtoms0 own ic X names).filter vx_no
def vx_atS (own : String) (ic : Nat) (X : String) (names : List String) : List Cond := (Bundle.ownAtoms own ic X names).filter vx_no
/-- a word that the tables alone decide, or a good one -/
def vx_ot (w : Cond) : Bool := w.onTables || goodWord w
theorem vx_ot_at {args a' : Array Value} {s U : State} {w : Cond} (hW : s.WarmedH U.vm) (hvm : s.vm = U.vm) (hg : vx_ot w = true) (h : w.before args s = true) : w.before a' U = true := by
  simp only [vx_ot, Bool.or_eq_true] at hg
  rcases hg with hg | hg
  · exact va_tabs hg hvm h
  · exact word_at hW (good_of_word hg) h
/-- a list's words: the good ones out of the method's own list, the others by premises of their own -/
theorem vx_hat {args : Array Value} {s : State} {L B : List Cond} (h1 : ∀ w ∈ L.filter goodWord, w.before args s = true) (h2 : ∀ w ∈ L.filter (fun w => !goodWord w), w ∈ B) (h3 : ∀ w ∈ B, w.before args s = true) : ∀ w ∈ L, w.before args s = true := by
  intro w hw
  by_cases g : goodWord w = true
  · exact h1 w (List.mem_filter.mpr ⟨hw, g⟩)
  · refine h3 w (h2 w (List.mem_filter.mpr ⟨hw, ?_⟩))
    show (!goodWord w) = true
    cases hgw : goodWord w
    · rfl
    · exact absurd hgw g
theorem vx_c {args : Array Value} {s : State} {w : Cond} {B : List Cond} (h : w.before args s = true) (t : ∀ w ∈ B, w.before args s = true) : ∀ w' ∈ w :: B, w'.before args s = true := fun w' h' => (List.mem_cons.mp h').elim (fun e => by rw [e]; exact h) (t w')
theorem vx_n {args : Array Value} {s : State} : ∀ w ∈ ([] : List Cond), w.before args s = true := fun _ h => nomatch h
theorem vx_own {args : Array Value} {s : State} {L : List Cond} (h1 : ∀ w ∈ L.filter vx_no, w.before args s = true)
    (hU : (Cond.isRef (.static Bundle.tN "UNASSIGNED_STACK" Bundle.steD)).before args s = true) (hN : (Cond.isRef (.static Bundle.tN "SUPPRESSED_SENTINEL" Bundle.listD)).before args s = true)
    (lU : (Cond.laysStatic Bundle.tN "UNASSIGNED_STACK" Bundle.steD).before args s = true) (lN : (Cond.laysStatic Bundle.tN "SUPPRESSED_SENTINEL" Bundle.listD).before args s = true) : ∀ w ∈ L, w.before args s = true := by
  intro w hw
  by_cases e1 : w = .isRef (.static Bundle.tN "UNASSIGNED_STACK" Bundle.steD)
  · rw [e1]; exact hU
  · by_cases e2 : w = .isRef (.static Bundle.tN "SUPPRESSED_SENTINEL" Bundle.listD)
    · rw [e2]; exact hN
    · by_cases e3 : w = .laysStatic Bundle.tN "UNASSIGNED_STACK" Bundle.steD
      · rw [e3]; exact lU
      · by_cases e4 : w = .laysStatic Bundle.tN "SUPPRESSED_SENTINEL" Bundle.listD
        · rw [e4]; exact lN
        · exact h1 w (List.mem_filter.mpr ⟨hw, by unfold vx_no; rw [decide_eq_true e1, decide_eq_true e2, decide_eq_true e3, decide_eq_true e4]; rfl⟩)
/-- where a static field lies, its class's statics cell in H -/
def vx_L (C n d : String) (A : Nat → Prop) (U : State) (H : Heap) : Prop := ∃ (c : ClassId) (k : Class) (i : Nat) (f : Field) (a : Nat) (cell : Cell), U.vm.findClass C = some c ∧ U.fieldFound? C n d = some (c, k, i, f) ∧ f.isStatic = true ∧ k.statics = some a ∧ H[a]? = some cell ∧ cell.vm.isStatics = true ∧ cell.cls = c ∧ f.slot < cell.slots.size ∧ k.staticTypes[f.slot]? = some f.type ∧ ¬ A a
theorem vx_L.moved {C n d : String} {A : Nat → Prop} {u U : State} {H : Heap} (hvm : u.vm.Alike U.vm) (h : vx_L C n d A u H) : vx_L C n d A U H := by
  obtain ⟨c, k, i, f, a, cell, h1, h2, h3, h4, h5, h6, h7, h8, h9, h10⟩ := h
  obtain ⟨k', hi', he⟩ := State.fieldFound?_setVm hvm h2
  exact ⟨c, k', i, f, a, cell, by rw [hvm.findClass]; exact h1, hi', h3, by rw [he]; exact h4, h5, h6, h7, h8, by rw [he]; exact h9, h10⟩
theorem vx_L.kept {C n d : String} {A : Nat → Prop} {U : State} {H H1 : Heap} (h : vx_L C n d A U H) (hq : ∀ a : Nat, a < H.size → ¬ A a → H1[a]? = H[a]?) : vx_L C n d A U H1 := by
  obtain ⟨c, k, i, f, a, cell, h1, h2, h3, h4, h5, h6, h7, h8, h9, h10⟩ := h
  exact ⟨c, k, i, f, a, cell, h1, h2, h3, h4, by rw [hq a (Array.getElem?_eq_some_iff.mp h5).1 h10]; exact h5, h6, h7, h8, h9, h10⟩
theorem vx_L.narrow {C n d : String} {A B : Nat → Prop} {U : State} {H : Heap} (h : vx_L C n d A U H) (hAB : ∀ q, B q → A q) : vx_L C n d B U H := by
  obtain ⟨c, k, i, f, a, cell, h1, h2, h3, h4, h5, h6, h7, h8, h9, h10⟩ := h
  exact ⟨c, k, i, f, a, cell, h1, h2, h3, h4, h5, h6, h7, h8, h9, fun z => h10 (hAB _ z)⟩
theorem vx_L.word {C n d : String} {A : Nat → Prop} {s : State} {args : Array Value} (h : vx_L C n d A s s.heap) : (Cond.laysStatic C n d).before args s = true := by
  obtain ⟨c, k, i, f, a, cell, h1, h2, h3, h4, h5, h6, h7, h8, h9, -⟩ := h
  show (Cond.laysStatic C n d).holds args s none s [] = true
  exact Cond.laysStatic_of h1 h2 h3 h4 h5 h6 h7 h8 h9
/-- .. and what it holds: null or some reference -/
def vx_Zq (C n d : String) (A : Nat → Prop) (U : State) (H : Heap) : Prop := va_Zq C n d A U H ∧ vx_L C n d A U H
theorem vx_Zq.moved {C n d : String} {A : Nat → Prop} {u U : State} {H : Heap} (hvm : u.vm.Alike U.vm) (h : vx_Zq C n d A u H) : vx_Zq C n d A U H := ⟨va_Zq.moved hvm h.1, vx_L.moved hvm h.2⟩
theorem vx_Zq.kept {C n d : String} {A : Nat → Prop} {U : State} {H H1 : Heap} (h : vx_Zq C n d A U H) (hq : ∀ a : Nat, a < H.size → ¬ A a → H1[a]? = H[a]?) : vx_Zq C n d A U H1 := ⟨va_Zq.kept h.1 hq, vx_L.kept h.2 hq⟩
theorem vx_Zq.narrow {C n d : String} {A B : Nat → Prop} {U : State} {H : Heap} (h : vx_Zq C n d A U H) (hAB : ∀ q, B q → A q) : vx_Zq C n d B U H := ⟨va_Zq.narrow h.1 hAB, vx_L.narrow h.2 hAB⟩
theorem vx_Zqof {args : Array Value} {s : State} {C n d : String} {A : Nat → Prop} (hl : (Cond.laysStatic C n d).before args s = true) (hini : (Cond.initialized C).before args s = true) (h : (Cond.isRef (.static C n d)).before args s = true) (hA : ∀ a : Nat, a < s.heap.size → ¬ A a) : vx_Zq C n d A s s.heap := by
  refine ⟨va_Zqof hl hini h hA, ?_⟩
  obtain ⟨c, k, i, f, a, cell, h1, h2, h3, h4, h5, h6, h7, h8, h9⟩ := Cond.laysStatic_spec hl
  exact ⟨c, k, i, f, a, cell, h1, h2, h3, h4, h5, h6, h7, h8, h9, hA a (Array.getElem?_eq_some_iff.mp h5).1⟩
theorem vx_isRef {C n d : String} {v : Value} {A : Nat → Prop} {s : State} {args : Array Value} (h : va_Z C n d v A s s.heap) (hv : v.isRef = true) : (Cond.isRef (.static C n d)).before args s = true := by
  obtain ⟨cf, kf, fi, f, a, cell, h1, h2, h3, h4, h5, h6, h7, -⟩ := h
  have he : (Term.static C n d).eval args s none [] s = some v := by
    simp [Term.eval, State.fieldNamed?, h1, h2, h4, h5, h6, h7]
  simp only [Cond.before, Cond.holds, Cond.value, he]
  cases v <;> simp_all [Value.isRef]
theorem vx_isRefq {C n d : String} {A : Nat → Prop} {s : State} {args : Array Value} (h : va_Zq C n d A s s.heap) : (Cond.isRef (.static C n d)).before args s = true := by
  rcases h with h | ⟨t, h⟩
  · exact vx_isRef h rfl
  · exact vx_isRef h rfl
/-- the same frame, seen from here: as if the method were called anew in this heap -/
theorem vx_rebase {T : State} (X : Stand p l e R s m args below meth c T locs cells slots) {R' : Room} (hf : R'.frames ≤ R.frames) (hl : R'.locals ≤ R.locals) (hc : cells + R'.cells ≤ R.cells) (hs : slots + R'.slots ≤ R.slots) :
    Stand p l e R' ((T.setVm s.vm).setFrames (.invoking m args :: below)) m args below meth c T [] 0 0 := by
  have htop : (T.setVm s.vm).topJava?.isSome := X.here.top
  have hF : ((T.setVm s.vm).setFrames (.invoking m args :: below)).frames = .invoking m args :: below := State.frames_setFrames _ (State.cur_lt_of_top htop)
  obtain ⟨g₀, hg0⟩ := Option.isSome_iff_exists.mp htop
  obtain ⟨r, hr⟩ := State.topJava?_eq_some.mp hg0
  have hl9 : e.platform.stackLimits (T.setVm s.vm).me = e.platform.stackLimits s.me := X.limits
  have hb9 : (T.setVm s.vm).me.stackBytes = s.me.stackBytes := X.bytes
  refine ⟨X.admits, X.cas, X.clock, hF, ?_, X.hears, X.method, X.code, X.here, X.tail, X.warmed, ?_, ?_, ?_⟩
  · have h := X.room
    have hU : ((T.setVm s.vm).setFrames (.invoking m args :: below)).localsInUse = s.localsInUse := by
      rw [State.localsInUse_invoking hF (meth := meth) (c := c) X.method X.code, State.localsInUse_invoking X.frames X.method X.code]
    simp only [State.hasRoom, Bool.and_eq_true, decide_eq_true_eq] at h ⊢
    obtain ⟨⟨⟨⟨h1, h2, h3, h4, h5, h6⟩, h7⟩, h8⟩, h9⟩ := h
    rw [X.frames, List.length_cons] at h2 h3
    have q1 := X.heapSize
    have q2 := X.used
    simp only [hF, hU, List.length_cons, State.stackLimits_setFrames, State.stackBytes_setFrames, hl9, hb9]
    refine ⟨⟨⟨⟨by omega, by omega, by omega, by omega, by omega, h6⟩, ?_⟩, ?_⟩, X.book⟩
    · show T.heap.size + R'.cells ≤ e.platform.maxCells
      omega
    · show T.slotsUsed + R'.slots ≤ e.platform.maxSlots
      omega
  · rw [State.stackLimits_setFrames]; rfl
  · rw [State.stackBytes_setFrames]; rfl
  · refine ⟨?_, Nat.le_refl _, Nat.le_refl _, ?_, ?_, fun a c9 h9 => ⟨c9, h9, rfl, rfl, fun _ _ => rfl⟩⟩
    · obtain ⟨t, ht, -⟩ := State.frames_cons hr
      show T.setVm s.vm = { ((T.setVm s.vm).setFrames (.invoking m args :: below)).setFrames (T.setVm s.vm).frames with heap := T.heap, slotsUsed := T.slotsUsed }
      rw [State.setFrames_setFrames, State.setFrames_self ht]
      rfl
    · show T.slotsUsed = T.slotsUsed + ((T.heap.toList.drop T.heap.size).map (·.slots.size)).sum
      rw [List.drop_eq_nil_of_le (Nat.le_of_eq Array.length_toList)]
      rfl
    · show ((T.heap.toList.drop T.heap.size).map (·.slots.size)).sum ≤ 0
      rw [List.drop_eq_nil_of_le (Nat.le_of_eq Array.length_toList)]
      exact Nat.le_refl _
/-- 'throw new E()': new; dup; invokespecial; athrow -/
theorem vx_throw0 {cc : ByteArray} {pc : Nat} (hexec : p.tables.exec = Jvm.exec) (hb : c.code = cc) (hl : l.stackTraces = false) {own cls : String} {names : List String} {ik ic mc ms : Nat} {A : Nat → Prop}
    (hown : s.vm.findClass own = some m.cls) (hcls : Bundle.fit cls = true) (hnames : ∀ n ∈ names, Bundle.fit n = true)
    (hk : (Cond.classLink own ik cls).before args s = true) (hini : (Cond.initialized cls).before args s = true) (hat : ∀ w ∈ vx_at0 own ic cls names, w.before args s = true)
    (hgood : ∀ w ∈ Cond.classLink own ik cls :: Cond.initialized cls :: vx_at0 own ic cls names, vx_ot w = true)
    (hU : vx_Zq Bundle.tN "UNASSIGNED_STACK" Bundle.steD A s s.heap) (hN : vx_Zq Bundle.tN "SUPPRESSED_SENTINEL" Bundle.listD A s s.heap) (hS : va_S A s.heap H locs) (hsize : ls.size = c.maxLocals)
    (d0 : decode cc pc = .ok (.new ik, 3)) (d3 : decode cc (pc + 3) = .ok (.dup, 1)) (d4 : decode cc (pc + 4) = .ok (.invokespecial ic, 3)) (d7 : decode cc (pc + 7) = .ok (.athrow, 1))
    (hout : ∀ x ∈ c.exceptionTable.toList, covers x (pc + 7) = false)
    (hRframes : names.length + 3 < R.frames) (hRlocals : (rest.map fun v => v.category).sum + (13 * (names.length + 1) + 42) ≤ R.locals) (hRcells : cells + 1 ≤ R.cells) (hRslots : slots + 6 ≤ R.slots) (hlocks : meth.locks = false)
    (hx : ∀ t : State, s.vm.Alike t.vm → H.size ≤ t.heap.size → (∀ q : Nat, q < H.size → t.heap[q]? = H[q]?) → XC cls s t)
    (hf : ∀ z ∈ locs, free z.base) (hc : cells + 1 ≤ mc) (hs : slots + 6 ≤ ms) :
    W p l e R s m args below meth c H locs cells slots (vx_MQ below Qc XC args s mc ms free) (F0 m pc ls rest) := by
  intro T hT X
  have htr : e.platform.stackTraces = false := (show e.platform.stackTraces = l.stackTraces by rw [X.admits.platform]).trans hl
  have Y := vx_rebase X (R' := { frames := R.frames, locals := R.locals, cells := 1, slots := 6 }) (Nat.le_refl _) (Nat.le_refl _) hRcells hRslots
  obtain ⟨s', hA⟩ : ∃ z, z = (T.setVm s.vm).setFrames (.invoking m args :: below) := ⟨_, rfl⟩
  rw [← hA] at Y
  have hvm : s'.vm = s.vm := by rw [hA]; rfl
  have hhp : s'.heap = H := by rw [hA]; exact hT
  have hW0 : s.WarmedH s'.vm := by rw [hvm]; exact State.WarmedH.refl s
  have hat' : ∀ w ∈ vx_at0 own ic cls names, w.before args s' = true := fun w hw => vx_ot_at hW0 hvm.symm (hgood w (List.mem_cons_of_mem _ (List.mem_cons_of_mem _ hw))) (hat w hw)
  have hk' : (Cond.classLink own ik cls).before args s' = true := vx_ot_at hW0 hvm.symm (hgood _ List.mem_cons_self) hk
  have hini' : (Cond.initialized cls).before args s' = true := vx_ot_at hW0 hvm.symm (hgood _ (List.mem_cons_of_mem _ List.mem_cons_self)) hini
  have hU' : vx_Zq Bundle.tN "UNASSIGNED_STACK" Bundle.steD A s' s'.heap := by rw [hhp]; exact vx_Zq.moved hW0.alike (hU.kept hS.2.1)
  have hN' : vx_Zq Bundle.tN "SUPPRESSED_SENTINEL" Bundle.listD A s' s'.heap := by rw [hhp]; exact vx_Zq.moved hW0.alike (hN.kept hS.2.1)
  have h : ∀ w ∈ Bundle.ownAtoms0 own ic cls names, w.before args s' = true := vx_own hat' (vx_isRefq hU'.1) (vx_isRefq hN'.1) hU'.2.word hN'.2.word
  have hown' : s'.vm.findClass own = some m.cls := by rw [hvm]; exact hown
  have hins : (Cond.instantiable cls 6).before args s' = true := h _ (by simp [Bundle.ownAtoms0])
  obtain ⟨vm₁, cX, kX, hfX, hkX, -, -, X₁, st1⟩ := Y.newCold hexec (own := own) (C := cls) (index := ik) (n := 6) hown' hk' hins hini'
    (g := F0 m pc ls rest) rfl (by rw [hb]; exact d0) (Nat.le_refl _) (Nat.le_refl _)
  generalize hT1 : (T.setVm vm₁).pushCell { cls := cX, slots := kX.instanceTypes.map defaultValue, vm := .none } = T1 at X₁ st1
  have hcat : (Value.ref T.heap.size).category = 1 := rfl
  have hcellA : T1.heap[T.heap.size]? = some (freshCell cX kX) := by rw [← hT1]; exact State.heap_pushCell_size _ _
  have d3' : decode c.code (pc + 3) = .ok (.dup, 1) := by rw [hb]; exact d3
  obtain ⟨U, hsteps, hrun, hend, hW, hsame, ce, hce, hO⟩ := X₁.ctorThrow0 hexec htr (own := own) (cls := cls) (names := names) (ic := ic) hown' hcls hnames h (fun x hx => nomatch hx) hfX hkX hcellA (by rw [hhp, hT]; exact Nat.le_refl _)
    (g := { method := m, pc := pc + 4, locals := ls, stack := .ref T.heap.size :: .ref T.heap.size :: rest, locked := none }) rfl hsize rfl rfl (rest := rest) rfl
    (by rw [hb]; exact d4) (by rw [hb]; exact d7) hout hRframes (by simp only [List.map_cons, List.sum_cons, hcat]; omega) hlocks
  obtain ⟨f1, f2⟩ := vx_frame hsame
  rw [hhp] at f1 f2
  have hWs : s.WarmedH U.vm := State.WarmedH.trans hW0 hW
  have hcl : s.vm.findClass cls = some ce.cls := by
    have h9 := hO.cls
    rw [hvm] at h9
    exact h9
  have hall : s.sameButNew ({ U with vm := s.vm } : State) locs mc ms := by
    subst hA
    obtain ⟨e1, e2⟩ := hsame
    rw [State.setFrames_setFrames] at e1
    have h2 : (T.setVm s.vm).sameButNew ({ U with vm := s.vm } : State) [] (0 + 1) (0 + 6) := ⟨e1, e2⟩
    have h3 := X.same.trans h2
    rw [List.append_nil] at h3
    exact h3.mono hc hs
  refine ⟨U, ?_, .threw T.heap.size, hrun, hend, Or.inr ⟨T.heap.size, rfl, cls, ce, locs, hx U hWs.alike f1 (fun q hq => f2 q hq (fun z hz => nomatch hz)), hce, hO.vm, hcl, hWs, hall, hf⟩⟩
  refine st1 _ ?_
  show Steps p.tables e below (T1.setTop { method := m, pc := pc + 3, locals := ls, stack := .ref T.heap.size :: rest, locked := none }) _
  jvm_step X₁.here [X₁.here.top, hexec, d3', Value.category]
  exact hsteps
/-- 'throw new E("text")': new; dup; ldc; invokespecial; athrow -/
theorem vx_throwS {cc : ByteArray} {pc : Nat} (hexec : p.tables.exec = Jvm.exec) (hb : c.code = cc) (hl : l.stackTraces = false) {own cls text : String} {names : List String} {ik is ic mc ms sa : Nat} {A : Nat → Prop}
    (hown : s.vm.findClass own = some m.cls) (hcls : Bundle.fit cls = true) (hnames : ∀ n ∈ names, Bundle.fit n = true)
    (hk : (Cond.classLink own ik cls).before args s = true) (hini : (Cond.initialized cls).before args s = true) (hstr : vk_R own is text sa s) (hat : ∀ w ∈ vx_atS own ic cls names, w.before args s = true)
    (hgood : ∀ w ∈ Cond.classLink own ik cls :: Cond.initialized cls :: vx_atS own ic cls names, vx_ot w = true)
    (hU : vx_Zq Bundle.tN "UNASSIGNED_STACK" Bundle.steD A s s.heap) (hN : vx_Zq Bundle.tN "SUPPRESSED_SENTINEL" Bundle.listD A s s.heap) (hS : va_S A s.heap H locs) (hsize : ls.size = c.maxLocals)
    (d0 : decode cc pc = .ok (.new ik, 3)) (d3 : decode cc (pc + 3) = .ok (.dup, 1)) (d4 : decode cc (pc + 4) = .ok (.ldc is, 2)) (d6 : decode cc (pc + 6) = .ok (.invokespecial ic, 3)) (d9 : decode cc (pc + 9) = .ok (.athrow, 1))
    (hout : ∀ x ∈ c.exceptionTable.toList, covers x (pc + 9) = false)
    (hRframes : names.length + 3 < R.frames) (hRlocals : (rest.map fun v => v.category).sum + (13 * (names.length + 1) + 43) ≤ R.locals) (hRcells : cells + 1 ≤ R.cells) (hRslots : slots + 6 ≤ R.slots) (hlocks : meth.locks = false)
    (hx : ∀ t : State, s.vm.Alike t.vm → H.size ≤ t.heap.size → (∀ q : Nat, q < H.size → t.heap[q]? = H[q]?) → XC cls s t)
    (hf : ∀ z ∈ locs, free z.base) (hc : cells + 1 ≤ mc) (hs : slots + 6 ≤ ms) :
    W p l e R s m args below meth c H locs cells slots (vx_MQ below Qc XC args s mc ms free) (F0 m pc ls rest) := by
  intro T hT X
  have htr : e.platform.stackTraces = false := (show e.platform.stackTraces = l.stackTraces by rw [X.admits.platform]).trans hl
  have Y := vx_rebase X (R' := { frames := R.frames, locals := R.locals, cells := 1, slots := 6 }) (Nat.le_refl _) (Nat.le_refl _) hRcells hRslots
  obtain ⟨s', hA⟩ : ∃ z, z = (T.setVm s.vm).setFrames (.invoking m args :: below) := ⟨_, rfl⟩
  rw [← hA] at Y
  have hvm : s'.vm = s.vm := by rw [hA]; rfl
  have hhp : s'.heap = H := by rw [hA]; exact hT
  have hW0 : s.WarmedH s'.vm := by rw [hvm]; exact State.WarmedH.refl s
  have hat' : ∀ w ∈ vx_atS own ic cls names, w.before args s' = true := fun w hw => vx_ot_at hW0 hvm.symm (hgood w (List.mem_cons_of_mem _ (List.mem_cons_of_mem _ hw))) (hat w hw)
  have hk' : (Cond.classLink own ik cls).before args s' = true := vx_ot_at hW0 hvm.symm (hgood _ List.mem_cons_self) hk
  have hini' : (Cond.initialized cls).before args s' = true := vx_ot_at hW0 hvm.symm (hgood _ (List.mem_cons_of_mem _ List.mem_cons_self)) hini
  have hU' : vx_Zq Bundle.tN "UNASSIGNED_STACK" Bundle.steD A s' s'.heap := by rw [hhp]; exact vx_Zq.moved hW0.alike (hU.kept hS.2.1)
  have hN' : vx_Zq Bundle.tN "SUPPRESSED_SENTINEL" Bundle.listD A s' s'.heap := by rw [hhp]; exact vx_Zq.moved hW0.alike (hN.kept hS.2.1)
  have h : ∀ w ∈ Bundle.ownAtoms own ic cls names, w.before args s' = true := vx_own hat' (vx_isRefq hU'.1) (vx_isRefq hN'.1) hU'.2.word hN'.2.word
  have hown' : s'.vm.findClass own = some m.cls := by rw [hvm]; exact hown
  have hins : (Cond.instantiable cls 6).before args s' = true := h _ (by simp [Bundle.ownAtoms])
  obtain ⟨vm₁, cX, kX, hfX, hkX, -, -, X₁, st1⟩ := Y.newCold hexec (own := own) (C := cls) (index := ik) (n := 6) hown' hk' hins hini'
    (g := F0 m pc ls rest) rfl (by rw [hb]; exact d0) (Nat.le_refl _) (Nat.le_refl _)
  generalize hT1 : (T.setVm vm₁).pushCell { cls := cX, slots := kX.instanceTypes.map defaultValue, vm := .none } = T1 at X₁ st1
  have hcat : (Value.ref T.heap.size).category = 1 := rfl
  have hcellA : T1.heap[T.heap.size]? = some (freshCell cX kX) := by rw [← hT1]; exact State.heap_pushCell_size _ _
  have d3' : decode c.code (pc + 3) = .ok (.dup, 1) := by rw [hb]; exact d3
  have d4' : decode c.code (pc + 4) = .ok (.ldc is, 2) := by rw [hb]; exact d4
  have hstr' : vk_R own is text sa s' := vk_R.warm hW0 hstr
  obtain ⟨U, hsteps, hrun, hend, hW, hsame, ce, hce, hO⟩ := X₁.ctorThrowS hexec htr (own := own) (cls := cls) (names := names) (ic := ic) hown' hcls hnames h (fun x hx => nomatch hx) hfX hkX hcellA (by rw [hhp, hT]; exact Nat.le_refl _) (msg := .ref sa) rfl
    (g := { method := m, pc := pc + 6, locals := ls, stack := .ref sa :: .ref T.heap.size :: .ref T.heap.size :: rest, locked := none }) rfl hsize rfl rfl (rest := rest) rfl
    (by rw [hb]; exact d6) (by rw [hb]; exact d9) hout hRframes (by simp only [List.map_cons, List.sum_cons, hcat]; omega) hlocks
  obtain ⟨f1, f2⟩ := vx_frame hsame
  rw [hhp] at f1 f2
  have hWs : s.WarmedH U.vm := State.WarmedH.trans hW0 hW
  have hcl : s.vm.findClass cls = some ce.cls := by
    have h9 := hO.cls
    rw [hvm] at h9
    exact h9
  have hall : s.sameButNew ({ U with vm := s.vm } : State) locs mc ms := by
    subst hA
    obtain ⟨e1, e2⟩ := hsame
    rw [State.setFrames_setFrames] at e1
    have h2 : (T.setVm s.vm).sameButNew ({ U with vm := s.vm } : State) [] (0 + 1) (0 + 6) := ⟨e1, e2⟩
    have h3 := X.same.trans h2
    rw [List.append_nil] at h3
    exact h3.mono hc hs
  refine ⟨U, ?_, .threw T.heap.size, hrun, hend, Or.inr ⟨T.heap.size, rfl, cls, ce, locs, hx U hWs.alike f1 (fun q hq => f2 q hq (fun z hz => nomatch hz)), hce, hO.vm, hcl, hWs, hall, hf⟩⟩
  refine st1 _ ?_
  show Steps p.tables e below (T1.setTop { method := m, pc := pc + 3, locals := ls, stack := .ref T.heap.size :: rest, locked := none }) _
  jvm_step X₁.here [X₁.here.top, hexec, d3', Value.category]
  exact X₁.ldcString hexec (own := own) (text := text) (index := is) (a := sa) hown' hstr'.1 hstr'.2
    (g := { method := m, pc := pc + 4, locals := ls, stack := .ref T.heap.size :: .ref T.heap.size :: rest, locked := none }) rfl d4' _ hsteps
/-- 'throw new E("text")', the text by a wide index -/
theorem vx_throwSW {cc : ByteArray} {pc : Nat} (hexec : p.tables.exec = Jvm.exec) (hb : c.code = cc) (hl : l.stackTraces = false) {own cls text : String} {names : List String} {ik is ic mc ms sa : Nat} {A : Nat → Prop}
    (hown : s.vm.findClass own = some m.cls) (hcls : Bundle.fit cls = true) (hnames : ∀ n ∈ names, Bundle.fit n = true)
    (hk : (Cond.classLink own ik cls).before args s = true) (hini : (Cond.initialized cls).before args s = true) (hstr : vk_R own is text sa s) (hat : ∀ w ∈ vx_atS own ic cls names, w.before args s = true)
    (hgood : ∀ w ∈ Cond.classLink own ik cls :: Cond.initialized cls :: vx_atS own ic cls names, vx_ot w = true)
    (hU : vx_Zq Bundle.tN "UNASSIGNED_STACK" Bundle.steD A s s.heap) (hN : vx_Zq Bundle.tN "SUPPRESSED_SENTINEL" Bundle.listD A s s.heap) (hS : va_S A s.heap H locs) (hsize : ls.size = c.maxLocals)
    (d0 : decode cc pc = .ok (.new ik, 3)) (d3 : decode cc (pc + 3) = .ok (.dup, 1)) (d4 : decode cc (pc + 4) = .ok (.ldc_w is, 3)) (d7 : decode cc (pc + 7) = .ok (.invokespecial ic, 3)) (d10 : decode cc (pc + 10) = .ok (.athrow, 1))
    (hout : ∀ x ∈ c.exceptionTable.toList, covers x (pc + 10) = false)
    (hRframes : names.length + 3 < R.frames) (hRlocals : (rest.map fun v => v.category).sum + (13 * (names.length + 1) + 43) ≤ R.locals) (hRcells : cells + 1 ≤ R.cells) (hRslots : slots + 6 ≤ R.slots) (hlocks : meth.locks = false)
    (hx : ∀ t : State, s.vm.Alike t.vm → H.size ≤ t.heap.size → (∀ q : Nat, q < H.size → t.heap[q]? = H[q]?) → XC cls s t)
    (hf : ∀ z ∈ locs, free z.base) (hc : cells + 1 ≤ mc) (hs : slots + 6 ≤ ms) :
    W p l e R s m args below meth c H locs cells slots (vx_MQ below Qc XC args s mc ms free) (F0 m pc ls rest) := by
  intro T hT X
  have htr : e.platform.stackTraces = false := (show e.platform.stackTraces = l.stackTraces by rw [X.admits.platform]).trans hl
  have Y := vx_rebase X (R' := { frames := R.frames, locals := R.locals, cells := 1, slots := 6 }) (Nat.le_refl _) (Nat.le_refl _) hRcells hRslots
  obtain ⟨s', hA⟩ : ∃ z, z = (T.setVm s.vm).setFrames (.invoking m args :: below) := ⟨_, rfl⟩
  rw [← hA] at Y
  have hvm : s'.vm = s.vm := by rw [hA]; rfl
  have hhp : s'.heap = H := by rw [hA]; exact hT
  have hW0 : s.WarmedH s'.vm := by rw [hvm]; exact State.WarmedH.refl s
  have hat' : ∀ w ∈ vx_atS own ic cls names, w.before args s' = true := fun w hw => vx_ot_at hW0 hvm.symm (hgood w (List.mem_cons_of_mem _ (List.mem_cons_of_mem _ hw))) (hat w hw)
  have hk' : (Cond.classLink own ik cls).before args s' = true := vx_ot_at hW0 hvm.symm (hgood _ List.mem_cons_self) hk
  have hini' : (Cond.initialized cls).before args s' = true := vx_ot_at hW0 hvm.symm (hgood _ (List.mem_cons_of_mem _ List.mem_cons_self)) hini
  have hU' : vx_Zq Bundle.tN "UNASSIGNED_STACK" Bundle.steD A s' s'.heap := by rw [hhp]; exact vx_Zq.moved hW0.alike (hU.kept hS.2.1)
  have hN' : vx_Zq Bundle.tN "SUPPRESSED_SENTINEL" Bundle.listD A s' s'.heap := by rw [hhp]; exact vx_Zq.moved hW0.alike (hN.kept hS.2.1)
  have h : ∀ w ∈ Bundle.ownAtoms own ic cls names, w.before args s' = true := vx_own hat' (vx_isRefq hU'.1) (vx_isRefq hN'.1) hU'.2.word hN'.2.word
  have hown' : s'.vm.findClass own = some m.cls := by rw [hvm]; exact hown
  have hins : (Cond.instantiable cls 6).before args s' = true := h _ (by simp [Bundle.ownAtoms])
  obtain ⟨vm₁, cX, kX, hfX, hkX, -, -, X₁, st1⟩ := Y.newCold hexec (own := own) (C := cls) (index := ik) (n := 6) hown' hk' hins hini'
    (g := F0 m pc ls rest) rfl (by rw [hb]; exact d0) (Nat.le_refl _) (Nat.le_refl _)
  generalize hT1 : (T.setVm vm₁).pushCell { cls := cX, slots := kX.instanceTypes.map defaultValue, vm := .none } = T1 at X₁ st1
  have hcat : (Value.ref T.heap.size).category = 1 := rfl
  have hcellA : T1.heap[T.heap.size]? = some (freshCell cX kX) := by rw [← hT1]; exact State.heap_pushCell_size _ _
  have d3' : decode c.code (pc + 3) = .ok (.dup, 1) := by rw [hb]; exact d3
  have d4' : decode c.code (pc + 4) = .ok (.ldc_w is, 3) := by rw [hb]; exact d4
  have hstr' : vk_R own is text sa s' := vk_R.warm hW0 hstr
  obtain ⟨U, hsteps, hrun, hend, hW, hsame, ce, hce, hO⟩ := X₁.ctorThrowS hexec htr (own := own) (cls := cls) (names := names) (ic := ic) hown' hcls hnames h (fun x hx => nomatch hx) hfX hkX hcellA (by rw [hhp, hT]; exact Nat.le_refl _) (msg := .ref sa) rfl
    (g := { method := m, pc := pc + 7, locals := ls, stack := .ref sa :: .ref T.heap.size :: .ref T.heap.size :: rest, locked := none }) rfl hsize rfl rfl (rest := rest) rfl
    (by rw [hb]; exact d7) (by rw [hb]; exact d10) hout hRframes (by simp only [List.map_cons, List.sum_cons, hcat]; omega) hlocks
  obtain ⟨f1, f2⟩ := vx_frame hsame
  rw [hhp] at f1 f2
  have hWs : s.WarmedH U.vm := State.WarmedH.trans hW0 hW
  have hcl : s.vm.findClass cls = some ce.cls := by
    have h9 := hO.cls
    rw [hvm] at h9
    exact h9
  have hall : s.sameButNew ({ U with vm := s.vm } : State) locs mc ms := by
    subst hA
    obtain ⟨e1, e2⟩ := hsame
    rw [State.setFrames_setFrames] at e1
    have h2 : (T.setVm s.vm).sameButNew ({ U with vm := s.vm } : State) [] (0 + 1) (0 + 6) := ⟨e1, e2⟩
    have h3 := X.same.trans h2
    rw [List.append_nil] at h3
    exact h3.mono hc hs
  refine ⟨U, ?_, .threw T.heap.size, hrun, hend, Or.inr ⟨T.heap.size, rfl, cls, ce, locs, hx U hWs.alike f1 (fun q hq => f2 q hq (fun z hz => nomatch hz)), hce, hO.vm, hcl, hWs, hall, hf⟩⟩
  refine st1 _ ?_
  show Steps p.tables e below (T1.setTop { method := m, pc := pc + 3, locals := ls, stack := .ref T.heap.size :: rest, locked := none }) _
  jvm_step X₁.here [X₁.here.top, hexec, d3', Value.category]
  exact X₁.ldcStringW hexec (own := own) (text := text) (index := is) (a := sa) hown' hstr'.1 hstr'.2
    (g := { method := m, pc := pc + 4, locals := ls, stack := .ref T.heap.size :: .ref T.heap.size :: rest, locked := none }) rfl d4' _ hsteps
end Ends
section Bodies
variable {l : Launch}
theorem vx_ofW {y : MethodName} {ws ws' : List Cond} {rm : Room} {Pc : Array Value → State → Prop} {Qc : Array Value → State → Outcome → State → Prop} {XC : String → State → State → Prop} {mc ms : Nat} {free : Addr → Prop} {cc : ByteArray} {maxL : Nat} {ret : Option FieldType}
    (hy : plainName y.cls = true) (hw : ws = Cond.code y cc maxL ret :: ws')
    (body : ∀ p e s m args below meth c s₁, BodyLoose p l y (headSpec ws rm) cc maxL ret e s m args below meth c s₁ → c.maxLocals = maxL → (∀ x ∈ c.exceptionTable.toList, False) → Pc args s →
      W p l e (headSpec ws rm).room s m args below meth c s.heap [] 0 0 (vx_MQ below Qc XC args s mc ms free) (entryFrame m args maxL)) : vx_Met l y ws rm Pc Qc XC mc ms free := by
  refine MetFree.of_bodyS (code := cc) (maxLocals := maxL) (ret := ret) hy ?_ ?_
  · intro args s m h hn
    obtain ⟨meth, c, h1, h2, h3, h4, h5, h6, -, -⟩ := Cond.code_spec hn (atoms_spec (ws := ws) h _ (by rw [hw]; exact List.mem_cons_self))
    exact ⟨meth, c, h1, h2, h3, h4, h5, h6⟩
  · intro p e s m args below meth c s₁ B hml hP _
    have hh0 : s₁.heap = s.heap := by rw [B.state]; rfl
    have ht : ∀ x ∈ c.exceptionTable.toList, False := by
      obtain ⟨meth9, c9, h1, h2, -, -, -, -, h7, -⟩ := Cond.code_spec B.named (atoms_spec (ws := ws) B.pre _ (by rw [hw]; exact List.mem_cons_self))
      cases Option.some.inj (h1.symm.trans B.method)
      cases Option.some.inj (h2.symm.trans (Stand.of_body B).code)
      intro x hx
      rw [Array.isEmpty_iff.mp h7] at hx
      cases hx
    obtain ⟨t, a1, o, b1, b2, b3⟩ := body p e s m args below meth c s₁ B hml ht hP s₁ hh0 (Stand.of_body B)
    exact ⟨t, o, a1, b1, b2, b3⟩
/-- the table of a body with handlers -/
theorem vx_table {p : Program} {x y : MethodName} {S : Spec} {cc bytes : ByteArray} {maxL maxL' : Nat} {ret ret' : Option FieldType} {e : Env} {s s₁ : State} {m : MethodId} {args : Array Value} {below : List Frame} {meth : Method} {c : Code} {hh : List (Nat × Nat × Nat × Nat)}
    (B : BodyLoose p l y S cc maxL ret e s m args below meth c s₁) (h : (Cond.codeWith y bytes maxL' ret' hh).before args s = true) : c.exceptionTable.toList = tableOf hh := by
  obtain ⟨m9, meth9, c9, hn9, h1, h2, -, -, h6, -⟩ := Cond.codeWith_spec h
  cases Option.some.inj (hn9.symm.trans B.named)
  cases Option.some.inj (h1.symm.trans B.method)
  cases Option.some.inj (h2.symm.trans (Stand.of_body B).code)
  rw [← h6, table_eq]
end Bodies
end VXA
/-! ===== END ===== -/
/-! ===== BEGIN a static call of a method with an exception table ===== -/
section VXS
variable {p : Program} {l : Launch} {e : Env} {R : Room} {s : State} {m : MethodId} {args : Array Value} {below : List Frame} {meth : Method} {c : Code} {T : State} {H : Heap} {locs : List Loc} {cells slots : Nat}
abbrev vx_CSW (R : Room) (s : State) (args : Array Value) (own : String) (index : Nat) (y : MethodName) (bytes : ByteArray) (maxL : Nat) (ret : Option FieldType) (hh : List (Nat × Nat × Nat × Nat)) (ws : List Cond) (rm : Room) (mc ms n : Nat) : Prop :=
  (rm.cells = mc ∧ rm.slots = ms ∧ rm.frames + 1 ≤ R.frames ∧ 8 + (maxL + 11) + rm.locals ≤ R.locals ∧ (∀ w ∈ ws, ∀ (a' : Array Value) (U : State), s.WarmedH U.vm → w.before a' U = true) ∧ Cond.codeWith y bytes maxL ret hh ∈ ws) ∧
  (Cond.codeWith y bytes maxL ret hh).before args s = true ∧ (Cond.initialized y.cls).before args s = true ∧ (y.cls ≠ "java/lang/invoke/MethodHandle" ∧ y.cls ≠ "java/lang/invoke/VarHandle") ∧
  (∀ sig, parseMethodDescriptor y.desc = some sig → n = sig.parameters.length) ∧ (Cond.methodLink own index y).before args s = true ∧ (Cond.static y).before args s = true
theorem vx_cwSW {own : String} {index maxL mc ms : Nat} {y : MethodName} {bytes : ByteArray} {ret : Option FieldType} {hh : List (Nat × Nat × Nat × Nat)} {Ts ws ws' : List Cond} {rm : Room} (n : Nat) (ht : ∀ w ∈ Ts, w.before args s = true) (hT : GoodIn Ts (va_wsS own index y ws)) (hw : ws = Cond.codeWith y bytes maxL ret hh :: ws') (hrc : rm.cells = mc) (hrs : rm.slots = ms)
    (hd : y.cls ≠ "java/lang/invoke/MethodHandle" ∧ y.cls ≠ "java/lang/invoke/VarHandle" ∧ (parseMethodDescriptor y.desc).map (fun d => d.parameters.length) = some n) (hR : rm.frames + 1 ≤ R.frames ∧ 8 + (maxL + 11) + rm.locals ≤ R.locals) :
    vx_CSW R s args own index y bytes maxL ret hh ws rm mc ms n := by
  have ok : ∀ w ∈ va_wsS own index y ws, w.before args s = true := fun w h => ht w (hT w h).1
  have hG : GoodIn Ts ws := fun w h => hT w (by unfold va_wsS; exact List.mem_append_right _ h)
  have hc : Cond.codeWith y bytes maxL ret hh ∈ ws := by rw [hw]; exact List.mem_cons_self
  refine ⟨⟨hrc, hrs, hR.1, hR.2, pay_in ht hG, hc⟩, ht _ (hG _ hc).1, ok _ (by simp [va_wsS]), ⟨hd.1, hd.2.1⟩, fun sig h => ?_, ok _ (by simp [va_wsS]), ok _ (by simp [va_wsS])⟩
  have h2 := hd.2.2
  rw [h] at h2
  exact (Option.some.inj h2).symm
theorem vx_callSW (X : Stand p l e R s m args below meth c T locs cells slots) (hexec : p.tables.exec = Jvm.exec) {own : String} {index : Nat} {y : MethodName} {bytes : ByteArray} {maxL : Nat} {ret : Option FieldType} {hh : List (Nat × Nat × Nat × Nat)}
    (hown : s.vm.findClass own = some m.cls) (hlink : (Cond.methodLink own index y).before args s = true) (hstat : (Cond.static y).before args s = true) (hinit : (Cond.initialized y.cls).before args s = true)
    (hcode : (Cond.codeWith y bytes maxL ret hh).before args s = true) (hy : y.cls ≠ "java/lang/invoke/MethodHandle" ∧ y.cls ≠ "java/lang/invoke/VarHandle")
    {W9 : Nat} {Pre : Pt → Array Value → Prop} {Post : Pt → Array Value → Option Value → Pt → Prop} (hK : Back l R p e below s args y 3 W9 Pre Post)
    {g : JFrame} (hg : g.method = m) (hsize : g.locals.size = c.maxLocals) {argsL rest : List Value} (hlen : ∀ sig, parseMethodDescriptor y.desc = some sig → argsL.length = sig.parameters.length)
    (hstack : g.stack = argsL.reverse ++ rest) (hW : 2 * g.monitorRoom + (rest.map fun v => v.category).sum ≤ W9) (hdg : decode c.code g.pc = .ok (.invokestatic index, 3))
    (hpre : ∀ vm₁, s.WarmedH vm₁ → Pre ⟨T.setVm vm₁, locs, cells, slots⟩ argsL.toArray) :
    ∃ (v : Option Value) (vm₁ : Vm) (B : Pt), s.WarmedH vm₁ ∧ Stand p l e R s m args below meth c B.U B.locs B.cells B.slots ∧ Post ⟨T.setVm vm₁, locs, cells, slots⟩ argsL.toArray v B ∧
      ∀ target, Steps p.tables e below (B.U.setTop { g with pc := g.pc + 3, stack := v.toList ++ rest }) target → Steps p.tables e below (T.setTop g) target := by
  obtain ⟨mk, methM, cM, hnamed, hmethM, -, -, -, -, -, -, hsigM⟩ := Cond.codeWith_spec hcode
  have hstatic : methM.isStatic = true := Cond.static_spec hnamed hmethM hstat
  obtain ⟨kP, hkP, -⟩ := className_of_methodNamed hnamed
  have hinitP : kP.init = .initialized := Cond.initialized_spec (findClass_of_methodNamed hnamed) hkP hinit
  obtain ⟨vm₁, X₁, hstep₁⟩ := X.invokestatic hexec hown hlink hnamed hmethM hstatic hkP hinitP hy (g := g) hg (argsL := argsL) (rest := rest) (hlen _ hsigM) hstack hdg
  obtain ⟨v, B, X', hpost, hsteps⟩ := hK m meth c ⟨T.setVm vm₁, locs, cells, slots⟩ { g with stack := rest } (.invokestatic index) mk argsL.toArray X₁ hg hsize hdg hW (X₁.named hnamed) (hpre vm₁ X₁.warmed)
  exact ⟨v, vm₁, B, X₁.warmed, X', hpost, fun target h => hstep₁ _ fun acts => by rw [doInvoke_state]; exact hsteps.trans h⟩
theorem vx_runSW {y : MethodName} {bytes cc : ByteArray} {maxL nL mc ms n index : Nat} {ret : Option FieldType} {hh : List (Nat × Nat × Nat × Nat)} {ws : List Cond} {rm : Room} {Pc : Array Value → State → Prop} {Qc : Array Value → State → Outcome → State → Prop} {free : Addr → Prop} {Ts : List Cond} {own : String} {As rest : List Value} {g : JFrame}
    (S : CallFix p m c cc nL s args Ts own) (hM : Met l y ws rm Pc Qc mc ms free) (cw : vx_CSW R s args own index y bytes maxL ret hh ws rm mc ms n) (hp : PreS s H Pc As)
    (hg : g.method = m) (hn : As.length = n) (hsize : g.locals.size = nL) (hstack : g.stack = As.reverse ++ rest) (hW : 2 * g.monitorRoom + (rest.map fun v => v.category).sum ≤ 8) (hdg : decode cc g.pc = .ok (.invokestatic index, 3)) (hf : cells + mc ≤ R.cells ∧ slots + ms ≤ R.slots) :
    va_Run p l e R s m args below meth c H locs cells slots mc ms g rest (Qc As.toArray) (free) := by
  obtain ⟨⟨hrc, hrs, hfr, hlo, hws, hcw⟩, hcode, hini, hy, hlen, hl, hstt⟩ := cw
  have hK : Back l R p e below s args y 3 8 (PreOf R mc ms Pc) (PostOf Qc mc ms free) := va_backW (hh := hh) (bytes := bytes) (maxL := maxL) (ret := ret) hM hp.1 hrc hrs hfr hlo hws hcw (fun a' U hW => word_at hW (Or.inl (by first | rfl | simp [Cond.onTables, Cond.keeps, Cond.steady])) hini)
  obtain ⟨hx, hb, hml, ho, -⟩ := S
  intro T hT X
  obtain ⟨v, vm₁, ⟨U', l2, c2, s2⟩, hW₁, X', ⟨g', mk, t, L, e1, e2, hq, h1, hL, h2, h3⟩, st⟩ := vx_callSW X hx (hh := hh) (bytes := bytes) (maxL := maxL) (ret := ret) ho hl hstt hini hcode hy hK hg (hsize.trans hml.symm) (argsL := As) (rest := rest) (fun sig h => hn.trans (hlen sig h)) hstack hW (by rw [hb]; exact hdg)
    (fun vm₁ hW₁ => ⟨hf.1, hf.2, hp.2 (T.setVm vm₁) hT hW₁⟩)
  dsimp only [Pt.U, Pt.locs, Pt.cells, Pt.slots] at X' e1 e2 h1 h2 h3 st
  subst h1; subst h2; subst h3
  exact ⟨v, (T.setVm vm₁).calling g' mk As.toArray, t, U', L, hT, X', hL, e1, e2, hq, st⟩
/-- not caught here, past rows that name other classes: it goes on to the caller -/
theorem vx_outP {p : Program} {l : Launch} {e : Env} {R : Room} {s : State} {m : MethodId} {args : Array Value} {below : List Frame} {meth : Method} {c : Code} {H : Heap} {locs : List Loc} {cells slots : Nat} {free : Addr → Prop} {ls : Array Slot} {rest : List Value} {Qc : Array Value → State → Outcome → State → Prop} {XC : String → State → State → Prop}
    {pc : Nat} {own E : String} {ce : Cell} {q : Addr} {mc ms : Nat} (hown : s.vm.findClass own = some m.cls) (hlocks : meth.locks = false)
    (hpass : ∀ z ∈ c.exceptionTable.toList, covers z pc = false ∨ (z.catchType ≠ 0 ∧ ∃ nm : String, (Cond.classLink own z.catchType nm).before args s = true ∧ va_Nc E nm s)) (hcell : H[q]? = some ce) (hv : ce.vm = .none) (hcl : s.vm.findClass E = some ce.cls)
    (hx : ∀ t : State, t.heap = H → s.vm.Alike t.vm → XC E s t) (hf : ∀ z ∈ locs, free z.base) (hc : cells ≤ mc) (hs : slots ≤ ms) :
    vx_W p l e R s m args below meth c H locs cells slots (vx_MQ below Qc XC args s mc ms free) (F0 m pc ls rest) q := by
  intro T hT X
  have hpl : e.platform.magicAccessors = ({} : Platform).magicAccessors := by rw [X.admits.platform]
  obtain ⟨vm', hW', X', st⟩ := X.outThrough hlocks q (g := F0 m pc ls rest) rfl rfl rfl (cell := ce) (by rw [hT]; exact hcell) (by rw [hv]; rfl)
    (by obtain ⟨k9, h9, -⟩ := Vm.findClass_spec hcl; exact ⟨k9, h9⟩) (fun z hz => by
      rcases hpass z hz with h | ⟨hz0, nm, hl1, hn1⟩
      · exact Or.inl h
      · obtain ⟨c6, hc6, hcl6⟩ := Cond.classLink_spec hown hl1 e.platform hpl
        obtain ⟨a8, b8, h1, h2, h3⟩ := hn1
        cases Option.some.inj (h1.symm.trans hcl)
        cases Option.some.inj (h2.symm.trans hc6)
        exact Or.inr ⟨hz0, _, hcl6, h3⟩)
  obtain ⟨g₀, hfr⟩ := X'.frames_eq
  have hcell9 : ((T.setVm vm').setFrames (.throwing q :: below)).heap[q]? = some ce := by
    show T.heap[q]? = some ce
    rw [hT]; exact hcell
  have hend : Ended ((T.setVm vm').setFrames (.throwing q :: below)) below (.threw q) := State.frames_setFrames _ (State.cur_lt_of_frames hfr)
  refine ⟨(T.setVm vm').setFrames (.throwing q :: below), ?_, .threw q, X'.here.running, hend, Or.inr ⟨q, rfl, E, ce, locs, hx _ hT (X'.ends _).1.alike, hcell9, hv, hcl, (X'.ends _).1, (X'.ends _).2.mono hc hs, hf⟩⟩
  rw [X.pushThrowing_eq]
  exact st
/-- a thing of a world lies in the heap -/
theorem vx_lt {D : va_G} {cl : List vw_C} {ws : va_W} {H1 : Heap} (h : va_P D cl ws H1) {k : Nat} {q : Nat × va_E} (hk : ws[k]? = some q) : q.1 < H1.size := (h k q hk).lt
end VXS
/-! ===== END ===== -/
/-! ===== BEGIN methods with a table of their own: called by a name, returning or throwing ===== -/
section VXH
/-! vx_backW, vx_callVX, vx_callSX, vx_callVW, vx_runVW, vx_runVX, vx_runSX, vx_ofWH follow the same proofs as their sisters above (Free/Laws.lean, Shelf42/LK1.lean); vx_outP calls Shelf42/NT130.lean (outThrough). -/
section
variable {l : Launch} {R : Room} {p : Program} {e : Env} {below : List Frame} {s : State} {sargs : Array Value} {y : MethodName} {len W9 : Nat}
theorem vx_backW {ws : List Cond} {rm : Room} {Pc : Array Value → State → Prop} {Qc : Array Value → State → Outcome → State → Prop} {XC : String → State → State → Prop} {mc ms : Nat} {free : Addr → Prop} {bytes : ByteArray} {maxL : Nat} {ret : Option FieldType} {hh : List (Nat × Nat × Nat × Nat)}
    (hM : vx_Met l y ws rm Pc Qc XC mc ms free) (hblind : FrameBlind Pc) (hrc : rm.cells = mc) (hrs : rm.slots = ms)
    (hframes : rm.frames + 1 ≤ R.frames) (hlocals : W9 + (maxL + 11) + rm.locals ≤ R.locals)
    (hws : ∀ w ∈ ws, ∀ a' U, s.WarmedH U.vm → w.before a' U = true) (hcode : Cond.codeWith y bytes maxL ret hh ∈ ws) (hinit : ∀ a' U, s.WarmedH U.vm → (Cond.initialized y.cls).before a' U = true) :
    vx_Back l R p e below s sargs y len W9 (PreOf R mc ms Pc) (PostOf Qc mc ms free) (vx_Post XC mc ms free) := by
  intro m meth c A g ig mk a X hg hsize hdg hW hn hp
  have h1 : (headSpec ws rm).pre.before a A.U = true := atoms_intro fun w hw => hws w hw _ _ X.warmed
  have h2 : (Cond.codeWith y bytes maxL ret hh).before a A.U = true := hws _ hcode _ _ X.warmed
  have h3 : (Cond.initialized y.cls).before a A.U = true := hinit _ _ X.warmed
  have h4 : A.cells + (headSpec ws rm).room.cells ≤ R.cells := by rw [show (headSpec ws rm).room.cells = mc from hrc]; exact hp.1
  have h5 : A.slots + (headSpec ws rm).room.slots ≤ R.slots := by rw [show (headSpec ws rm).room.slots = ms from hrs]; exact hp.2.1
  have hPc : Pc a (A.U.calling g mk a) := hblind _ _ _ _ hp.2.2
  obtain ⟨U, Ls, c0, s0⟩ := A
  dsimp only [Pt.U, Pt.locs, Pt.cells, Pt.slots] at h1 h2 h3 h4 h5 X hn hPc ⊢
  obtain ⟨m9, methY, cY, hn9, hmY, hcY, -, hlY, -⟩ := Cond.codeWith_spec h2
  cases Option.some.inj (hn9.symm.trans hn)
  obtain ⟨kY, hkY, -⟩ := className_of_methodNamed hn
  have hinitY : kY.init = .initialized := Cond.initialized_spec (findClass_of_methodNamed hn) hkY h3
  have h : At U g.method c below := by rw [hg]; exact X.here
  have hlocals9 : W9 + (maxL + 11) + (headSpec ws rm).room.locals ≤ R.locals := hlocals
  have happ : (headSpec ws rm).appliesLoose y e.platform (U.calling g mk a) = true :=
    Spec.appliesLoose_calling (g := g) h hdg hn hkY hinitY
      (X.room_calling (g := g) (R' := (headSpec ws rm).room) hsize hmY hcY hframes (by rw [hlY]; omega) h4 h5) h1
  obtain ⟨mid, hmid⟩ := h.above
  have hfr : (U.setTop g).frames = (.java g :: mid) ++ below := by rw [State.frames_setTop' g h.top, hmid]; rfl
  obtain ⟨o, s₂, hsteps, -, hend, hq⟩ := Steps.callFree hM p X.admits X.cas X.clock (acts := []) hfr happ hPc trivial
  have hq' : vx_Q Qc XC mc ms free a (U.calling g mk a) o s₂ := hq
  rw [State.frames_setTop' g h.top] at hend
  obtain ⟨g₀, hg0⟩ := Option.isSome_iff_exists.mp h.top
  obtain ⟨r, hr⟩ := State.topJava?_eq_some.mp hg0
  have hr' : (({ U with heap := s₂.heap, slotsUsed := s₂.slotsUsed } : State).setVm s₂.vm).frames = .java g₀ :: r := hr
  rcases hq' with ⟨hqc, L, hfe, hL⟩ | ⟨q, rfl, E, ce, L, hx, hce, hcv, hcl, hW₂, hsm, hL⟩
  · obtain ⟨⟨v, rfl⟩, hW₂, e2, q2, q3, q4, q5, q6⟩ := id hfe
    have e3 : s₂ = ({ (U.calling g mk a).setFrames s₂.frames with heap := s₂.heap, slotsUsed := s₂.slotsUsed } : State).setVm s₂.vm := by
      have : s₂ = ({ s₂ with vm := (U.calling g mk a).vm } : State).setVm s₂.vm := rfl
      rw [e2] at this
      exact this
    obtain ⟨c₂, i₂, len₂, hc₂, hd₂, hf₂⟩ := hend
    have hW' : U.WarmedH s₂.vm := hW₂
    have hcc : c₂ = c := by
      have h1 : s₂.code? g.method = U.code? g.method := by
        rw [State.code?_eq, State.code?_eq, hW'.alike.method?]
      exact Option.some.inj (hc₂.symm.trans (h1.trans h.code))
    subst hcc
    have hlen : len₂ = len := by rw [hdg] at hd₂; cases hd₂; rfl
    subst hlen
    have hs₂ : s₂ = (({ U with heap := s₂.heap, slotsUsed := s₂.slotsUsed } : State).setVm s₂.vm).setTop { g with pc := g.pc + len₂, stack := v.toList ++ g.stack } := by
      refine e3.trans ?_
      rw [hf₂, State.calling_eq h.top, State.setFrames_setFrames, State.setTop_of_frames _ hr', hr]
      rfl
    have hsame : U.sameButNew ({ U with heap := s₂.heap, slotsUsed := s₂.slotsUsed } : State) L mc ms := by
      refine ⟨?_, q2, q3, q4, q5, q6⟩
      obtain ⟨t, ht, -⟩ := State.frames_cons hr
      show ({ U with heap := s₂.heap, slotsUsed := s₂.slotsUsed } : State) = { U.setFrames U.frames with heap := s₂.heap, slotsUsed := s₂.slotsUsed }
      rw [State.setFrames_self ht]
    subst hg
    refine Or.inl ⟨v, ⟨(({ U with heap := s₂.heap, slotsUsed := s₂.slotsUsed } : State).setVm s₂.vm), Ls ++ L, c0 + mc, s0 + ms⟩,
      ⟨X.admits, X.cas, X.clock, X.frames, X.room, X.hears, X.method, X.code, (X.here.setHeapUsed s₂.heap s₂.slotsUsed).setVm hW'.alike, X.tail, State.WarmedH.trans X.warmed hW', X.limits, X.bytes, X.same.trans (hsame.setVm s.vm)⟩,
      ⟨g, mk, s₂, L, rfl, rfl, hqc, rfl, hL, rfl, rfl⟩, ?_⟩
    show Steps p.tables e below _ ((({ U with heap := s₂.heap, slotsUsed := s₂.slotsUsed } : State).setVm s₂.vm).setTop { g with pc := g.pc + len₂, stack := v.toList ++ g.stack })
    rw [← hs₂]
    exact hsteps
  · obtain ⟨e2, q2, q3, q4, q5, q6⟩ := id hsm
    have e3 : s₂ = ({ (U.calling g mk a).setFrames s₂.frames with heap := s₂.heap, slotsUsed := s₂.slotsUsed } : State).setVm s₂.vm := by
      have : s₂ = ({ s₂ with vm := (U.calling g mk a).vm } : State).setVm s₂.vm := rfl
      rw [e2] at this
      exact this
    have hf₂ : s₂.frames = .throwing q :: .java g :: U.frames.tail := hend
    have hW' : U.WarmedH s₂.vm := hW₂
    have hs₂ : s₂ = ((({ U with heap := s₂.heap, slotsUsed := s₂.slotsUsed } : State).setVm s₂.vm).setTop g).pushFrame (.throwing q) := by
      refine e3.trans ?_
      rw [hf₂, State.calling_eq h.top, State.setFrames_setFrames, State.pushFrame, State.frames_setTop _ hr', State.setTop_of_frames _ hr', State.setFrames_setFrames, hr]
      rfl
    have hsame : U.sameButNew ({ U with heap := s₂.heap, slotsUsed := s₂.slotsUsed } : State) L mc ms := by
      refine ⟨?_, q2, q3, q4, q5, q6⟩
      obtain ⟨t, ht, -⟩ := State.frames_cons hr
      show ({ U with heap := s₂.heap, slotsUsed := s₂.slotsUsed } : State) = { U.setFrames U.frames with heap := s₂.heap, slotsUsed := s₂.slotsUsed }
      rw [State.setFrames_self ht]
    subst hg
    refine Or.inr ⟨q, ⟨(({ U with heap := s₂.heap, slotsUsed := s₂.slotsUsed } : State).setVm s₂.vm), Ls ++ L, c0 + mc, s0 + ms⟩,
      ⟨X.admits, X.cas, X.clock, X.frames, X.room, X.hears, X.method, X.code, (X.here.setHeapUsed s₂.heap s₂.slotsUsed).setVm hW'.alike, X.tail, State.WarmedH.trans X.warmed hW', X.limits, X.bytes, X.same.trans (hsame.setVm s.vm)⟩,
      ⟨g, mk, s₂, L, E, ce, rfl, rfl, hx, hce, hcv, hcl, rfl, hL, rfl, rfl⟩, ?_⟩
    show Steps p.tables e below _ (((({ U with heap := s₂.heap, slotsUsed := s₂.slotsUsed } : State).setVm s₂.vm).setTop g).pushFrame (.throwing q))
    rw [← hs₂]
    exact hsteps
end
variable {p : Program} {l : Launch} {e : Env} {R : Room} {s : State} {m : MethodId} {args : Array Value} {below : List Frame} {meth : Method} {c : Code} {T : State} {H : Heap} {locs : List Loc} {cells slots : Nat}
theorem vx_callVX (X : Stand p l e R s m args below meth c T locs cells slots) (hexec : p.tables.exec = Jvm.exec) {own C : String} {index : Nat} {y : MethodName} {bytes : ByteArray} {maxL : Nat} {ret : Option FieldType} {hh : List (Nat × Nat × Nat × Nat)}
    (hown : s.vm.findClass own = some m.cls) (hlink : (Cond.methodLink own index y).before args s = true) (hinst : (Cond.instanceMethod y).before args s = true) (hsel : (Cond.selects C y y).before args s = true)
    (hcode : (Cond.codeWith y bytes maxL ret hh).before args s = true) (hy : y.cls ≠ "java/lang/invoke/MethodHandle" ∧ y.cls ≠ "java/lang/invoke/VarHandle")
    {W9 : Nat} {Pre : Pt → Array Value → Prop} {Post : Pt → Array Value → Option Value → Pt → Prop} {PostX : Pt → Array Value → Addr → Pt → Prop} (hK : vx_Back l R p e below s args y 3 W9 Pre Post PostX)
    {b : Addr} {cellB : Cell} (hcell : T.heap[b]? = some cellB) (hobj : cellB.vm.isStatics = false) (hcls : s.vm.findClass C = some cellB.cls)
    {g : JFrame} (hg : g.method = m) (hsize : g.locals.size = c.maxLocals) {argsL rest : List Value} (hlen : ∀ sig, parseMethodDescriptor y.desc = some sig → argsL.length = sig.parameters.length)
    (hstack : g.stack = argsL.reverse ++ .ref b :: rest) (hW : 2 * g.monitorRoom + (rest.map fun v => v.category).sum ≤ W9) (hdg : decode c.code g.pc = .ok (.invokevirtual index, 3))
    (hpre : ∀ vm₁, s.WarmedH vm₁ → Pre ⟨T.setVm vm₁, locs, cells, slots⟩ (Value.ref b :: argsL).toArray) :
    (∃ (v : Option Value) (vm₁ : Vm) (B : Pt), s.WarmedH vm₁ ∧ Stand p l e R s m args below meth c B.U B.locs B.cells B.slots ∧ Post ⟨T.setVm vm₁, locs, cells, slots⟩ (Value.ref b :: argsL).toArray v B ∧
      ∀ target, Steps p.tables e below (B.U.setTop { g with pc := g.pc + 3, stack := v.toList ++ rest }) target → Steps p.tables e below (T.setTop g) target) ∨
    (∃ (q : Addr) (vm₁ : Vm) (B : Pt), s.WarmedH vm₁ ∧ Stand p l e R s m args below meth c B.U B.locs B.cells B.slots ∧ PostX ⟨T.setVm vm₁, locs, cells, slots⟩ (Value.ref b :: argsL).toArray q B ∧
      Steps p.tables e below (T.setTop g) ((B.U.setTop { g with stack := rest }).pushFrame (.throwing q))) := by
  obtain ⟨mk, methM, hnamed, hmethM, hstM, habM⟩ := Cond.instanceMethod_spec hinst
  obtain ⟨m8, methM', cM, hn8, hmethM', -, -, -, -, -, -, hsigM⟩ := Cond.codeWith_spec hcode
  cases Option.some.inj (hn8.symm.trans hnamed)
  cases hmethM.symm.trans hmethM'
  obtain ⟨c2, r2, m2, q1, q2, q3, q4, kP, hkP, hkPi⟩ := Cond.selects_spec hsel
  cases hcls.symm.trans q1
  cases (State.methodFound?_of_named hnamed hy).symm.trans q2
  cases hnamed.symm.trans q3
  have hselP : selectMethod e.platform s.vm cellB.cls mk = .method mk := by rw [Launch.admits_selectMethod X.admits]; exact q4
  obtain ⟨vm₁, X₁, hstep₁⟩ := X.invokevirtual hexec hown hlink hnamed hmethM hstM hkP hkPi hy (a := b) (cell := cellB) hcell
    (fun z h => by rw [h] at hobj; cases hobj) hselP hmethM habM hkP hkPi (g := g) hg (argsL := argsL) (rest := rest) (hlen _ hsigM) hstack hdg
  rcases hK m meth c ⟨T.setVm vm₁, locs, cells, slots⟩ { g with stack := rest } (.invokevirtual index) mk (Value.ref b :: argsL).toArray X₁ hg hsize hdg hW (X₁.named hnamed) (hpre vm₁ X₁.warmed) with ⟨v, B, X', hpost, hsteps⟩ | ⟨q, B, X', hpost, hsteps⟩
  · exact Or.inl ⟨v, vm₁, B, X₁.warmed, X', hpost, fun target h => hstep₁ _ fun acts => by rw [doInvoke_state]; exact hsteps.trans h⟩
  · exact Or.inr ⟨q, vm₁, B, X₁.warmed, X', hpost, hstep₁ _ fun acts => by rw [doInvoke_state]; exact hsteps⟩
theorem vx_callSX (X : Stand p l e R s m args below meth c T locs cells slots) (hexec : p.tables.exec = Jvm.exec) {own : String} {index : Nat} {y : MethodName} {bytes : ByteArray} {maxL : Nat} {ret : Option FieldType} {hh : List (Nat × Nat × Nat × Nat)}
    (hown : s.vm.findClass own = some m.cls) (hlink : (Cond.methodLink own index y).before args s = true) (hstat : (Cond.static y).before args s = true) (hinit : (Cond.initialized y.cls).before args s = true)
    (hcode : (Cond.codeWith y bytes maxL ret hh).before args s = true) (hy : y.cls ≠ "java/lang/invoke/MethodHandle" ∧ y.cls ≠ "java/lang/invoke/VarHandle")
    {W9 : Nat} {Pre : Pt → Array Value → Prop} {Post : Pt → Array Value → Option Value → Pt → Prop} {PostX : Pt → Array Value → Addr → Pt → Prop} (hK : vx_Back l R p e below s args y 3 W9 Pre Post PostX)
    {g : JFrame} (hg : g.method = m) (hsize : g.locals.size = c.maxLocals) {argsL rest : List Value} (hlen : ∀ sig, parseMethodDescriptor y.desc = some sig → argsL.length = sig.parameters.length)
    (hstack : g.stack = argsL.reverse ++ rest) (hW : 2 * g.monitorRoom + (rest.map fun v => v.category).sum ≤ W9) (hdg : decode c.code g.pc = .ok (.invokestatic index, 3))
    (hpre : ∀ vm₁, s.WarmedH vm₁ → Pre ⟨T.setVm vm₁, locs, cells, slots⟩ argsL.toArray) :
    (∃ (v : Option Value) (vm₁ : Vm) (B : Pt), s.WarmedH vm₁ ∧ Stand p l e R s m args below meth c B.U B.locs B.cells B.slots ∧ Post ⟨T.setVm vm₁, locs, cells, slots⟩ argsL.toArray v B ∧
      ∀ target, Steps p.tables e below (B.U.setTop { g with pc := g.pc + 3, stack := v.toList ++ rest }) target → Steps p.tables e below (T.setTop g) target) ∨
    (∃ (q : Addr) (vm₁ : Vm) (B : Pt), s.WarmedH vm₁ ∧ Stand p l e R s m args below meth c B.U B.locs B.cells B.slots ∧ PostX ⟨T.setVm vm₁, locs, cells, slots⟩ argsL.toArray q B ∧
      Steps p.tables e below (T.setTop g) ((B.U.setTop { g with stack := rest }).pushFrame (.throwing q))) := by
  obtain ⟨mk, methM, cM, hnamed, hmethM, -, -, -, -, -, -, hsigM⟩ := Cond.codeWith_spec hcode
  have hstatic : methM.isStatic = true := Cond.static_spec hnamed hmethM hstat
  obtain ⟨kP, hkP, -⟩ := className_of_methodNamed hnamed
  have hinitP : kP.init = .initialized := Cond.initialized_spec (findClass_of_methodNamed hnamed) hkP hinit
  obtain ⟨vm₁, X₁, hstep₁⟩ := X.invokestatic hexec hown hlink hnamed hmethM hstatic hkP hinitP hy (g := g) hg (argsL := argsL) (rest := rest) (hlen _ hsigM) hstack hdg
  rcases hK m meth c ⟨T.setVm vm₁, locs, cells, slots⟩ { g with stack := rest } (.invokestatic index) mk argsL.toArray X₁ hg hsize hdg hW (X₁.named hnamed) (hpre vm₁ X₁.warmed) with ⟨v, B, X', hpost, hsteps⟩ | ⟨q, B, X', hpost, hsteps⟩
  · exact Or.inl ⟨v, vm₁, B, X₁.warmed, X', hpost, fun target h => hstep₁ _ fun acts => by rw [doInvoke_state]; exact hsteps.trans h⟩
  · exact Or.inr ⟨q, vm₁, B, X₁.warmed, X', hpost, hstep₁ _ fun acts => by rw [doInvoke_state]; exact hsteps⟩
theorem vx_callVW (X : Stand p l e R s m args below meth c T locs cells slots) (hexec : p.tables.exec = Jvm.exec) {own C : String} {index : Nat} {y : MethodName} {bytes : ByteArray} {maxL : Nat} {ret : Option FieldType} {hh : List (Nat × Nat × Nat × Nat)}
    (hown : s.vm.findClass own = some m.cls) (hlink : (Cond.methodLink own index y).before args s = true) (hinst : (Cond.instanceMethod y).before args s = true) (hsel : (Cond.selects C y y).before args s = true)
    (hcode : (Cond.codeWith y bytes maxL ret hh).before args s = true) (hy : y.cls ≠ "java/lang/invoke/MethodHandle" ∧ y.cls ≠ "java/lang/invoke/VarHandle")
    {W9 : Nat} {Pre : Pt → Array Value → Prop} {Post : Pt → Array Value → Option Value → Pt → Prop} (hK : Back l R p e below s args y 3 W9 Pre Post)
    {b : Addr} {cellB : Cell} (hcell : T.heap[b]? = some cellB) (hobj : cellB.vm.isStatics = false) (hcls : s.vm.findClass C = some cellB.cls)
    {g : JFrame} (hg : g.method = m) (hsize : g.locals.size = c.maxLocals) {argsL rest : List Value} (hlen : ∀ sig, parseMethodDescriptor y.desc = some sig → argsL.length = sig.parameters.length)
    (hstack : g.stack = argsL.reverse ++ .ref b :: rest) (hW : 2 * g.monitorRoom + (rest.map fun v => v.category).sum ≤ W9) (hdg : decode c.code g.pc = .ok (.invokevirtual index, 3))
    (hpre : ∀ vm₁, s.WarmedH vm₁ → Pre ⟨T.setVm vm₁, locs, cells, slots⟩ (Value.ref b :: argsL).toArray) :
    ∃ (v : Option Value) (vm₁ : Vm) (B : Pt), s.WarmedH vm₁ ∧ Stand p l e R s m args below meth c B.U B.locs B.cells B.slots ∧ Post ⟨T.setVm vm₁, locs, cells, slots⟩ (Value.ref b :: argsL).toArray v B ∧
      ∀ target, Steps p.tables e below (B.U.setTop { g with pc := g.pc + 3, stack := v.toList ++ rest }) target → Steps p.tables e below (T.setTop g) target := by
  obtain ⟨mk, methM, hnamed, hmethM, hstM, habM⟩ := Cond.instanceMethod_spec hinst
  obtain ⟨m8, methM', cM, hn8, hmethM', -, -, -, -, -, -, hsigM⟩ := Cond.codeWith_spec hcode
  cases Option.some.inj (hn8.symm.trans hnamed)
  cases hmethM.symm.trans hmethM'
  obtain ⟨c2, r2, m2, q1, q2, q3, q4, kP, hkP, hkPi⟩ := Cond.selects_spec hsel
  cases hcls.symm.trans q1
  cases (State.methodFound?_of_named hnamed hy).symm.trans q2
  cases hnamed.symm.trans q3
  have hselP : selectMethod e.platform s.vm cellB.cls mk = .method mk := by rw [Launch.admits_selectMethod X.admits]; exact q4
  obtain ⟨vm₁, X₁, hstep₁⟩ := X.invokevirtual hexec hown hlink hnamed hmethM hstM hkP hkPi hy (a := b) (cell := cellB) hcell
    (fun z h => by rw [h] at hobj; cases hobj) hselP hmethM habM hkP hkPi (g := g) hg (argsL := argsL) (rest := rest) (hlen _ hsigM) hstack hdg
  obtain ⟨v, B, X', hpost, hsteps⟩ := hK m meth c ⟨T.setVm vm₁, locs, cells, slots⟩ { g with stack := rest } (.invokevirtual index) mk (Value.ref b :: argsL).toArray X₁ hg hsize hdg hW (X₁.named hnamed) (hpre vm₁ X₁.warmed)
  exact ⟨v, vm₁, B, X₁.warmed, X', hpost, fun target h => hstep₁ _ fun acts => by rw [doInvoke_state]; exact hsteps.trans h⟩
abbrev vx_CVW (R : Room) (s : State) (args : Array Value) (own C : String) (index : Nat) (y : MethodName) (bytes : ByteArray) (maxL : Nat) (ret : Option FieldType) (hh : List (Nat × Nat × Nat × Nat)) (ws : List Cond) (rm : Room) (mc ms n : Nat) : Prop :=
  (rm.cells = mc ∧ rm.slots = ms ∧ rm.frames + 1 ≤ R.frames ∧ 8 + (maxL + 11) + rm.locals ≤ R.locals ∧ (∀ w ∈ ws, ∀ (a' : Array Value) (U : State), s.WarmedH U.vm → w.before a' U = true) ∧ Cond.codeWith y bytes maxL ret hh ∈ ws) ∧
  (Cond.codeWith y bytes maxL ret hh).before args s = true ∧ (Cond.initialized y.cls).before args s = true ∧ (y.cls ≠ "java/lang/invoke/MethodHandle" ∧ y.cls ≠ "java/lang/invoke/VarHandle") ∧
  (∀ sig, parseMethodDescriptor y.desc = some sig → n = sig.parameters.length) ∧ (Cond.methodLink own index y).before args s = true ∧ (Cond.instanceMethod y).before args s = true ∧ (Cond.selects C y y).before args s = true
theorem vx_cwVW {own C : String} {index maxL mc ms : Nat} {y : MethodName} {bytes : ByteArray} {ret : Option FieldType} {hh : List (Nat × Nat × Nat × Nat)} {Ts ws ws' : List Cond} {rm : Room} (n : Nat) (ht : ∀ w ∈ Ts, w.before args s = true) (hT : GoodIn Ts (wsV own index C y ws)) (hw : ws = Cond.codeWith y bytes maxL ret hh :: ws') (hrc : rm.cells = mc) (hrs : rm.slots = ms)
    (hd : y.cls = C ∧ y.cls ≠ "java/lang/invoke/MethodHandle" ∧ y.cls ≠ "java/lang/invoke/VarHandle" ∧ (parseMethodDescriptor y.desc).map (fun d => d.parameters.length) = some n) (hR : rm.frames + 1 ≤ R.frames ∧ 8 + (maxL + 11) + rm.locals ≤ R.locals) :
    vx_CVW R s args own C index y bytes maxL ret hh ws rm mc ms n := by
  obtain ⟨hC, hd⟩ := hd
  subst hC
  have ok : ∀ w ∈ wsV own index y.cls y ws, w.before args s = true := fun w h => ht w (hT w h).1
  have hG : GoodIn Ts ws := fun w h => hT w (by unfold wsV; exact List.mem_append_right _ h)
  have hc : Cond.codeWith y bytes maxL ret hh ∈ ws := by rw [hw]; exact List.mem_cons_self
  refine ⟨⟨hrc, hrs, hR.1, hR.2, pay_in ht hG, hc⟩, ht _ (hG _ hc).1, ok _ (by simp [wsV]), ⟨hd.1, hd.2.1⟩, fun sig h => ?_, ok _ (by simp [wsV]), ok _ (by simp [wsV]), ok _ (by simp [wsV])⟩
  have h2 := hd.2.2
  rw [h] at h2
  exact (Option.some.inj h2).symm
theorem vx_runVW {y : MethodName} {bytes cc : ByteArray} {maxL nL mc ms n index : Nat} {ret : Option FieldType} {hh : List (Nat × Nat × Nat × Nat)} {ws : List Cond} {rm : Room} {Pc : Array Value → State → Prop} {Qc : Array Value → State → Outcome → State → Prop} {free : Addr → Prop} {Ts : List Cond} {own C : String} {b : Addr} {As rest : List Value} {g : JFrame}
    (S : CallFix p m c cc nL s args Ts own) (hM : Met l y ws rm Pc Qc mc ms free) (cw : vx_CVW R s args own C index y bytes maxL ret hh ws rm mc ms n) (hp : PreV s H C b Pc As)
    (hg : g.method = m) (hn : As.length = n) (hsize : g.locals.size = nL) (hstack : g.stack = As.reverse ++ .ref b :: rest) (hW : 2 * g.monitorRoom + (rest.map fun v => v.category).sum ≤ 8) (hdg : decode cc g.pc = .ok (.invokevirtual index, 3)) (hf : cells + mc ≤ R.cells ∧ slots + ms ≤ R.slots) :
    va_Run p l e R s m args below meth c H locs cells slots mc ms g rest (Qc (Value.ref b :: As).toArray) free := by
  obtain ⟨⟨hrc, hrs, hfr, hlo, hws, hcw⟩, hcode, hini, hy, hlen, hl, hin, hse⟩ := cw
  have hK : Back l R p e below s args y 3 8 (PreOf R mc ms Pc) (PostOf Qc mc ms free) := va_backW (hh := hh) (bytes := bytes) (maxL := maxL) (ret := ret) hM hp.1 hrc hrs hfr hlo hws hcw (fun a' U hW => word_at hW (Or.inl (by first | rfl | simp [Cond.onTables, Cond.keeps, Cond.steady])) hini)
  obtain ⟨hx, hb, hml, ho, -⟩ := S
  obtain ⟨-, ⟨cellB, hcB, hoB, hclB⟩, hPc⟩ := hp
  intro T hT X
  obtain ⟨v, vm₁, ⟨U', l2, c2, s2⟩, hW₁, X', ⟨g', mk, t, L, e1, e2, hq, h1, hL, h2, h3⟩, st⟩ := vx_callVW X hx (C := C) (hh := hh) (bytes := bytes) (maxL := maxL) (ret := ret) ho hl hin hse hcode hy hK (by rw [hT]; exact hcB) hoB hclB hg (hsize.trans hml.symm) (argsL := As) (rest := rest) (fun sig h => hn.trans (hlen sig h)) hstack hW (by rw [hb]; exact hdg)
    (fun vm₁ hW₁ => ⟨hf.1, hf.2, hPc (T.setVm vm₁) hT hW₁⟩)
  dsimp only [Pt.U, Pt.locs, Pt.cells, Pt.slots] at X' e1 e2 h1 h2 h3 st
  subst h1; subst h2; subst h3
  exact ⟨v, (T.setVm vm₁).calling g' mk (Value.ref b :: As).toArray, t, U', L, hT, X', hL, e1, e2, hq, st⟩
section
variable {y : MethodName} {bytes cc : ByteArray} {maxL nL mc ms n index : Nat} {ret : Option FieldType} {ws : List Cond} {rm : Room} {Pc : Array Value → State → Prop} {Qc : Array Value → State → Outcome → State → Prop} {XC : String → State → State → Prop} {free : Addr → Prop} {Ts : List Cond} {own C : String} {b : Addr} {As rest : List Value} {g : JFrame}
theorem vx_runVX {hh : List (Nat × Nat × Nat × Nat)} (S : CallFix p m c cc nL s args Ts own) (hM : vx_Met l y ws rm Pc Qc XC mc ms free) (cw : vx_CVW R s args own C index y bytes maxL ret hh ws rm mc ms n) (hp : PreV s H C b Pc As)
    (hg : g.method = m) (hn : As.length = n) (hsize : g.locals.size = nL) (hstack : g.stack = As.reverse ++ .ref b :: rest) (hW : 2 * g.monitorRoom + (rest.map fun v => v.category).sum ≤ 8) (hdg : decode cc g.pc = .ok (.invokevirtual index, 3)) (hf : cells + mc ≤ R.cells ∧ slots + ms ≤ R.slots) :
    vx_Run p l e R s m args below meth c H locs cells slots mc ms g rest (Qc (Value.ref b :: As).toArray) XC free := by
  obtain ⟨⟨hrc, hrs, hfr, hlo, hws, hcw⟩, hcode, hini, hy, hlen, hl, hin, hse⟩ := cw
  have hK : vx_Back l R p e below s args y 3 8 (PreOf R mc ms Pc) (PostOf Qc mc ms free) (vx_Post XC mc ms free) := vx_backW (hh := hh) (bytes := bytes) (maxL := maxL) (ret := ret) hM hp.1 hrc hrs hfr hlo hws hcw (fun a' U hW => word_at hW (Or.inl (by first | rfl | simp [Cond.onTables, Cond.keeps, Cond.steady])) hini)
  obtain ⟨hx, hb, hml, ho, -⟩ := S
  obtain ⟨-, ⟨cellB, hcB, hoB, hclB⟩, hPc⟩ := hp
  intro T hT X
  rcases vx_callVX X hx (C := C) (hh := hh) (bytes := bytes) (maxL := maxL) (ret := ret) ho hl hin hse hcode hy hK (by rw [hT]; exact hcB) hoB hclB hg (hsize.trans hml.symm) (argsL := As) (rest := rest) (fun sig h => hn.trans (hlen sig h)) hstack hW (by rw [hb]; exact hdg)
    (fun vm₁ hW₁ => ⟨hf.1, hf.2, hPc (T.setVm vm₁) hT hW₁⟩) with ⟨v, vm₁, ⟨U', l2, c2, s2⟩, hW₁, X', ⟨g', mk, t, L, e1, e2, hq, h1, hL, h2, h3⟩, st⟩ | ⟨q, vm₁, ⟨U', l2, c2, s2⟩, hW₁, X', ⟨g', mk, t, L, E, ce, e1, e2, hq, hce, hcv, hcl, h1, hL, h2, h3⟩, st⟩
  · dsimp only [Pt.U, Pt.locs, Pt.cells, Pt.slots] at X' e1 e2 h1 h2 h3 st
    subst h1; subst h2; subst h3
    exact Or.inl ⟨v, (T.setVm vm₁).calling g' mk (Value.ref b :: As).toArray, t, U', L, hT, X', hL, e1, e2, hq, st⟩
  · dsimp only [Pt.U, Pt.locs, Pt.cells, Pt.slots] at X' e1 e2 h1 h2 h3 st hcl
    subst h1; subst h2; subst h3
    exact Or.inr ⟨q, (T.setVm vm₁).calling g' mk (Value.ref b :: As).toArray, t, U', L, E, ce, hT, X', hL, e1, e2, hq, hce, hcv, vx_cls hW₁ hcl, st⟩
theorem vx_runSX {hh : List (Nat × Nat × Nat × Nat)} (S : CallFix p m c cc nL s args Ts own) (hM : vx_Met l y ws rm Pc Qc XC mc ms free) (cw : vx_CSW R s args own index y bytes maxL ret hh ws rm mc ms n) (hp : PreS s H Pc As)
    (hg : g.method = m) (hn : As.length = n) (hsize : g.locals.size = nL) (hstack : g.stack = As.reverse ++ rest) (hW : 2 * g.monitorRoom + (rest.map fun v => v.category).sum ≤ 8) (hdg : decode cc g.pc = .ok (.invokestatic index, 3)) (hf : cells + mc ≤ R.cells ∧ slots + ms ≤ R.slots) :
    vx_Run p l e R s m args below meth c H locs cells slots mc ms g rest (Qc As.toArray) XC free := by
  obtain ⟨⟨hrc, hrs, hfr, hlo, hws, hcw⟩, hcode, hini, hy, hlen, hl, hstt⟩ := cw
  have hK : vx_Back l R p e below s args y 3 8 (PreOf R mc ms Pc) (PostOf Qc mc ms free) (vx_Post XC mc ms free) := vx_backW (hh := hh) (bytes := bytes) (maxL := maxL) (ret := ret) hM hp.1 hrc hrs hfr hlo hws hcw (fun a' U hW => word_at hW (Or.inl (by first | rfl | simp [Cond.onTables, Cond.keeps, Cond.steady])) hini)
  obtain ⟨hx, hb, hml, ho, -⟩ := S
  intro T hT X
  rcases vx_callSX X hx (hh := hh) (bytes := bytes) (maxL := maxL) (ret := ret) ho hl hstt hini hcode hy hK hg (hsize.trans hml.symm) (argsL := As) (rest := rest) (fun sig h => hn.trans (hlen sig h)) hstack hW (by rw [hb]; exact hdg)
    (fun vm₁ hW₁ => ⟨hf.1, hf.2, hp.2 (T.setVm vm₁) hT hW₁⟩) with ⟨v, vm₁, ⟨U', l2, c2, s2⟩, hW₁, X', ⟨g', mk, t, L, e1, e2, hq, h1, hL, h2, h3⟩, st⟩ | ⟨q, vm₁, ⟨U', l2, c2, s2⟩, hW₁, X', ⟨g', mk, t, L, E, ce, e1, e2, hq, hce, hcv, hcl, h1, hL, h2, h3⟩, st⟩
  · dsimp only [Pt.U, Pt.locs, Pt.cells, Pt.slots] at X' e1 e2 h1 h2 h3 st
    subst h1; subst h2; subst h3
    exact Or.inl ⟨v, (T.setVm vm₁).calling g' mk As.toArray, t, U', L, hT, X', hL, e1, e2, hq, st⟩
  · dsimp only [Pt.U, Pt.locs, Pt.cells, Pt.slots] at X' e1 e2 h1 h2 h3 st hcl
    subst h1; subst h2; subst h3
    exact Or.inr ⟨q, (T.setVm vm₁).calling g' mk As.toArray, t, U', L, E, ce, hT, X', hL, e1, e2, hq, hce, hcv, vx_cls hW₁ hcl, st⟩
end
end VXH
theorem vx_ofWH {l : Launch} {y : MethodName} {ws ws' : List Cond} {rm : Room} {Pc : Array Value → State → Prop} {Qc : Array Value → State → Outcome → State → Prop} {XC : String → State → State → Prop} {mc ms : Nat} {free : Addr → Prop} {cc : ByteArray} {maxL : Nat} {ret : Option FieldType} {hh : List (Nat × Nat × Nat × Nat)}
    (hy : plainName y.cls = true) (hw : ws = Cond.codeWith y cc maxL ret hh :: ws')
    (body : ∀ p e s m args below meth c s₁, BodyLoose p l y (headSpec ws rm) cc maxL ret e s m args below meth c s₁ → c.maxLocals = maxL → Pc args s →
      W p l e (headSpec ws rm).room s m args below meth c s.heap [] 0 0 (vx_MQ below Qc XC args s mc ms free) (entryFrame m args maxL)) : vx_Met l y ws rm Pc Qc XC mc ms free := by
  refine MetFree.of_bodyS (code := cc) (maxLocals := maxL) (ret := ret) hy ?_ ?_
  · intro args s m h hn
    obtain ⟨m9, meth, c, hn9, h1, h2, h3, h4, -, h5, h6, -⟩ := Cond.codeWith_spec (atoms_spec (ws := ws) h _ (by rw [hw]; exact List.mem_cons_self))
    cases hn.symm.trans hn9
    exact ⟨meth, c, h1, h2, h3, h4, h5, h6⟩
  · intro p e s m args below meth c s₁ B hml hP _
    have hh0 : s₁.heap = s.heap := by rw [B.state]; rfl
    obtain ⟨t, a1, o, b1, b2, b3⟩ := body p e s m args below meth c s₁ B hml hP s₁ hh0 (Stand.of_body B)
    exact ⟨t, o, a1, b1, b2, b3⟩
/-! ===== END ===== -/
end
section
def RX0 : String := "BiddenMoves$Board"
def TX0 : u_T := fun k => match k with
  | 0 => ("BiddenMoves$Board", "marks", "[I", true)
  | 1 => ("BiddenMoves$Board", "counts", "[I", true)
  | _ => ("BiddenMoves$Board", "moves", "[I", true)
def tyX0 : Nat → FieldType := fun k => match k with
  | 0 => .array .int
  | 1 => .array .int
  | _ => .array .int
abbrev wsX00 : List Cond := u_ws RX0 TX0 3
theorem nmX0 : ∀ a, a < 3 → ∀ b, b < 3 → a ≠ b → (TX0 a).2.1 ≠ (TX0 b).2.1 := by decide +kernel
theorem tyX0_ok : ∀ k, k < 3 → parseFieldDescriptor (TX0 k).2.2.1 = some (tyX0 k) := by decide +kernel
abbrev cX0_init : ByteArray := prog_2_method_1_code
def yX0_init : MethodName := ⟨RX0, "<init>", "()V"⟩
abbrev cX0_copyBoard : ByteArray := prog_2_method_2_code
def yX0_copyBoard : MethodName := ⟨RX0, "copyBoard", "(LBiddenMoves$Board;)V"⟩
abbrev cX0_empty : ByteArray := prog_2_method_3_code
def yX0_empty : MethodName := ⟨RX0, "empty", "()V"⟩
abbrev cX0_exchangeMarks : ByteArray := prog_2_method_4_code
def yX0_exchangeMarks : MethodName := ⟨RX0, "exchangeMarks", "()V"⟩
abbrev cX0_putMove : ByteArray := prog_2_method_5_code
def yX0_putMove : MethodName := ⟨RX0, "putMove", "(II)V"⟩
abbrev cX0_moveAt : ByteArray := prog_2_method_6_code
def yX0_moveAt : MethodName := ⟨RX0, "moveAt", "(II)I"⟩
abbrev cX0_hasMove : ByteArray := prog_2_method_7_code
def yX0_hasMove : MethodName := ⟨RX0, "hasMove", "(II)Z"⟩
abbrev cX0_movesTo : ByteArray := prog_2_method_8_code
def yX0_movesTo : MethodName := ⟨RX0, "movesTo", "(I)I"⟩
abbrev cX0_allMoves : ByteArray := prog_2_method_9_code
def yX0_allMoves : MethodName := ⟨RX0, "allMoves", "()I"⟩
abbrev cX0_isWonFor : ByteArray := prog_2_method_10_code
def yX0_isWonFor : MethodName := ⟨RX0, "isWonFor", "(II)Z"⟩
abbrev cX0_wonFor : ByteArray := prog_2_method_11_code
def yX0_wonFor : MethodName := ⟨RX0, "wonFor", "(I)I"⟩
abbrev cX0_isEnd : ByteArray := prog_2_method_12_code
def yX0_isEnd : MethodName := ⟨RX0, "isEnd", "(I)Z"⟩
def RX1 : String := "BiddenMoves$BoardText"
def TX1 : u_T := fun k => match k with
  | 0 => ("BiddenMoves$BoardText", "signs", "[C", true)
  | 1 => ("BiddenMoves$BoardText", "length", "I", false)
  | 2 => ("BiddenMoves$BoardText", "told", "LBiddenMoves$Board;", true)
  | 3 => ("BiddenMoves$BoardText", "seen", "[Z", true)
  | 4 => ("BiddenMoves$BoardText", "parts", "I", false)
  | 5 => ("BiddenMoves$BoardText", "part", "I", false)
  | _ => ("BiddenMoves$BoardText", "expected", "I", false)
def tyX1 : Nat → FieldType := fun k => match k with
  | 0 => .array .char
  | 1 => .int
  | 2 => .object "BiddenMoves$Board"
  | 3 => .array .boolean
  | 4 => .int
  | 5 => .int
  | _ => .int
abbrev wsX10 : List Cond := u_ws RX1 TX1 7
theorem nmX1 : ∀ a, a < 7 → ∀ b, b < 7 → a ≠ b → (TX1 a).2.1 ≠ (TX1 b).2.1 := by decide +kernel
theorem tyX1_ok : ∀ k, k < 7 → parseFieldDescriptor (TX1 k).2.2.1 = some (tyX1 k) := by decide +kernel
abbrev cX1_init : ByteArray := prog_3_method_1_code
def yX1_init : MethodName := ⟨RX1, "<init>", "()V"⟩
abbrev cX1_scan : ByteArray := prog_3_method_2_code
def yX1_scan : MethodName := ⟨RX1, "scan", "()I"⟩
abbrev cX1_isWhole : ByteArray := prog_3_method_3_code
def yX1_isWhole : MethodName := ⟨RX1, "isWhole", "()Z"⟩
abbrev cX1_takes : ByteArray := prog_3_method_4_code
def yX1_takes : MethodName := ⟨RX1, "takes", "(C)Z"⟩
abbrev cX1_positionBy : ByteArray := prog_3_method_5_code
def yX1_positionBy : MethodName := ⟨RX1, "positionBy", "(C)I"⟩
abbrev cX1_takesPosition : ByteArray := prog_3_method_6_code
def yX1_takesPosition : MethodName := ⟨RX1, "takesPosition", "(I)Z"⟩
abbrev cX1_takesMark : ByteArray := prog_3_method_7_code
def yX1_takesMark : MethodName := ⟨RX1, "takesMark", "(C)Z"⟩
abbrev cX1_takesMove : ByteArray := prog_3_method_8_code
def yX1_takesMove : MethodName := ⟨RX1, "takesMove", "(I)Z"⟩
abbrev cX1_takesEnd : ByteArray := prog_3_method_9_code
def yX1_takesEnd : MethodName := ⟨RX1, "takesEnd", "(C)Z"⟩
def RX2 : String := "BiddenMoves$Entries"
def TX2 : u_T := fun k => match k with
  | _ => ("", "", "", false)
def tyX2 : Nat → FieldType := fun k => match k with
  | _ => .int
abbrev wsX20 : List Cond := u_ws RX2 TX2 0
theorem nmX2 : ∀ a, a < 0 → ∀ b, b < 0 → a ≠ b → (TX2 a).2.1 ≠ (TX2 b).2.1 := by decide +kernel
theorem tyX2_ok : ∀ k, k < 0 → parseFieldDescriptor (TX2 k).2.2.1 = some (tyX2 k) := by decide +kernel
abbrev cX2_init : ByteArray := prog_4_method_1_code
def yX2_init : MethodName := ⟨RX2, "<init>", "()V"⟩
abbrev cX2_forget : ByteArray := prog_4_method_7_code
def yX2_forget : MethodName := ⟨RX2, "forget", "()V"⟩
abbrev cX2_tell : ByteArray := prog_4_method_8_code
def yX2_tell : MethodName := ⟨RX2, "tell", "(LBiddenMoves$State;I)V"⟩
abbrev cX2_entry : ByteArray := prog_4_method_9_code
def yX2_entry : MethodName := ⟨RX2, "entry", "(IIII)I"⟩
abbrev cX2_lookBehind : ByteArray := prog_4_method_10_code
def yX2_lookBehind : MethodName := ⟨RX2, "lookBehind", "(LBiddenMoves$State;III)V"⟩
abbrev cX2_tellPosition : ByteArray := prog_4_method_11_code
def yX2_tellPosition : MethodName := ⟨RX2, "tellPosition", "(LBiddenMoves$State;III)V"⟩
abbrev cX2_indexOf : ByteArray := prog_4_method_12_code
def yX2_indexOf : MethodName := ⟨RX2, "indexOf", "(III)I"⟩
def RX3 : String := "BiddenMoves$ForcedBudgets"
def TX3 : u_T := fun k => match k with
  | 0 => ("BiddenMoves$Entries", "some", "[I", true)
  | 1 => ("BiddenMoves$Entries", "each", "[I", true)
  | 2 => ("BiddenMoves$Entries", "entries", "[I", true)
  | _ => ("BiddenMoves$Entries", "told", "I", false)
def tyX3 : Nat → FieldType := fun k => match k with
  | 0 => .array .int
  | 1 => .array .int
  | 2 => .array .int
  | _ => .int
abbrev wsX30 : List Cond := u_ws RX3 TX3 4
theorem nmX3 : ∀ a, a < 4 → ∀ b, b < 4 → a ≠ b → (TX3 a).2.1 ≠ (TX3 b).2.1 := by decide +kernel
theorem tyX3_ok : ∀ k, k < 4 → parseFieldDescriptor (TX3 k).2.2.1 = some (tyX3 k) := by decide +kernel
abbrev cX3_init : ByteArray := prog_5_method_1_code
def yX3_init : MethodName := ⟨RX3, "<init>", "()V"⟩
abbrev cX3_everything : ByteArray := prog_5_method_2_code
def yX3_everything : MethodName := ⟨RX3, "everything", "(I)I"⟩
abbrev cX3_nothing : ByteArray := prog_5_method_3_code
def yX3_nothing : MethodName := ⟨RX3, "nothing", "()I"⟩
abbrev cX3_either : ByteArray := prog_5_method_4_code
def yX3_either : MethodName := ⟨RX3, "either", "(II)I"⟩
abbrev cX3_both : ByteArray := prog_5_method_5_code
def yX3_both : MethodName := ⟨RX3, "both", "(II)I"⟩
abbrev cX3_tellTurn : ByteArray := prog_5_method_6_code
def yX3_tellTurn : MethodName := ⟨RX3, "tellTurn", "(III)I"⟩
abbrev cX3_leastWinningBid : ByteArray := prog_5_method_7_code
def yX3_leastWinningBid : MethodName := ⟨RX3, "leastWinningBid", "(IIII)I"⟩
abbrev cX3_leastRefutation : ByteArray := prog_5_method_8_code
def yX3_leastRefutation : MethodName := ⟨RX3, "leastRefutation", "(IIIII)I"⟩
abbrev cX3_positionsOf : ByteArray := prog_5_method_9_code
def yX3_positionsOf : MethodName := ⟨RX3, "positionsOf", "(LBiddenMoves$State;I)I"⟩
def RX4 : String := "BiddenMoves$SavedStates"
def TX4 : u_T := fun k => match k with
  | 0 => ("BiddenMoves$SavedStates", "states", "[LBiddenMoves$State;", true)
  | 1 => ("BiddenMoves$SavedStates", "next", "I", false)
  | _ => ("BiddenMoves$SavedStates", "size", "I", false)
def tyX4 : Nat → FieldType := fun k => match k with
  | 0 => .array (.object "BiddenMoves$State")
  | 1 => .int
  | _ => .int
abbrev wsX40 : List Cond := u_ws RX4 TX4 3
theorem nmX4 : ∀ a, a < 3 → ∀ b, b < 3 → a ≠ b → (TX4 a).2.1 ≠ (TX4 b).2.1 := by decide +kernel
theorem tyX4_ok : ∀ k, k < 3 → parseFieldDescriptor (TX4 k).2.2.1 = some (tyX4 k) := by decide +kernel
abbrev cX4_init : ByteArray := prog_6_method_1_code
def yX4_init : MethodName := ⟨RX4, "<init>", "()V"⟩
abbrev cX4_push : ByteArray := prog_6_method_2_code
def yX4_push : MethodName := ⟨RX4, "push", "(LBiddenMoves$State;)V"⟩
abbrev cX4_popInto : ByteArray := prog_6_method_3_code
def yX4_popInto : MethodName := ⟨RX4, "popInto", "(LBiddenMoves$State;)V"⟩
def RX5 : String := "BiddenMoves$State"
def TX5 : u_T := fun k => match k with
  | 0 => ("BiddenMoves$State", "board", "LBiddenMoves$Board;", true)
  | 1 => ("BiddenMoves$State", "chips", "I", false)
  | 2 => ("BiddenMoves$State", "turns", "I", false)
  | 3 => ("BiddenMoves$State", "position", "I", false)
  | 4 => ("BiddenMoves$State", "budget", "I", false)
  | 5 => ("BiddenMoves$State", "star", "I", false)
  | 6 => ("BiddenMoves$State", "bought", "I", false)
  | 7 => ("BiddenMoves$State", "turnsBought", "[I", true)
  | 8 => ("BiddenMoves$State", "chipsPaid", "[I", true)
  | 9 => ("BiddenMoves$State", "ties", "I", false)
  | _ => ("BiddenMoves$State", "refused", "I", false)
def tyX5 : Nat → FieldType := fun k => match k with
  | 0 => .object "BiddenMoves$Board"
  | 1 => .int
  | 2 => .int
  | 3 => .int
  | 4 => .int
  | 5 => .int
  | 6 => .int
  | 7 => .array .int
  | 8 => .array .int
  | 9 => .int
  | _ => .int
abbrev wsX50 : List Cond := u_ws RX5 TX5 11
theorem nmX5 : ∀ a, a < 11 → ∀ b, b < 11 → a ≠ b → (TX5 a).2.1 ≠ (TX5 b).2.1 := by decide +kernel
theorem tyX5_ok : ∀ k, k < 11 → parseFieldDescriptor (TX5 k).2.2.1 = some (tyX5 k) := by decide +kernel
abbrev cX5_init : ByteArray := prog_7_method_1_code
def yX5_init : MethodName := ⟨RX5, "<init>", "()V"⟩
abbrev cX5_copyFrom : ByteArray := prog_7_method_2_code
def yX5_copyFrom : MethodName := ⟨RX5, "copyFrom", "(LBiddenMoves$State;)V"⟩
abbrev cX5_isOver : ByteArray := prog_7_method_3_code
def yX5_isOver : MethodName := ⟨RX5, "isOver", "()Z"⟩
abbrev cX5_budgetOf : ByteArray := prog_7_method_4_code
def yX5_budgetOf : MethodName := ⟨RX5, "budgetOf", "(I)I"⟩
abbrev cX5_shareOut : ByteArray := prog_7_method_5_code
def yX5_shareOut : MethodName := ⟨RX5, "shareOut", "(I)V"⟩
abbrev cX5_buyTurn : ByteArray := prog_7_method_6_code
def yX5_buyTurn : MethodName := ⟨RX5, "buyTurn", "(II)V"⟩
def RX6 : String := "BiddenMoves$Thresholds"
def TX6 : u_T := fun k => match k with
  | 0 => ("BiddenMoves$Entries", "some", "[I", true)
  | 1 => ("BiddenMoves$Entries", "each", "[I", true)
  | 2 => ("BiddenMoves$Entries", "entries", "[I", true)
  | _ => ("BiddenMoves$Entries", "told", "I", false)
def tyX6 : Nat → FieldType := fun k => match k with
  | 0 => .array .int
  | 1 => .array .int
  | 2 => .array .int
  | _ => .int
abbrev wsX60 : List Cond := u_ws RX6 TX6 4
theorem nmX6 : ∀ a, a < 4 → ∀ b, b < 4 → a ≠ b → (TX6 a).2.1 ≠ (TX6 b).2.1 := by decide +kernel
theorem tyX6_ok : ∀ k, k < 4 → parseFieldDescriptor (TX6 k).2.2.1 = some (tyX6 k) := by decide +kernel
abbrev cX6_init : ByteArray := prog_8_method_1_code
def yX6_init : MethodName := ⟨RX6, "<init>", "()V"⟩
abbrev cX6_everything : ByteArray := prog_8_method_2_code
def yX6_everything : MethodName := ⟨RX6, "everything", "(I)I"⟩
abbrev cX6_nothing : ByteArray := prog_8_method_3_code
def yX6_nothing : MethodName := ⟨RX6, "nothing", "()I"⟩
abbrev cX6_either : ByteArray := prog_8_method_4_code
def yX6_either : MethodName := ⟨RX6, "either", "(II)I"⟩
abbrev cX6_both : ByteArray := prog_8_method_5_code
def yX6_both : MethodName := ⟨RX6, "both", "(II)I"⟩
abbrev cX6_tellTurn : ByteArray := prog_8_method_6_code
def yX6_tellTurn : MethodName := ⟨RX6, "tellTurn", "(III)I"⟩
abbrev cX6_reachedBy : ByteArray := prog_8_method_7_code
def yX6_reachedBy : MethodName := ⟨RX6, "reachedBy", "(IIIII)Z"⟩
def RX7 : String := "BiddenMoves"
def TX7 : u_T := fun k => match k with
  | 0 => ("BiddenMoves", "now", "LBiddenMoves$State;", true)
  | 1 => ("BiddenMoves", "saved", "LBiddenMoves$SavedStates;", true)
  | 2 => ("BiddenMoves", "slots", "[LBiddenMoves$State;", true)
  | 3 => ("BiddenMoves", "kept", "[Z", true)
  | 4 => ("BiddenMoves", "text", "LBiddenMoves$BoardText;", true)
  | 5 => ("BiddenMoves", "forced", "LBiddenMoves$ForcedBudgets;", true)
  | _ => ("BiddenMoves", "thresholds", "LBiddenMoves$Thresholds;", true)
def tyX7 : Nat → FieldType := fun k => match k with
  | 0 => .object "BiddenMoves$State"
  | 1 => .object "BiddenMoves$SavedStates"
  | 2 => .array (.object "BiddenMoves$State")
  | 3 => .array .boolean
  | 4 => .object "BiddenMoves$BoardText"
  | 5 => .object "BiddenMoves$ForcedBudgets"
  | _ => .object "BiddenMoves$Thresholds"
abbrev wsX70 : List Cond := u_ws RX7 TX7 7
theorem nmX7 : ∀ a, a < 7 → ∀ b, b < 7 → a ≠ b → (TX7 a).2.1 ≠ (TX7 b).2.1 := by decide +kernel
theorem tyX7_ok : ∀ k, k < 7 → parseFieldDescriptor (TX7 k).2.2.1 = some (tyX7 k) := by decide +kernel
abbrev cX7_init : ByteArray := prog_1_method_1_code
def yX7_init : MethodName := ⟨RX7, "<init>", "()V"⟩
abbrev cX7_addMove : ByteArray := prog_1_method_2_code
def yX7_addMove : MethodName := ⟨RX7, "addMove", "(II)I"⟩
abbrev cX7_clearMoves : ByteArray := prog_1_method_3_code
def yX7_clearMoves : MethodName := ⟨RX7, "clearMoves", "(I)I"⟩
abbrev cX7_mark : ByteArray := prog_1_method_4_code
def yX7_mark : MethodName := ⟨RX7, "mark", "(II)I"⟩
abbrev cX7_reverse : ByteArray := prog_1_method_5_code
def yX7_reverse : MethodName := ⟨RX7, "reverse", "()I"⟩
abbrev cX7_set : ByteArray := prog_1_method_6_code
def yX7_set : MethodName := ⟨RX7, "set", "(II)I"⟩
abbrev cX7_place : ByteArray := prog_1_method_7_code
def yX7_place : MethodName := ⟨RX7, "place", "(III)I"⟩
abbrev cX7_bid : ByteArray := prog_1_method_8_code
def yX7_bid : MethodName := ⟨RX7, "bid", "(II)I"⟩
abbrev cX7_move : ByteArray := prog_1_method_9_code
def yX7_move : MethodName := ⟨RX7, "move", "(I)I"⟩
abbrev cX7_append : ByteArray := prog_1_method_10_code
def yX7_append : MethodName := ⟨RX7, "append", "(I)I"⟩
abbrev cX7_clearBuffer : ByteArray := prog_1_method_11_code
def yX7_clearBuffer : MethodName := ⟨RX7, "clearBuffer", "()I"⟩
abbrev cX7_firstError : ByteArray := prog_1_method_12_code
def yX7_firstError : MethodName := ⟨RX7, "firstError", "()I"⟩
abbrev cX7_load : ByteArray := prog_1_method_13_code
def yX7_load : MethodName := ⟨RX7, "load", "()I"⟩
abbrev cX7_keep : ByteArray := prog_1_method_14_code
def yX7_keep : MethodName := ⟨RX7, "keep", "(I)I"⟩
abbrev cX7_goBack : ByteArray := prog_1_method_15_code
def yX7_goBack : MethodName := ⟨RX7, "goBack", "(I)I"⟩
abbrev cX7_undo : ByteArray := prog_1_method_16_code
def yX7_undo : MethodName := ⟨RX7, "undo", "()I"⟩
abbrev cX7_positionOf : ByteArray := prog_1_method_17_code
def yX7_positionOf : MethodName := ⟨RX7, "positionOf", "(II)I"⟩
abbrev cX7_playerOf : ByteArray := prog_1_method_18_code
def yX7_playerOf : MethodName := ⟨RX7, "playerOf", "(II)I"⟩
abbrev cX7_count : ByteArray := prog_1_method_19_code
def yX7_count : MethodName := ⟨RX7, "count", "(I)I"⟩
abbrev cX7_setting : ByteArray := prog_1_method_20_code
def yX7_setting : MethodName := ⟨RX7, "setting", "(I)I"⟩
abbrev cX7_force : ByteArray := prog_1_method_21_code
def yX7_force : MethodName := ⟨RX7, "force", "(IIIII)I"⟩
abbrev cX7_threshold : ByteArray := prog_1_method_22_code
def yX7_threshold : MethodName := ⟨RX7, "threshold", "(IIII)I"⟩
abbrev cX7_advice : ByteArray := prog_1_method_23_code
def yX7_advice : MethodName := ⟨RX7, "advice", "(I)I"⟩
abbrev cX7_refuted : ByteArray := prog_1_method_24_code
def yX7_refuted : MethodName := ⟨RX7, "refuted", "(II)I"⟩
abbrev cX7_bestMove : ByteArray := prog_1_method_25_code
def yX7_bestMove : MethodName := ⟨RX7, "bestMove", "(II)I"⟩
abbrev cX7_winIn : ByteArray := prog_1_method_26_code
def yX7_winIn : MethodName := ⟨RX7, "winIn", "(I)I"⟩
abbrev cX7_forcedShare : ByteArray := prog_1_method_27_code
def yX7_forcedShare : MethodName := ⟨RX7, "forcedShare", "()D"⟩
abbrev cX7_digest : ByteArray := prog_1_method_28_code
def yX7_digest : MethodName := ⟨RX7, "digest", "()J"⟩
abbrev cX7_needPosition : ByteArray := prog_1_method_29_code
def yX7_needPosition : MethodName := ⟨RX7, "needPosition", "(I)V"⟩
abbrev cX7_needPlayer : ByteArray := prog_1_method_30_code
def yX7_needPlayer : MethodName := ⟨RX7, "needPlayer", "(I)V"⟩
abbrev cX7_needSetting : ByteArray := prog_1_method_31_code
def yX7_needSetting : MethodName := ⟨RX7, "needSetting", "(I)V"⟩
abbrev cX7_needUpTo : ByteArray := prog_1_method_32_code
def yX7_needUpTo : MethodName := ⟨RX7, "needUpTo", "(II)V"⟩
abbrev cX7_saveBeforeBoard : ByteArray := prog_1_method_33_code
def yX7_saveBeforeBoard : MethodName := ⟨RX7, "saveBeforeBoard", "()V"⟩
abbrev cX7_forgetForced : ByteArray := prog_1_method_34_code
def yX7_forgetForced : MethodName := ⟨RX7, "forgetForced", "()V"⟩
abbrev cX7_reasonAgainstBids : ByteArray := prog_1_method_35_code
def yX7_reasonAgainstBids : MethodName := ⟨RX7, "reasonAgainstBids", "(II)I"⟩
abbrev cX7_reasonAgainstMove : ByteArray := prog_1_method_36_code
def yX7_reasonAgainstMove : MethodName := ⟨RX7, "reasonAgainstMove", "(I)I"⟩
abbrev cX7_holds : ByteArray := prog_1_method_37_code
def yX7_holds : MethodName := ⟨RX7, "holds", "(II)Z"⟩
abbrev cX7_leastOf : ByteArray := prog_1_method_38_code
def yX7_leastOf : MethodName := ⟨RX7, "leastOf", "(I)I"⟩
abbrev cX7_bitsOf : ByteArray := prog_1_method_39_code
def yX7_bitsOf : MethodName := ⟨RX7, "bitsOf", "(D)J"⟩
def RX8 : String := "BiddenMovesModel"
def TX8 : u_T := fun k => match k with
  | 0 => ("BiddenMovesModel", "s", "[I", true)
  | 1 => ("BiddenMovesModel", "saved", "[I", true)
  | 2 => ("BiddenMovesModel", "savedMany", "I", false)
  | 3 => ("BiddenMovesModel", "slots", "[I", true)
  | 4 => ("BiddenMovesModel", "isKept", "[Z", true)
  | 5 => ("BiddenMovesModel", "text", "[I", true)
  | 6 => ("BiddenMovesModel", "length", "I", false)
  | 7 => ("BiddenMovesModel", "thrown", "I", false)
  | 8 => ("BiddenMovesModel", "least", "[I", true)
  | 9 => ("BiddenMovesModel", "board", "[I", true)
  | 10 => ("BiddenMovesModel", "place", "I", false)
  | 11 => ("BiddenMovesModel", "told", "I", false)
  | 12 => ("BiddenMovesModel", "parts", "I", false)
  | _ => ("BiddenMovesModel", "hash", "J", false)
def tyX8 : Nat → FieldType := fun k => match k with
  | 0 => .array .int
  | 1 => .array .int
  | 2 => .int
  | 3 => .array .int
  | 4 => .array .boolean
  | 5 => .array .int
  | 6 => .int
  | 7 => .int
  | 8 => .array .int
  | 9 => .array .int
  | 10 => .int
  | 11 => .int
  | 12 => .int
  | _ => .long
abbrev wsX80 : List Cond := u_ws RX8 TX8 14
theorem nmX8 : ∀ a, a < 14 → ∀ b, b < 14 → a ≠ b → (TX8 a).2.1 ≠ (TX8 b).2.1 := by decide +kernel
theorem tyX8_ok : ∀ k, k < 14 → parseFieldDescriptor (TX8 k).2.2.1 = some (tyX8 k) := by decide +kernel
abbrev cX8_init : ByteArray := prog_10_method_1_code
def yX8_init : MethodName := ⟨RX8, "<init>", "()V"⟩
abbrev cX8_thrown : ByteArray := prog_10_method_2_code
def yX8_thrown : MethodName := ⟨RX8, "thrown", "()I"⟩
abbrev cX8_holds : ByteArray := prog_10_method_3_code
def yX8_holds : MethodName := ⟨RX8, "holds", "(I)Z"⟩
abbrev cX8_in : ByteArray := prog_10_method_4_code
def yX8_in : MethodName := ⟨RX8, "in", "(III)Z"⟩
abbrev cX8_isPosition : ByteArray := prog_10_method_5_code
def yX8_isPosition : MethodName := ⟨RX8, "isPosition", "(I)Z"⟩
abbrev cX8_isOneOfTwo : ByteArray := prog_10_method_6_code
def yX8_isOneOfTwo : MethodName := ⟨RX8, "isOneOfTwo", "(I)Z"⟩
abbrev cX8_of : ByteArray := prog_10_method_7_code
def yX8_of : MethodName := ⟨RX8, "of", "(II)I"⟩
abbrev cX8_put : ByteArray := prog_10_method_8_code
def yX8_put : MethodName := ⟨RX8, "put", "(III)V"⟩
abbrev cX8_budgetOf : ByteArray := prog_10_method_9_code
def yX8_budgetOf : MethodName := ⟨RX8, "budgetOf", "(I)I"⟩
abbrev cX8_isOver : ByteArray := prog_10_method_10_code
def yX8_isOver : MethodName := ⟨RX8, "isOver", "(I)Z"⟩
abbrev cX8_isWonFor : ByteArray := prog_10_method_11_code
def yX8_isWonFor : MethodName := ⟨RX8, "isWonFor", "(II)Z"⟩
abbrev cX8_hasMove : ByteArray := prog_10_method_12_code
def yX8_hasMove : MethodName := ⟨RX8, "hasMove", "(II)Z"⟩
abbrev cX8_save : ByteArray := prog_10_method_13_code
def yX8_save : MethodName := ⟨RX8, "save", "()V"⟩
abbrev cX8_leastAt : ByteArray := prog_10_method_14_code
def yX8_leastAt : MethodName := ⟨RX8, "leastAt", "(IIII)I"⟩
abbrev cX8_easiest : ByteArray := prog_10_method_15_code
def yX8_easiest : MethodName := ⟨RX8, "easiest", "(IIII)I"⟩
abbrev cX8_hardest : ByteArray := prog_10_method_16_code
def yX8_hardest : MethodName := ⟨RX8, "hardest", "(IIII)I"⟩
abbrev cX8_isEnough : ByteArray := prog_10_method_17_code
def yX8_isEnough : MethodName := ⟨RX8, "isEnough", "(IIIIIII)Z"⟩
abbrev cX8_wins : ByteArray := prog_10_method_18_code
def yX8_wins : MethodName := ⟨RX8, "wins", "(IIIIII)Z"⟩
abbrev cX8_leastBid : ByteArray := prog_10_method_19_code
def yX8_leastBid : MethodName := ⟨RX8, "leastBid", "(IIIII)I"⟩
abbrev cX8_leastBudget : ByteArray := prog_10_method_20_code
def yX8_leastBudget : MethodName := ⟨RX8, "leastBudget", "(IIII)I"⟩
abbrev cX8_lay : ByteArray := prog_10_method_21_code
def yX8_lay : MethodName := ⟨RX8, "lay", "()V"⟩
abbrev cX8_canForce : ByteArray := prog_10_method_22_code
def yX8_canForce : MethodName := ⟨RX8, "canForce", "(IIIII)Z"⟩
abbrev cX8_addMove : ByteArray := prog_10_method_23_code
def yX8_addMove : MethodName := ⟨RX8, "addMove", "(II)I"⟩
abbrev cX8_clearMoves : ByteArray := prog_10_method_24_code
def yX8_clearMoves : MethodName := ⟨RX8, "clearMoves", "(I)I"⟩
abbrev cX8_mark : ByteArray := prog_10_method_25_code
def yX8_mark : MethodName := ⟨RX8, "mark", "(II)I"⟩
abbrev cX8_reverse : ByteArray := prog_10_method_26_code
def yX8_reverse : MethodName := ⟨RX8, "reverse", "()I"⟩
abbrev cX8_set : ByteArray := prog_10_method_27_code
def yX8_set : MethodName := ⟨RX8, "set", "(II)I"⟩
abbrev cX8_place : ByteArray := prog_10_method_28_code
def yX8_place : MethodName := ⟨RX8, "place", "(III)I"⟩
abbrev cX8_refuse : ByteArray := prog_10_method_29_code
def yX8_refuse : MethodName := ⟨RX8, "refuse", "(I)I"⟩
abbrev cX8_bid : ByteArray := prog_10_method_30_code
def yX8_bid : MethodName := ⟨RX8, "bid", "(II)I"⟩
abbrev cX8_move : ByteArray := prog_10_method_31_code
def yX8_move : MethodName := ⟨RX8, "move", "(I)I"⟩
abbrev cX8_append : ByteArray := prog_10_method_32_code
def yX8_append : MethodName := ⟨RX8, "append", "(I)I"⟩
abbrev cX8_clearBuffer : ByteArray := prog_10_method_33_code
def yX8_clearBuffer : MethodName := ⟨RX8, "clearBuffer", "()I"⟩
abbrev cX8_isNext : ByteArray := prog_10_method_34_code
def yX8_isNext : MethodName := ⟨RX8, "isNext", "(II)Z"⟩
abbrev cX8_takes : ByteArray := prog_10_method_35_code
def yX8_takes : MethodName := ⟨RX8, "takes", "(I)Z"⟩
abbrev cX8_readPosition : ByteArray := prog_10_method_36_code
def yX8_readPosition : MethodName := ⟨RX8, "readPosition", "(I)I"⟩
abbrev cX8_readMoves : ByteArray := prog_10_method_37_code
def yX8_readMoves : MethodName := ⟨RX8, "readMoves", "(I)Z"⟩
abbrev cX8_readPart : ByteArray := prog_10_method_38_code
def yX8_readPart : MethodName := ⟨RX8, "readPart", "()Z"⟩
abbrev cX8_readText : ByteArray := prog_10_method_39_code
def yX8_readText : MethodName := ⟨RX8, "readText", "()Z"⟩
abbrev cX8_firstError : ByteArray := prog_10_method_40_code
def yX8_firstError : MethodName := ⟨RX8, "firstError", "()I"⟩
abbrev cX8_load : ByteArray := prog_10_method_41_code
def yX8_load : MethodName := ⟨RX8, "load", "()I"⟩
abbrev cX8_keep : ByteArray := prog_10_method_42_code
def yX8_keep : MethodName := ⟨RX8, "keep", "(I)I"⟩
abbrev cX8_goBack : ByteArray := prog_10_method_43_code
def yX8_goBack : MethodName := ⟨RX8, "goBack", "(I)I"⟩
abbrev cX8_undo : ByteArray := prog_10_method_44_code
def yX8_undo : MethodName := ⟨RX8, "undo", "()I"⟩
abbrev cX8_positionTold : ByteArray := prog_10_method_45_code
def yX8_positionTold : MethodName := ⟨RX8, "positionTold", "(II)I"⟩
abbrev cX8_positionOf : ByteArray := prog_10_method_46_code
def yX8_positionOf : MethodName := ⟨RX8, "positionOf", "(II)I"⟩
abbrev cX8_positions : ByteArray := prog_10_method_47_code
def yX8_positions : MethodName := ⟨RX8, "positions", "(IZ)I"⟩
abbrev cX8_playerTold : ByteArray := prog_10_method_48_code
def yX8_playerTold : MethodName := ⟨RX8, "playerTold", "(II)I"⟩
abbrev cX8_playerOf : ByteArray := prog_10_method_49_code
def yX8_playerOf : MethodName := ⟨RX8, "playerOf", "(II)I"⟩
abbrev cX8_allMoves : ByteArray := prog_10_method_50_code
def yX8_allMoves : MethodName := ⟨RX8, "allMoves", "()I"⟩
abbrev cX8_countTold : ByteArray := prog_10_method_51_code
def yX8_countTold : MethodName := ⟨RX8, "countTold", "(I)I"⟩
abbrev cX8_count : ByteArray := prog_10_method_52_code
def yX8_count : MethodName := ⟨RX8, "count", "(I)I"⟩
abbrev cX8_setting : ByteArray := prog_10_method_53_code
def yX8_setting : MethodName := ⟨RX8, "setting", "(I)I"⟩
abbrev cX8_force : ByteArray := prog_10_method_54_code
def yX8_force : MethodName := ⟨RX8, "force", "(IIIII)I"⟩
abbrev cX8_thresholdTold : ByteArray := prog_10_method_55_code
def yX8_thresholdTold : MethodName := ⟨RX8, "thresholdTold", "(III)I"⟩
abbrev cX8_threshold : ByteArray := prog_10_method_56_code
def yX8_threshold : MethodName := ⟨RX8, "threshold", "(IIII)I"⟩
abbrev cX8_adviceTold : ByteArray := prog_10_method_57_code
def yX8_adviceTold : MethodName := ⟨RX8, "adviceTold", "(I)I"⟩
abbrev cX8_advice : ByteArray := prog_10_method_58_code
def yX8_advice : MethodName := ⟨RX8, "advice", "(I)I"⟩
abbrev cX8_isBid : ByteArray := prog_10_method_59_code
def yX8_isBid : MethodName := ⟨RX8, "isBid", "(II)Z"⟩
abbrev cX8_refutedTold : ByteArray := prog_10_method_60_code
def yX8_refutedTold : MethodName := ⟨RX8, "refutedTold", "(II)I"⟩
abbrev cX8_refuted : ByteArray := prog_10_method_61_code
def yX8_refuted : MethodName := ⟨RX8, "refuted", "(II)I"⟩
abbrev cX8_bestMoveTold : ByteArray := prog_10_method_62_code
def yX8_bestMoveTold : MethodName := ⟨RX8, "bestMoveTold", "(II)I"⟩
abbrev cX8_bestMove : ByteArray := prog_10_method_63_code
def yX8_bestMove : MethodName := ⟨RX8, "bestMove", "(II)I"⟩
abbrev cX8_winInTold : ByteArray := prog_10_method_64_code
def yX8_winInTold : MethodName := ⟨RX8, "winInTold", "(I)I"⟩
abbrev cX8_winIn : ByteArray := prog_10_method_65_code
def yX8_winIn : MethodName := ⟨RX8, "winIn", "(I)I"⟩
abbrev cX8_shareTold : ByteArray := prog_10_method_66_code
def yX8_shareTold : MethodName := ⟨RX8, "shareTold", "()D"⟩
abbrev cX8_forcedShare : ByteArray := prog_10_method_67_code
def yX8_forcedShare : MethodName := ⟨RX8, "forcedShare", "()D"⟩
abbrev cX8_bitsOf : ByteArray := prog_10_method_68_code
def yX8_bitsOf : MethodName := ⟨RX8, "bitsOf", "(D)J"⟩
abbrev cX8_mix : ByteArray := prog_10_method_69_code
def yX8_mix : MethodName := ⟨RX8, "mix", "(J)V"⟩
abbrev cX8_mixPosition : ByteArray := prog_10_method_70_code
def yX8_mixPosition : MethodName := ⟨RX8, "mixPosition", "(I)V"⟩
abbrev cX8_mixPlayer : ByteArray := prog_10_method_71_code
def yX8_mixPlayer : MethodName := ⟨RX8, "mixPlayer", "(I)V"⟩
abbrev cX8_digest : ByteArray := prog_10_method_72_code
def yX8_digest : MethodName := ⟨RX8, "digest", "()J"⟩
def RJ6 : String := "java/lang/Integer"
def TJ6 : u_T := fun k => match k with
  | _ => ("", "", "", false)
def tyJ6 : Nat → FieldType := fun k => match k with
  | _ => .int
abbrev wsJ60 : List Cond := u_ws RJ6 TJ6 0
theorem nmJ6 : ∀ a, a < 0 → ∀ b, b < 0 → a ≠ b → (TJ6 a).2.1 ≠ (TJ6 b).2.1 := by decide +kernel
theorem tyJ6_ok : ∀ k, k < 0 → parseFieldDescriptor (TJ6 k).2.2.1 = some (tyJ6 k) := by decide +kernel
abbrev cJ6_bitCount_0f7a4 : ByteArray := prog_15_method_49_code
def yJ6_bitCount_0f7a4 : MethodName := ⟨RJ6, "bitCount", "(I)I"⟩
def RJ9 : String := "java/lang/Math"
def TJ9 : u_T := fun k => match k with
  | _ => ("", "", "", false)
def tyJ9 : Nat → FieldType := fun k => match k with
  | _ => .int
abbrev wsJ90 : List Cond := u_ws RJ9 TJ9 0
theorem nmJ9 : ∀ a, a < 0 → ∀ b, b < 0 → a ≠ b → (TJ9 a).2.1 ≠ (TJ9 b).2.1 := by decide +kernel
theorem tyJ9_ok : ∀ k, k < 0 → parseFieldDescriptor (TJ9 k).2.2.1 = some (tyJ9 k) := by decide +kernel
abbrev cJ9_max_7cf53 : ByteArray := prog_16_method_65_code
def yJ9_max_7cf53 : MethodName := ⟨RJ9, "max", "(II)I"⟩
abbrev cJ9_min_7cf53 : ByteArray := prog_16_method_69_code
def yJ9_min_7cf53 : MethodName := ⟨RJ9, "min", "(II)I"⟩
def RJ0 : String := "java/lang/String"
def TJ0 : u_T := fun k => match k with
  | _ => ("", "", "", false)
def tyJ0 : Nat → FieldType := fun k => match k with
  | _ => .int
abbrev wsJ00 : List Cond := u_ws RJ0 TJ0 0
theorem nmJ0 : ∀ a, a < 0 → ∀ b, b < 0 → a ≠ b → (TJ0 a).2.1 ≠ (TJ0 b).2.1 := by decide +kernel
theorem tyJ0_ok : ∀ k, k < 0 → parseFieldDescriptor (TJ0 k).2.2.1 = some (tyJ0 k) := by decide +kernel
def RJ10 : String := "java/lang/System"
def TJ10 : u_T := fun k => match k with
  | _ => ("", "", "", false)
def tyJ10 : Nat → FieldType := fun k => match k with
  | _ => .int
abbrev wsJ100 : List Cond := u_ws RJ10 TJ10 0
theorem nmJ10 : ∀ a, a < 0 → ∀ b, b < 0 → a ≠ b → (TJ10 a).2.1 ≠ (TJ10 b).2.1 := by decide +kernel
theorem tyJ10_ok : ∀ k, k < 0 → parseFieldDescriptor (TJ10 k).2.2.1 = some (tyJ10 k) := by decide +kernel
def RL : String := "BiddenMovesLaw"
abbrev cL_addMove : ByteArray := method_3_code
def yL_addMove : MethodName := ⟨RL, "addMove", "(LBiddenMoves;II[J)I"⟩
abbrev cL_clearMoves : ByteArray := method_4_code
def yL_clearMoves : MethodName := ⟨RL, "clearMoves", "(LBiddenMoves;I[J)I"⟩
abbrev cL_mark : ByteArray := method_5_code
def yL_mark : MethodName := ⟨RL, "mark", "(LBiddenMoves;II[J)I"⟩
abbrev cL_set : ByteArray := method_6_code
def yL_set : MethodName := ⟨RL, "set", "(LBiddenMoves;II[J)I"⟩
abbrev cL_place : ByteArray := method_7_code
def yL_place : MethodName := ⟨RL, "place", "(LBiddenMoves;III[J)I"⟩
abbrev cL_append : ByteArray := method_8_code
def yL_append : MethodName := ⟨RL, "append", "(LBiddenMoves;I[J)I"⟩
abbrev cL_load : ByteArray := method_9_code
def yL_load : MethodName := ⟨RL, "load", "(LBiddenMoves;[J)I"⟩
abbrev cL_keep : ByteArray := method_10_code
def yL_keep : MethodName := ⟨RL, "keep", "(LBiddenMoves;I[J)I"⟩
abbrev cL_goBack : ByteArray := method_11_code
def yL_goBack : MethodName := ⟨RL, "goBack", "(LBiddenMoves;I[J)I"⟩
abbrev cL_undo : ByteArray := method_12_code
def yL_undo : MethodName := ⟨RL, "undo", "(LBiddenMoves;[J)I"⟩
abbrev cL_positionOf : ByteArray := method_13_code
def yL_positionOf : MethodName := ⟨RL, "positionOf", "(LBiddenMoves;II[J)I"⟩
abbrev cL_playerOf : ByteArray := method_14_code
def yL_playerOf : MethodName := ⟨RL, "playerOf", "(LBiddenMoves;II[J)I"⟩
abbrev cL_count : ByteArray := method_15_code
def yL_count : MethodName := ⟨RL, "count", "(LBiddenMoves;I[J)I"⟩
abbrev cL_setting : ByteArray := method_16_code
def yL_setting : MethodName := ⟨RL, "setting", "(LBiddenMoves;I[J)I"⟩
abbrev cL_force : ByteArray := method_17_code
def yL_force : MethodName := ⟨RL, "force", "(LBiddenMoves;IIIII[J)I"⟩
abbrev cL_threshold : ByteArray := method_18_code
def yL_threshold : MethodName := ⟨RL, "threshold", "(LBiddenMoves;IIII[J)I"⟩
abbrev cL_advice : ByteArray := method_19_code
def yL_advice : MethodName := ⟨RL, "advice", "(LBiddenMoves;I[J)I"⟩
abbrev cL_refuted : ByteArray := method_20_code
def yL_refuted : MethodName := ⟨RL, "refuted", "(LBiddenMoves;II[J)I"⟩
abbrev cL_bestMove : ByteArray := method_21_code
def yL_bestMove : MethodName := ⟨RL, "bestMove", "(LBiddenMoves;II[J)I"⟩
abbrev cL_winIn : ByteArray := method_22_code
def yL_winIn : MethodName := ⟨RL, "winIn", "(LBiddenMoves;I[J)I"⟩
abbrev cL_law : ByteArray := code
def yL_law : MethodName := ⟨RL, "law", "([I)Z"⟩
abbrev vwCl : List vw_C := [(RX0, TX0, 3), (RX1, TX1, 7), (RX3, TX3, 4), (RX4, TX4, 3), (RX5, TX5, 11), (RX6, TX6, 4), (RX7, TX7, 7), (RX8, TX8, 14)]
/-- an instruction, its length, the next place -/
def DD (cc : ByteArray) (pc : Nat) (i : Instr) (n q : Nat) : Prop := decode cc pc = .ok (i, n) ∧ pc + n = q
/-- a jump: its offset, its length, the next place, its target -/
def DB (cc : ByteArray) (pc : Nat) (i : Int → Instr) (off : Int) (n q t : Nat) : Prop := decode cc pc = .ok (i off, n) ∧ pc + n = q ∧ (pc : Int) + off = (t : Int)
end
section
theorem dX0_init_0 : DD cX0_init 0 (.aload_n 0) 1 1 := ⟨by decide +kernel, rfl⟩
theorem dX0_init_1 : DD cX0_init 1 (.invokespecial 3) 3 4 := ⟨by decide +kernel, rfl⟩
theorem dX0_init_4 : DD cX0_init 4 (.aload_n 0) 1 5 := ⟨by decide +kernel, rfl⟩
theorem dX0_init_5 : DD cX0_init 5 (.bipush 8) 2 7 := ⟨by decide +kernel, rfl⟩
theorem dX0_init_7 : DD cX0_init 7 (.newarray .int) 2 9 := ⟨by decide +kernel, rfl⟩
theorem dX0_init_9 : DD cX0_init 9 (.putfield 9) 3 12 := ⟨by decide +kernel, rfl⟩
theorem dX0_init_12 : DD cX0_init 12 (.aload_n 0) 1 13 := ⟨by decide +kernel, rfl⟩
theorem dX0_init_13 : DD cX0_init 13 (.bipush 8) 2 15 := ⟨by decide +kernel, rfl⟩
theorem dX0_init_15 : DD cX0_init 15 (.newarray .int) 2 17 := ⟨by decide +kernel, rfl⟩
theorem dX0_init_17 : DD cX0_init 17 (.putfield 15) 3 20 := ⟨by decide +kernel, rfl⟩
theorem dX0_init_20 : DD cX0_init 20 (.aload_n 0) 1 21 := ⟨by decide +kernel, rfl⟩
theorem dX0_init_21 : DD cX0_init 21 (.bipush 32) 2 23 := ⟨by decide +kernel, rfl⟩
theorem dX0_init_23 : DD cX0_init 23 (.newarray .int) 2 25 := ⟨by decide +kernel, rfl⟩
theorem dX0_init_25 : DD cX0_init 25 (.putfield 18) 3 28 := ⟨by decide +kernel, rfl⟩
theorem dX0_init_28 : DD cX0_init 28 (.return_) 1 29 := ⟨by decide +kernel, rfl⟩
theorem dX0_copyBoard_0 : DD cX0_copyBoard 0 (.aload_n 1) 1 1 := ⟨by decide +kernel, rfl⟩
theorem dX0_copyBoard_1 : DD cX0_copyBoard 1 (.getfield 9) 3 4 := ⟨by decide +kernel, rfl⟩
theorem dX0_copyBoard_4 : DD cX0_copyBoard 4 (.iconst 0) 1 5 := ⟨by decide +kernel, rfl⟩
theorem dX0_copyBoard_5 : DD cX0_copyBoard 5 (.aload_n 0) 1 6 := ⟨by decide +kernel, rfl⟩
theorem dX0_copyBoard_6 : DD cX0_copyBoard 6 (.getfield 9) 3 9 := ⟨by decide +kernel, rfl⟩
theorem dX0_copyBoard_9 : DD cX0_copyBoard 9 (.iconst 0) 1 10 := ⟨by decide +kernel, rfl⟩
theorem dX0_copyBoard_10 : DD cX0_copyBoard 10 (.bipush 8) 2 12 := ⟨by decide +kernel, rfl⟩
theorem dX0_copyBoard_12 : DD cX0_copyBoard 12 (.invokestatic 21) 3 15 := ⟨by decide +kernel, rfl⟩
theorem dX0_copyBoard_15 : DD cX0_copyBoard 15 (.aload_n 1) 1 16 := ⟨by decide +kernel, rfl⟩
theorem dX0_copyBoard_16 : DD cX0_copyBoard 16 (.getfield 15) 3 19 := ⟨by decide +kernel, rfl⟩
theorem dX0_copyBoard_19 : DD cX0_copyBoard 19 (.iconst 0) 1 20 := ⟨by decide +kernel, rfl⟩
theorem dX0_copyBoard_20 : DD cX0_copyBoard 20 (.aload_n 0) 1 21 := ⟨by decide +kernel, rfl⟩
theorem dX0_copyBoard_21 : DD cX0_copyBoard 21 (.getfield 15) 3 24 := ⟨by decide +kernel, rfl⟩
theorem dX0_copyBoard_24 : DD cX0_copyBoard 24 (.iconst 0) 1 25 := ⟨by decide +kernel, rfl⟩
theorem dX0_copyBoard_25 : DD cX0_copyBoard 25 (.bipush 8) 2 27 := ⟨by decide +kernel, rfl⟩
theorem dX0_copyBoard_27 : DD cX0_copyBoard 27 (.invokestatic 21) 3 30 := ⟨by decide +kernel, rfl⟩
theorem dX0_copyBoard_30 : DD cX0_copyBoard 30 (.aload_n 1) 1 31 := ⟨by decide +kernel, rfl⟩
theorem dX0_copyBoard_31 : DD cX0_copyBoard 31 (.getfield 18) 3 34 := ⟨by decide +kernel, rfl⟩
theorem dX0_copyBoard_34 : DD cX0_copyBoard 34 (.iconst 0) 1 35 := ⟨by decide +kernel, rfl⟩
theorem dX0_copyBoard_35 : DD cX0_copyBoard 35 (.aload_n 0) 1 36 := ⟨by decide +kernel, rfl⟩
theorem dX0_copyBoard_36 : DD cX0_copyBoard 36 (.getfield 18) 3 39 := ⟨by decide +kernel, rfl⟩
theorem dX0_copyBoard_39 : DD cX0_copyBoard 39 (.iconst 0) 1 40 := ⟨by decide +kernel, rfl⟩
theorem dX0_copyBoard_40 : DD cX0_copyBoard 40 (.bipush 32) 2 42 := ⟨by decide +kernel, rfl⟩
theorem dX0_copyBoard_42 : DD cX0_copyBoard 42 (.invokestatic 21) 3 45 := ⟨by decide +kernel, rfl⟩
theorem dX0_copyBoard_45 : DD cX0_copyBoard 45 (.return_) 1 46 := ⟨by decide +kernel, rfl⟩
theorem dX0_empty_0 : DD cX0_empty 0 (.iconst 0) 1 1 := ⟨by decide +kernel, rfl⟩
theorem dX0_empty_1 : DD cX0_empty 1 (.istore_n 1) 1 2 := ⟨by decide +kernel, rfl⟩
theorem dX0_empty_2 : DD cX0_empty 2 (.iload_n 1) 1 3 := ⟨by decide +kernel, rfl⟩
theorem dX0_empty_3 : DD cX0_empty 3 (.bipush 8) 2 5 := ⟨by decide +kernel, rfl⟩
theorem dX0_empty_5 : DB cX0_empty 5 (.if_icmp .ge) 23 3 8 28 := ⟨by decide +kernel, rfl, rfl⟩
theorem dX0_empty_8 : DD cX0_empty 8 (.aload_n 0) 1 9 := ⟨by decide +kernel, rfl⟩
theorem dX0_empty_9 : DD cX0_empty 9 (.getfield 9) 3 12 := ⟨by decide +kernel, rfl⟩
theorem dX0_empty_12 : DD cX0_empty 12 (.iload_n 1) 1 13 := ⟨by decide +kernel, rfl⟩
theorem dX0_empty_13 : DD cX0_empty 13 (.iconst 0) 1 14 := ⟨by decide +kernel, rfl⟩
theorem dX0_empty_14 : DD cX0_empty 14 (.iastore) 1 15 := ⟨by decide +kernel, rfl⟩
theorem dX0_empty_15 : DD cX0_empty 15 (.aload_n 0) 1 16 := ⟨by decide +kernel, rfl⟩
theorem dX0_empty_16 : DD cX0_empty 16 (.getfield 15) 3 19 := ⟨by decide +kernel, rfl⟩
theorem dX0_empty_19 : DD cX0_empty 19 (.iload_n 1) 1 20 := ⟨by decide +kernel, rfl⟩
theorem dX0_empty_20 : DD cX0_empty 20 (.iconst 0) 1 21 := ⟨by decide +kernel, rfl⟩
theorem dX0_empty_21 : DD cX0_empty 21 (.iastore) 1 22 := ⟨by decide +kernel, rfl⟩
theorem dX0_empty_22 : DD cX0_empty 22 (.iinc 1 1) 3 25 := ⟨by decide +kernel, rfl⟩
theorem dX0_empty_25 : DB cX0_empty 25 (.goto) (-23) 3 28 2 := ⟨by decide +kernel, rfl, rfl⟩
theorem dX0_empty_28 : DD cX0_empty 28 (.return_) 1 29 := ⟨by decide +kernel, rfl⟩
theorem dX0_exchangeMarks_0 : DD cX0_exchangeMarks 0 (.iconst 0) 1 1 := ⟨by decide +kernel, rfl⟩
theorem dX0_exchangeMarks_1 : DD cX0_exchangeMarks 1 (.istore_n 1) 1 2 := ⟨by decide +kernel, rfl⟩
theorem dX0_exchangeMarks_2 : DD cX0_exchangeMarks 2 (.iload_n 1) 1 3 := ⟨by decide +kernel, rfl⟩
theorem dX0_exchangeMarks_3 : DD cX0_exchangeMarks 3 (.bipush 8) 2 5 := ⟨by decide +kernel, rfl⟩
theorem dX0_exchangeMarks_5 : DB cX0_exchangeMarks 5 (.if_icmp .ge) 32 3 8 37 := ⟨by decide +kernel, rfl, rfl⟩
theorem dX0_exchangeMarks_8 : DD cX0_exchangeMarks 8 (.aload_n 0) 1 9 := ⟨by decide +kernel, rfl⟩
theorem dX0_exchangeMarks_9 : DD cX0_exchangeMarks 9 (.getfield 9) 3 12 := ⟨by decide +kernel, rfl⟩
theorem dX0_exchangeMarks_12 : DD cX0_exchangeMarks 12 (.iload_n 1) 1 13 := ⟨by decide +kernel, rfl⟩
theorem dX0_exchangeMarks_13 : DD cX0_exchangeMarks 13 (.iaload) 1 14 := ⟨by decide +kernel, rfl⟩
theorem dX0_exchangeMarks_14 : DB cX0_exchangeMarks 14 (.ifCond .eq) 17 3 17 31 := ⟨by decide +kernel, rfl, rfl⟩
theorem dX0_exchangeMarks_17 : DD cX0_exchangeMarks 17 (.aload_n 0) 1 18 := ⟨by decide +kernel, rfl⟩
theorem dX0_exchangeMarks_18 : DD cX0_exchangeMarks 18 (.getfield 9) 3 21 := ⟨by decide +kernel, rfl⟩
theorem dX0_exchangeMarks_21 : DD cX0_exchangeMarks 21 (.iload_n 1) 1 22 := ⟨by decide +kernel, rfl⟩
theorem dX0_exchangeMarks_22 : DD cX0_exchangeMarks 22 (.iconst 3) 1 23 := ⟨by decide +kernel, rfl⟩
theorem dX0_exchangeMarks_23 : DD cX0_exchangeMarks 23 (.aload_n 0) 1 24 := ⟨by decide +kernel, rfl⟩
theorem dX0_exchangeMarks_24 : DD cX0_exchangeMarks 24 (.getfield 9) 3 27 := ⟨by decide +kernel, rfl⟩
theorem dX0_exchangeMarks_27 : DD cX0_exchangeMarks 27 (.iload_n 1) 1 28 := ⟨by decide +kernel, rfl⟩
theorem dX0_exchangeMarks_28 : DD cX0_exchangeMarks 28 (.iaload) 1 29 := ⟨by decide +kernel, rfl⟩
theorem dX0_exchangeMarks_29 : DD cX0_exchangeMarks 29 (.isub) 1 30 := ⟨by decide +kernel, rfl⟩
theorem dX0_exchangeMarks_30 : DD cX0_exchangeMarks 30 (.iastore) 1 31 := ⟨by decide +kernel, rfl⟩
theorem dX0_exchangeMarks_31 : DD cX0_exchangeMarks 31 (.iinc 1 1) 3 34 := ⟨by decide +kernel, rfl⟩
theorem dX0_exchangeMarks_34 : DB cX0_exchangeMarks 34 (.goto) (-32) 3 37 2 := ⟨by decide +kernel, rfl, rfl⟩
theorem dX0_exchangeMarks_37 : DD cX0_exchangeMarks 37 (.return_) 1 38 := ⟨by decide +kernel, rfl⟩
theorem dX0_putMove_0 : DD cX0_putMove 0 (.aload_n 0) 1 1 := ⟨by decide +kernel, rfl⟩
theorem dX0_putMove_1 : DD cX0_putMove 1 (.getfield 18) 3 4 := ⟨by decide +kernel, rfl⟩
theorem dX0_putMove_4 : DD cX0_putMove 4 (.iload_n 1) 1 5 := ⟨by decide +kernel, rfl⟩
theorem dX0_putMove_5 : DD cX0_putMove 5 (.iconst 4) 1 6 := ⟨by decide +kernel, rfl⟩
theorem dX0_putMove_6 : DD cX0_putMove 6 (.imul) 1 7 := ⟨by decide +kernel, rfl⟩
theorem dX0_putMove_7 : DD cX0_putMove 7 (.aload_n 0) 1 8 := ⟨by decide +kernel, rfl⟩
theorem dX0_putMove_8 : DD cX0_putMove 8 (.getfield 15) 3 11 := ⟨by decide +kernel, rfl⟩
theorem dX0_putMove_11 : DD cX0_putMove 11 (.iload_n 1) 1 12 := ⟨by decide +kernel, rfl⟩
theorem dX0_putMove_12 : DD cX0_putMove 12 (.iaload) 1 13 := ⟨by decide +kernel, rfl⟩
theorem dX0_putMove_13 : DD cX0_putMove 13 (.iadd) 1 14 := ⟨by decide +kernel, rfl⟩
theorem dX0_putMove_14 : DD cX0_putMove 14 (.iload_n 2) 1 15 := ⟨by decide +kernel, rfl⟩
theorem dX0_putMove_15 : DD cX0_putMove 15 (.iastore) 1 16 := ⟨by decide +kernel, rfl⟩
theorem dX0_putMove_16 : DD cX0_putMove 16 (.aload_n 0) 1 17 := ⟨by decide +kernel, rfl⟩
theorem dX0_putMove_17 : DD cX0_putMove 17 (.getfield 15) 3 20 := ⟨by decide +kernel, rfl⟩
theorem dX0_putMove_20 : DD cX0_putMove 20 (.iload_n 1) 1 21 := ⟨by decide +kernel, rfl⟩
theorem dX0_putMove_21 : DD cX0_putMove 21 (.dup2) 1 22 := ⟨by decide +kernel, rfl⟩
theorem dX0_putMove_22 : DD cX0_putMove 22 (.iaload) 1 23 := ⟨by decide +kernel, rfl⟩
theorem dX0_putMove_23 : DD cX0_putMove 23 (.iconst 1) 1 24 := ⟨by decide +kernel, rfl⟩
theorem dX0_putMove_24 : DD cX0_putMove 24 (.iadd) 1 25 := ⟨by decide +kernel, rfl⟩
theorem dX0_putMove_25 : DD cX0_putMove 25 (.iastore) 1 26 := ⟨by decide +kernel, rfl⟩
theorem dX0_putMove_26 : DD cX0_putMove 26 (.return_) 1 27 := ⟨by decide +kernel, rfl⟩
theorem dX0_moveAt_0 : DD cX0_moveAt 0 (.iload_n 2) 1 1 := ⟨by decide +kernel, rfl⟩
theorem dX0_moveAt_1 : DD cX0_moveAt 1 (.aload_n 0) 1 2 := ⟨by decide +kernel, rfl⟩
theorem dX0_moveAt_2 : DD cX0_moveAt 2 (.getfield 15) 3 5 := ⟨by decide +kernel, rfl⟩
theorem dX0_moveAt_5 : DD cX0_moveAt 5 (.iload_n 1) 1 6 := ⟨by decide +kernel, rfl⟩
theorem dX0_moveAt_6 : DD cX0_moveAt 6 (.iaload) 1 7 := ⟨by decide +kernel, rfl⟩
theorem dX0_moveAt_7 : DB cX0_moveAt 7 (.if_icmp .ge) 16 3 10 23 := ⟨by decide +kernel, rfl, rfl⟩
theorem dX0_moveAt_10 : DD cX0_moveAt 10 (.aload_n 0) 1 11 := ⟨by decide +kernel, rfl⟩
theorem dX0_moveAt_11 : DD cX0_moveAt 11 (.getfield 18) 3 14 := ⟨by decide +kernel, rfl⟩
theorem dX0_moveAt_14 : DD cX0_moveAt 14 (.iload_n 1) 1 15 := ⟨by decide +kernel, rfl⟩
theorem dX0_moveAt_15 : DD cX0_moveAt 15 (.iconst 4) 1 16 := ⟨by decide +kernel, rfl⟩
theorem dX0_moveAt_16 : DD cX0_moveAt 16 (.imul) 1 17 := ⟨by decide +kernel, rfl⟩
theorem dX0_moveAt_17 : DD cX0_moveAt 17 (.iload_n 2) 1 18 := ⟨by decide +kernel, rfl⟩
theorem dX0_moveAt_18 : DD cX0_moveAt 18 (.iadd) 1 19 := ⟨by decide +kernel, rfl⟩
theorem dX0_moveAt_19 : DD cX0_moveAt 19 (.iaload) 1 20 := ⟨by decide +kernel, rfl⟩
theorem dX0_moveAt_20 : DB cX0_moveAt 20 (.goto) 4 3 23 24 := ⟨by decide +kernel, rfl, rfl⟩
theorem dX0_moveAt_23 : DD cX0_moveAt 23 (.iconst (-1)) 1 24 := ⟨by decide +kernel, rfl⟩
theorem dX0_moveAt_24 : DD cX0_moveAt 24 (.ireturn) 1 25 := ⟨by decide +kernel, rfl⟩
theorem dX0_hasMove_0 : DD cX0_hasMove 0 (.iconst 0) 1 1 := ⟨by decide +kernel, rfl⟩
theorem dX0_hasMove_1 : DD cX0_hasMove 1 (.istore_n 3) 1 2 := ⟨by decide +kernel, rfl⟩
theorem dX0_hasMove_2 : DD cX0_hasMove 2 (.iload_n 3) 1 3 := ⟨by decide +kernel, rfl⟩
theorem dX0_hasMove_3 : DD cX0_hasMove 3 (.aload_n 0) 1 4 := ⟨by decide +kernel, rfl⟩
theorem dX0_hasMove_4 : DD cX0_hasMove 4 (.getfield 15) 3 7 := ⟨by decide +kernel, rfl⟩
theorem dX0_hasMove_7 : DD cX0_hasMove 7 (.iload_n 1) 1 8 := ⟨by decide +kernel, rfl⟩
theorem dX0_hasMove_8 : DD cX0_hasMove 8 (.iaload) 1 9 := ⟨by decide +kernel, rfl⟩
theorem dX0_hasMove_9 : DB cX0_hasMove 9 (.if_icmp .ge) 25 3 12 34 := ⟨by decide +kernel, rfl, rfl⟩
theorem dX0_hasMove_12 : DD cX0_hasMove 12 (.aload_n 0) 1 13 := ⟨by decide +kernel, rfl⟩
theorem dX0_hasMove_13 : DD cX0_hasMove 13 (.getfield 18) 3 16 := ⟨by decide +kernel, rfl⟩
theorem dX0_hasMove_16 : DD cX0_hasMove 16 (.iload_n 1) 1 17 := ⟨by decide +kernel, rfl⟩
theorem dX0_hasMove_17 : DD cX0_hasMove 17 (.iconst 4) 1 18 := ⟨by decide +kernel, rfl⟩
theorem dX0_hasMove_18 : DD cX0_hasMove 18 (.imul) 1 19 := ⟨by decide +kernel, rfl⟩
theorem dX0_hasMove_19 : DD cX0_hasMove 19 (.iload_n 3) 1 20 := ⟨by decide +kernel, rfl⟩
theorem dX0_hasMove_20 : DD cX0_hasMove 20 (.iadd) 1 21 := ⟨by decide +kernel, rfl⟩
theorem dX0_hasMove_21 : DD cX0_hasMove 21 (.iaload) 1 22 := ⟨by decide +kernel, rfl⟩
theorem dX0_hasMove_22 : DD cX0_hasMove 22 (.iload_n 2) 1 23 := ⟨by decide +kernel, rfl⟩
theorem dX0_hasMove_23 : DB cX0_hasMove 23 (.if_icmp .ne) 5 3 26 28 := ⟨by decide +kernel, rfl, rfl⟩
theorem dX0_hasMove_26 : DD cX0_hasMove 26 (.iconst 1) 1 27 := ⟨by decide +kernel, rfl⟩
theorem dX0_hasMove_27 : DD cX0_hasMove 27 (.ireturn) 1 28 := ⟨by decide +kernel, rfl⟩
theorem dX0_hasMove_28 : DD cX0_hasMove 28 (.iinc 3 1) 3 31 := ⟨by decide +kernel, rfl⟩
theorem dX0_hasMove_31 : DB cX0_hasMove 31 (.goto) (-29) 3 34 2 := ⟨by decide +kernel, rfl, rfl⟩
theorem dX0_hasMove_34 : DD cX0_hasMove 34 (.iconst 0) 1 35 := ⟨by decide +kernel, rfl⟩
theorem dX0_hasMove_35 : DD cX0_hasMove 35 (.ireturn) 1 36 := ⟨by decide +kernel, rfl⟩
theorem dX0_movesTo_0 : DD cX0_movesTo 0 (.iconst 0) 1 1 := ⟨by decide +kernel, rfl⟩
theorem dX0_movesTo_1 : DD cX0_movesTo 1 (.istore_n 2) 1 2 := ⟨by decide +kernel, rfl⟩
theorem dX0_movesTo_2 : DD cX0_movesTo 2 (.iconst 0) 1 3 := ⟨by decide +kernel, rfl⟩
theorem dX0_movesTo_3 : DD cX0_movesTo 3 (.istore_n 3) 1 4 := ⟨by decide +kernel, rfl⟩
theorem dX0_movesTo_4 : DD cX0_movesTo 4 (.iload_n 3) 1 5 := ⟨by decide +kernel, rfl⟩
theorem dX0_movesTo_5 : DD cX0_movesTo 5 (.bipush 8) 2 7 := ⟨by decide +kernel, rfl⟩
theorem dX0_movesTo_7 : DB cX0_movesTo 7 (.if_icmp .ge) 21 3 10 28 := ⟨by decide +kernel, rfl, rfl⟩
theorem dX0_movesTo_10 : DD cX0_movesTo 10 (.aload_n 0) 1 11 := ⟨by decide +kernel, rfl⟩
theorem dX0_movesTo_11 : DD cX0_movesTo 11 (.iload_n 3) 1 12 := ⟨by decide +kernel, rfl⟩
theorem dX0_movesTo_12 : DD cX0_movesTo 12 (.iload_n 1) 1 13 := ⟨by decide +kernel, rfl⟩
theorem dX0_movesTo_13 : DD cX0_movesTo 13 (.invokevirtual 27) 3 16 := ⟨by decide +kernel, rfl⟩
theorem dX0_movesTo_16 : DB cX0_movesTo 16 (.ifCond .eq) 6 3 19 22 := ⟨by decide +kernel, rfl, rfl⟩
theorem dX0_movesTo_19 : DD cX0_movesTo 19 (.iinc 2 1) 3 22 := ⟨by decide +kernel, rfl⟩
theorem dX0_movesTo_22 : DD cX0_movesTo 22 (.iinc 3 1) 3 25 := ⟨by decide +kernel, rfl⟩
theorem dX0_movesTo_25 : DB cX0_movesTo 25 (.goto) (-21) 3 28 4 := ⟨by decide +kernel, rfl, rfl⟩
theorem dX0_movesTo_28 : DD cX0_movesTo 28 (.iload_n 2) 1 29 := ⟨by decide +kernel, rfl⟩
theorem dX0_movesTo_29 : DD cX0_movesTo 29 (.ireturn) 1 30 := ⟨by decide +kernel, rfl⟩
theorem dX0_allMoves_0 : DD cX0_allMoves 0 (.iconst 0) 1 1 := ⟨by decide +kernel, rfl⟩
theorem dX0_allMoves_1 : DD cX0_allMoves 1 (.istore_n 1) 1 2 := ⟨by decide +kernel, rfl⟩
theorem dX0_allMoves_2 : DD cX0_allMoves 2 (.iconst 0) 1 3 := ⟨by decide +kernel, rfl⟩
theorem dX0_allMoves_3 : DD cX0_allMoves 3 (.istore_n 2) 1 4 := ⟨by decide +kernel, rfl⟩
theorem dX0_allMoves_4 : DD cX0_allMoves 4 (.iload_n 2) 1 5 := ⟨by decide +kernel, rfl⟩
theorem dX0_allMoves_5 : DD cX0_allMoves 5 (.bipush 8) 2 7 := ⟨by decide +kernel, rfl⟩
theorem dX0_allMoves_7 : DB cX0_allMoves 7 (.if_icmp .ge) 18 3 10 25 := ⟨by decide +kernel, rfl, rfl⟩
theorem dX0_allMoves_10 : DD cX0_allMoves 10 (.iload_n 1) 1 11 := ⟨by decide +kernel, rfl⟩
theorem dX0_allMoves_11 : DD cX0_allMoves 11 (.aload_n 0) 1 12 := ⟨by decide +kernel, rfl⟩
theorem dX0_allMoves_12 : DD cX0_allMoves 12 (.getfield 15) 3 15 := ⟨by decide +kernel, rfl⟩
theorem dX0_allMoves_15 : DD cX0_allMoves 15 (.iload_n 2) 1 16 := ⟨by decide +kernel, rfl⟩
theorem dX0_allMoves_16 : DD cX0_allMoves 16 (.iaload) 1 17 := ⟨by decide +kernel, rfl⟩
theorem dX0_allMoves_17 : DD cX0_allMoves 17 (.iadd) 1 18 := ⟨by decide +kernel, rfl⟩
theorem dX0_allMoves_18 : DD cX0_allMoves 18 (.istore_n 1) 1 19 := ⟨by decide +kernel, rfl⟩
theorem dX0_allMoves_19 : DD cX0_allMoves 19 (.iinc 2 1) 3 22 := ⟨by decide +kernel, rfl⟩
theorem dX0_allMoves_22 : DB cX0_allMoves 22 (.goto) (-18) 3 25 4 := ⟨by decide +kernel, rfl, rfl⟩
theorem dX0_allMoves_25 : DD cX0_allMoves 25 (.iload_n 1) 1 26 := ⟨by decide +kernel, rfl⟩
theorem dX0_allMoves_26 : DD cX0_allMoves 26 (.ireturn) 1 27 := ⟨by decide +kernel, rfl⟩
theorem dX0_isWonFor_0 : DD cX0_isWonFor 0 (.aload_n 0) 1 1 := ⟨by decide +kernel, rfl⟩
theorem dX0_isWonFor_1 : DD cX0_isWonFor 1 (.getfield 9) 3 4 := ⟨by decide +kernel, rfl⟩
theorem dX0_isWonFor_4 : DD cX0_isWonFor 4 (.iload_n 2) 1 5 := ⟨by decide +kernel, rfl⟩
theorem dX0_isWonFor_5 : DD cX0_isWonFor 5 (.iaload) 1 6 := ⟨by decide +kernel, rfl⟩
theorem dX0_isWonFor_6 : DD cX0_isWonFor 6 (.iload_n 1) 1 7 := ⟨by decide +kernel, rfl⟩
theorem dX0_isWonFor_7 : DD cX0_isWonFor 7 (.iconst 1) 1 8 := ⟨by decide +kernel, rfl⟩
theorem dX0_isWonFor_8 : DD cX0_isWonFor 8 (.iadd) 1 9 := ⟨by decide +kernel, rfl⟩
theorem dX0_isWonFor_9 : DB cX0_isWonFor 9 (.if_icmp .ne) 7 3 12 16 := ⟨by decide +kernel, rfl, rfl⟩
theorem dX0_isWonFor_12 : DD cX0_isWonFor 12 (.iconst 1) 1 13 := ⟨by decide +kernel, rfl⟩
theorem dX0_isWonFor_13 : DB cX0_isWonFor 13 (.goto) 4 3 16 17 := ⟨by decide +kernel, rfl, rfl⟩
theorem dX0_isWonFor_16 : DD cX0_isWonFor 16 (.iconst 0) 1 17 := ⟨by decide +kernel, rfl⟩
theorem dX0_isWonFor_17 : DD cX0_isWonFor 17 (.ireturn) 1 18 := ⟨by decide +kernel, rfl⟩
theorem dX0_wonFor_0 : DD cX0_wonFor 0 (.iconst 0) 1 1 := ⟨by decide +kernel, rfl⟩
theorem dX0_wonFor_1 : DD cX0_wonFor 1 (.istore_n 2) 1 2 := ⟨by decide +kernel, rfl⟩
theorem dX0_wonFor_2 : DD cX0_wonFor 2 (.iconst 0) 1 3 := ⟨by decide +kernel, rfl⟩
theorem dX0_wonFor_3 : DD cX0_wonFor 3 (.istore_n 3) 1 4 := ⟨by decide +kernel, rfl⟩
theorem dX0_wonFor_4 : DD cX0_wonFor 4 (.iload_n 3) 1 5 := ⟨by decide +kernel, rfl⟩
theorem dX0_wonFor_5 : DD cX0_wonFor 5 (.bipush 8) 2 7 := ⟨by decide +kernel, rfl⟩
theorem dX0_wonFor_7 : DB cX0_wonFor 7 (.if_icmp .ge) 21 3 10 28 := ⟨by decide +kernel, rfl, rfl⟩
theorem dX0_wonFor_10 : DD cX0_wonFor 10 (.aload_n 0) 1 11 := ⟨by decide +kernel, rfl⟩
theorem dX0_wonFor_11 : DD cX0_wonFor 11 (.iload_n 1) 1 12 := ⟨by decide +kernel, rfl⟩
theorem dX0_wonFor_12 : DD cX0_wonFor 12 (.iload_n 3) 1 13 := ⟨by decide +kernel, rfl⟩
theorem dX0_wonFor_13 : DD cX0_wonFor 13 (.invokevirtual 31) 3 16 := ⟨by decide +kernel, rfl⟩
theorem dX0_wonFor_16 : DB cX0_wonFor 16 (.ifCond .eq) 6 3 19 22 := ⟨by decide +kernel, rfl, rfl⟩
theorem dX0_wonFor_19 : DD cX0_wonFor 19 (.iinc 2 1) 3 22 := ⟨by decide +kernel, rfl⟩
theorem dX0_wonFor_22 : DD cX0_wonFor 22 (.iinc 3 1) 3 25 := ⟨by decide +kernel, rfl⟩
theorem dX0_wonFor_25 : DB cX0_wonFor 25 (.goto) (-21) 3 28 4 := ⟨by decide +kernel, rfl, rfl⟩
theorem dX0_wonFor_28 : DD cX0_wonFor 28 (.iload_n 2) 1 29 := ⟨by decide +kernel, rfl⟩
theorem dX0_wonFor_29 : DD cX0_wonFor 29 (.ireturn) 1 30 := ⟨by decide +kernel, rfl⟩
theorem dX0_isEnd_0 : DD cX0_isEnd 0 (.aload_n 0) 1 1 := ⟨by decide +kernel, rfl⟩
theorem dX0_isEnd_1 : DD cX0_isEnd 1 (.getfield 9) 3 4 := ⟨by decide +kernel, rfl⟩
theorem dX0_isEnd_4 : DD cX0_isEnd 4 (.iload_n 1) 1 5 := ⟨by decide +kernel, rfl⟩
theorem dX0_isEnd_5 : DD cX0_isEnd 5 (.iaload) 1 6 := ⟨by decide +kernel, rfl⟩
theorem dX0_isEnd_6 : DB cX0_isEnd 6 (.ifCond .ne) 12 3 9 18 := ⟨by decide +kernel, rfl, rfl⟩
theorem dX0_isEnd_9 : DD cX0_isEnd 9 (.aload_n 0) 1 10 := ⟨by decide +kernel, rfl⟩
theorem dX0_isEnd_10 : DD cX0_isEnd 10 (.getfield 15) 3 13 := ⟨by decide +kernel, rfl⟩
theorem dX0_isEnd_13 : DD cX0_isEnd 13 (.iload_n 1) 1 14 := ⟨by decide +kernel, rfl⟩
theorem dX0_isEnd_14 : DD cX0_isEnd 14 (.iaload) 1 15 := ⟨by decide +kernel, rfl⟩
theorem dX0_isEnd_15 : DB cX0_isEnd 15 (.ifCond .ne) 7 3 18 22 := ⟨by decide +kernel, rfl, rfl⟩
theorem dX0_isEnd_18 : DD cX0_isEnd 18 (.iconst 1) 1 19 := ⟨by decide +kernel, rfl⟩
theorem dX0_isEnd_19 : DB cX0_isEnd 19 (.goto) 4 3 22 23 := ⟨by decide +kernel, rfl, rfl⟩
theorem dX0_isEnd_22 : DD cX0_isEnd 22 (.iconst 0) 1 23 := ⟨by decide +kernel, rfl⟩
theorem dX0_isEnd_23 : DD cX0_isEnd 23 (.ireturn) 1 24 := ⟨by decide +kernel, rfl⟩
theorem dX1_init_0 : DD cX1_init 0 (.aload_n 0) 1 1 := ⟨by decide +kernel, rfl⟩
theorem dX1_init_1 : DD cX1_init 1 (.invokespecial 3) 3 4 := ⟨by decide +kernel, rfl⟩
theorem dX1_init_4 : DD cX1_init 4 (.aload_n 0) 1 5 := ⟨by decide +kernel, rfl⟩
theorem dX1_init_5 : DD cX1_init 5 (.bipush 60) 2 7 := ⟨by decide +kernel, rfl⟩
theorem dX1_init_7 : DD cX1_init 7 (.newarray .char) 2 9 := ⟨by decide +kernel, rfl⟩
theorem dX1_init_9 : DD cX1_init 9 (.putfield 9) 3 12 := ⟨by decide +kernel, rfl⟩
theorem dX1_init_12 : DD cX1_init 12 (.aload_n 0) 1 13 := ⟨by decide +kernel, rfl⟩
theorem dX1_init_13 : DD cX1_init 13 (.iconst 0) 1 14 := ⟨by decide +kernel, rfl⟩
theorem dX1_init_14 : DD cX1_init 14 (.putfield 15) 3 17 := ⟨by decide +kernel, rfl⟩
theorem dX1_init_17 : DD cX1_init 17 (.aload_n 0) 1 18 := ⟨by decide +kernel, rfl⟩
theorem dX1_init_18 : DD cX1_init 18 (.new 19) 3 21 := ⟨by decide +kernel, rfl⟩
theorem dX1_init_21 : DD cX1_init 21 (.dup) 1 22 := ⟨by decide +kernel, rfl⟩
theorem dX1_init_22 : DD cX1_init 22 (.invokespecial 21) 3 25 := ⟨by decide +kernel, rfl⟩
theorem dX1_init_25 : DD cX1_init 25 (.putfield 22) 3 28 := ⟨by decide +kernel, rfl⟩
theorem dX1_init_28 : DD cX1_init 28 (.aload_n 0) 1 29 := ⟨by decide +kernel, rfl⟩
theorem dX1_init_29 : DD cX1_init 29 (.bipush 8) 2 31 := ⟨by decide +kernel, rfl⟩
theorem dX1_init_31 : DD cX1_init 31 (.newarray .boolean) 2 33 := ⟨by decide +kernel, rfl⟩
theorem dX1_init_33 : DD cX1_init 33 (.putfield 26) 3 36 := ⟨by decide +kernel, rfl⟩
theorem dX1_init_36 : DD cX1_init 36 (.aload_n 0) 1 37 := ⟨by decide +kernel, rfl⟩
theorem dX1_init_37 : DD cX1_init 37 (.iconst 0) 1 38 := ⟨by decide +kernel, rfl⟩
theorem dX1_init_38 : DD cX1_init 38 (.putfield 30) 3 41 := ⟨by decide +kernel, rfl⟩
theorem dX1_init_41 : DD cX1_init 41 (.aload_n 0) 1 42 := ⟨by decide +kernel, rfl⟩
theorem dX1_init_42 : DD cX1_init 42 (.iconst 0) 1 43 := ⟨by decide +kernel, rfl⟩
theorem dX1_init_43 : DD cX1_init 43 (.putfield 33) 3 46 := ⟨by decide +kernel, rfl⟩
theorem dX1_init_46 : DD cX1_init 46 (.aload_n 0) 1 47 := ⟨by decide +kernel, rfl⟩
theorem dX1_init_47 : DD cX1_init 47 (.iconst 0) 1 48 := ⟨by decide +kernel, rfl⟩
theorem dX1_init_48 : DD cX1_init 48 (.putfield 36) 3 51 := ⟨by decide +kernel, rfl⟩
theorem dX1_init_51 : DD cX1_init 51 (.return_) 1 52 := ⟨by decide +kernel, rfl⟩
theorem dX1_scan_0 : DD cX1_scan 0 (.aload_n 0) 1 1 := ⟨by decide +kernel, rfl⟩
theorem dX1_scan_1 : DD cX1_scan 1 (.getfield 22) 3 4 := ⟨by decide +kernel, rfl⟩
theorem dX1_scan_4 : DD cX1_scan 4 (.invokevirtual 39) 3 7 := ⟨by decide +kernel, rfl⟩
theorem dX1_scan_7 : DD cX1_scan 7 (.iconst 0) 1 8 := ⟨by decide +kernel, rfl⟩
theorem dX1_scan_8 : DD cX1_scan 8 (.istore_n 1) 1 9 := ⟨by decide +kernel, rfl⟩
theorem dX1_scan_9 : DD cX1_scan 9 (.iload_n 1) 1 10 := ⟨by decide +kernel, rfl⟩
theorem dX1_scan_10 : DD cX1_scan 10 (.bipush 8) 2 12 := ⟨by decide +kernel, rfl⟩
theorem dX1_scan_12 : DB cX1_scan 12 (.if_icmp .ge) 16 3 15 28 := ⟨by decide +kernel, rfl, rfl⟩
theorem dX1_scan_15 : DD cX1_scan 15 (.aload_n 0) 1 16 := ⟨by decide +kernel, rfl⟩
theorem dX1_scan_16 : DD cX1_scan 16 (.getfield 26) 3 19 := ⟨by decide +kernel, rfl⟩
theorem dX1_scan_19 : DD cX1_scan 19 (.iload_n 1) 1 20 := ⟨by decide +kernel, rfl⟩
theorem dX1_scan_20 : DD cX1_scan 20 (.iconst 0) 1 21 := ⟨by decide +kernel, rfl⟩
theorem dX1_scan_21 : DD cX1_scan 21 (.bastore) 1 22 := ⟨by decide +kernel, rfl⟩
theorem dX1_scan_22 : DD cX1_scan 22 (.iinc 1 1) 3 25 := ⟨by decide +kernel, rfl⟩
theorem dX1_scan_25 : DB cX1_scan 25 (.goto) (-16) 3 28 9 := ⟨by decide +kernel, rfl, rfl⟩
theorem dX1_scan_28 : DD cX1_scan 28 (.aload_n 0) 1 29 := ⟨by decide +kernel, rfl⟩
theorem dX1_scan_29 : DD cX1_scan 29 (.iconst 0) 1 30 := ⟨by decide +kernel, rfl⟩
theorem dX1_scan_30 : DD cX1_scan 30 (.putfield 30) 3 33 := ⟨by decide +kernel, rfl⟩
theorem dX1_scan_33 : DD cX1_scan 33 (.aload_n 0) 1 34 := ⟨by decide +kernel, rfl⟩
theorem dX1_scan_34 : DD cX1_scan 34 (.iconst 0) 1 35 := ⟨by decide +kernel, rfl⟩
theorem dX1_scan_35 : DD cX1_scan 35 (.putfield 36) 3 38 := ⟨by decide +kernel, rfl⟩
theorem dX1_scan_38 : DD cX1_scan 38 (.iconst 0) 1 39 := ⟨by decide +kernel, rfl⟩
theorem dX1_scan_39 : DD cX1_scan 39 (.istore_n 1) 1 40 := ⟨by decide +kernel, rfl⟩
theorem dX1_scan_40 : DD cX1_scan 40 (.iload_n 1) 1 41 := ⟨by decide +kernel, rfl⟩
theorem dX1_scan_41 : DD cX1_scan 41 (.aload_n 0) 1 42 := ⟨by decide +kernel, rfl⟩
theorem dX1_scan_42 : DD cX1_scan 42 (.getfield 15) 3 45 := ⟨by decide +kernel, rfl⟩
theorem dX1_scan_45 : DB cX1_scan 45 (.if_icmp .ge) 24 3 48 69 := ⟨by decide +kernel, rfl, rfl⟩
theorem dX1_scan_48 : DD cX1_scan 48 (.aload_n 0) 1 49 := ⟨by decide +kernel, rfl⟩
theorem dX1_scan_49 : DD cX1_scan 49 (.aload_n 0) 1 50 := ⟨by decide +kernel, rfl⟩
theorem dX1_scan_50 : DD cX1_scan 50 (.getfield 9) 3 53 := ⟨by decide +kernel, rfl⟩
theorem dX1_scan_53 : DD cX1_scan 53 (.iload_n 1) 1 54 := ⟨by decide +kernel, rfl⟩
theorem dX1_scan_54 : DD cX1_scan 54 (.caload) 1 55 := ⟨by decide +kernel, rfl⟩
theorem dX1_scan_55 : DD cX1_scan 55 (.invokevirtual 42) 3 58 := ⟨by decide +kernel, rfl⟩
theorem dX1_scan_58 : DB cX1_scan 58 (.ifCond .ne) 5 3 61 63 := ⟨by decide +kernel, rfl, rfl⟩
theorem dX1_scan_61 : DD cX1_scan 61 (.iload_n 1) 1 62 := ⟨by decide +kernel, rfl⟩
theorem dX1_scan_62 : DD cX1_scan 62 (.ireturn) 1 63 := ⟨by decide +kernel, rfl⟩
theorem dX1_scan_63 : DD cX1_scan 63 (.iinc 1 1) 3 66 := ⟨by decide +kernel, rfl⟩
theorem dX1_scan_66 : DB cX1_scan 66 (.goto) (-26) 3 69 40 := ⟨by decide +kernel, rfl, rfl⟩
theorem dX1_scan_69 : DD cX1_scan 69 (.aload_n 0) 1 70 := ⟨by decide +kernel, rfl⟩
theorem dX1_scan_70 : DD cX1_scan 70 (.getfield 15) 3 73 := ⟨by decide +kernel, rfl⟩
theorem dX1_scan_73 : DD cX1_scan 73 (.ireturn) 1 74 := ⟨by decide +kernel, rfl⟩
theorem dX1_isWhole_0 : DD cX1_isWhole 0 (.aload_n 0) 1 1 := ⟨by decide +kernel, rfl⟩
theorem dX1_isWhole_1 : DD cX1_isWhole 1 (.getfield 36) 3 4 := ⟨by decide +kernel, rfl⟩
theorem dX1_isWhole_4 : DD cX1_isWhole 4 (.iconst 3) 1 5 := ⟨by decide +kernel, rfl⟩
theorem dX1_isWhole_5 : DB cX1_isWhole 5 (.if_icmp .eq) 11 3 8 16 := ⟨by decide +kernel, rfl, rfl⟩
theorem dX1_isWhole_8 : DD cX1_isWhole 8 (.aload_n 0) 1 9 := ⟨by decide +kernel, rfl⟩
theorem dX1_isWhole_9 : DD cX1_isWhole 9 (.getfield 36) 3 12 := ⟨by decide +kernel, rfl⟩
theorem dX1_isWhole_12 : DD cX1_isWhole 12 (.iconst 4) 1 13 := ⟨by decide +kernel, rfl⟩
theorem dX1_isWhole_13 : DB cX1_isWhole 13 (.if_icmp .ne) 7 3 16 20 := ⟨by decide +kernel, rfl, rfl⟩
theorem dX1_isWhole_16 : DD cX1_isWhole 16 (.iconst 1) 1 17 := ⟨by decide +kernel, rfl⟩
theorem dX1_isWhole_17 : DB cX1_isWhole 17 (.goto) 4 3 20 21 := ⟨by decide +kernel, rfl, rfl⟩
theorem dX1_isWhole_20 : DD cX1_isWhole 20 (.iconst 0) 1 21 := ⟨by decide +kernel, rfl⟩
theorem dX1_isWhole_21 : DD cX1_isWhole 21 (.ireturn) 1 22 := ⟨by decide +kernel, rfl⟩
theorem dX1_takes_0 : DD cX1_takes 0 (.aload_n 0) 1 1 := ⟨by decide +kernel, rfl⟩
theorem dX1_takes_1 : DD cX1_takes 1 (.getfield 36) 3 4 := ⟨by decide +kernel, rfl⟩
theorem dX1_takes_4 : decode cX1_takes 4 = .ok (.tableswitch 108 0 3 #[32, 41, 58, 83], 32) := by decide +kernel
theorem dX1_takes_36 : DD cX1_takes 36 (.aload_n 0) 1 37 := ⟨by decide +kernel, rfl⟩
theorem dX1_takes_37 : DD cX1_takes 37 (.iload_n 1) 1 38 := ⟨by decide +kernel, rfl⟩
theorem dX1_takes_38 : DD cX1_takes 38 (.invokestatic 46) 3 41 := ⟨by decide +kernel, rfl⟩
theorem dX1_takes_41 : DD cX1_takes 41 (.invokevirtual 50) 3 44 := ⟨by decide +kernel, rfl⟩
theorem dX1_takes_44 : DD cX1_takes 44 (.ireturn) 1 45 := ⟨by decide +kernel, rfl⟩
theorem dX1_takes_45 : DD cX1_takes 45 (.aload_n 0) 1 46 := ⟨by decide +kernel, rfl⟩
theorem dX1_takes_46 : DD cX1_takes 46 (.iconst 2) 1 47 := ⟨by decide +kernel, rfl⟩
theorem dX1_takes_47 : DD cX1_takes 47 (.putfield 36) 3 50 := ⟨by decide +kernel, rfl⟩
theorem dX1_takes_50 : DD cX1_takes 50 (.iload_n 1) 1 51 := ⟨by decide +kernel, rfl⟩
theorem dX1_takes_51 : DD cX1_takes 51 (.bipush 58) 2 53 := ⟨by decide +kernel, rfl⟩
theorem dX1_takes_53 : DB cX1_takes 53 (.if_icmp .ne) 7 3 56 60 := ⟨by decide +kernel, rfl, rfl⟩
theorem dX1_takes_56 : DD cX1_takes 56 (.iconst 1) 1 57 := ⟨by decide +kernel, rfl⟩
theorem dX1_takes_57 : DB cX1_takes 57 (.goto) 4 3 60 61 := ⟨by decide +kernel, rfl, rfl⟩
theorem dX1_takes_60 : DD cX1_takes 60 (.iconst 0) 1 61 := ⟨by decide +kernel, rfl⟩
theorem dX1_takes_61 : DD cX1_takes 61 (.ireturn) 1 62 := ⟨by decide +kernel, rfl⟩
theorem dX1_takes_62 : DD cX1_takes 62 (.aload_n 0) 1 63 := ⟨by decide +kernel, rfl⟩
theorem dX1_takes_63 : DD cX1_takes 63 (.iload_n 1) 1 64 := ⟨by decide +kernel, rfl⟩
theorem dX1_takes_64 : DD cX1_takes 64 (.invokevirtual 54) 3 67 := ⟨by decide +kernel, rfl⟩
theorem dX1_takes_67 : DB cX1_takes 67 (.ifCond .ne) 14 3 70 81 := ⟨by decide +kernel, rfl, rfl⟩
theorem dX1_takes_70 : DD cX1_takes 70 (.aload_n 0) 1 71 := ⟨by decide +kernel, rfl⟩
theorem dX1_takes_71 : DD cX1_takes 71 (.iload_n 1) 1 72 := ⟨by decide +kernel, rfl⟩
theorem dX1_takes_72 : DD cX1_takes 72 (.invokestatic 46) 3 75 := ⟨by decide +kernel, rfl⟩
theorem dX1_takes_75 : DD cX1_takes 75 (.invokevirtual 57) 3 78 := ⟨by decide +kernel, rfl⟩
theorem dX1_takes_78 : DB cX1_takes 78 (.ifCond .eq) 7 3 81 85 := ⟨by decide +kernel, rfl, rfl⟩
theorem dX1_takes_81 : DD cX1_takes 81 (.iconst 1) 1 82 := ⟨by decide +kernel, rfl⟩
theorem dX1_takes_82 : DB cX1_takes 82 (.goto) 4 3 85 86 := ⟨by decide +kernel, rfl, rfl⟩
theorem dX1_takes_85 : DD cX1_takes 85 (.iconst 0) 1 86 := ⟨by decide +kernel, rfl⟩
theorem dX1_takes_86 : DD cX1_takes 86 (.ireturn) 1 87 := ⟨by decide +kernel, rfl⟩
theorem dX1_takes_87 : DD cX1_takes 87 (.aload_n 0) 1 88 := ⟨by decide +kernel, rfl⟩
theorem dX1_takes_88 : DD cX1_takes 88 (.iload_n 1) 1 89 := ⟨by decide +kernel, rfl⟩
theorem dX1_takes_89 : DD cX1_takes 89 (.invokestatic 46) 3 92 := ⟨by decide +kernel, rfl⟩
theorem dX1_takes_92 : DD cX1_takes 92 (.invokevirtual 57) 3 95 := ⟨by decide +kernel, rfl⟩
theorem dX1_takes_95 : DB cX1_takes 95 (.ifCond .ne) 11 3 98 106 := ⟨by decide +kernel, rfl, rfl⟩
theorem dX1_takes_98 : DD cX1_takes 98 (.aload_n 0) 1 99 := ⟨by decide +kernel, rfl⟩
theorem dX1_takes_99 : DD cX1_takes 99 (.iload_n 1) 1 100 := ⟨by decide +kernel, rfl⟩
theorem dX1_takes_100 : DD cX1_takes 100 (.invokevirtual 60) 3 103 := ⟨by decide +kernel, rfl⟩
theorem dX1_takes_103 : DB cX1_takes 103 (.ifCond .eq) 7 3 106 110 := ⟨by decide +kernel, rfl, rfl⟩
theorem dX1_takes_106 : DD cX1_takes 106 (.iconst 1) 1 107 := ⟨by decide +kernel, rfl⟩
theorem dX1_takes_107 : DB cX1_takes 107 (.goto) 4 3 110 111 := ⟨by decide +kernel, rfl, rfl⟩
theorem dX1_takes_110 : DD cX1_takes 110 (.iconst 0) 1 111 := ⟨by decide +kernel, rfl⟩
theorem dX1_takes_111 : DD cX1_takes 111 (.ireturn) 1 112 := ⟨by decide +kernel, rfl⟩
theorem dX1_takes_112 : DD cX1_takes 112 (.aload_n 0) 1 113 := ⟨by decide +kernel, rfl⟩
theorem dX1_takes_113 : DD cX1_takes 113 (.iload_n 1) 1 114 := ⟨by decide +kernel, rfl⟩
theorem dX1_takes_114 : DD cX1_takes 114 (.invokevirtual 60) 3 117 := ⟨by decide +kernel, rfl⟩
theorem dX1_takes_117 : DD cX1_takes 117 (.ireturn) 1 118 := ⟨by decide +kernel, rfl⟩
theorem dX1_positionBy_0 : DD cX1_positionBy 0 (.iload_n 0) 1 1 := ⟨by decide +kernel, rfl⟩
theorem dX1_positionBy_1 : DD cX1_positionBy 1 (.bipush 48) 2 3 := ⟨by decide +kernel, rfl⟩
theorem dX1_positionBy_3 : DB cX1_positionBy 3 (.if_icmp .lt) 16 3 6 19 := ⟨by decide +kernel, rfl, rfl⟩
theorem dX1_positionBy_6 : DD cX1_positionBy 6 (.iload_n 0) 1 7 := ⟨by decide +kernel, rfl⟩
theorem dX1_positionBy_7 : DD cX1_positionBy 7 (.bipush 56) 2 9 := ⟨by decide +kernel, rfl⟩
theorem dX1_positionBy_9 : DB cX1_positionBy 9 (.if_icmp .ge) 10 3 12 19 := ⟨by decide +kernel, rfl, rfl⟩
theorem dX1_positionBy_12 : DD cX1_positionBy 12 (.iload_n 0) 1 13 := ⟨by decide +kernel, rfl⟩
theorem dX1_positionBy_13 : DD cX1_positionBy 13 (.bipush 48) 2 15 := ⟨by decide +kernel, rfl⟩
theorem dX1_positionBy_15 : DD cX1_positionBy 15 (.isub) 1 16 := ⟨by decide +kernel, rfl⟩
theorem dX1_positionBy_16 : DB cX1_positionBy 16 (.goto) 4 3 19 20 := ⟨by decide +kernel, rfl, rfl⟩
theorem dX1_positionBy_19 : DD cX1_positionBy 19 (.iconst (-1)) 1 20 := ⟨by decide +kernel, rfl⟩
theorem dX1_positionBy_20 : DD cX1_positionBy 20 (.ireturn) 1 21 := ⟨by decide +kernel, rfl⟩
theorem dX1_takesPosition_0 : DD cX1_takesPosition 0 (.iload_n 1) 1 1 := ⟨by decide +kernel, rfl⟩
theorem dX1_takesPosition_1 : DD cX1_takesPosition 1 (.iconst (-1)) 1 2 := ⟨by decide +kernel, rfl⟩
theorem dX1_takesPosition_2 : DB cX1_takesPosition 2 (.if_icmp .eq) 12 3 5 14 := ⟨by decide +kernel, rfl, rfl⟩
theorem dX1_takesPosition_5 : DD cX1_takesPosition 5 (.aload_n 0) 1 6 := ⟨by decide +kernel, rfl⟩
theorem dX1_takesPosition_6 : DD cX1_takesPosition 6 (.getfield 26) 3 9 := ⟨by decide +kernel, rfl⟩
theorem dX1_takesPosition_9 : DD cX1_takesPosition 9 (.iload_n 1) 1 10 := ⟨by decide +kernel, rfl⟩
theorem dX1_takesPosition_10 : DD cX1_takesPosition 10 (.baload) 1 11 := ⟨by decide +kernel, rfl⟩
theorem dX1_takesPosition_11 : DB cX1_takesPosition 11 (.ifCond .eq) 5 3 14 16 := ⟨by decide +kernel, rfl, rfl⟩
theorem dX1_takesPosition_14 : DD cX1_takesPosition 14 (.iconst 0) 1 15 := ⟨by decide +kernel, rfl⟩
theorem dX1_takesPosition_15 : DD cX1_takesPosition 15 (.ireturn) 1 16 := ⟨by decide +kernel, rfl⟩
theorem dX1_takesPosition_16 : DD cX1_takesPosition 16 (.aload_n 0) 1 17 := ⟨by decide +kernel, rfl⟩
theorem dX1_takesPosition_17 : DD cX1_takesPosition 17 (.getfield 26) 3 20 := ⟨by decide +kernel, rfl⟩
theorem dX1_takesPosition_20 : DD cX1_takesPosition 20 (.iload_n 1) 1 21 := ⟨by decide +kernel, rfl⟩
theorem dX1_takesPosition_21 : DD cX1_takesPosition 21 (.iconst 1) 1 22 := ⟨by decide +kernel, rfl⟩
theorem dX1_takesPosition_22 : DD cX1_takesPosition 22 (.bastore) 1 23 := ⟨by decide +kernel, rfl⟩
theorem dX1_takesPosition_23 : DD cX1_takesPosition 23 (.aload_n 0) 1 24 := ⟨by decide +kernel, rfl⟩
theorem dX1_takesPosition_24 : DD cX1_takesPosition 24 (.iload_n 1) 1 25 := ⟨by decide +kernel, rfl⟩
theorem dX1_takesPosition_25 : DD cX1_takesPosition 25 (.putfield 33) 3 28 := ⟨by decide +kernel, rfl⟩
theorem dX1_takesPosition_28 : DD cX1_takesPosition 28 (.aload_n 0) 1 29 := ⟨by decide +kernel, rfl⟩
theorem dX1_takesPosition_29 : DD cX1_takesPosition 29 (.dup) 1 30 := ⟨by decide +kernel, rfl⟩
theorem dX1_takesPosition_30 : DD cX1_takesPosition 30 (.getfield 30) 3 33 := ⟨by decide +kernel, rfl⟩
theorem dX1_takesPosition_33 : DD cX1_takesPosition 33 (.iconst 1) 1 34 := ⟨by decide +kernel, rfl⟩
theorem dX1_takesPosition_34 : DD cX1_takesPosition 34 (.iadd) 1 35 := ⟨by decide +kernel, rfl⟩
theorem dX1_takesPosition_35 : DD cX1_takesPosition 35 (.putfield 30) 3 38 := ⟨by decide +kernel, rfl⟩
theorem dX1_takesPosition_38 : DD cX1_takesPosition 38 (.aload_n 0) 1 39 := ⟨by decide +kernel, rfl⟩
theorem dX1_takesPosition_39 : DD cX1_takesPosition 39 (.iconst 1) 1 40 := ⟨by decide +kernel, rfl⟩
theorem dX1_takesPosition_40 : DD cX1_takesPosition 40 (.putfield 36) 3 43 := ⟨by decide +kernel, rfl⟩
theorem dX1_takesPosition_43 : DD cX1_takesPosition 43 (.iconst 1) 1 44 := ⟨by decide +kernel, rfl⟩
theorem dX1_takesPosition_44 : DD cX1_takesPosition 44 (.ireturn) 1 45 := ⟨by decide +kernel, rfl⟩
theorem dX1_takesMark_0 : DD cX1_takesMark 0 (.iload_n 1) 1 1 := ⟨by decide +kernel, rfl⟩
theorem dX1_takesMark_1 : DD cX1_takesMark 1 (.bipush 65) 2 3 := ⟨by decide +kernel, rfl⟩
theorem dX1_takesMark_3 : DB cX1_takesMark 3 (.if_icmp .eq) 11 3 6 14 := ⟨by decide +kernel, rfl, rfl⟩
theorem dX1_takesMark_6 : DD cX1_takesMark 6 (.iload_n 1) 1 7 := ⟨by decide +kernel, rfl⟩
theorem dX1_takesMark_7 : DD cX1_takesMark 7 (.bipush 66) 2 9 := ⟨by decide +kernel, rfl⟩
theorem dX1_takesMark_9 : DB cX1_takesMark 9 (.if_icmp .eq) 5 3 12 14 := ⟨by decide +kernel, rfl, rfl⟩
theorem dX1_takesMark_12 : DD cX1_takesMark 12 (.iconst 0) 1 13 := ⟨by decide +kernel, rfl⟩
theorem dX1_takesMark_13 : DD cX1_takesMark 13 (.ireturn) 1 14 := ⟨by decide +kernel, rfl⟩
theorem dX1_takesMark_14 : DD cX1_takesMark 14 (.aload_n 0) 1 15 := ⟨by decide +kernel, rfl⟩
theorem dX1_takesMark_15 : DD cX1_takesMark 15 (.getfield 22) 3 18 := ⟨by decide +kernel, rfl⟩
theorem dX1_takesMark_18 : DD cX1_takesMark 18 (.getfield 63) 3 21 := ⟨by decide +kernel, rfl⟩
theorem dX1_takesMark_21 : DD cX1_takesMark 21 (.aload_n 0) 1 22 := ⟨by decide +kernel, rfl⟩
theorem dX1_takesMark_22 : DD cX1_takesMark 22 (.getfield 33) 3 25 := ⟨by decide +kernel, rfl⟩
theorem dX1_takesMark_25 : DD cX1_takesMark 25 (.iload_n 1) 1 26 := ⟨by decide +kernel, rfl⟩
theorem dX1_takesMark_26 : DD cX1_takesMark 26 (.bipush 65) 2 28 := ⟨by decide +kernel, rfl⟩
theorem dX1_takesMark_28 : DB cX1_takesMark 28 (.if_icmp .ne) 7 3 31 35 := ⟨by decide +kernel, rfl, rfl⟩
theorem dX1_takesMark_31 : DD cX1_takesMark 31 (.iconst 1) 1 32 := ⟨by decide +kernel, rfl⟩
theorem dX1_takesMark_32 : DB cX1_takesMark 32 (.goto) 4 3 35 36 := ⟨by decide +kernel, rfl, rfl⟩
theorem dX1_takesMark_35 : DD cX1_takesMark 35 (.iconst 2) 1 36 := ⟨by decide +kernel, rfl⟩
theorem dX1_takesMark_36 : DD cX1_takesMark 36 (.iastore) 1 37 := ⟨by decide +kernel, rfl⟩
theorem dX1_takesMark_37 : DD cX1_takesMark 37 (.aload_n 0) 1 38 := ⟨by decide +kernel, rfl⟩
theorem dX1_takesMark_38 : DD cX1_takesMark 38 (.iconst 4) 1 39 := ⟨by decide +kernel, rfl⟩
theorem dX1_takesMark_39 : DD cX1_takesMark 39 (.putfield 36) 3 42 := ⟨by decide +kernel, rfl⟩
theorem dX1_takesMark_42 : DD cX1_takesMark 42 (.iconst 1) 1 43 := ⟨by decide +kernel, rfl⟩
theorem dX1_takesMark_43 : DD cX1_takesMark 43 (.ireturn) 1 44 := ⟨by decide +kernel, rfl⟩
theorem dX1_takesMove_0 : DD cX1_takesMove 0 (.iload_n 1) 1 1 := ⟨by decide +kernel, rfl⟩
theorem dX1_takesMove_1 : DD cX1_takesMove 1 (.iconst (-1)) 1 2 := ⟨by decide +kernel, rfl⟩
theorem dX1_takesMove_2 : DB cX1_takesMove 2 (.if_icmp .eq) 42 3 5 44 := ⟨by decide +kernel, rfl, rfl⟩
theorem dX1_takesMove_5 : DD cX1_takesMove 5 (.iload_n 1) 1 6 := ⟨by decide +kernel, rfl⟩
theorem dX1_takesMove_6 : DD cX1_takesMove 6 (.aload_n 0) 1 7 := ⟨by decide +kernel, rfl⟩
theorem dX1_takesMove_7 : DD cX1_takesMove 7 (.getfield 33) 3 10 := ⟨by decide +kernel, rfl⟩
theorem dX1_takesMove_10 : DB cX1_takesMove 10 (.if_icmp .eq) 34 3 13 44 := ⟨by decide +kernel, rfl, rfl⟩
theorem dX1_takesMove_13 : DD cX1_takesMove 13 (.aload_n 0) 1 14 := ⟨by decide +kernel, rfl⟩
theorem dX1_takesMove_14 : DD cX1_takesMove 14 (.getfield 22) 3 17 := ⟨by decide +kernel, rfl⟩
theorem dX1_takesMove_17 : DD cX1_takesMove 17 (.getfield 67) 3 20 := ⟨by decide +kernel, rfl⟩
theorem dX1_takesMove_20 : DD cX1_takesMove 20 (.aload_n 0) 1 21 := ⟨by decide +kernel, rfl⟩
theorem dX1_takesMove_21 : DD cX1_takesMove 21 (.getfield 33) 3 24 := ⟨by decide +kernel, rfl⟩
theorem dX1_takesMove_24 : DD cX1_takesMove 24 (.iaload) 1 25 := ⟨by decide +kernel, rfl⟩
theorem dX1_takesMove_25 : DD cX1_takesMove 25 (.iconst 4) 1 26 := ⟨by decide +kernel, rfl⟩
theorem dX1_takesMove_26 : DB cX1_takesMove 26 (.if_icmp .ge) 18 3 29 44 := ⟨by decide +kernel, rfl, rfl⟩
theorem dX1_takesMove_29 : DD cX1_takesMove 29 (.aload_n 0) 1 30 := ⟨by decide +kernel, rfl⟩
theorem dX1_takesMove_30 : DD cX1_takesMove 30 (.getfield 22) 3 33 := ⟨by decide +kernel, rfl⟩
theorem dX1_takesMove_33 : DD cX1_takesMove 33 (.aload_n 0) 1 34 := ⟨by decide +kernel, rfl⟩
theorem dX1_takesMove_34 : DD cX1_takesMove 34 (.getfield 33) 3 37 := ⟨by decide +kernel, rfl⟩
theorem dX1_takesMove_37 : DD cX1_takesMove 37 (.iload_n 1) 1 38 := ⟨by decide +kernel, rfl⟩
theorem dX1_takesMove_38 : DD cX1_takesMove 38 (.invokevirtual 70) 3 41 := ⟨by decide +kernel, rfl⟩
theorem dX1_takesMove_41 : DB cX1_takesMove 41 (.ifCond .eq) 5 3 44 46 := ⟨by decide +kernel, rfl, rfl⟩
theorem dX1_takesMove_44 : DD cX1_takesMove 44 (.iconst 0) 1 45 := ⟨by decide +kernel, rfl⟩
theorem dX1_takesMove_45 : DD cX1_takesMove 45 (.ireturn) 1 46 := ⟨by decide +kernel, rfl⟩
theorem dX1_takesMove_46 : DD cX1_takesMove 46 (.aload_n 0) 1 47 := ⟨by decide +kernel, rfl⟩
theorem dX1_takesMove_47 : DD cX1_takesMove 47 (.getfield 22) 3 50 := ⟨by decide +kernel, rfl⟩
theorem dX1_takesMove_50 : DD cX1_takesMove 50 (.aload_n 0) 1 51 := ⟨by decide +kernel, rfl⟩
theorem dX1_takesMove_51 : DD cX1_takesMove 51 (.getfield 33) 3 54 := ⟨by decide +kernel, rfl⟩
theorem dX1_takesMove_54 : DD cX1_takesMove 54 (.iload_n 1) 1 55 := ⟨by decide +kernel, rfl⟩
theorem dX1_takesMove_55 : DD cX1_takesMove 55 (.invokevirtual 74) 3 58 := ⟨by decide +kernel, rfl⟩
theorem dX1_takesMove_58 : DD cX1_takesMove 58 (.aload_n 0) 1 59 := ⟨by decide +kernel, rfl⟩
theorem dX1_takesMove_59 : DD cX1_takesMove 59 (.iconst 3) 1 60 := ⟨by decide +kernel, rfl⟩
theorem dX1_takesMove_60 : DD cX1_takesMove 60 (.putfield 36) 3 63 := ⟨by decide +kernel, rfl⟩
theorem dX1_takesMove_63 : DD cX1_takesMove 63 (.iconst 1) 1 64 := ⟨by decide +kernel, rfl⟩
theorem dX1_takesMove_64 : DD cX1_takesMove 64 (.ireturn) 1 65 := ⟨by decide +kernel, rfl⟩
theorem dX1_takesEnd_0 : DD cX1_takesEnd 0 (.iload_n 1) 1 1 := ⟨by decide +kernel, rfl⟩
theorem dX1_takesEnd_1 : DD cX1_takesEnd 1 (.bipush 59) 2 3 := ⟨by decide +kernel, rfl⟩
theorem dX1_takesEnd_3 : DB cX1_takesEnd 3 (.if_icmp .ne) 12 3 6 15 := ⟨by decide +kernel, rfl, rfl⟩
theorem dX1_takesEnd_6 : DD cX1_takesEnd 6 (.aload_n 0) 1 7 := ⟨by decide +kernel, rfl⟩
theorem dX1_takesEnd_7 : DD cX1_takesEnd 7 (.getfield 30) 3 10 := ⟨by decide +kernel, rfl⟩
theorem dX1_takesEnd_10 : DD cX1_takesEnd 10 (.bipush 8) 2 12 := ⟨by decide +kernel, rfl⟩
theorem dX1_takesEnd_12 : DB cX1_takesEnd 12 (.if_icmp .lt) 5 3 15 17 := ⟨by decide +kernel, rfl, rfl⟩
theorem dX1_takesEnd_15 : DD cX1_takesEnd 15 (.iconst 0) 1 16 := ⟨by decide +kernel, rfl⟩
theorem dX1_takesEnd_16 : DD cX1_takesEnd 16 (.ireturn) 1 17 := ⟨by decide +kernel, rfl⟩
theorem dX1_takesEnd_17 : DD cX1_takesEnd 17 (.aload_n 0) 1 18 := ⟨by decide +kernel, rfl⟩
theorem dX1_takesEnd_18 : DD cX1_takesEnd 18 (.iconst 0) 1 19 := ⟨by decide +kernel, rfl⟩
theorem dX1_takesEnd_19 : DD cX1_takesEnd 19 (.putfield 36) 3 22 := ⟨by decide +kernel, rfl⟩
theorem dX1_takesEnd_22 : DD cX1_takesEnd 22 (.iconst 1) 1 23 := ⟨by decide +kernel, rfl⟩
theorem dX1_takesEnd_23 : DD cX1_takesEnd 23 (.ireturn) 1 24 := ⟨by decide +kernel, rfl⟩
theorem dX2_init_0 : DD cX2_init 0 (.aload_n 0) 1 1 := ⟨by decide +kernel, rfl⟩
theorem dX2_init_1 : DD cX2_init 1 (.invokespecial 3) 3 4 := ⟨by decide +kernel, rfl⟩
theorem dX2_init_4 : DD cX2_init 4 (.aload_n 0) 1 5 := ⟨by decide +kernel, rfl⟩
theorem dX2_init_5 : DD cX2_init 5 (.iconst 2) 1 6 := ⟨by decide +kernel, rfl⟩
theorem dX2_init_6 : DD cX2_init 6 (.newarray .int) 2 8 := ⟨by decide +kernel, rfl⟩
theorem dX2_init_8 : DD cX2_init 8 (.putfield 9) 3 11 := ⟨by decide +kernel, rfl⟩
theorem dX2_init_11 : DD cX2_init 11 (.aload_n 0) 1 12 := ⟨by decide +kernel, rfl⟩
theorem dX2_init_12 : DD cX2_init 12 (.iconst 2) 1 13 := ⟨by decide +kernel, rfl⟩
theorem dX2_init_13 : DD cX2_init 13 (.newarray .int) 2 15 := ⟨by decide +kernel, rfl⟩
theorem dX2_init_15 : DD cX2_init 15 (.putfield 15) 3 18 := ⟨by decide +kernel, rfl⟩
theorem dX2_init_18 : DD cX2_init 18 (.aload_n 0) 1 19 := ⟨by decide +kernel, rfl⟩
theorem dX2_init_19 : DD cX2_init 19 (.sipush 416) 3 22 := ⟨by decide +kernel, rfl⟩
theorem dX2_init_22 : DD cX2_init 22 (.newarray .int) 2 24 := ⟨by decide +kernel, rfl⟩
theorem dX2_init_24 : DD cX2_init 24 (.putfield 18) 3 27 := ⟨by decide +kernel, rfl⟩
theorem dX2_init_27 : DD cX2_init 27 (.aload_n 0) 1 28 := ⟨by decide +kernel, rfl⟩
theorem dX2_init_28 : DD cX2_init 28 (.iconst 0) 1 29 := ⟨by decide +kernel, rfl⟩
theorem dX2_init_29 : DD cX2_init 29 (.putfield 21) 3 32 := ⟨by decide +kernel, rfl⟩
theorem dX2_init_32 : DD cX2_init 32 (.return_) 1 33 := ⟨by decide +kernel, rfl⟩
theorem dX2_forget_0 : DD cX2_forget 0 (.aload_n 0) 1 1 := ⟨by decide +kernel, rfl⟩
theorem dX2_forget_1 : DD cX2_forget 1 (.iconst 0) 1 2 := ⟨by decide +kernel, rfl⟩
theorem dX2_forget_2 : DD cX2_forget 2 (.putfield 21) 3 5 := ⟨by decide +kernel, rfl⟩
theorem dX2_forget_5 : DD cX2_forget 5 (.return_) 1 6 := ⟨by decide +kernel, rfl⟩
theorem dX2_tell_0 : DD cX2_tell 0 (.aload_n 0) 1 1 := ⟨by decide +kernel, rfl⟩
theorem dX2_tell_1 : DD cX2_tell 1 (.getfield 21) 3 4 := ⟨by decide +kernel, rfl⟩
theorem dX2_tell_4 : DD cX2_tell 4 (.istore_n 3) 1 5 := ⟨by decide +kernel, rfl⟩
theorem dX2_tell_5 : DD cX2_tell 5 (.iload_n 3) 1 6 := ⟨by decide +kernel, rfl⟩
theorem dX2_tell_6 : DD cX2_tell 6 (.iload_n 2) 1 7 := ⟨by decide +kernel, rfl⟩
theorem dX2_tell_7 : DB cX2_tell 7 (.if_icmp .gt) 50 3 10 57 := ⟨by decide +kernel, rfl, rfl⟩
theorem dX2_tell_10 : DD cX2_tell 10 (.iconst 0) 1 11 := ⟨by decide +kernel, rfl⟩
theorem dX2_tell_11 : DD cX2_tell 11 (.istore 4) 2 13 := ⟨by decide +kernel, rfl⟩
theorem dX2_tell_13 : DD cX2_tell 13 (.iload 4) 2 15 := ⟨by decide +kernel, rfl⟩
theorem dX2_tell_15 : DD cX2_tell 15 (.iconst 2) 1 16 := ⟨by decide +kernel, rfl⟩
theorem dX2_tell_16 : DB cX2_tell 16 (.if_icmp .ge) 35 3 19 51 := ⟨by decide +kernel, rfl, rfl⟩
theorem dX2_tell_19 : DD cX2_tell 19 (.iconst 0) 1 20 := ⟨by decide +kernel, rfl⟩
theorem dX2_tell_20 : DD cX2_tell 20 (.istore 5) 2 22 := ⟨by decide +kernel, rfl⟩
theorem dX2_tell_22 : DD cX2_tell 22 (.iload 5) 2 24 := ⟨by decide +kernel, rfl⟩
theorem dX2_tell_24 : DD cX2_tell 24 (.bipush 8) 2 26 := ⟨by decide +kernel, rfl⟩
theorem dX2_tell_26 : DB cX2_tell 26 (.if_icmp .ge) 19 3 29 45 := ⟨by decide +kernel, rfl, rfl⟩
theorem dX2_tell_29 : DD cX2_tell 29 (.aload_n 0) 1 30 := ⟨by decide +kernel, rfl⟩
theorem dX2_tell_30 : DD cX2_tell 30 (.aload_n 1) 1 31 := ⟨by decide +kernel, rfl⟩
theorem dX2_tell_31 : DD cX2_tell 31 (.iload_n 3) 1 32 := ⟨by decide +kernel, rfl⟩
theorem dX2_tell_32 : DD cX2_tell 32 (.iload 4) 2 34 := ⟨by decide +kernel, rfl⟩
theorem dX2_tell_34 : DD cX2_tell 34 (.iload 5) 2 36 := ⟨by decide +kernel, rfl⟩
theorem dX2_tell_36 : DD cX2_tell 36 (.invokevirtual 25) 3 39 := ⟨by decide +kernel, rfl⟩
theorem dX2_tell_39 : DD cX2_tell 39 (.iinc 5 1) 3 42 := ⟨by decide +kernel, rfl⟩
theorem dX2_tell_42 : DB cX2_tell 42 (.goto) (-20) 3 45 22 := ⟨by decide +kernel, rfl, rfl⟩
theorem dX2_tell_45 : DD cX2_tell 45 (.iinc 4 1) 3 48 := ⟨by decide +kernel, rfl⟩
theorem dX2_tell_48 : DB cX2_tell 48 (.goto) (-35) 3 51 13 := ⟨by decide +kernel, rfl, rfl⟩
theorem dX2_tell_51 : DD cX2_tell 51 (.iinc 3 1) 3 54 := ⟨by decide +kernel, rfl⟩
theorem dX2_tell_54 : DB cX2_tell 54 (.goto) (-49) 3 57 5 := ⟨by decide +kernel, rfl, rfl⟩
theorem dX2_tell_57 : DD cX2_tell 57 (.aload_n 0) 1 58 := ⟨by decide +kernel, rfl⟩
theorem dX2_tell_58 : DD cX2_tell 58 (.aload_n 0) 1 59 := ⟨by decide +kernel, rfl⟩
theorem dX2_tell_59 : DD cX2_tell 59 (.getfield 21) 3 62 := ⟨by decide +kernel, rfl⟩
theorem dX2_tell_62 : DD cX2_tell 62 (.iload_n 2) 1 63 := ⟨by decide +kernel, rfl⟩
theorem dX2_tell_63 : DD cX2_tell 63 (.iconst 1) 1 64 := ⟨by decide +kernel, rfl⟩
theorem dX2_tell_64 : DD cX2_tell 64 (.iadd) 1 65 := ⟨by decide +kernel, rfl⟩
theorem dX2_tell_65 : DD cX2_tell 65 (.invokestatic 29) 3 68 := ⟨by decide +kernel, rfl⟩
theorem dX2_tell_68 : DD cX2_tell 68 (.putfield 21) 3 71 := ⟨by decide +kernel, rfl⟩
theorem dX2_tell_71 : DD cX2_tell 71 (.return_) 1 72 := ⟨by decide +kernel, rfl⟩
theorem dX2_entry_0 : DD cX2_entry 0 (.aload_n 0) 1 1 := ⟨by decide +kernel, rfl⟩
theorem dX2_entry_1 : DD cX2_entry 1 (.getfield 18) 3 4 := ⟨by decide +kernel, rfl⟩
theorem dX2_entry_4 : DD cX2_entry 4 (.iload_n 1) 1 5 := ⟨by decide +kernel, rfl⟩
theorem dX2_entry_5 : DD cX2_entry 5 (.iload_n 2) 1 6 := ⟨by decide +kernel, rfl⟩
theorem dX2_entry_6 : DD cX2_entry 6 (.iload_n 3) 1 7 := ⟨by decide +kernel, rfl⟩
theorem dX2_entry_7 : DD cX2_entry 7 (.invokestatic 35) 3 10 := ⟨by decide +kernel, rfl⟩
theorem dX2_entry_10 : DD cX2_entry 10 (.iload 4) 2 12 := ⟨by decide +kernel, rfl⟩
theorem dX2_entry_12 : DD cX2_entry 12 (.iadd) 1 13 := ⟨by decide +kernel, rfl⟩
theorem dX2_entry_13 : DD cX2_entry 13 (.iaload) 1 14 := ⟨by decide +kernel, rfl⟩
theorem dX2_entry_14 : DD cX2_entry 14 (.ireturn) 1 15 := ⟨by decide +kernel, rfl⟩
theorem dX2_lookBehind_0 : DD cX2_lookBehind 0 (.iconst 0) 1 1 := ⟨by decide +kernel, rfl⟩
theorem dX2_lookBehind_1 : DD cX2_lookBehind 1 (.istore 5) 2 3 := ⟨by decide +kernel, rfl⟩
theorem dX2_lookBehind_3 : DD cX2_lookBehind 3 (.iload 5) 2 5 := ⟨by decide +kernel, rfl⟩
theorem dX2_lookBehind_5 : DD cX2_lookBehind 5 (.iconst 2) 1 6 := ⟨by decide +kernel, rfl⟩
theorem dX2_lookBehind_6 : DB cX2_lookBehind 6 (.if_icmp .ge) 122 3 9 128 := ⟨by decide +kernel, rfl, rfl⟩
theorem dX2_lookBehind_9 : DD cX2_lookBehind 9 (.aload_n 0) 1 10 := ⟨by decide +kernel, rfl⟩
theorem dX2_lookBehind_10 : DD cX2_lookBehind 10 (.getfield 9) 3 13 := ⟨by decide +kernel, rfl⟩
theorem dX2_lookBehind_13 : DD cX2_lookBehind 13 (.iload 5) 2 15 := ⟨by decide +kernel, rfl⟩
theorem dX2_lookBehind_15 : DD cX2_lookBehind 15 (.aload_n 0) 1 16 := ⟨by decide +kernel, rfl⟩
theorem dX2_lookBehind_16 : DD cX2_lookBehind 16 (.invokevirtual 39) 3 19 := ⟨by decide +kernel, rfl⟩
theorem dX2_lookBehind_19 : DD cX2_lookBehind 19 (.iastore) 1 20 := ⟨by decide +kernel, rfl⟩
theorem dX2_lookBehind_20 : DD cX2_lookBehind 20 (.aload_n 0) 1 21 := ⟨by decide +kernel, rfl⟩
theorem dX2_lookBehind_21 : DD cX2_lookBehind 21 (.getfield 15) 3 24 := ⟨by decide +kernel, rfl⟩
theorem dX2_lookBehind_24 : DD cX2_lookBehind 24 (.iload 5) 2 26 := ⟨by decide +kernel, rfl⟩
theorem dX2_lookBehind_26 : DD cX2_lookBehind 26 (.aload_n 0) 1 27 := ⟨by decide +kernel, rfl⟩
theorem dX2_lookBehind_27 : DD cX2_lookBehind 27 (.aload_n 1) 1 28 := ⟨by decide +kernel, rfl⟩
theorem dX2_lookBehind_28 : DD cX2_lookBehind 28 (.getfield 43) 3 31 := ⟨by decide +kernel, rfl⟩
theorem dX2_lookBehind_31 : DD cX2_lookBehind 31 (.invokevirtual 48) 3 34 := ⟨by decide +kernel, rfl⟩
theorem dX2_lookBehind_34 : DD cX2_lookBehind 34 (.iastore) 1 35 := ⟨by decide +kernel, rfl⟩
theorem dX2_lookBehind_35 : DD cX2_lookBehind 35 (.iconst 0) 1 36 := ⟨by decide +kernel, rfl⟩
theorem dX2_lookBehind_36 : DD cX2_lookBehind 36 (.istore 6) 2 38 := ⟨by decide +kernel, rfl⟩
theorem dX2_lookBehind_38 : DD cX2_lookBehind 38 (.iload 6) 2 40 := ⟨by decide +kernel, rfl⟩
theorem dX2_lookBehind_40 : DD cX2_lookBehind 40 (.aload_n 1) 1 41 := ⟨by decide +kernel, rfl⟩
theorem dX2_lookBehind_41 : DD cX2_lookBehind 41 (.getfield 52) 3 44 := ⟨by decide +kernel, rfl⟩
theorem dX2_lookBehind_44 : DD cX2_lookBehind 44 (.getfield 56) 3 47 := ⟨by decide +kernel, rfl⟩
theorem dX2_lookBehind_47 : DD cX2_lookBehind 47 (.iload 4) 2 49 := ⟨by decide +kernel, rfl⟩
theorem dX2_lookBehind_49 : DD cX2_lookBehind 49 (.iaload) 1 50 := ⟨by decide +kernel, rfl⟩
theorem dX2_lookBehind_50 : DB cX2_lookBehind 50 (.if_icmp .ge) 72 3 53 122 := ⟨by decide +kernel, rfl, rfl⟩
theorem dX2_lookBehind_53 : DD cX2_lookBehind 53 (.aload_n 0) 1 54 := ⟨by decide +kernel, rfl⟩
theorem dX2_lookBehind_54 : DD cX2_lookBehind 54 (.iload_n 2) 1 55 := ⟨by decide +kernel, rfl⟩
theorem dX2_lookBehind_55 : DD cX2_lookBehind 55 (.iconst 1) 1 56 := ⟨by decide +kernel, rfl⟩
theorem dX2_lookBehind_56 : DD cX2_lookBehind 56 (.isub) 1 57 := ⟨by decide +kernel, rfl⟩
theorem dX2_lookBehind_57 : DD cX2_lookBehind 57 (.iload_n 3) 1 58 := ⟨by decide +kernel, rfl⟩
theorem dX2_lookBehind_58 : DD cX2_lookBehind 58 (.aload_n 1) 1 59 := ⟨by decide +kernel, rfl⟩
theorem dX2_lookBehind_59 : DD cX2_lookBehind 59 (.getfield 52) 3 62 := ⟨by decide +kernel, rfl⟩
theorem dX2_lookBehind_62 : DD cX2_lookBehind 62 (.iload 4) 2 64 := ⟨by decide +kernel, rfl⟩
theorem dX2_lookBehind_64 : DD cX2_lookBehind 64 (.iload 6) 2 66 := ⟨by decide +kernel, rfl⟩
theorem dX2_lookBehind_66 : DD cX2_lookBehind 66 (.invokevirtual 61) 3 69 := ⟨by decide +kernel, rfl⟩
theorem dX2_lookBehind_69 : DD cX2_lookBehind 69 (.iload 5) 2 71 := ⟨by decide +kernel, rfl⟩
theorem dX2_lookBehind_71 : DD cX2_lookBehind 71 (.invokevirtual 64) 3 74 := ⟨by decide +kernel, rfl⟩
theorem dX2_lookBehind_74 : DD cX2_lookBehind 74 (.istore 7) 2 76 := ⟨by decide +kernel, rfl⟩
theorem dX2_lookBehind_76 : DD cX2_lookBehind 76 (.aload_n 0) 1 77 := ⟨by decide +kernel, rfl⟩
theorem dX2_lookBehind_77 : DD cX2_lookBehind 77 (.getfield 9) 3 80 := ⟨by decide +kernel, rfl⟩
theorem dX2_lookBehind_80 : DD cX2_lookBehind 80 (.iload 5) 2 82 := ⟨by decide +kernel, rfl⟩
theorem dX2_lookBehind_82 : DD cX2_lookBehind 82 (.aload_n 0) 1 83 := ⟨by decide +kernel, rfl⟩
theorem dX2_lookBehind_83 : DD cX2_lookBehind 83 (.aload_n 0) 1 84 := ⟨by decide +kernel, rfl⟩
theorem dX2_lookBehind_84 : DD cX2_lookBehind 84 (.getfield 9) 3 87 := ⟨by decide +kernel, rfl⟩
theorem dX2_lookBehind_87 : DD cX2_lookBehind 87 (.iload 5) 2 89 := ⟨by decide +kernel, rfl⟩
theorem dX2_lookBehind_89 : DD cX2_lookBehind 89 (.iaload) 1 90 := ⟨by decide +kernel, rfl⟩
theorem dX2_lookBehind_90 : DD cX2_lookBehind 90 (.iload 7) 2 92 := ⟨by decide +kernel, rfl⟩
theorem dX2_lookBehind_92 : DD cX2_lookBehind 92 (.invokevirtual 68) 3 95 := ⟨by decide +kernel, rfl⟩
theorem dX2_lookBehind_95 : DD cX2_lookBehind 95 (.iastore) 1 96 := ⟨by decide +kernel, rfl⟩
theorem dX2_lookBehind_96 : DD cX2_lookBehind 96 (.aload_n 0) 1 97 := ⟨by decide +kernel, rfl⟩
theorem dX2_lookBehind_97 : DD cX2_lookBehind 97 (.getfield 15) 3 100 := ⟨by decide +kernel, rfl⟩
theorem dX2_lookBehind_100 : DD cX2_lookBehind 100 (.iload 5) 2 102 := ⟨by decide +kernel, rfl⟩
theorem dX2_lookBehind_102 : DD cX2_lookBehind 102 (.aload_n 0) 1 103 := ⟨by decide +kernel, rfl⟩
theorem dX2_lookBehind_103 : DD cX2_lookBehind 103 (.aload_n 0) 1 104 := ⟨by decide +kernel, rfl⟩
theorem dX2_lookBehind_104 : DD cX2_lookBehind 104 (.getfield 15) 3 107 := ⟨by decide +kernel, rfl⟩
theorem dX2_lookBehind_107 : DD cX2_lookBehind 107 (.iload 5) 2 109 := ⟨by decide +kernel, rfl⟩
theorem dX2_lookBehind_109 : DD cX2_lookBehind 109 (.iaload) 1 110 := ⟨by decide +kernel, rfl⟩
theorem dX2_lookBehind_110 : DD cX2_lookBehind 110 (.iload 7) 2 112 := ⟨by decide +kernel, rfl⟩
theorem dX2_lookBehind_112 : DD cX2_lookBehind 112 (.invokevirtual 71) 3 115 := ⟨by decide +kernel, rfl⟩
theorem dX2_lookBehind_115 : DD cX2_lookBehind 115 (.iastore) 1 116 := ⟨by decide +kernel, rfl⟩
theorem dX2_lookBehind_116 : DD cX2_lookBehind 116 (.iinc 6 1) 3 119 := ⟨by decide +kernel, rfl⟩
theorem dX2_lookBehind_119 : DB cX2_lookBehind 119 (.goto) (-81) 3 122 38 := ⟨by decide +kernel, rfl, rfl⟩
theorem dX2_lookBehind_122 : DD cX2_lookBehind 122 (.iinc 5 1) 3 125 := ⟨by decide +kernel, rfl⟩
theorem dX2_lookBehind_125 : DB cX2_lookBehind 125 (.goto) (-122) 3 128 3 := ⟨by decide +kernel, rfl, rfl⟩
theorem dX2_lookBehind_128 : DD cX2_lookBehind 128 (.return_) 1 129 := ⟨by decide +kernel, rfl⟩
theorem dX2_tellPosition_0 : DD cX2_tellPosition 0 (.iload_n 2) 1 1 := ⟨by decide +kernel, rfl⟩
theorem dX2_tellPosition_1 : DD cX2_tellPosition 1 (.iload_n 3) 1 2 := ⟨by decide +kernel, rfl⟩
theorem dX2_tellPosition_2 : DD cX2_tellPosition 2 (.iload 4) 2 4 := ⟨by decide +kernel, rfl⟩
theorem dX2_tellPosition_4 : DD cX2_tellPosition 4 (.invokestatic 35) 3 7 := ⟨by decide +kernel, rfl⟩
theorem dX2_tellPosition_7 : DD cX2_tellPosition 7 (.istore 5) 2 9 := ⟨by decide +kernel, rfl⟩
theorem dX2_tellPosition_9 : DD cX2_tellPosition 9 (.iload_n 2) 1 10 := ⟨by decide +kernel, rfl⟩
theorem dX2_tellPosition_10 : DB cX2_tellPosition 10 (.ifCond .eq) 15 3 13 25 := ⟨by decide +kernel, rfl, rfl⟩
theorem dX2_tellPosition_13 : DD cX2_tellPosition 13 (.aload_n 1) 1 14 := ⟨by decide +kernel, rfl⟩
theorem dX2_tellPosition_14 : DD cX2_tellPosition 14 (.getfield 52) 3 17 := ⟨by decide +kernel, rfl⟩
theorem dX2_tellPosition_17 : DD cX2_tellPosition 17 (.iload 4) 2 19 := ⟨by decide +kernel, rfl⟩
theorem dX2_tellPosition_19 : DD cX2_tellPosition 19 (.invokevirtual 74) 3 22 := ⟨by decide +kernel, rfl⟩
theorem dX2_tellPosition_22 : DB cX2_tellPosition 22 (.ifCond .eq) 54 3 25 76 := ⟨by decide +kernel, rfl, rfl⟩
theorem dX2_tellPosition_25 : DD cX2_tellPosition 25 (.aload_n 1) 1 26 := ⟨by decide +kernel, rfl⟩
theorem dX2_tellPosition_26 : DD cX2_tellPosition 26 (.getfield 52) 3 29 := ⟨by decide +kernel, rfl⟩
theorem dX2_tellPosition_29 : DD cX2_tellPosition 29 (.iload_n 3) 1 30 := ⟨by decide +kernel, rfl⟩
theorem dX2_tellPosition_30 : DD cX2_tellPosition 30 (.iload 4) 2 32 := ⟨by decide +kernel, rfl⟩
theorem dX2_tellPosition_32 : DD cX2_tellPosition 32 (.invokevirtual 78) 3 35 := ⟨by decide +kernel, rfl⟩
theorem dX2_tellPosition_35 : DB cX2_tellPosition 35 (.ifCond .eq) 14 3 38 49 := ⟨by decide +kernel, rfl, rfl⟩
theorem dX2_tellPosition_38 : DD cX2_tellPosition 38 (.aload_n 0) 1 39 := ⟨by decide +kernel, rfl⟩
theorem dX2_tellPosition_39 : DD cX2_tellPosition 39 (.aload_n 1) 1 40 := ⟨by decide +kernel, rfl⟩
theorem dX2_tellPosition_40 : DD cX2_tellPosition 40 (.getfield 43) 3 43 := ⟨by decide +kernel, rfl⟩
theorem dX2_tellPosition_43 : DD cX2_tellPosition 43 (.invokevirtual 48) 3 46 := ⟨by decide +kernel, rfl⟩
theorem dX2_tellPosition_46 : DB cX2_tellPosition 46 (.goto) 7 3 49 53 := ⟨by decide +kernel, rfl, rfl⟩
theorem dX2_tellPosition_49 : DD cX2_tellPosition 49 (.aload_n 0) 1 50 := ⟨by decide +kernel, rfl⟩
theorem dX2_tellPosition_50 : DD cX2_tellPosition 50 (.invokevirtual 39) 3 53 := ⟨by decide +kernel, rfl⟩
theorem dX2_tellPosition_53 : DD cX2_tellPosition 53 (.istore 6) 2 55 := ⟨by decide +kernel, rfl⟩
theorem dX2_tellPosition_55 : DD cX2_tellPosition 55 (.aload_n 0) 1 56 := ⟨by decide +kernel, rfl⟩
theorem dX2_tellPosition_56 : DD cX2_tellPosition 56 (.getfield 18) 3 59 := ⟨by decide +kernel, rfl⟩
theorem dX2_tellPosition_59 : DD cX2_tellPosition 59 (.iload 5) 2 61 := ⟨by decide +kernel, rfl⟩
theorem dX2_tellPosition_61 : DD cX2_tellPosition 61 (.iload 6) 2 63 := ⟨by decide +kernel, rfl⟩
theorem dX2_tellPosition_63 : DD cX2_tellPosition 63 (.iastore) 1 64 := ⟨by decide +kernel, rfl⟩
theorem dX2_tellPosition_64 : DD cX2_tellPosition 64 (.aload_n 0) 1 65 := ⟨by decide +kernel, rfl⟩
theorem dX2_tellPosition_65 : DD cX2_tellPosition 65 (.getfield 18) 3 68 := ⟨by decide +kernel, rfl⟩
theorem dX2_tellPosition_68 : DD cX2_tellPosition 68 (.iload 5) 2 70 := ⟨by decide +kernel, rfl⟩
theorem dX2_tellPosition_70 : DD cX2_tellPosition 70 (.iconst 1) 1 71 := ⟨by decide +kernel, rfl⟩
theorem dX2_tellPosition_71 : DD cX2_tellPosition 71 (.iadd) 1 72 := ⟨by decide +kernel, rfl⟩
theorem dX2_tellPosition_72 : DD cX2_tellPosition 72 (.iload 6) 2 74 := ⟨by decide +kernel, rfl⟩
theorem dX2_tellPosition_74 : DD cX2_tellPosition 74 (.iastore) 1 75 := ⟨by decide +kernel, rfl⟩
theorem dX2_tellPosition_75 : DD cX2_tellPosition 75 (.return_) 1 76 := ⟨by decide +kernel, rfl⟩
theorem dX2_tellPosition_76 : DD cX2_tellPosition 76 (.aload_n 0) 1 77 := ⟨by decide +kernel, rfl⟩
theorem dX2_tellPosition_77 : DD cX2_tellPosition 77 (.aload_n 1) 1 78 := ⟨by decide +kernel, rfl⟩
theorem dX2_tellPosition_78 : DD cX2_tellPosition 78 (.iload_n 2) 1 79 := ⟨by decide +kernel, rfl⟩
theorem dX2_tellPosition_79 : DD cX2_tellPosition 79 (.iload_n 3) 1 80 := ⟨by decide +kernel, rfl⟩
theorem dX2_tellPosition_80 : DD cX2_tellPosition 80 (.iload 4) 2 82 := ⟨by decide +kernel, rfl⟩
theorem dX2_tellPosition_82 : DD cX2_tellPosition 82 (.invokevirtual 82) 3 85 := ⟨by decide +kernel, rfl⟩
theorem dX2_tellPosition_85 : DD cX2_tellPosition 85 (.aload_n 0) 1 86 := ⟨by decide +kernel, rfl⟩
theorem dX2_tellPosition_86 : DD cX2_tellPosition 86 (.getfield 18) 3 89 := ⟨by decide +kernel, rfl⟩
theorem dX2_tellPosition_89 : DD cX2_tellPosition 89 (.iload 5) 2 91 := ⟨by decide +kernel, rfl⟩
theorem dX2_tellPosition_91 : DD cX2_tellPosition 91 (.aload_n 0) 1 92 := ⟨by decide +kernel, rfl⟩
theorem dX2_tellPosition_92 : DD cX2_tellPosition 92 (.aload_n 1) 1 93 := ⟨by decide +kernel, rfl⟩
theorem dX2_tellPosition_93 : DD cX2_tellPosition 93 (.getfield 43) 3 96 := ⟨by decide +kernel, rfl⟩
theorem dX2_tellPosition_96 : DD cX2_tellPosition 96 (.iload_n 3) 1 97 := ⟨by decide +kernel, rfl⟩
theorem dX2_tellPosition_97 : DD cX2_tellPosition 97 (.iconst 0) 1 98 := ⟨by decide +kernel, rfl⟩
theorem dX2_tellPosition_98 : DD cX2_tellPosition 98 (.invokevirtual 85) 3 101 := ⟨by decide +kernel, rfl⟩
theorem dX2_tellPosition_101 : DD cX2_tellPosition 101 (.iastore) 1 102 := ⟨by decide +kernel, rfl⟩
theorem dX2_tellPosition_102 : DD cX2_tellPosition 102 (.aload_n 0) 1 103 := ⟨by decide +kernel, rfl⟩
theorem dX2_tellPosition_103 : DD cX2_tellPosition 103 (.getfield 18) 3 106 := ⟨by decide +kernel, rfl⟩
theorem dX2_tellPosition_106 : DD cX2_tellPosition 106 (.iload 5) 2 108 := ⟨by decide +kernel, rfl⟩
theorem dX2_tellPosition_108 : DD cX2_tellPosition 108 (.iconst 1) 1 109 := ⟨by decide +kernel, rfl⟩
theorem dX2_tellPosition_109 : DD cX2_tellPosition 109 (.iadd) 1 110 := ⟨by decide +kernel, rfl⟩
theorem dX2_tellPosition_110 : DD cX2_tellPosition 110 (.aload_n 0) 1 111 := ⟨by decide +kernel, rfl⟩
theorem dX2_tellPosition_111 : DD cX2_tellPosition 111 (.aload_n 1) 1 112 := ⟨by decide +kernel, rfl⟩
theorem dX2_tellPosition_112 : DD cX2_tellPosition 112 (.getfield 43) 3 115 := ⟨by decide +kernel, rfl⟩
theorem dX2_tellPosition_115 : DD cX2_tellPosition 115 (.iload_n 3) 1 116 := ⟨by decide +kernel, rfl⟩
theorem dX2_tellPosition_116 : DD cX2_tellPosition 116 (.iconst 1) 1 117 := ⟨by decide +kernel, rfl⟩
theorem dX2_tellPosition_117 : DD cX2_tellPosition 117 (.invokevirtual 85) 3 120 := ⟨by decide +kernel, rfl⟩
theorem dX2_tellPosition_120 : DD cX2_tellPosition 120 (.iastore) 1 121 := ⟨by decide +kernel, rfl⟩
theorem dX2_tellPosition_121 : DD cX2_tellPosition 121 (.return_) 1 122 := ⟨by decide +kernel, rfl⟩
theorem dX2_indexOf_0 : DD cX2_indexOf 0 (.iload_n 0) 1 1 := ⟨by decide +kernel, rfl⟩
theorem dX2_indexOf_1 : DD cX2_indexOf 1 (.iconst 2) 1 2 := ⟨by decide +kernel, rfl⟩
theorem dX2_indexOf_2 : DD cX2_indexOf 2 (.imul) 1 3 := ⟨by decide +kernel, rfl⟩
theorem dX2_indexOf_3 : DD cX2_indexOf 3 (.iload_n 1) 1 4 := ⟨by decide +kernel, rfl⟩
theorem dX2_indexOf_4 : DD cX2_indexOf 4 (.iadd) 1 5 := ⟨by decide +kernel, rfl⟩
theorem dX2_indexOf_5 : DD cX2_indexOf 5 (.bipush 8) 2 7 := ⟨by decide +kernel, rfl⟩
theorem dX2_indexOf_7 : DD cX2_indexOf 7 (.imul) 1 8 := ⟨by decide +kernel, rfl⟩
theorem dX2_indexOf_8 : DD cX2_indexOf 8 (.iload_n 2) 1 9 := ⟨by decide +kernel, rfl⟩
theorem dX2_indexOf_9 : DD cX2_indexOf 9 (.iadd) 1 10 := ⟨by decide +kernel, rfl⟩
theorem dX2_indexOf_10 : DD cX2_indexOf 10 (.iconst 2) 1 11 := ⟨by decide +kernel, rfl⟩
theorem dX2_indexOf_11 : DD cX2_indexOf 11 (.imul) 1 12 := ⟨by decide +kernel, rfl⟩
theorem dX2_indexOf_12 : DD cX2_indexOf 12 (.ireturn) 1 13 := ⟨by decide +kernel, rfl⟩
theorem dX3_init_0 : DD cX3_init 0 (.aload_n 0) 1 1 := ⟨by decide +kernel, rfl⟩
theorem dX3_init_1 : DD cX3_init 1 (.invokespecial 3) 3 4 := ⟨by decide +kernel, rfl⟩
theorem dX3_init_4 : DD cX3_init 4 (.return_) 1 5 := ⟨by decide +kernel, rfl⟩
theorem dX3_everything_0 : DD cX3_everything 0 (.iconst 1) 1 1 := ⟨by decide +kernel, rfl⟩
theorem dX3_everything_1 : DD cX3_everything 1 (.iload_n 1) 1 2 := ⟨by decide +kernel, rfl⟩
theorem dX3_everything_2 : DD cX3_everything 2 (.iconst 1) 1 3 := ⟨by decide +kernel, rfl⟩
theorem dX3_everything_3 : DD cX3_everything 3 (.iadd) 1 4 := ⟨by decide +kernel, rfl⟩
theorem dX3_everything_4 : DD cX3_everything 4 (.ishl) 1 5 := ⟨by decide +kernel, rfl⟩
theorem dX3_everything_5 : DD cX3_everything 5 (.iconst 1) 1 6 := ⟨by decide +kernel, rfl⟩
theorem dX3_everything_6 : DD cX3_everything 6 (.isub) 1 7 := ⟨by decide +kernel, rfl⟩
theorem dX3_everything_7 : DD cX3_everything 7 (.ireturn) 1 8 := ⟨by decide +kernel, rfl⟩
theorem dX3_nothing_0 : DD cX3_nothing 0 (.iconst 0) 1 1 := ⟨by decide +kernel, rfl⟩
theorem dX3_nothing_1 : DD cX3_nothing 1 (.ireturn) 1 2 := ⟨by decide +kernel, rfl⟩
theorem dX3_either_0 : DD cX3_either 0 (.iload_n 1) 1 1 := ⟨by decide +kernel, rfl⟩
theorem dX3_either_1 : DD cX3_either 1 (.iload_n 2) 1 2 := ⟨by decide +kernel, rfl⟩
theorem dX3_either_2 : DD cX3_either 2 (.ior) 1 3 := ⟨by decide +kernel, rfl⟩
theorem dX3_either_3 : DD cX3_either 3 (.ireturn) 1 4 := ⟨by decide +kernel, rfl⟩
theorem dX3_both_0 : DD cX3_both 0 (.iload_n 1) 1 1 := ⟨by decide +kernel, rfl⟩
theorem dX3_both_1 : DD cX3_both 1 (.iload_n 2) 1 2 := ⟨by decide +kernel, rfl⟩
theorem dX3_both_2 : DD cX3_both 2 (.iand) 1 3 := ⟨by decide +kernel, rfl⟩
theorem dX3_both_3 : DD cX3_both 3 (.ireturn) 1 4 := ⟨by decide +kernel, rfl⟩
theorem dX3_tellTurn_0 : DD cX3_tellTurn 0 (.iconst 0) 1 1 := ⟨by decide +kernel, rfl⟩
theorem dX3_tellTurn_1 : DD cX3_tellTurn 1 (.istore 4) 2 3 := ⟨by decide +kernel, rfl⟩
theorem dX3_tellTurn_3 : DD cX3_tellTurn 3 (.iconst 0) 1 4 := ⟨by decide +kernel, rfl⟩
theorem dX3_tellTurn_4 : DD cX3_tellTurn 4 (.istore 5) 2 6 := ⟨by decide +kernel, rfl⟩
theorem dX3_tellTurn_6 : DD cX3_tellTurn 6 (.iload 5) 2 8 := ⟨by decide +kernel, rfl⟩
theorem dX3_tellTurn_8 : DD cX3_tellTurn 8 (.iload_n 1) 1 9 := ⟨by decide +kernel, rfl⟩
theorem dX3_tellTurn_9 : DB cX3_tellTurn 9 (.if_icmp .gt) 31 3 12 40 := ⟨by decide +kernel, rfl, rfl⟩
theorem dX3_tellTurn_12 : DD cX3_tellTurn 12 (.aload_n 0) 1 13 := ⟨by decide +kernel, rfl⟩
theorem dX3_tellTurn_13 : DD cX3_tellTurn 13 (.iload_n 1) 1 14 := ⟨by decide +kernel, rfl⟩
theorem dX3_tellTurn_14 : DD cX3_tellTurn 14 (.iload_n 2) 1 15 := ⟨by decide +kernel, rfl⟩
theorem dX3_tellTurn_15 : DD cX3_tellTurn 15 (.iload 5) 2 17 := ⟨by decide +kernel, rfl⟩
theorem dX3_tellTurn_17 : DD cX3_tellTurn 17 (.iload_n 3) 1 18 := ⟨by decide +kernel, rfl⟩
theorem dX3_tellTurn_18 : DD cX3_tellTurn 18 (.invokevirtual 9) 3 21 := ⟨by decide +kernel, rfl⟩
theorem dX3_tellTurn_21 : DD cX3_tellTurn 21 (.iconst (-1)) 1 22 := ⟨by decide +kernel, rfl⟩
theorem dX3_tellTurn_22 : DB cX3_tellTurn 22 (.if_icmp .eq) 12 3 25 34 := ⟨by decide +kernel, rfl, rfl⟩
theorem dX3_tellTurn_25 : DD cX3_tellTurn 25 (.iload 4) 2 27 := ⟨by decide +kernel, rfl⟩
theorem dX3_tellTurn_27 : DD cX3_tellTurn 27 (.iconst 1) 1 28 := ⟨by decide +kernel, rfl⟩
theorem dX3_tellTurn_28 : DD cX3_tellTurn 28 (.iload 5) 2 30 := ⟨by decide +kernel, rfl⟩
theorem dX3_tellTurn_30 : DD cX3_tellTurn 30 (.ishl) 1 31 := ⟨by decide +kernel, rfl⟩
theorem dX3_tellTurn_31 : DD cX3_tellTurn 31 (.ior) 1 32 := ⟨by decide +kernel, rfl⟩
theorem dX3_tellTurn_32 : DD cX3_tellTurn 32 (.istore 4) 2 34 := ⟨by decide +kernel, rfl⟩
theorem dX3_tellTurn_34 : DD cX3_tellTurn 34 (.iinc 5 1) 3 37 := ⟨by decide +kernel, rfl⟩
theorem dX3_tellTurn_37 : DB cX3_tellTurn 37 (.goto) (-31) 3 40 6 := ⟨by decide +kernel, rfl, rfl⟩
theorem dX3_tellTurn_40 : DD cX3_tellTurn 40 (.iload 4) 2 42 := ⟨by decide +kernel, rfl⟩
theorem dX3_tellTurn_42 : DD cX3_tellTurn 42 (.ireturn) 1 43 := ⟨by decide +kernel, rfl⟩
theorem dX3_leastWinningBid_0 : DD cX3_leastWinningBid 0 (.iconst 0) 1 1 := ⟨by decide +kernel, rfl⟩
theorem dX3_leastWinningBid_1 : DD cX3_leastWinningBid 1 (.istore 5) 2 3 := ⟨by decide +kernel, rfl⟩
theorem dX3_leastWinningBid_3 : DD cX3_leastWinningBid 3 (.iload 5) 2 5 := ⟨by decide +kernel, rfl⟩
theorem dX3_leastWinningBid_5 : DD cX3_leastWinningBid 5 (.iload_n 3) 1 6 := ⟨by decide +kernel, rfl⟩
theorem dX3_leastWinningBid_6 : DB cX3_leastWinningBid 6 (.if_icmp .gt) 27 3 9 33 := ⟨by decide +kernel, rfl, rfl⟩
theorem dX3_leastWinningBid_9 : DD cX3_leastWinningBid 9 (.aload_n 0) 1 10 := ⟨by decide +kernel, rfl⟩
theorem dX3_leastWinningBid_10 : DD cX3_leastWinningBid 10 (.iload_n 1) 1 11 := ⟨by decide +kernel, rfl⟩
theorem dX3_leastWinningBid_11 : DD cX3_leastWinningBid 11 (.iload_n 2) 1 12 := ⟨by decide +kernel, rfl⟩
theorem dX3_leastWinningBid_12 : DD cX3_leastWinningBid 12 (.iload_n 3) 1 13 := ⟨by decide +kernel, rfl⟩
theorem dX3_leastWinningBid_13 : DD cX3_leastWinningBid 13 (.iload 4) 2 15 := ⟨by decide +kernel, rfl⟩
theorem dX3_leastWinningBid_15 : DD cX3_leastWinningBid 15 (.iload 5) 2 17 := ⟨by decide +kernel, rfl⟩
theorem dX3_leastWinningBid_17 : DD cX3_leastWinningBid 17 (.invokevirtual 15) 3 20 := ⟨by decide +kernel, rfl⟩
theorem dX3_leastWinningBid_20 : DD cX3_leastWinningBid 20 (.iconst (-1)) 1 21 := ⟨by decide +kernel, rfl⟩
theorem dX3_leastWinningBid_21 : DB cX3_leastWinningBid 21 (.if_icmp .ne) 6 3 24 27 := ⟨by decide +kernel, rfl, rfl⟩
theorem dX3_leastWinningBid_24 : DD cX3_leastWinningBid 24 (.iload 5) 2 26 := ⟨by decide +kernel, rfl⟩
theorem dX3_leastWinningBid_26 : DD cX3_leastWinningBid 26 (.ireturn) 1 27 := ⟨by decide +kernel, rfl⟩
theorem dX3_leastWinningBid_27 : DD cX3_leastWinningBid 27 (.iinc 5 1) 3 30 := ⟨by decide +kernel, rfl⟩
theorem dX3_leastWinningBid_30 : DB cX3_leastWinningBid 30 (.goto) (-27) 3 33 3 := ⟨by decide +kernel, rfl, rfl⟩
theorem dX3_leastWinningBid_33 : DD cX3_leastWinningBid 33 (.iconst (-1)) 1 34 := ⟨by decide +kernel, rfl⟩
theorem dX3_leastWinningBid_34 : DD cX3_leastWinningBid 34 (.ireturn) 1 35 := ⟨by decide +kernel, rfl⟩
theorem dX3_leastRefutation_0 : DD cX3_leastRefutation 0 (.iload_n 1) 1 1 := ⟨by decide +kernel, rfl⟩
theorem dX3_leastRefutation_1 : DD cX3_leastRefutation 1 (.iload_n 3) 1 2 := ⟨by decide +kernel, rfl⟩
theorem dX3_leastRefutation_2 : DD cX3_leastRefutation 2 (.isub) 1 3 := ⟨by decide +kernel, rfl⟩
theorem dX3_leastRefutation_3 : DD cX3_leastRefutation 3 (.istore 6) 2 5 := ⟨by decide +kernel, rfl⟩
theorem dX3_leastRefutation_5 : DD cX3_leastRefutation 5 (.iload 5) 2 7 := ⟨by decide +kernel, rfl⟩
theorem dX3_leastRefutation_7 : DB cX3_leastRefutation 7 (.ifCond .le) 22 3 10 29 := ⟨by decide +kernel, rfl, rfl⟩
theorem dX3_leastRefutation_10 : DD cX3_leastRefutation 10 (.aload_n 0) 1 11 := ⟨by decide +kernel, rfl⟩
theorem dX3_leastRefutation_11 : DD cX3_leastRefutation 11 (.getfield 19) 3 14 := ⟨by decide +kernel, rfl⟩
theorem dX3_leastRefutation_14 : DD cX3_leastRefutation 14 (.iload 4) 2 16 := ⟨by decide +kernel, rfl⟩
theorem dX3_leastRefutation_16 : DD cX3_leastRefutation 16 (.iaload) 1 17 := ⟨by decide +kernel, rfl⟩
theorem dX3_leastRefutation_17 : DD cX3_leastRefutation 17 (.iload_n 3) 1 18 := ⟨by decide +kernel, rfl⟩
theorem dX3_leastRefutation_18 : DD cX3_leastRefutation 18 (.iload 5) 2 20 := ⟨by decide +kernel, rfl⟩
theorem dX3_leastRefutation_20 : DD cX3_leastRefutation 20 (.isub) 1 21 := ⟨by decide +kernel, rfl⟩
theorem dX3_leastRefutation_21 : DD cX3_leastRefutation 21 (.invokestatic 23) 3 24 := ⟨by decide +kernel, rfl⟩
theorem dX3_leastRefutation_24 : DB cX3_leastRefutation 24 (.ifCond .ne) 5 3 27 29 := ⟨by decide +kernel, rfl, rfl⟩
theorem dX3_leastRefutation_27 : DD cX3_leastRefutation 27 (.iconst 0) 1 28 := ⟨by decide +kernel, rfl⟩
theorem dX3_leastRefutation_28 : DD cX3_leastRefutation 28 (.ireturn) 1 29 := ⟨by decide +kernel, rfl⟩
theorem dX3_leastRefutation_29 : DD cX3_leastRefutation 29 (.iload 5) 2 31 := ⟨by decide +kernel, rfl⟩
theorem dX3_leastRefutation_31 : DD cX3_leastRefutation 31 (.iload 6) 2 33 := ⟨by decide +kernel, rfl⟩
theorem dX3_leastRefutation_33 : DB cX3_leastRefutation 33 (.if_icmp .gt) 54 3 36 87 := ⟨by decide +kernel, rfl, rfl⟩
theorem dX3_leastRefutation_36 : DD cX3_leastRefutation 36 (.iload 4) 2 38 := ⟨by decide +kernel, rfl⟩
theorem dX3_leastRefutation_38 : DD cX3_leastRefutation 38 (.iload_n 2) 1 39 := ⟨by decide +kernel, rfl⟩
theorem dX3_leastRefutation_39 : DB cX3_leastRefutation 39 (.if_icmp .ne) 22 3 42 61 := ⟨by decide +kernel, rfl, rfl⟩
theorem dX3_leastRefutation_42 : DD cX3_leastRefutation 42 (.aload_n 0) 1 43 := ⟨by decide +kernel, rfl⟩
theorem dX3_leastRefutation_43 : DD cX3_leastRefutation 43 (.getfield 19) 3 46 := ⟨by decide +kernel, rfl⟩
theorem dX3_leastRefutation_46 : DD cX3_leastRefutation 46 (.iconst 1) 1 47 := ⟨by decide +kernel, rfl⟩
theorem dX3_leastRefutation_47 : DD cX3_leastRefutation 47 (.iload 4) 2 49 := ⟨by decide +kernel, rfl⟩
theorem dX3_leastRefutation_49 : DD cX3_leastRefutation 49 (.isub) 1 50 := ⟨by decide +kernel, rfl⟩
theorem dX3_leastRefutation_50 : DD cX3_leastRefutation 50 (.iaload) 1 51 := ⟨by decide +kernel, rfl⟩
theorem dX3_leastRefutation_51 : DD cX3_leastRefutation 51 (.iload_n 3) 1 52 := ⟨by decide +kernel, rfl⟩
theorem dX3_leastRefutation_52 : DD cX3_leastRefutation 52 (.iload 5) 2 54 := ⟨by decide +kernel, rfl⟩
theorem dX3_leastRefutation_54 : DD cX3_leastRefutation 54 (.isub) 1 55 := ⟨by decide +kernel, rfl⟩
theorem dX3_leastRefutation_55 : DD cX3_leastRefutation 55 (.invokestatic 23) 3 58 := ⟨by decide +kernel, rfl⟩
theorem dX3_leastRefutation_58 : DB cX3_leastRefutation 58 (.goto) 19 3 61 77 := ⟨by decide +kernel, rfl, rfl⟩
theorem dX3_leastRefutation_61 : DD cX3_leastRefutation 61 (.aload_n 0) 1 62 := ⟨by decide +kernel, rfl⟩
theorem dX3_leastRefutation_62 : DD cX3_leastRefutation 62 (.getfield 27) 3 65 := ⟨by decide +kernel, rfl⟩
theorem dX3_leastRefutation_65 : DD cX3_leastRefutation 65 (.iconst 1) 1 66 := ⟨by decide +kernel, rfl⟩
theorem dX3_leastRefutation_66 : DD cX3_leastRefutation 66 (.iload 4) 2 68 := ⟨by decide +kernel, rfl⟩
theorem dX3_leastRefutation_68 : DD cX3_leastRefutation 68 (.isub) 1 69 := ⟨by decide +kernel, rfl⟩
theorem dX3_leastRefutation_69 : DD cX3_leastRefutation 69 (.iaload) 1 70 := ⟨by decide +kernel, rfl⟩
theorem dX3_leastRefutation_70 : DD cX3_leastRefutation 70 (.iload_n 3) 1 71 := ⟨by decide +kernel, rfl⟩
theorem dX3_leastRefutation_71 : DD cX3_leastRefutation 71 (.iload 5) 2 73 := ⟨by decide +kernel, rfl⟩
theorem dX3_leastRefutation_73 : DD cX3_leastRefutation 73 (.iadd) 1 74 := ⟨by decide +kernel, rfl⟩
theorem dX3_leastRefutation_74 : DD cX3_leastRefutation 74 (.invokestatic 23) 3 77 := ⟨by decide +kernel, rfl⟩
theorem dX3_leastRefutation_77 : DD cX3_leastRefutation 77 (.istore 7) 2 79 := ⟨by decide +kernel, rfl⟩
theorem dX3_leastRefutation_79 : DD cX3_leastRefutation 79 (.iload 7) 2 81 := ⟨by decide +kernel, rfl⟩
theorem dX3_leastRefutation_81 : DB cX3_leastRefutation 81 (.ifCond .ne) 6 3 84 87 := ⟨by decide +kernel, rfl, rfl⟩
theorem dX3_leastRefutation_84 : DD cX3_leastRefutation 84 (.iload 5) 2 86 := ⟨by decide +kernel, rfl⟩
theorem dX3_leastRefutation_86 : DD cX3_leastRefutation 86 (.ireturn) 1 87 := ⟨by decide +kernel, rfl⟩
theorem dX3_leastRefutation_87 : DD cX3_leastRefutation 87 (.iload 5) 2 89 := ⟨by decide +kernel, rfl⟩
theorem dX3_leastRefutation_89 : DD cX3_leastRefutation 89 (.iconst 1) 1 90 := ⟨by decide +kernel, rfl⟩
theorem dX3_leastRefutation_90 : DD cX3_leastRefutation 90 (.iadd) 1 91 := ⟨by decide +kernel, rfl⟩
theorem dX3_leastRefutation_91 : DD cX3_leastRefutation 91 (.istore 7) 2 93 := ⟨by decide +kernel, rfl⟩
theorem dX3_leastRefutation_93 : DD cX3_leastRefutation 93 (.iload 7) 2 95 := ⟨by decide +kernel, rfl⟩
theorem dX3_leastRefutation_95 : DD cX3_leastRefutation 95 (.iload 6) 2 97 := ⟨by decide +kernel, rfl⟩
theorem dX3_leastRefutation_97 : DB cX3_leastRefutation 97 (.if_icmp .gt) 29 3 100 126 := ⟨by decide +kernel, rfl, rfl⟩
theorem dX3_leastRefutation_100 : DD cX3_leastRefutation 100 (.aload_n 0) 1 101 := ⟨by decide +kernel, rfl⟩
theorem dX3_leastRefutation_101 : DD cX3_leastRefutation 101 (.getfield 27) 3 104 := ⟨by decide +kernel, rfl⟩
theorem dX3_leastRefutation_104 : DD cX3_leastRefutation 104 (.iload 4) 2 106 := ⟨by decide +kernel, rfl⟩
theorem dX3_leastRefutation_106 : DD cX3_leastRefutation 106 (.iaload) 1 107 := ⟨by decide +kernel, rfl⟩
theorem dX3_leastRefutation_107 : DD cX3_leastRefutation 107 (.iload_n 3) 1 108 := ⟨by decide +kernel, rfl⟩
theorem dX3_leastRefutation_108 : DD cX3_leastRefutation 108 (.iload 7) 2 110 := ⟨by decide +kernel, rfl⟩
theorem dX3_leastRefutation_110 : DD cX3_leastRefutation 110 (.iadd) 1 111 := ⟨by decide +kernel, rfl⟩
theorem dX3_leastRefutation_111 : DD cX3_leastRefutation 111 (.invokestatic 23) 3 114 := ⟨by decide +kernel, rfl⟩
theorem dX3_leastRefutation_114 : DB cX3_leastRefutation 114 (.ifCond .ne) 6 3 117 120 := ⟨by decide +kernel, rfl, rfl⟩
theorem dX3_leastRefutation_117 : DD cX3_leastRefutation 117 (.iload 7) 2 119 := ⟨by decide +kernel, rfl⟩
theorem dX3_leastRefutation_119 : DD cX3_leastRefutation 119 (.ireturn) 1 120 := ⟨by decide +kernel, rfl⟩
theorem dX3_leastRefutation_120 : DD cX3_leastRefutation 120 (.iinc 7 1) 3 123 := ⟨by decide +kernel, rfl⟩
theorem dX3_leastRefutation_123 : DB cX3_leastRefutation 123 (.goto) (-30) 3 126 93 := ⟨by decide +kernel, rfl, rfl⟩
theorem dX3_leastRefutation_126 : DD cX3_leastRefutation 126 (.iconst (-1)) 1 127 := ⟨by decide +kernel, rfl⟩
theorem dX3_leastRefutation_127 : DD cX3_leastRefutation 127 (.ireturn) 1 128 := ⟨by decide +kernel, rfl⟩
theorem dX3_positionsOf_0 : DD cX3_positionsOf 0 (.iconst 0) 1 1 := ⟨by decide +kernel, rfl⟩
theorem dX3_positionsOf_1 : DD cX3_positionsOf 1 (.istore_n 3) 1 2 := ⟨by decide +kernel, rfl⟩
theorem dX3_positionsOf_2 : DD cX3_positionsOf 2 (.iconst 0) 1 3 := ⟨by decide +kernel, rfl⟩
theorem dX3_positionsOf_3 : DD cX3_positionsOf 3 (.istore 4) 2 5 := ⟨by decide +kernel, rfl⟩
theorem dX3_positionsOf_5 : DD cX3_positionsOf 5 (.iload 4) 2 7 := ⟨by decide +kernel, rfl⟩
theorem dX3_positionsOf_7 : DD cX3_positionsOf 7 (.bipush 8) 2 9 := ⟨by decide +kernel, rfl⟩
theorem dX3_positionsOf_9 : DB cX3_positionsOf 9 (.if_icmp .ge) 38 3 12 47 := ⟨by decide +kernel, rfl, rfl⟩
theorem dX3_positionsOf_12 : DD cX3_positionsOf 12 (.aload_n 0) 1 13 := ⟨by decide +kernel, rfl⟩
theorem dX3_positionsOf_13 : DD cX3_positionsOf 13 (.aload_n 1) 1 14 := ⟨by decide +kernel, rfl⟩
theorem dX3_positionsOf_14 : DD cX3_positionsOf 14 (.getfield 30) 3 17 := ⟨by decide +kernel, rfl⟩
theorem dX3_positionsOf_17 : DD cX3_positionsOf 17 (.iload_n 2) 1 18 := ⟨by decide +kernel, rfl⟩
theorem dX3_positionsOf_18 : DD cX3_positionsOf 18 (.iload 4) 2 20 := ⟨by decide +kernel, rfl⟩
theorem dX3_positionsOf_20 : DD cX3_positionsOf 20 (.aload_n 1) 1 21 := ⟨by decide +kernel, rfl⟩
theorem dX3_positionsOf_21 : DD cX3_positionsOf 21 (.getfield 36) 3 24 := ⟨by decide +kernel, rfl⟩
theorem dX3_positionsOf_24 : DD cX3_positionsOf 24 (.invokevirtual 39) 3 27 := ⟨by decide +kernel, rfl⟩
theorem dX3_positionsOf_27 : DD cX3_positionsOf 27 (.aload_n 1) 1 28 := ⟨by decide +kernel, rfl⟩
theorem dX3_positionsOf_28 : DD cX3_positionsOf 28 (.iload_n 2) 1 29 := ⟨by decide +kernel, rfl⟩
theorem dX3_positionsOf_29 : DD cX3_positionsOf 29 (.invokevirtual 42) 3 32 := ⟨by decide +kernel, rfl⟩
theorem dX3_positionsOf_32 : DD cX3_positionsOf 32 (.invokestatic 23) 3 35 := ⟨by decide +kernel, rfl⟩
theorem dX3_positionsOf_35 : DB cX3_positionsOf 35 (.ifCond .eq) 6 3 38 41 := ⟨by decide +kernel, rfl, rfl⟩
theorem dX3_positionsOf_38 : DD cX3_positionsOf 38 (.iinc 3 1) 3 41 := ⟨by decide +kernel, rfl⟩
theorem dX3_positionsOf_41 : DD cX3_positionsOf 41 (.iinc 4 1) 3 44 := ⟨by decide +kernel, rfl⟩
theorem dX3_positionsOf_44 : DB cX3_positionsOf 44 (.goto) (-39) 3 47 5 := ⟨by decide +kernel, rfl, rfl⟩
theorem dX3_positionsOf_47 : DD cX3_positionsOf 47 (.iload_n 3) 1 48 := ⟨by decide +kernel, rfl⟩
theorem dX3_positionsOf_48 : DD cX3_positionsOf 48 (.ireturn) 1 49 := ⟨by decide +kernel, rfl⟩
theorem dX4_init_0 : DD cX4_init 0 (.aload_n 0) 1 1 := ⟨by decide +kernel, rfl⟩
theorem dX4_init_1 : DD cX4_init 1 (.invokespecial 3) 3 4 := ⟨by decide +kernel, rfl⟩
theorem dX4_init_4 : DD cX4_init 4 (.aload_n 0) 1 5 := ⟨by decide +kernel, rfl⟩
theorem dX4_init_5 : DD cX4_init 5 (.bipush 6) 2 7 := ⟨by decide +kernel, rfl⟩
theorem dX4_init_7 : DD cX4_init 7 (.anewarray 9) 3 10 := ⟨by decide +kernel, rfl⟩
theorem dX4_init_10 : DD cX4_init 10 (.putfield 11) 3 13 := ⟨by decide +kernel, rfl⟩
theorem dX4_init_13 : DD cX4_init 13 (.aload_n 0) 1 14 := ⟨by decide +kernel, rfl⟩
theorem dX4_init_14 : DD cX4_init 14 (.iconst 0) 1 15 := ⟨by decide +kernel, rfl⟩
theorem dX4_init_15 : DD cX4_init 15 (.putfield 17) 3 18 := ⟨by decide +kernel, rfl⟩
theorem dX4_init_18 : DD cX4_init 18 (.aload_n 0) 1 19 := ⟨by decide +kernel, rfl⟩
theorem dX4_init_19 : DD cX4_init 19 (.iconst 0) 1 20 := ⟨by decide +kernel, rfl⟩
theorem dX4_init_20 : DD cX4_init 20 (.putfield 21) 3 23 := ⟨by decide +kernel, rfl⟩
theorem dX4_init_23 : DD cX4_init 23 (.iconst 0) 1 24 := ⟨by decide +kernel, rfl⟩
theorem dX4_init_24 : DD cX4_init 24 (.istore_n 1) 1 25 := ⟨by decide +kernel, rfl⟩
theorem dX4_init_25 : DD cX4_init 25 (.iload_n 1) 1 26 := ⟨by decide +kernel, rfl⟩
theorem dX4_init_26 : DD cX4_init 26 (.bipush 6) 2 28 := ⟨by decide +kernel, rfl⟩
theorem dX4_init_28 : DB cX4_init 28 (.if_icmp .ge) 22 3 31 50 := ⟨by decide +kernel, rfl, rfl⟩
theorem dX4_init_31 : DD cX4_init 31 (.aload_n 0) 1 32 := ⟨by decide +kernel, rfl⟩
theorem dX4_init_32 : DD cX4_init 32 (.getfield 11) 3 35 := ⟨by decide +kernel, rfl⟩
theorem dX4_init_35 : DD cX4_init 35 (.iload_n 1) 1 36 := ⟨by decide +kernel, rfl⟩
theorem dX4_init_36 : DD cX4_init 36 (.new 9) 3 39 := ⟨by decide +kernel, rfl⟩
theorem dX4_init_39 : DD cX4_init 39 (.dup) 1 40 := ⟨by decide +kernel, rfl⟩
theorem dX4_init_40 : DD cX4_init 40 (.invokespecial 24) 3 43 := ⟨by decide +kernel, rfl⟩
theorem dX4_init_43 : DD cX4_init 43 (.aastore) 1 44 := ⟨by decide +kernel, rfl⟩
theorem dX4_init_44 : DD cX4_init 44 (.iinc 1 1) 3 47 := ⟨by decide +kernel, rfl⟩
theorem dX4_init_47 : DB cX4_init 47 (.goto) (-22) 3 50 25 := ⟨by decide +kernel, rfl, rfl⟩
theorem dX4_init_50 : DD cX4_init 50 (.return_) 1 51 := ⟨by decide +kernel, rfl⟩
theorem dX4_push_0 : DD cX4_push 0 (.aload_n 0) 1 1 := ⟨by decide +kernel, rfl⟩
theorem dX4_push_1 : DD cX4_push 1 (.getfield 11) 3 4 := ⟨by decide +kernel, rfl⟩
theorem dX4_push_4 : DD cX4_push 4 (.aload_n 0) 1 5 := ⟨by decide +kernel, rfl⟩
theorem dX4_push_5 : DD cX4_push 5 (.getfield 17) 3 8 := ⟨by decide +kernel, rfl⟩
theorem dX4_push_8 : DD cX4_push 8 (.aaload) 1 9 := ⟨by decide +kernel, rfl⟩
theorem dX4_push_9 : DD cX4_push 9 (.aload_n 1) 1 10 := ⟨by decide +kernel, rfl⟩
theorem dX4_push_10 : DD cX4_push 10 (.invokevirtual 25) 3 13 := ⟨by decide +kernel, rfl⟩
theorem dX4_push_13 : DD cX4_push 13 (.aload_n 0) 1 14 := ⟨by decide +kernel, rfl⟩
theorem dX4_push_14 : DD cX4_push 14 (.aload_n 0) 1 15 := ⟨by decide +kernel, rfl⟩
theorem dX4_push_15 : DD cX4_push 15 (.getfield 17) 3 18 := ⟨by decide +kernel, rfl⟩
theorem dX4_push_18 : DD cX4_push 18 (.iconst 1) 1 19 := ⟨by decide +kernel, rfl⟩
theorem dX4_push_19 : DD cX4_push 19 (.iadd) 1 20 := ⟨by decide +kernel, rfl⟩
theorem dX4_push_20 : DD cX4_push 20 (.bipush 6) 2 22 := ⟨by decide +kernel, rfl⟩
theorem dX4_push_22 : DB cX4_push 22 (.if_icmp .ge) 12 3 25 34 := ⟨by decide +kernel, rfl, rfl⟩
theorem dX4_push_25 : DD cX4_push 25 (.aload_n 0) 1 26 := ⟨by decide +kernel, rfl⟩
theorem dX4_push_26 : DD cX4_push 26 (.getfield 17) 3 29 := ⟨by decide +kernel, rfl⟩
theorem dX4_push_29 : DD cX4_push 29 (.iconst 1) 1 30 := ⟨by decide +kernel, rfl⟩
theorem dX4_push_30 : DD cX4_push 30 (.iadd) 1 31 := ⟨by decide +kernel, rfl⟩
theorem dX4_push_31 : DB cX4_push 31 (.goto) 4 3 34 35 := ⟨by decide +kernel, rfl, rfl⟩
theorem dX4_push_34 : DD cX4_push 34 (.iconst 0) 1 35 := ⟨by decide +kernel, rfl⟩
theorem dX4_push_35 : DD cX4_push 35 (.putfield 17) 3 38 := ⟨by decide +kernel, rfl⟩
theorem dX4_push_38 : DD cX4_push 38 (.aload_n 0) 1 39 := ⟨by decide +kernel, rfl⟩
theorem dX4_push_39 : DD cX4_push 39 (.aload_n 0) 1 40 := ⟨by decide +kernel, rfl⟩
theorem dX4_push_40 : DD cX4_push 40 (.getfield 21) 3 43 := ⟨by decide +kernel, rfl⟩
theorem dX4_push_43 : DD cX4_push 43 (.iconst 1) 1 44 := ⟨by decide +kernel, rfl⟩
theorem dX4_push_44 : DD cX4_push 44 (.iadd) 1 45 := ⟨by decide +kernel, rfl⟩
theorem dX4_push_45 : DD cX4_push 45 (.bipush 6) 2 47 := ⟨by decide +kernel, rfl⟩
theorem dX4_push_47 : DD cX4_push 47 (.invokestatic 29) 3 50 := ⟨by decide +kernel, rfl⟩
theorem dX4_push_50 : DD cX4_push 50 (.putfield 21) 3 53 := ⟨by decide +kernel, rfl⟩
theorem dX4_push_53 : DD cX4_push 53 (.return_) 1 54 := ⟨by decide +kernel, rfl⟩
theorem dX4_popInto_0 : DD cX4_popInto 0 (.aload_n 0) 1 1 := ⟨by decide +kernel, rfl⟩
theorem dX4_popInto_1 : DD cX4_popInto 1 (.aload_n 0) 1 2 := ⟨by decide +kernel, rfl⟩
theorem dX4_popInto_2 : DD cX4_popInto 2 (.getfield 17) 3 5 := ⟨by decide +kernel, rfl⟩
theorem dX4_popInto_5 : DB cX4_popInto 5 (.ifCond .le) 12 3 8 17 := ⟨by decide +kernel, rfl, rfl⟩
theorem dX4_popInto_8 : DD cX4_popInto 8 (.aload_n 0) 1 9 := ⟨by decide +kernel, rfl⟩
theorem dX4_popInto_9 : DD cX4_popInto 9 (.getfield 17) 3 12 := ⟨by decide +kernel, rfl⟩
theorem dX4_popInto_12 : DD cX4_popInto 12 (.iconst 1) 1 13 := ⟨by decide +kernel, rfl⟩
theorem dX4_popInto_13 : DD cX4_popInto 13 (.isub) 1 14 := ⟨by decide +kernel, rfl⟩
theorem dX4_popInto_14 : DB cX4_popInto 14 (.goto) 4 3 17 18 := ⟨by decide +kernel, rfl, rfl⟩
theorem dX4_popInto_17 : DD cX4_popInto 17 (.iconst 5) 1 18 := ⟨by decide +kernel, rfl⟩
theorem dX4_popInto_18 : DD cX4_popInto 18 (.putfield 17) 3 21 := ⟨by decide +kernel, rfl⟩
theorem dX4_popInto_21 : DD cX4_popInto 21 (.aload_n 0) 1 22 := ⟨by decide +kernel, rfl⟩
theorem dX4_popInto_22 : DD cX4_popInto 22 (.dup) 1 23 := ⟨by decide +kernel, rfl⟩
theorem dX4_popInto_23 : DD cX4_popInto 23 (.getfield 21) 3 26 := ⟨by decide +kernel, rfl⟩
theorem dX4_popInto_26 : DD cX4_popInto 26 (.iconst 1) 1 27 := ⟨by decide +kernel, rfl⟩
theorem dX4_popInto_27 : DD cX4_popInto 27 (.isub) 1 28 := ⟨by decide +kernel, rfl⟩
theorem dX4_popInto_28 : DD cX4_popInto 28 (.putfield 21) 3 31 := ⟨by decide +kernel, rfl⟩
theorem dX4_popInto_31 : DD cX4_popInto 31 (.aload_n 1) 1 32 := ⟨by decide +kernel, rfl⟩
theorem dX4_popInto_32 : DD cX4_popInto 32 (.aload_n 0) 1 33 := ⟨by decide +kernel, rfl⟩
theorem dX4_popInto_33 : DD cX4_popInto 33 (.getfield 11) 3 36 := ⟨by decide +kernel, rfl⟩
theorem dX4_popInto_36 : DD cX4_popInto 36 (.aload_n 0) 1 37 := ⟨by decide +kernel, rfl⟩
theorem dX4_popInto_37 : DD cX4_popInto 37 (.getfield 17) 3 40 := ⟨by decide +kernel, rfl⟩
theorem dX4_popInto_40 : DD cX4_popInto 40 (.aaload) 1 41 := ⟨by decide +kernel, rfl⟩
theorem dX4_popInto_41 : DD cX4_popInto 41 (.invokevirtual 25) 3 44 := ⟨by decide +kernel, rfl⟩
theorem dX4_popInto_44 : DD cX4_popInto 44 (.return_) 1 45 := ⟨by decide +kernel, rfl⟩
theorem dX5_init_0 : DD cX5_init 0 (.aload_n 0) 1 1 := ⟨by decide +kernel, rfl⟩
theorem dX5_init_1 : DD cX5_init 1 (.invokespecial 3) 3 4 := ⟨by decide +kernel, rfl⟩
theorem dX5_init_4 : DD cX5_init 4 (.aload_n 0) 1 5 := ⟨by decide +kernel, rfl⟩
theorem dX5_init_5 : DD cX5_init 5 (.new 9) 3 8 := ⟨by decide +kernel, rfl⟩
theorem dX5_init_8 : DD cX5_init 8 (.dup) 1 9 := ⟨by decide +kernel, rfl⟩
theorem dX5_init_9 : DD cX5_init 9 (.invokespecial 11) 3 12 := ⟨by decide +kernel, rfl⟩
theorem dX5_init_12 : DD cX5_init 12 (.putfield 12) 3 15 := ⟨by decide +kernel, rfl⟩
theorem dX5_init_15 : DD cX5_init 15 (.aload_n 0) 1 16 := ⟨by decide +kernel, rfl⟩
theorem dX5_init_16 : DD cX5_init 16 (.bipush 8) 2 18 := ⟨by decide +kernel, rfl⟩
theorem dX5_init_18 : DD cX5_init 18 (.putfield 18) 3 21 := ⟨by decide +kernel, rfl⟩
theorem dX5_init_21 : DD cX5_init 21 (.aload_n 0) 1 22 := ⟨by decide +kernel, rfl⟩
theorem dX5_init_22 : DD cX5_init 22 (.bipush 6) 2 24 := ⟨by decide +kernel, rfl⟩
theorem dX5_init_24 : DD cX5_init 24 (.putfield 22) 3 27 := ⟨by decide +kernel, rfl⟩
theorem dX5_init_27 : DD cX5_init 27 (.aload_n 0) 1 28 := ⟨by decide +kernel, rfl⟩
theorem dX5_init_28 : DD cX5_init 28 (.iconst 0) 1 29 := ⟨by decide +kernel, rfl⟩
theorem dX5_init_29 : DD cX5_init 29 (.putfield 25) 3 32 := ⟨by decide +kernel, rfl⟩
theorem dX5_init_32 : DD cX5_init 32 (.aload_n 0) 1 33 := ⟨by decide +kernel, rfl⟩
theorem dX5_init_33 : DD cX5_init 33 (.iconst 4) 1 34 := ⟨by decide +kernel, rfl⟩
theorem dX5_init_34 : DD cX5_init 34 (.putfield 28) 3 37 := ⟨by decide +kernel, rfl⟩
theorem dX5_init_37 : DD cX5_init 37 (.aload_n 0) 1 38 := ⟨by decide +kernel, rfl⟩
theorem dX5_init_38 : DD cX5_init 38 (.iconst 0) 1 39 := ⟨by decide +kernel, rfl⟩
theorem dX5_init_39 : DD cX5_init 39 (.putfield 31) 3 42 := ⟨by decide +kernel, rfl⟩
theorem dX5_init_42 : DD cX5_init 42 (.aload_n 0) 1 43 := ⟨by decide +kernel, rfl⟩
theorem dX5_init_43 : DD cX5_init 43 (.iconst (-1)) 1 44 := ⟨by decide +kernel, rfl⟩
theorem dX5_init_44 : DD cX5_init 44 (.putfield 34) 3 47 := ⟨by decide +kernel, rfl⟩
theorem dX5_init_47 : DD cX5_init 47 (.aload_n 0) 1 48 := ⟨by decide +kernel, rfl⟩
theorem dX5_init_48 : DD cX5_init 48 (.iconst 2) 1 49 := ⟨by decide +kernel, rfl⟩
theorem dX5_init_49 : DD cX5_init 49 (.newarray .int) 2 51 := ⟨by decide +kernel, rfl⟩
theorem dX5_init_51 : DD cX5_init 51 (.putfield 37) 3 54 := ⟨by decide +kernel, rfl⟩
theorem dX5_init_54 : DD cX5_init 54 (.aload_n 0) 1 55 := ⟨by decide +kernel, rfl⟩
theorem dX5_init_55 : DD cX5_init 55 (.iconst 2) 1 56 := ⟨by decide +kernel, rfl⟩
theorem dX5_init_56 : DD cX5_init 56 (.newarray .int) 2 58 := ⟨by decide +kernel, rfl⟩
theorem dX5_init_58 : DD cX5_init 58 (.putfield 41) 3 61 := ⟨by decide +kernel, rfl⟩
theorem dX5_init_61 : DD cX5_init 61 (.aload_n 0) 1 62 := ⟨by decide +kernel, rfl⟩
theorem dX5_init_62 : DD cX5_init 62 (.iconst 0) 1 63 := ⟨by decide +kernel, rfl⟩
theorem dX5_init_63 : DD cX5_init 63 (.putfield 44) 3 66 := ⟨by decide +kernel, rfl⟩
theorem dX5_init_66 : DD cX5_init 66 (.aload_n 0) 1 67 := ⟨by decide +kernel, rfl⟩
theorem dX5_init_67 : DD cX5_init 67 (.iconst 0) 1 68 := ⟨by decide +kernel, rfl⟩
theorem dX5_init_68 : DD cX5_init 68 (.putfield 47) 3 71 := ⟨by decide +kernel, rfl⟩
theorem dX5_init_71 : DD cX5_init 71 (.return_) 1 72 := ⟨by decide +kernel, rfl⟩
theorem dX5_copyFrom_0 : DD cX5_copyFrom 0 (.aload_n 0) 1 1 := ⟨by decide +kernel, rfl⟩
theorem dX5_copyFrom_1 : DD cX5_copyFrom 1 (.getfield 12) 3 4 := ⟨by decide +kernel, rfl⟩
theorem dX5_copyFrom_4 : DD cX5_copyFrom 4 (.aload_n 1) 1 5 := ⟨by decide +kernel, rfl⟩
theorem dX5_copyFrom_5 : DD cX5_copyFrom 5 (.getfield 12) 3 8 := ⟨by decide +kernel, rfl⟩
theorem dX5_copyFrom_8 : DD cX5_copyFrom 8 (.invokevirtual 50) 3 11 := ⟨by decide +kernel, rfl⟩
theorem dX5_copyFrom_11 : DD cX5_copyFrom 11 (.aload_n 0) 1 12 := ⟨by decide +kernel, rfl⟩
theorem dX5_copyFrom_12 : DD cX5_copyFrom 12 (.aload_n 1) 1 13 := ⟨by decide +kernel, rfl⟩
theorem dX5_copyFrom_13 : DD cX5_copyFrom 13 (.getfield 18) 3 16 := ⟨by decide +kernel, rfl⟩
theorem dX5_copyFrom_16 : DD cX5_copyFrom 16 (.putfield 18) 3 19 := ⟨by decide +kernel, rfl⟩
theorem dX5_copyFrom_19 : DD cX5_copyFrom 19 (.aload_n 0) 1 20 := ⟨by decide +kernel, rfl⟩
theorem dX5_copyFrom_20 : DD cX5_copyFrom 20 (.aload_n 1) 1 21 := ⟨by decide +kernel, rfl⟩
theorem dX5_copyFrom_21 : DD cX5_copyFrom 21 (.getfield 22) 3 24 := ⟨by decide +kernel, rfl⟩
theorem dX5_copyFrom_24 : DD cX5_copyFrom 24 (.putfield 22) 3 27 := ⟨by decide +kernel, rfl⟩
theorem dX5_copyFrom_27 : DD cX5_copyFrom 27 (.aload_n 0) 1 28 := ⟨by decide +kernel, rfl⟩
theorem dX5_copyFrom_28 : DD cX5_copyFrom 28 (.aload_n 1) 1 29 := ⟨by decide +kernel, rfl⟩
theorem dX5_copyFrom_29 : DD cX5_copyFrom 29 (.getfield 25) 3 32 := ⟨by decide +kernel, rfl⟩
theorem dX5_copyFrom_32 : DD cX5_copyFrom 32 (.putfield 25) 3 35 := ⟨by decide +kernel, rfl⟩
theorem dX5_copyFrom_35 : DD cX5_copyFrom 35 (.aload_n 0) 1 36 := ⟨by decide +kernel, rfl⟩
theorem dX5_copyFrom_36 : DD cX5_copyFrom 36 (.aload_n 1) 1 37 := ⟨by decide +kernel, rfl⟩
theorem dX5_copyFrom_37 : DD cX5_copyFrom 37 (.getfield 28) 3 40 := ⟨by decide +kernel, rfl⟩
theorem dX5_copyFrom_40 : DD cX5_copyFrom 40 (.putfield 28) 3 43 := ⟨by decide +kernel, rfl⟩
theorem dX5_copyFrom_43 : DD cX5_copyFrom 43 (.aload_n 0) 1 44 := ⟨by decide +kernel, rfl⟩
theorem dX5_copyFrom_44 : DD cX5_copyFrom 44 (.aload_n 1) 1 45 := ⟨by decide +kernel, rfl⟩
theorem dX5_copyFrom_45 : DD cX5_copyFrom 45 (.getfield 31) 3 48 := ⟨by decide +kernel, rfl⟩
theorem dX5_copyFrom_48 : DD cX5_copyFrom 48 (.putfield 31) 3 51 := ⟨by decide +kernel, rfl⟩
theorem dX5_copyFrom_51 : DD cX5_copyFrom 51 (.aload_n 0) 1 52 := ⟨by decide +kernel, rfl⟩
theorem dX5_copyFrom_52 : DD cX5_copyFrom 52 (.aload_n 1) 1 53 := ⟨by decide +kernel, rfl⟩
theorem dX5_copyFrom_53 : DD cX5_copyFrom 53 (.getfield 34) 3 56 := ⟨by decide +kernel, rfl⟩
theorem dX5_copyFrom_56 : DD cX5_copyFrom 56 (.putfield 34) 3 59 := ⟨by decide +kernel, rfl⟩
theorem dX5_copyFrom_59 : DD cX5_copyFrom 59 (.aload_n 1) 1 60 := ⟨by decide +kernel, rfl⟩
theorem dX5_copyFrom_60 : DD cX5_copyFrom 60 (.getfield 37) 3 63 := ⟨by decide +kernel, rfl⟩
theorem dX5_copyFrom_63 : DD cX5_copyFrom 63 (.iconst 0) 1 64 := ⟨by decide +kernel, rfl⟩
theorem dX5_copyFrom_64 : DD cX5_copyFrom 64 (.aload_n 0) 1 65 := ⟨by decide +kernel, rfl⟩
theorem dX5_copyFrom_65 : DD cX5_copyFrom 65 (.getfield 37) 3 68 := ⟨by decide +kernel, rfl⟩
theorem dX5_copyFrom_68 : DD cX5_copyFrom 68 (.iconst 0) 1 69 := ⟨by decide +kernel, rfl⟩
theorem dX5_copyFrom_69 : DD cX5_copyFrom 69 (.iconst 2) 1 70 := ⟨by decide +kernel, rfl⟩
theorem dX5_copyFrom_70 : DD cX5_copyFrom 70 (.invokestatic 54) 3 73 := ⟨by decide +kernel, rfl⟩
theorem dX5_copyFrom_73 : DD cX5_copyFrom 73 (.aload_n 1) 1 74 := ⟨by decide +kernel, rfl⟩
theorem dX5_copyFrom_74 : DD cX5_copyFrom 74 (.getfield 41) 3 77 := ⟨by decide +kernel, rfl⟩
theorem dX5_copyFrom_77 : DD cX5_copyFrom 77 (.iconst 0) 1 78 := ⟨by decide +kernel, rfl⟩
theorem dX5_copyFrom_78 : DD cX5_copyFrom 78 (.aload_n 0) 1 79 := ⟨by decide +kernel, rfl⟩
theorem dX5_copyFrom_79 : DD cX5_copyFrom 79 (.getfield 41) 3 82 := ⟨by decide +kernel, rfl⟩
theorem dX5_copyFrom_82 : DD cX5_copyFrom 82 (.iconst 0) 1 83 := ⟨by decide +kernel, rfl⟩
theorem dX5_copyFrom_83 : DD cX5_copyFrom 83 (.iconst 2) 1 84 := ⟨by decide +kernel, rfl⟩
theorem dX5_copyFrom_84 : DD cX5_copyFrom 84 (.invokestatic 54) 3 87 := ⟨by decide +kernel, rfl⟩
theorem dX5_copyFrom_87 : DD cX5_copyFrom 87 (.aload_n 0) 1 88 := ⟨by decide +kernel, rfl⟩
theorem dX5_copyFrom_88 : DD cX5_copyFrom 88 (.aload_n 1) 1 89 := ⟨by decide +kernel, rfl⟩
theorem dX5_copyFrom_89 : DD cX5_copyFrom 89 (.getfield 44) 3 92 := ⟨by decide +kernel, rfl⟩
theorem dX5_copyFrom_92 : DD cX5_copyFrom 92 (.putfield 44) 3 95 := ⟨by decide +kernel, rfl⟩
theorem dX5_copyFrom_95 : DD cX5_copyFrom 95 (.aload_n 0) 1 96 := ⟨by decide +kernel, rfl⟩
theorem dX5_copyFrom_96 : DD cX5_copyFrom 96 (.aload_n 1) 1 97 := ⟨by decide +kernel, rfl⟩
theorem dX5_copyFrom_97 : DD cX5_copyFrom 97 (.getfield 47) 3 100 := ⟨by decide +kernel, rfl⟩
theorem dX5_copyFrom_100 : DD cX5_copyFrom 100 (.putfield 47) 3 103 := ⟨by decide +kernel, rfl⟩
theorem dX5_copyFrom_103 : DD cX5_copyFrom 103 (.return_) 1 104 := ⟨by decide +kernel, rfl⟩
theorem dX5_isOver_0 : DD cX5_isOver 0 (.aload_n 0) 1 1 := ⟨by decide +kernel, rfl⟩
theorem dX5_isOver_1 : DD cX5_isOver 1 (.getfield 12) 3 4 := ⟨by decide +kernel, rfl⟩
theorem dX5_isOver_4 : DD cX5_isOver 4 (.aload_n 0) 1 5 := ⟨by decide +kernel, rfl⟩
theorem dX5_isOver_5 : DD cX5_isOver 5 (.getfield 25) 3 8 := ⟨by decide +kernel, rfl⟩
theorem dX5_isOver_8 : DD cX5_isOver 8 (.invokevirtual 60) 3 11 := ⟨by decide +kernel, rfl⟩
theorem dX5_isOver_11 : DD cX5_isOver 11 (.ireturn) 1 12 := ⟨by decide +kernel, rfl⟩
theorem dX5_budgetOf_0 : DD cX5_budgetOf 0 (.iload_n 1) 1 1 := ⟨by decide +kernel, rfl⟩
theorem dX5_budgetOf_1 : DB cX5_budgetOf 1 (.ifCond .ne) 10 3 4 11 := ⟨by decide +kernel, rfl, rfl⟩
theorem dX5_budgetOf_4 : DD cX5_budgetOf 4 (.aload_n 0) 1 5 := ⟨by decide +kernel, rfl⟩
theorem dX5_budgetOf_5 : DD cX5_budgetOf 5 (.getfield 28) 3 8 := ⟨by decide +kernel, rfl⟩
theorem dX5_budgetOf_8 : DB cX5_budgetOf 8 (.goto) 12 3 11 20 := ⟨by decide +kernel, rfl, rfl⟩
theorem dX5_budgetOf_11 : DD cX5_budgetOf 11 (.aload_n 0) 1 12 := ⟨by decide +kernel, rfl⟩
theorem dX5_budgetOf_12 : DD cX5_budgetOf 12 (.getfield 18) 3 15 := ⟨by decide +kernel, rfl⟩
theorem dX5_budgetOf_15 : DD cX5_budgetOf 15 (.aload_n 0) 1 16 := ⟨by decide +kernel, rfl⟩
theorem dX5_budgetOf_16 : DD cX5_budgetOf 16 (.getfield 28) 3 19 := ⟨by decide +kernel, rfl⟩
theorem dX5_budgetOf_19 : DD cX5_budgetOf 19 (.isub) 1 20 := ⟨by decide +kernel, rfl⟩
theorem dX5_budgetOf_20 : DD cX5_budgetOf 20 (.ireturn) 1 21 := ⟨by decide +kernel, rfl⟩
theorem dX5_shareOut_0 : DD cX5_shareOut 0 (.aload_n 0) 1 1 := ⟨by decide +kernel, rfl⟩
theorem dX5_shareOut_1 : DD cX5_shareOut 1 (.iload_n 1) 1 2 := ⟨by decide +kernel, rfl⟩
theorem dX5_shareOut_2 : DD cX5_shareOut 2 (.putfield 18) 3 5 := ⟨by decide +kernel, rfl⟩
theorem dX5_shareOut_5 : DD cX5_shareOut 5 (.aload_n 0) 1 6 := ⟨by decide +kernel, rfl⟩
theorem dX5_shareOut_6 : DD cX5_shareOut 6 (.iload_n 1) 1 7 := ⟨by decide +kernel, rfl⟩
theorem dX5_shareOut_7 : DD cX5_shareOut 7 (.iconst 2) 1 8 := ⟨by decide +kernel, rfl⟩
theorem dX5_shareOut_8 : DD cX5_shareOut 8 (.idiv) 1 9 := ⟨by decide +kernel, rfl⟩
theorem dX5_shareOut_9 : DD cX5_shareOut 9 (.putfield 28) 3 12 := ⟨by decide +kernel, rfl⟩
theorem dX5_shareOut_12 : DD cX5_shareOut 12 (.return_) 1 13 := ⟨by decide +kernel, rfl⟩
theorem dX5_buyTurn_0 : DD cX5_buyTurn 0 (.aload_n 0) 1 1 := ⟨by decide +kernel, rfl⟩
theorem dX5_buyTurn_1 : DD cX5_buyTurn 1 (.dup) 1 2 := ⟨by decide +kernel, rfl⟩
theorem dX5_buyTurn_2 : DD cX5_buyTurn 2 (.getfield 28) 3 5 := ⟨by decide +kernel, rfl⟩
theorem dX5_buyTurn_5 : DD cX5_buyTurn 5 (.iload_n 1) 1 6 := ⟨by decide +kernel, rfl⟩
theorem dX5_buyTurn_6 : DB cX5_buyTurn 6 (.ifCond .ne) 8 3 9 14 := ⟨by decide +kernel, rfl, rfl⟩
theorem dX5_buyTurn_9 : DD cX5_buyTurn 9 (.iload_n 2) 1 10 := ⟨by decide +kernel, rfl⟩
theorem dX5_buyTurn_10 : DD cX5_buyTurn 10 (.ineg) 1 11 := ⟨by decide +kernel, rfl⟩
theorem dX5_buyTurn_11 : DB cX5_buyTurn 11 (.goto) 4 3 14 15 := ⟨by decide +kernel, rfl, rfl⟩
theorem dX5_buyTurn_14 : DD cX5_buyTurn 14 (.iload_n 2) 1 15 := ⟨by decide +kernel, rfl⟩
theorem dX5_buyTurn_15 : DD cX5_buyTurn 15 (.iadd) 1 16 := ⟨by decide +kernel, rfl⟩
theorem dX5_buyTurn_16 : DD cX5_buyTurn 16 (.putfield 28) 3 19 := ⟨by decide +kernel, rfl⟩
theorem dX5_buyTurn_19 : DD cX5_buyTurn 19 (.aload_n 0) 1 20 := ⟨by decide +kernel, rfl⟩
theorem dX5_buyTurn_20 : DD cX5_buyTurn 20 (.getfield 37) 3 23 := ⟨by decide +kernel, rfl⟩
theorem dX5_buyTurn_23 : DD cX5_buyTurn 23 (.iload_n 1) 1 24 := ⟨by decide +kernel, rfl⟩
theorem dX5_buyTurn_24 : DD cX5_buyTurn 24 (.dup2) 1 25 := ⟨by decide +kernel, rfl⟩
theorem dX5_buyTurn_25 : DD cX5_buyTurn 25 (.iaload) 1 26 := ⟨by decide +kernel, rfl⟩
theorem dX5_buyTurn_26 : DD cX5_buyTurn 26 (.iconst 1) 1 27 := ⟨by decide +kernel, rfl⟩
theorem dX5_buyTurn_27 : DD cX5_buyTurn 27 (.iadd) 1 28 := ⟨by decide +kernel, rfl⟩
theorem dX5_buyTurn_28 : DD cX5_buyTurn 28 (.iastore) 1 29 := ⟨by decide +kernel, rfl⟩
theorem dX5_buyTurn_29 : DD cX5_buyTurn 29 (.aload_n 0) 1 30 := ⟨by decide +kernel, rfl⟩
theorem dX5_buyTurn_30 : DD cX5_buyTurn 30 (.getfield 41) 3 33 := ⟨by decide +kernel, rfl⟩
theorem dX5_buyTurn_33 : DD cX5_buyTurn 33 (.iload_n 1) 1 34 := ⟨by decide +kernel, rfl⟩
theorem dX5_buyTurn_34 : DD cX5_buyTurn 34 (.dup2) 1 35 := ⟨by decide +kernel, rfl⟩
theorem dX5_buyTurn_35 : DD cX5_buyTurn 35 (.iaload) 1 36 := ⟨by decide +kernel, rfl⟩
theorem dX5_buyTurn_36 : DD cX5_buyTurn 36 (.iload_n 2) 1 37 := ⟨by decide +kernel, rfl⟩
theorem dX5_buyTurn_37 : DD cX5_buyTurn 37 (.iadd) 1 38 := ⟨by decide +kernel, rfl⟩
theorem dX5_buyTurn_38 : DD cX5_buyTurn 38 (.iastore) 1 39 := ⟨by decide +kernel, rfl⟩
theorem dX5_buyTurn_39 : DD cX5_buyTurn 39 (.aload_n 0) 1 40 := ⟨by decide +kernel, rfl⟩
theorem dX5_buyTurn_40 : DD cX5_buyTurn 40 (.iload_n 1) 1 41 := ⟨by decide +kernel, rfl⟩
theorem dX5_buyTurn_41 : DD cX5_buyTurn 41 (.putfield 34) 3 44 := ⟨by decide +kernel, rfl⟩
theorem dX5_buyTurn_44 : DD cX5_buyTurn 44 (.return_) 1 45 := ⟨by decide +kernel, rfl⟩
theorem dX6_init_0 : DD cX6_init 0 (.aload_n 0) 1 1 := ⟨by decide +kernel, rfl⟩
theorem dX6_init_1 : DD cX6_init 1 (.invokespecial 3) 3 4 := ⟨by decide +kernel, rfl⟩
theorem dX6_init_4 : DD cX6_init 4 (.return_) 1 5 := ⟨by decide +kernel, rfl⟩
theorem dX6_everything_0 : DD cX6_everything 0 (.iconst 0) 1 1 := ⟨by decide +kernel, rfl⟩
theorem dX6_everything_1 : DD cX6_everything 1 (.ireturn) 1 2 := ⟨by decide +kernel, rfl⟩
theorem dX6_nothing_0 : DD cX6_nothing 0 (.bipush 21) 2 2 := ⟨by decide +kernel, rfl⟩
theorem dX6_nothing_2 : DD cX6_nothing 2 (.ireturn) 1 3 := ⟨by decide +kernel, rfl⟩
theorem dX6_either_0 : DD cX6_either 0 (.iload_n 1) 1 1 := ⟨by decide +kernel, rfl⟩
theorem dX6_either_1 : DD cX6_either 1 (.iload_n 2) 1 2 := ⟨by decide +kernel, rfl⟩
theorem dX6_either_2 : DD cX6_either 2 (.invokestatic 11) 3 5 := ⟨by decide +kernel, rfl⟩
theorem dX6_either_5 : DD cX6_either 5 (.ireturn) 1 6 := ⟨by decide +kernel, rfl⟩
theorem dX6_both_0 : DD cX6_both 0 (.iload_n 1) 1 1 := ⟨by decide +kernel, rfl⟩
theorem dX6_both_1 : DD cX6_both 1 (.iload_n 2) 1 2 := ⟨by decide +kernel, rfl⟩
theorem dX6_both_2 : DD cX6_both 2 (.invokestatic 17) 3 5 := ⟨by decide +kernel, rfl⟩
theorem dX6_both_5 : DD cX6_both 5 (.ireturn) 1 6 := ⟨by decide +kernel, rfl⟩
theorem dX6_tellTurn_0 : DD cX6_tellTurn 0 (.iconst 0) 1 1 := ⟨by decide +kernel, rfl⟩
theorem dX6_tellTurn_1 : DD cX6_tellTurn 1 (.istore 4) 2 3 := ⟨by decide +kernel, rfl⟩
theorem dX6_tellTurn_3 : DD cX6_tellTurn 3 (.iload 4) 2 5 := ⟨by decide +kernel, rfl⟩
theorem dX6_tellTurn_5 : DD cX6_tellTurn 5 (.iload_n 1) 1 6 := ⟨by decide +kernel, rfl⟩
theorem dX6_tellTurn_6 : DB cX6_tellTurn 6 (.if_icmp .gt) 45 3 9 51 := ⟨by decide +kernel, rfl, rfl⟩
theorem dX6_tellTurn_9 : DD cX6_tellTurn 9 (.iconst 0) 1 10 := ⟨by decide +kernel, rfl⟩
theorem dX6_tellTurn_10 : DD cX6_tellTurn 10 (.istore 5) 2 12 := ⟨by decide +kernel, rfl⟩
theorem dX6_tellTurn_12 : DD cX6_tellTurn 12 (.iload 5) 2 14 := ⟨by decide +kernel, rfl⟩
theorem dX6_tellTurn_14 : DD cX6_tellTurn 14 (.iload 4) 2 16 := ⟨by decide +kernel, rfl⟩
theorem dX6_tellTurn_16 : DB cX6_tellTurn 16 (.if_icmp .gt) 29 3 19 45 := ⟨by decide +kernel, rfl, rfl⟩
theorem dX6_tellTurn_19 : DD cX6_tellTurn 19 (.aload_n 0) 1 20 := ⟨by decide +kernel, rfl⟩
theorem dX6_tellTurn_20 : DD cX6_tellTurn 20 (.iload 5) 2 22 := ⟨by decide +kernel, rfl⟩
theorem dX6_tellTurn_22 : DD cX6_tellTurn 22 (.iload 4) 2 24 := ⟨by decide +kernel, rfl⟩
theorem dX6_tellTurn_24 : DD cX6_tellTurn 24 (.iload_n 1) 1 25 := ⟨by decide +kernel, rfl⟩
theorem dX6_tellTurn_25 : DD cX6_tellTurn 25 (.iload 4) 2 27 := ⟨by decide +kernel, rfl⟩
theorem dX6_tellTurn_27 : DD cX6_tellTurn 27 (.isub) 1 28 := ⟨by decide +kernel, rfl⟩
theorem dX6_tellTurn_28 : DD cX6_tellTurn 28 (.iload_n 2) 1 29 := ⟨by decide +kernel, rfl⟩
theorem dX6_tellTurn_29 : DD cX6_tellTurn 29 (.iload_n 3) 1 30 := ⟨by decide +kernel, rfl⟩
theorem dX6_tellTurn_30 : DD cX6_tellTurn 30 (.invokevirtual 20) 3 33 := ⟨by decide +kernel, rfl⟩
theorem dX6_tellTurn_33 : DB cX6_tellTurn 33 (.ifCond .eq) 6 3 36 39 := ⟨by decide +kernel, rfl, rfl⟩
theorem dX6_tellTurn_36 : DD cX6_tellTurn 36 (.iload 4) 2 38 := ⟨by decide +kernel, rfl⟩
theorem dX6_tellTurn_38 : DD cX6_tellTurn 38 (.ireturn) 1 39 := ⟨by decide +kernel, rfl⟩
theorem dX6_tellTurn_39 : DD cX6_tellTurn 39 (.iinc 5 1) 3 42 := ⟨by decide +kernel, rfl⟩
theorem dX6_tellTurn_42 : DB cX6_tellTurn 42 (.goto) (-30) 3 45 12 := ⟨by decide +kernel, rfl, rfl⟩
theorem dX6_tellTurn_45 : DD cX6_tellTurn 45 (.iinc 4 1) 3 48 := ⟨by decide +kernel, rfl⟩
theorem dX6_tellTurn_48 : DB cX6_tellTurn 48 (.goto) (-45) 3 51 3 := ⟨by decide +kernel, rfl, rfl⟩
theorem dX6_tellTurn_51 : DD cX6_tellTurn 51 (.bipush 21) 2 53 := ⟨by decide +kernel, rfl⟩
theorem dX6_tellTurn_53 : DD cX6_tellTurn 53 (.ireturn) 1 54 := ⟨by decide +kernel, rfl⟩
theorem dX6_reachedBy_0 : DD cX6_reachedBy 0 (.iload_n 1) 1 1 := ⟨by decide +kernel, rfl⟩
theorem dX6_reachedBy_1 : DB cX6_reachedBy 1 (.ifCond .le) 18 3 4 19 := ⟨by decide +kernel, rfl, rfl⟩
theorem dX6_reachedBy_4 : DD cX6_reachedBy 4 (.iload_n 2) 1 5 := ⟨by decide +kernel, rfl⟩
theorem dX6_reachedBy_5 : DD cX6_reachedBy 5 (.iload_n 1) 1 6 := ⟨by decide +kernel, rfl⟩
theorem dX6_reachedBy_6 : DD cX6_reachedBy 6 (.isub) 1 7 := ⟨by decide +kernel, rfl⟩
theorem dX6_reachedBy_7 : DD cX6_reachedBy 7 (.aload_n 0) 1 8 := ⟨by decide +kernel, rfl⟩
theorem dX6_reachedBy_8 : DD cX6_reachedBy 8 (.getfield 24) 3 11 := ⟨by decide +kernel, rfl⟩
theorem dX6_reachedBy_11 : DD cX6_reachedBy 11 (.iload 5) 2 13 := ⟨by decide +kernel, rfl⟩
theorem dX6_reachedBy_13 : DD cX6_reachedBy 13 (.iaload) 1 14 := ⟨by decide +kernel, rfl⟩
theorem dX6_reachedBy_14 : DB cX6_reachedBy 14 (.if_icmp .ge) 5 3 17 19 := ⟨by decide +kernel, rfl, rfl⟩
theorem dX6_reachedBy_17 : DD cX6_reachedBy 17 (.iconst 0) 1 18 := ⟨by decide +kernel, rfl⟩
theorem dX6_reachedBy_18 : DD cX6_reachedBy 18 (.ireturn) 1 19 := ⟨by decide +kernel, rfl⟩
theorem dX6_reachedBy_19 : DD cX6_reachedBy 19 (.iload_n 1) 1 20 := ⟨by decide +kernel, rfl⟩
theorem dX6_reachedBy_20 : DD cX6_reachedBy 20 (.iload_n 3) 1 21 := ⟨by decide +kernel, rfl⟩
theorem dX6_reachedBy_21 : DB cX6_reachedBy 21 (.if_icmp .gt) 62 3 24 83 := ⟨by decide +kernel, rfl, rfl⟩
theorem dX6_reachedBy_24 : DD cX6_reachedBy 24 (.iload 5) 2 26 := ⟨by decide +kernel, rfl⟩
theorem dX6_reachedBy_26 : DD cX6_reachedBy 26 (.iload 4) 2 28 := ⟨by decide +kernel, rfl⟩
theorem dX6_reachedBy_28 : DB cX6_reachedBy 28 (.if_icmp .ne) 26 3 31 54 := ⟨by decide +kernel, rfl, rfl⟩
theorem dX6_reachedBy_31 : DD cX6_reachedBy 31 (.iload_n 2) 1 32 := ⟨by decide +kernel, rfl⟩
theorem dX6_reachedBy_32 : DD cX6_reachedBy 32 (.iload_n 1) 1 33 := ⟨by decide +kernel, rfl⟩
theorem dX6_reachedBy_33 : DD cX6_reachedBy 33 (.isub) 1 34 := ⟨by decide +kernel, rfl⟩
theorem dX6_reachedBy_34 : DD cX6_reachedBy 34 (.aload_n 0) 1 35 := ⟨by decide +kernel, rfl⟩
theorem dX6_reachedBy_35 : DD cX6_reachedBy 35 (.getfield 24) 3 38 := ⟨by decide +kernel, rfl⟩
theorem dX6_reachedBy_38 : DD cX6_reachedBy 38 (.iconst 1) 1 39 := ⟨by decide +kernel, rfl⟩
theorem dX6_reachedBy_39 : DD cX6_reachedBy 39 (.iload 5) 2 41 := ⟨by decide +kernel, rfl⟩
theorem dX6_reachedBy_41 : DD cX6_reachedBy 41 (.isub) 1 42 := ⟨by decide +kernel, rfl⟩
theorem dX6_reachedBy_42 : DD cX6_reachedBy 42 (.iaload) 1 43 := ⟨by decide +kernel, rfl⟩
theorem dX6_reachedBy_43 : DB cX6_reachedBy 43 (.if_icmp .lt) 7 3 46 50 := ⟨by decide +kernel, rfl, rfl⟩
theorem dX6_reachedBy_46 : DD cX6_reachedBy 46 (.iconst 1) 1 47 := ⟨by decide +kernel, rfl⟩
theorem dX6_reachedBy_47 : DB cX6_reachedBy 47 (.goto) 27 3 50 74 := ⟨by decide +kernel, rfl, rfl⟩
theorem dX6_reachedBy_50 : DD cX6_reachedBy 50 (.iconst 0) 1 51 := ⟨by decide +kernel, rfl⟩
theorem dX6_reachedBy_51 : DB cX6_reachedBy 51 (.goto) 23 3 54 74 := ⟨by decide +kernel, rfl, rfl⟩
theorem dX6_reachedBy_54 : DD cX6_reachedBy 54 (.iload_n 2) 1 55 := ⟨by decide +kernel, rfl⟩
theorem dX6_reachedBy_55 : DD cX6_reachedBy 55 (.iload_n 1) 1 56 := ⟨by decide +kernel, rfl⟩
theorem dX6_reachedBy_56 : DD cX6_reachedBy 56 (.iadd) 1 57 := ⟨by decide +kernel, rfl⟩
theorem dX6_reachedBy_57 : DD cX6_reachedBy 57 (.aload_n 0) 1 58 := ⟨by decide +kernel, rfl⟩
theorem dX6_reachedBy_58 : DD cX6_reachedBy 58 (.getfield 28) 3 61 := ⟨by decide +kernel, rfl⟩
theorem dX6_reachedBy_61 : DD cX6_reachedBy 61 (.iconst 1) 1 62 := ⟨by decide +kernel, rfl⟩
theorem dX6_reachedBy_62 : DD cX6_reachedBy 62 (.iload 5) 2 64 := ⟨by decide +kernel, rfl⟩
theorem dX6_reachedBy_64 : DD cX6_reachedBy 64 (.isub) 1 65 := ⟨by decide +kernel, rfl⟩
theorem dX6_reachedBy_65 : DD cX6_reachedBy 65 (.iaload) 1 66 := ⟨by decide +kernel, rfl⟩
theorem dX6_reachedBy_66 : DB cX6_reachedBy 66 (.if_icmp .lt) 7 3 69 73 := ⟨by decide +kernel, rfl, rfl⟩
theorem dX6_reachedBy_69 : DD cX6_reachedBy 69 (.iconst 1) 1 70 := ⟨by decide +kernel, rfl⟩
theorem dX6_reachedBy_70 : DB cX6_reachedBy 70 (.goto) 4 3 73 74 := ⟨by decide +kernel, rfl, rfl⟩
theorem dX6_reachedBy_73 : DD cX6_reachedBy 73 (.iconst 0) 1 74 := ⟨by decide +kernel, rfl⟩
theorem dX6_reachedBy_74 : DD cX6_reachedBy 74 (.istore 6) 2 76 := ⟨by decide +kernel, rfl⟩
theorem dX6_reachedBy_76 : DD cX6_reachedBy 76 (.iload 6) 2 78 := ⟨by decide +kernel, rfl⟩
theorem dX6_reachedBy_78 : DB cX6_reachedBy 78 (.ifCond .ne) 5 3 81 83 := ⟨by decide +kernel, rfl, rfl⟩
theorem dX6_reachedBy_81 : DD cX6_reachedBy 81 (.iconst 0) 1 82 := ⟨by decide +kernel, rfl⟩
theorem dX6_reachedBy_82 : DD cX6_reachedBy 82 (.ireturn) 1 83 := ⟨by decide +kernel, rfl⟩
theorem dX6_reachedBy_83 : DD cX6_reachedBy 83 (.iload_n 1) 1 84 := ⟨by decide +kernel, rfl⟩
theorem dX6_reachedBy_84 : DD cX6_reachedBy 84 (.iload_n 3) 1 85 := ⟨by decide +kernel, rfl⟩
theorem dX6_reachedBy_85 : DB cX6_reachedBy 85 (.if_icmp .ge) 18 3 88 103 := ⟨by decide +kernel, rfl, rfl⟩
theorem dX6_reachedBy_88 : DD cX6_reachedBy 88 (.iload_n 2) 1 89 := ⟨by decide +kernel, rfl⟩
theorem dX6_reachedBy_89 : DD cX6_reachedBy 89 (.iload_n 1) 1 90 := ⟨by decide +kernel, rfl⟩
theorem dX6_reachedBy_90 : DD cX6_reachedBy 90 (.iadd) 1 91 := ⟨by decide +kernel, rfl⟩
theorem dX6_reachedBy_91 : DD cX6_reachedBy 91 (.iconst 1) 1 92 := ⟨by decide +kernel, rfl⟩
theorem dX6_reachedBy_92 : DD cX6_reachedBy 92 (.iadd) 1 93 := ⟨by decide +kernel, rfl⟩
theorem dX6_reachedBy_93 : DD cX6_reachedBy 93 (.aload_n 0) 1 94 := ⟨by decide +kernel, rfl⟩
theorem dX6_reachedBy_94 : DD cX6_reachedBy 94 (.getfield 28) 3 97 := ⟨by decide +kernel, rfl⟩
theorem dX6_reachedBy_97 : DD cX6_reachedBy 97 (.iload 5) 2 99 := ⟨by decide +kernel, rfl⟩
theorem dX6_reachedBy_99 : DD cX6_reachedBy 99 (.iaload) 1 100 := ⟨by decide +kernel, rfl⟩
theorem dX6_reachedBy_100 : DB cX6_reachedBy 100 (.if_icmp .lt) 7 3 103 107 := ⟨by decide +kernel, rfl, rfl⟩
theorem dX6_reachedBy_103 : DD cX6_reachedBy 103 (.iconst 1) 1 104 := ⟨by decide +kernel, rfl⟩
theorem dX6_reachedBy_104 : DB cX6_reachedBy 104 (.goto) 4 3 107 108 := ⟨by decide +kernel, rfl, rfl⟩
theorem dX6_reachedBy_107 : DD cX6_reachedBy 107 (.iconst 0) 1 108 := ⟨by decide +kernel, rfl⟩
theorem dX6_reachedBy_108 : DD cX6_reachedBy 108 (.ireturn) 1 109 := ⟨by decide +kernel, rfl⟩
theorem dX7_init_0 : DD cX7_init 0 (.aload_n 0) 1 1 := ⟨by decide +kernel, rfl⟩
theorem dX7_init_1 : DD cX7_init 1 (.invokespecial 1) 3 4 := ⟨by decide +kernel, rfl⟩
theorem dX7_init_4 : DD cX7_init 4 (.aload_n 0) 1 5 := ⟨by decide +kernel, rfl⟩
theorem dX7_init_5 : DD cX7_init 5 (.new 7) 3 8 := ⟨by decide +kernel, rfl⟩
theorem dX7_init_8 : DD cX7_init 8 (.dup) 1 9 := ⟨by decide +kernel, rfl⟩
theorem dX7_init_9 : DD cX7_init 9 (.invokespecial 9) 3 12 := ⟨by decide +kernel, rfl⟩
theorem dX7_init_12 : DD cX7_init 12 (.putfield 10) 3 15 := ⟨by decide +kernel, rfl⟩
theorem dX7_init_15 : DD cX7_init 15 (.aload_n 0) 1 16 := ⟨by decide +kernel, rfl⟩
theorem dX7_init_16 : DD cX7_init 16 (.new 16) 3 19 := ⟨by decide +kernel, rfl⟩
theorem dX7_init_19 : DD cX7_init 19 (.dup) 1 20 := ⟨by decide +kernel, rfl⟩
theorem dX7_init_20 : DD cX7_init 20 (.invokespecial 18) 3 23 := ⟨by decide +kernel, rfl⟩
theorem dX7_init_23 : DD cX7_init 23 (.putfield 19) 3 26 := ⟨by decide +kernel, rfl⟩
theorem dX7_init_26 : DD cX7_init 26 (.aload_n 0) 1 27 := ⟨by decide +kernel, rfl⟩
theorem dX7_init_27 : DD cX7_init 27 (.iconst 2) 1 28 := ⟨by decide +kernel, rfl⟩
theorem dX7_init_28 : DD cX7_init 28 (.anewarray 7) 3 31 := ⟨by decide +kernel, rfl⟩
theorem dX7_init_31 : DD cX7_init 31 (.putfield 23) 3 34 := ⟨by decide +kernel, rfl⟩
theorem dX7_init_34 : DD cX7_init 34 (.aload_n 0) 1 35 := ⟨by decide +kernel, rfl⟩
theorem dX7_init_35 : DD cX7_init 35 (.iconst 2) 1 36 := ⟨by decide +kernel, rfl⟩
theorem dX7_init_36 : DD cX7_init 36 (.newarray .boolean) 2 38 := ⟨by decide +kernel, rfl⟩
theorem dX7_init_38 : DD cX7_init 38 (.putfield 27) 3 41 := ⟨by decide +kernel, rfl⟩
theorem dX7_init_41 : DD cX7_init 41 (.aload_n 0) 1 42 := ⟨by decide +kernel, rfl⟩
theorem dX7_init_42 : DD cX7_init 42 (.new 31) 3 45 := ⟨by decide +kernel, rfl⟩
theorem dX7_init_45 : DD cX7_init 45 (.dup) 1 46 := ⟨by decide +kernel, rfl⟩
theorem dX7_init_46 : DD cX7_init 46 (.invokespecial 33) 3 49 := ⟨by decide +kernel, rfl⟩
theorem dX7_init_49 : DD cX7_init 49 (.putfield 34) 3 52 := ⟨by decide +kernel, rfl⟩
theorem dX7_init_52 : DD cX7_init 52 (.aload_n 0) 1 53 := ⟨by decide +kernel, rfl⟩
theorem dX7_init_53 : DD cX7_init 53 (.new 38) 3 56 := ⟨by decide +kernel, rfl⟩
theorem dX7_init_56 : DD cX7_init 56 (.dup) 1 57 := ⟨by decide +kernel, rfl⟩
theorem dX7_init_57 : DD cX7_init 57 (.invokespecial 40) 3 60 := ⟨by decide +kernel, rfl⟩
theorem dX7_init_60 : DD cX7_init 60 (.putfield 41) 3 63 := ⟨by decide +kernel, rfl⟩
theorem dX7_init_63 : DD cX7_init 63 (.aload_n 0) 1 64 := ⟨by decide +kernel, rfl⟩
theorem dX7_init_64 : DD cX7_init 64 (.new 45) 3 67 := ⟨by decide +kernel, rfl⟩
theorem dX7_init_67 : DD cX7_init 67 (.dup) 1 68 := ⟨by decide +kernel, rfl⟩
theorem dX7_init_68 : DD cX7_init 68 (.invokespecial 47) 3 71 := ⟨by decide +kernel, rfl⟩
theorem dX7_init_71 : DD cX7_init 71 (.putfield 48) 3 74 := ⟨by decide +kernel, rfl⟩
theorem dX7_init_74 : DD cX7_init 74 (.iconst 0) 1 75 := ⟨by decide +kernel, rfl⟩
theorem dX7_init_75 : DD cX7_init 75 (.istore_n 1) 1 76 := ⟨by decide +kernel, rfl⟩
theorem dX7_init_76 : DD cX7_init 76 (.iload_n 1) 1 77 := ⟨by decide +kernel, rfl⟩
theorem dX7_init_77 : DD cX7_init 77 (.iconst 2) 1 78 := ⟨by decide +kernel, rfl⟩
theorem dX7_init_78 : DB cX7_init 78 (.if_icmp .ge) 22 3 81 100 := ⟨by decide +kernel, rfl, rfl⟩
theorem dX7_init_81 : DD cX7_init 81 (.aload_n 0) 1 82 := ⟨by decide +kernel, rfl⟩
theorem dX7_init_82 : DD cX7_init 82 (.getfield 23) 3 85 := ⟨by decide +kernel, rfl⟩
theorem dX7_init_85 : DD cX7_init 85 (.iload_n 1) 1 86 := ⟨by decide +kernel, rfl⟩
theorem dX7_init_86 : DD cX7_init 86 (.new 7) 3 89 := ⟨by decide +kernel, rfl⟩
theorem dX7_init_89 : DD cX7_init 89 (.dup) 1 90 := ⟨by decide +kernel, rfl⟩
theorem dX7_init_90 : DD cX7_init 90 (.invokespecial 9) 3 93 := ⟨by decide +kernel, rfl⟩
theorem dX7_init_93 : DD cX7_init 93 (.aastore) 1 94 := ⟨by decide +kernel, rfl⟩
theorem dX7_init_94 : DD cX7_init 94 (.iinc 1 1) 3 97 := ⟨by decide +kernel, rfl⟩
theorem dX7_init_97 : DB cX7_init 97 (.goto) (-21) 3 100 76 := ⟨by decide +kernel, rfl, rfl⟩
theorem dX7_init_100 : DD cX7_init 100 (.return_) 1 101 := ⟨by decide +kernel, rfl⟩
theorem dX7_addMove_0 : DD cX7_addMove 0 (.iload_n 1) 1 1 := ⟨by decide +kernel, rfl⟩
theorem dX7_addMove_1 : DD cX7_addMove 1 (.invokestatic 52) 3 4 := ⟨by decide +kernel, rfl⟩
theorem dX7_addMove_4 : DD cX7_addMove 4 (.iload_n 2) 1 5 := ⟨by decide +kernel, rfl⟩
theorem dX7_addMove_5 : DD cX7_addMove 5 (.invokestatic 52) 3 8 := ⟨by decide +kernel, rfl⟩
theorem dX7_addMove_8 : DD cX7_addMove 8 (.iload_n 1) 1 9 := ⟨by decide +kernel, rfl⟩
theorem dX7_addMove_9 : DD cX7_addMove 9 (.iload_n 2) 1 10 := ⟨by decide +kernel, rfl⟩
theorem dX7_addMove_10 : DB cX7_addMove 10 (.if_icmp .ne) 13 3 13 23 := ⟨by decide +kernel, rfl, rfl⟩
theorem dX7_addMove_13 : DD cX7_addMove 13 (.new 56) 3 16 := ⟨by decide +kernel, rfl⟩
theorem dX7_addMove_16 : DD cX7_addMove 16 (.dup) 1 17 := ⟨by decide +kernel, rfl⟩
theorem dX7_addMove_17 : DD cX7_addMove 17 (.ldc 58) 2 19 := ⟨by decide +kernel, rfl⟩
theorem dX7_addMove_19 : DD cX7_addMove 19 (.invokespecial 60) 3 22 := ⟨by decide +kernel, rfl⟩
theorem dX7_addMove_22 : DD cX7_addMove 22 (.athrow) 1 23 := ⟨by decide +kernel, rfl⟩
theorem dX7_addMove_23 : DD cX7_addMove 23 (.aload_n 0) 1 24 := ⟨by decide +kernel, rfl⟩
theorem dX7_addMove_24 : DD cX7_addMove 24 (.getfield 10) 3 27 := ⟨by decide +kernel, rfl⟩
theorem dX7_addMove_27 : DD cX7_addMove 27 (.getfield 63) 3 30 := ⟨by decide +kernel, rfl⟩
theorem dX7_addMove_30 : DD cX7_addMove 30 (.astore_n 3) 1 31 := ⟨by decide +kernel, rfl⟩
theorem dX7_addMove_31 : DD cX7_addMove 31 (.aload_n 3) 1 32 := ⟨by decide +kernel, rfl⟩
theorem dX7_addMove_32 : DD cX7_addMove 32 (.iload_n 1) 1 33 := ⟨by decide +kernel, rfl⟩
theorem dX7_addMove_33 : DD cX7_addMove 33 (.iload_n 2) 1 34 := ⟨by decide +kernel, rfl⟩
theorem dX7_addMove_34 : DD cX7_addMove 34 (.invokevirtual 67) 3 37 := ⟨by decide +kernel, rfl⟩
theorem dX7_addMove_37 : DB cX7_addMove 37 (.ifCond .ne) 13 3 40 50 := ⟨by decide +kernel, rfl, rfl⟩
theorem dX7_addMove_40 : DD cX7_addMove 40 (.aload_n 3) 1 41 := ⟨by decide +kernel, rfl⟩
theorem dX7_addMove_41 : DD cX7_addMove 41 (.getfield 73) 3 44 := ⟨by decide +kernel, rfl⟩
theorem dX7_addMove_44 : DD cX7_addMove 44 (.iload_n 1) 1 45 := ⟨by decide +kernel, rfl⟩
theorem dX7_addMove_45 : DD cX7_addMove 45 (.iaload) 1 46 := ⟨by decide +kernel, rfl⟩
theorem dX7_addMove_46 : DD cX7_addMove 46 (.iconst 4) 1 47 := ⟨by decide +kernel, rfl⟩
theorem dX7_addMove_47 : DB cX7_addMove 47 (.if_icmp .lt) 13 3 50 60 := ⟨by decide +kernel, rfl, rfl⟩
theorem dX7_addMove_50 : DD cX7_addMove 50 (.new 77) 3 53 := ⟨by decide +kernel, rfl⟩
theorem dX7_addMove_53 : DD cX7_addMove 53 (.dup) 1 54 := ⟨by decide +kernel, rfl⟩
theorem dX7_addMove_54 : DD cX7_addMove 54 (.ldc 79) 2 56 := ⟨by decide +kernel, rfl⟩
theorem dX7_addMove_56 : DD cX7_addMove 56 (.invokespecial 81) 3 59 := ⟨by decide +kernel, rfl⟩
theorem dX7_addMove_59 : DD cX7_addMove 59 (.athrow) 1 60 := ⟨by decide +kernel, rfl⟩
theorem dX7_addMove_60 : DD cX7_addMove 60 (.aload_n 0) 1 61 := ⟨by decide +kernel, rfl⟩
theorem dX7_addMove_61 : DD cX7_addMove 61 (.invokevirtual 82) 3 64 := ⟨by decide +kernel, rfl⟩
theorem dX7_addMove_64 : DD cX7_addMove 64 (.aload_n 3) 1 65 := ⟨by decide +kernel, rfl⟩
theorem dX7_addMove_65 : DD cX7_addMove 65 (.iload_n 1) 1 66 := ⟨by decide +kernel, rfl⟩
theorem dX7_addMove_66 : DD cX7_addMove 66 (.iload_n 2) 1 67 := ⟨by decide +kernel, rfl⟩
theorem dX7_addMove_67 : DD cX7_addMove 67 (.invokevirtual 85) 3 70 := ⟨by decide +kernel, rfl⟩
theorem dX7_addMove_70 : DD cX7_addMove 70 (.aload_n 3) 1 71 := ⟨by decide +kernel, rfl⟩
theorem dX7_addMove_71 : DD cX7_addMove 71 (.getfield 73) 3 74 := ⟨by decide +kernel, rfl⟩
theorem dX7_addMove_74 : DD cX7_addMove 74 (.iload_n 1) 1 75 := ⟨by decide +kernel, rfl⟩
theorem dX7_addMove_75 : DD cX7_addMove 75 (.iaload) 1 76 := ⟨by decide +kernel, rfl⟩
theorem dX7_addMove_76 : DD cX7_addMove 76 (.ireturn) 1 77 := ⟨by decide +kernel, rfl⟩
theorem dX7_clearMoves_0 : DD cX7_clearMoves 0 (.iload_n 1) 1 1 := ⟨by decide +kernel, rfl⟩
theorem dX7_clearMoves_1 : DD cX7_clearMoves 1 (.invokestatic 52) 3 4 := ⟨by decide +kernel, rfl⟩
theorem dX7_clearMoves_4 : DD cX7_clearMoves 4 (.aload_n 0) 1 5 := ⟨by decide +kernel, rfl⟩
theorem dX7_clearMoves_5 : DD cX7_clearMoves 5 (.invokevirtual 82) 3 8 := ⟨by decide +kernel, rfl⟩
theorem dX7_clearMoves_8 : DD cX7_clearMoves 8 (.aload_n 0) 1 9 := ⟨by decide +kernel, rfl⟩
theorem dX7_clearMoves_9 : DD cX7_clearMoves 9 (.getfield 10) 3 12 := ⟨by decide +kernel, rfl⟩
theorem dX7_clearMoves_12 : DD cX7_clearMoves 12 (.getfield 63) 3 15 := ⟨by decide +kernel, rfl⟩
theorem dX7_clearMoves_15 : DD cX7_clearMoves 15 (.getfield 73) 3 18 := ⟨by decide +kernel, rfl⟩
theorem dX7_clearMoves_18 : DD cX7_clearMoves 18 (.iload_n 1) 1 19 := ⟨by decide +kernel, rfl⟩
theorem dX7_clearMoves_19 : DD cX7_clearMoves 19 (.iaload) 1 20 := ⟨by decide +kernel, rfl⟩
theorem dX7_clearMoves_20 : DD cX7_clearMoves 20 (.istore_n 2) 1 21 := ⟨by decide +kernel, rfl⟩
theorem dX7_clearMoves_21 : DD cX7_clearMoves 21 (.aload_n 0) 1 22 := ⟨by decide +kernel, rfl⟩
theorem dX7_clearMoves_22 : DD cX7_clearMoves 22 (.getfield 10) 3 25 := ⟨by decide +kernel, rfl⟩
theorem dX7_clearMoves_25 : DD cX7_clearMoves 25 (.getfield 63) 3 28 := ⟨by decide +kernel, rfl⟩
theorem dX7_clearMoves_28 : DD cX7_clearMoves 28 (.getfield 73) 3 31 := ⟨by decide +kernel, rfl⟩
theorem dX7_clearMoves_31 : DD cX7_clearMoves 31 (.iload_n 1) 1 32 := ⟨by decide +kernel, rfl⟩
theorem dX7_clearMoves_32 : DD cX7_clearMoves 32 (.iconst 0) 1 33 := ⟨by decide +kernel, rfl⟩
theorem dX7_clearMoves_33 : DD cX7_clearMoves 33 (.iastore) 1 34 := ⟨by decide +kernel, rfl⟩
theorem dX7_clearMoves_34 : DD cX7_clearMoves 34 (.iload_n 2) 1 35 := ⟨by decide +kernel, rfl⟩
theorem dX7_clearMoves_35 : DD cX7_clearMoves 35 (.ireturn) 1 36 := ⟨by decide +kernel, rfl⟩
theorem dX7_mark_0 : DD cX7_mark 0 (.iload_n 1) 1 1 := ⟨by decide +kernel, rfl⟩
theorem dX7_mark_1 : DD cX7_mark 1 (.invokestatic 52) 3 4 := ⟨by decide +kernel, rfl⟩
theorem dX7_mark_4 : DD cX7_mark 4 (.iload_n 2) 1 5 := ⟨by decide +kernel, rfl⟩
theorem dX7_mark_5 : DD cX7_mark 5 (.iconst 2) 1 6 := ⟨by decide +kernel, rfl⟩
theorem dX7_mark_6 : DD cX7_mark 6 (.invokestatic 89) 3 9 := ⟨by decide +kernel, rfl⟩
theorem dX7_mark_9 : DD cX7_mark 9 (.aload_n 0) 1 10 := ⟨by decide +kernel, rfl⟩
theorem dX7_mark_10 : DD cX7_mark 10 (.invokevirtual 82) 3 13 := ⟨by decide +kernel, rfl⟩
theorem dX7_mark_13 : DD cX7_mark 13 (.aload_n 0) 1 14 := ⟨by decide +kernel, rfl⟩
theorem dX7_mark_14 : DD cX7_mark 14 (.getfield 10) 3 17 := ⟨by decide +kernel, rfl⟩
theorem dX7_mark_17 : DD cX7_mark 17 (.getfield 63) 3 20 := ⟨by decide +kernel, rfl⟩
theorem dX7_mark_20 : DD cX7_mark 20 (.getfield 92) 3 23 := ⟨by decide +kernel, rfl⟩
theorem dX7_mark_23 : DD cX7_mark 23 (.iload_n 1) 1 24 := ⟨by decide +kernel, rfl⟩
theorem dX7_mark_24 : DD cX7_mark 24 (.iaload) 1 25 := ⟨by decide +kernel, rfl⟩
theorem dX7_mark_25 : DD cX7_mark 25 (.istore_n 3) 1 26 := ⟨by decide +kernel, rfl⟩
theorem dX7_mark_26 : DD cX7_mark 26 (.aload_n 0) 1 27 := ⟨by decide +kernel, rfl⟩
theorem dX7_mark_27 : DD cX7_mark 27 (.getfield 10) 3 30 := ⟨by decide +kernel, rfl⟩
theorem dX7_mark_30 : DD cX7_mark 30 (.getfield 63) 3 33 := ⟨by decide +kernel, rfl⟩
theorem dX7_mark_33 : DD cX7_mark 33 (.getfield 92) 3 36 := ⟨by decide +kernel, rfl⟩
theorem dX7_mark_36 : DD cX7_mark 36 (.iload_n 1) 1 37 := ⟨by decide +kernel, rfl⟩
theorem dX7_mark_37 : DD cX7_mark 37 (.iload_n 2) 1 38 := ⟨by decide +kernel, rfl⟩
theorem dX7_mark_38 : DD cX7_mark 38 (.iastore) 1 39 := ⟨by decide +kernel, rfl⟩
theorem dX7_mark_39 : DD cX7_mark 39 (.iload_n 3) 1 40 := ⟨by decide +kernel, rfl⟩
theorem dX7_mark_40 : DD cX7_mark 40 (.ireturn) 1 41 := ⟨by decide +kernel, rfl⟩
theorem dX7_reverse_0 : DD cX7_reverse 0 (.aload_n 0) 1 1 := ⟨by decide +kernel, rfl⟩
theorem dX7_reverse_1 : DD cX7_reverse 1 (.invokevirtual 82) 3 4 := ⟨by decide +kernel, rfl⟩
theorem dX7_reverse_4 : DD cX7_reverse 4 (.aload_n 0) 1 5 := ⟨by decide +kernel, rfl⟩
theorem dX7_reverse_5 : DD cX7_reverse 5 (.getfield 10) 3 8 := ⟨by decide +kernel, rfl⟩
theorem dX7_reverse_8 : DD cX7_reverse 8 (.getfield 63) 3 11 := ⟨by decide +kernel, rfl⟩
theorem dX7_reverse_11 : DD cX7_reverse 11 (.invokevirtual 95) 3 14 := ⟨by decide +kernel, rfl⟩
theorem dX7_reverse_14 : DD cX7_reverse 14 (.aload_n 0) 1 15 := ⟨by decide +kernel, rfl⟩
theorem dX7_reverse_15 : DD cX7_reverse 15 (.getfield 10) 3 18 := ⟨by decide +kernel, rfl⟩
theorem dX7_reverse_18 : DD cX7_reverse 18 (.aload_n 0) 1 19 := ⟨by decide +kernel, rfl⟩
theorem dX7_reverse_19 : DD cX7_reverse 19 (.getfield 10) 3 22 := ⟨by decide +kernel, rfl⟩
theorem dX7_reverse_22 : DD cX7_reverse 22 (.getfield 98) 3 25 := ⟨by decide +kernel, rfl⟩
theorem dX7_reverse_25 : DD cX7_reverse 25 (.aload_n 0) 1 26 := ⟨by decide +kernel, rfl⟩
theorem dX7_reverse_26 : DD cX7_reverse 26 (.getfield 10) 3 29 := ⟨by decide +kernel, rfl⟩
theorem dX7_reverse_29 : DD cX7_reverse 29 (.getfield 102) 3 32 := ⟨by decide +kernel, rfl⟩
theorem dX7_reverse_32 : DD cX7_reverse 32 (.isub) 1 33 := ⟨by decide +kernel, rfl⟩
theorem dX7_reverse_33 : DD cX7_reverse 33 (.putfield 102) 3 36 := ⟨by decide +kernel, rfl⟩
theorem dX7_reverse_36 : DD cX7_reverse 36 (.aload_n 0) 1 37 := ⟨by decide +kernel, rfl⟩
theorem dX7_reverse_37 : DD cX7_reverse 37 (.getfield 10) 3 40 := ⟨by decide +kernel, rfl⟩
theorem dX7_reverse_40 : DD cX7_reverse 40 (.iconst 1) 1 41 := ⟨by decide +kernel, rfl⟩
theorem dX7_reverse_41 : DD cX7_reverse 41 (.aload_n 0) 1 42 := ⟨by decide +kernel, rfl⟩
theorem dX7_reverse_42 : DD cX7_reverse 42 (.getfield 10) 3 45 := ⟨by decide +kernel, rfl⟩
theorem dX7_reverse_45 : DD cX7_reverse 45 (.getfield 105) 3 48 := ⟨by decide +kernel, rfl⟩
theorem dX7_reverse_48 : DD cX7_reverse 48 (.isub) 1 49 := ⟨by decide +kernel, rfl⟩
theorem dX7_reverse_49 : DD cX7_reverse 49 (.putfield 105) 3 52 := ⟨by decide +kernel, rfl⟩
theorem dX7_reverse_52 : DD cX7_reverse 52 (.aload_n 0) 1 53 := ⟨by decide +kernel, rfl⟩
theorem dX7_reverse_53 : DD cX7_reverse 53 (.getfield 10) 3 56 := ⟨by decide +kernel, rfl⟩
theorem dX7_reverse_56 : DD cX7_reverse 56 (.getfield 108) 3 59 := ⟨by decide +kernel, rfl⟩
theorem dX7_reverse_59 : DD cX7_reverse 59 (.iconst (-1)) 1 60 := ⟨by decide +kernel, rfl⟩
theorem dX7_reverse_60 : DB cX7_reverse 60 (.if_icmp .eq) 19 3 63 79 := ⟨by decide +kernel, rfl, rfl⟩
theorem dX7_reverse_63 : DD cX7_reverse 63 (.aload_n 0) 1 64 := ⟨by decide +kernel, rfl⟩
theorem dX7_reverse_64 : DD cX7_reverse 64 (.getfield 10) 3 67 := ⟨by decide +kernel, rfl⟩
theorem dX7_reverse_67 : DD cX7_reverse 67 (.iconst 1) 1 68 := ⟨by decide +kernel, rfl⟩
theorem dX7_reverse_68 : DD cX7_reverse 68 (.aload_n 0) 1 69 := ⟨by decide +kernel, rfl⟩
theorem dX7_reverse_69 : DD cX7_reverse 69 (.getfield 10) 3 72 := ⟨by decide +kernel, rfl⟩
theorem dX7_reverse_72 : DD cX7_reverse 72 (.getfield 108) 3 75 := ⟨by decide +kernel, rfl⟩
theorem dX7_reverse_75 : DD cX7_reverse 75 (.isub) 1 76 := ⟨by decide +kernel, rfl⟩
theorem dX7_reverse_76 : DD cX7_reverse 76 (.putfield 108) 3 79 := ⟨by decide +kernel, rfl⟩
theorem dX7_reverse_79 : DD cX7_reverse 79 (.aload_n 0) 1 80 := ⟨by decide +kernel, rfl⟩
theorem dX7_reverse_80 : DD cX7_reverse 80 (.getfield 10) 3 83 := ⟨by decide +kernel, rfl⟩
theorem dX7_reverse_83 : DD cX7_reverse 83 (.getfield 102) 3 86 := ⟨by decide +kernel, rfl⟩
theorem dX7_reverse_86 : DD cX7_reverse 86 (.ireturn) 1 87 := ⟨by decide +kernel, rfl⟩
theorem dX7_set_0 : DD cX7_set 0 (.iload_n 1) 1 1 := ⟨by decide +kernel, rfl⟩
theorem dX7_set_1 : DD cX7_set 1 (.invokestatic 111) 3 4 := ⟨by decide +kernel, rfl⟩
theorem dX7_set_4 : DD cX7_set 4 (.iload_n 2) 1 5 := ⟨by decide +kernel, rfl⟩
theorem dX7_set_5 : DD cX7_set 5 (.iload_n 1) 1 6 := ⟨by decide +kernel, rfl⟩
theorem dX7_set_6 : DB cX7_set 6 (.ifCond .ne) 8 3 9 14 := ⟨by decide +kernel, rfl, rfl⟩
theorem dX7_set_9 : DD cX7_set 9 (.bipush 20) 2 11 := ⟨by decide +kernel, rfl⟩
theorem dX7_set_11 : DB cX7_set 11 (.goto) 5 3 14 16 := ⟨by decide +kernel, rfl, rfl⟩
theorem dX7_set_14 : DD cX7_set 14 (.bipush 12) 2 16 := ⟨by decide +kernel, rfl⟩
theorem dX7_set_16 : DD cX7_set 16 (.invokestatic 89) 3 19 := ⟨by decide +kernel, rfl⟩
theorem dX7_set_19 : DD cX7_set 19 (.aload_n 0) 1 20 := ⟨by decide +kernel, rfl⟩
theorem dX7_set_20 : DD cX7_set 20 (.invokevirtual 82) 3 23 := ⟨by decide +kernel, rfl⟩
theorem dX7_set_23 : DD cX7_set 23 (.iload_n 1) 1 24 := ⟨by decide +kernel, rfl⟩
theorem dX7_set_24 : DB cX7_set 24 (.ifCond .ne) 13 3 27 37 := ⟨by decide +kernel, rfl, rfl⟩
theorem dX7_set_27 : DD cX7_set 27 (.aload_n 0) 1 28 := ⟨by decide +kernel, rfl⟩
theorem dX7_set_28 : DD cX7_set 28 (.getfield 10) 3 31 := ⟨by decide +kernel, rfl⟩
theorem dX7_set_31 : DD cX7_set 31 (.getfield 98) 3 34 := ⟨by decide +kernel, rfl⟩
theorem dX7_set_34 : DB cX7_set 34 (.goto) 10 3 37 44 := ⟨by decide +kernel, rfl, rfl⟩
theorem dX7_set_37 : DD cX7_set 37 (.aload_n 0) 1 38 := ⟨by decide +kernel, rfl⟩
theorem dX7_set_38 : DD cX7_set 38 (.getfield 10) 3 41 := ⟨by decide +kernel, rfl⟩
theorem dX7_set_41 : DD cX7_set 41 (.getfield 114) 3 44 := ⟨by decide +kernel, rfl⟩
theorem dX7_set_44 : DD cX7_set 44 (.istore_n 3) 1 45 := ⟨by decide +kernel, rfl⟩
theorem dX7_set_45 : DD cX7_set 45 (.iload_n 1) 1 46 := ⟨by decide +kernel, rfl⟩
theorem dX7_set_46 : DB cX7_set 46 (.ifCond .ne) 14 3 49 60 := ⟨by decide +kernel, rfl, rfl⟩
theorem dX7_set_49 : DD cX7_set 49 (.aload_n 0) 1 50 := ⟨by decide +kernel, rfl⟩
theorem dX7_set_50 : DD cX7_set 50 (.getfield 10) 3 53 := ⟨by decide +kernel, rfl⟩
theorem dX7_set_53 : DD cX7_set 53 (.iload_n 2) 1 54 := ⟨by decide +kernel, rfl⟩
theorem dX7_set_54 : DD cX7_set 54 (.invokevirtual 117) 3 57 := ⟨by decide +kernel, rfl⟩
theorem dX7_set_57 : DB cX7_set 57 (.goto) 11 3 60 68 := ⟨by decide +kernel, rfl, rfl⟩
theorem dX7_set_60 : DD cX7_set 60 (.aload_n 0) 1 61 := ⟨by decide +kernel, rfl⟩
theorem dX7_set_61 : DD cX7_set 61 (.getfield 10) 3 64 := ⟨by decide +kernel, rfl⟩
theorem dX7_set_64 : DD cX7_set 64 (.iload_n 2) 1 65 := ⟨by decide +kernel, rfl⟩
theorem dX7_set_65 : DD cX7_set 65 (.putfield 114) 3 68 := ⟨by decide +kernel, rfl⟩
theorem dX7_set_68 : DD cX7_set 68 (.iload_n 3) 1 69 := ⟨by decide +kernel, rfl⟩
theorem dX7_set_69 : DD cX7_set 69 (.ireturn) 1 70 := ⟨by decide +kernel, rfl⟩
theorem dX7_place_0 : DD cX7_place 0 (.iload_n 1) 1 1 := ⟨by decide +kernel, rfl⟩
theorem dX7_place_1 : DD cX7_place 1 (.invokestatic 52) 3 4 := ⟨by decide +kernel, rfl⟩
theorem dX7_place_4 : DD cX7_place 4 (.iload_n 2) 1 5 := ⟨by decide +kernel, rfl⟩
theorem dX7_place_5 : DD cX7_place 5 (.aload_n 0) 1 6 := ⟨by decide +kernel, rfl⟩
theorem dX7_place_6 : DD cX7_place 6 (.getfield 10) 3 9 := ⟨by decide +kernel, rfl⟩
theorem dX7_place_9 : DD cX7_place 9 (.getfield 98) 3 12 := ⟨by decide +kernel, rfl⟩
theorem dX7_place_12 : DD cX7_place 12 (.invokestatic 89) 3 15 := ⟨by decide +kernel, rfl⟩
theorem dX7_place_15 : DD cX7_place 15 (.iload_n 3) 1 16 := ⟨by decide +kernel, rfl⟩
theorem dX7_place_16 : DD cX7_place 16 (.iconst 1) 1 17 := ⟨by decide +kernel, rfl⟩
theorem dX7_place_17 : DD cX7_place 17 (.invokestatic 89) 3 20 := ⟨by decide +kernel, rfl⟩
theorem dX7_place_20 : DD cX7_place 20 (.aload_n 0) 1 21 := ⟨by decide +kernel, rfl⟩
theorem dX7_place_21 : DD cX7_place 21 (.getfield 19) 3 24 := ⟨by decide +kernel, rfl⟩
theorem dX7_place_24 : DD cX7_place 24 (.aload_n 0) 1 25 := ⟨by decide +kernel, rfl⟩
theorem dX7_place_25 : DD cX7_place 25 (.getfield 10) 3 28 := ⟨by decide +kernel, rfl⟩
theorem dX7_place_28 : DD cX7_place 28 (.invokevirtual 120) 3 31 := ⟨by decide +kernel, rfl⟩
theorem dX7_place_31 : DD cX7_place 31 (.aload_n 0) 1 32 := ⟨by decide +kernel, rfl⟩
theorem dX7_place_32 : DD cX7_place 32 (.getfield 10) 3 35 := ⟨by decide +kernel, rfl⟩
theorem dX7_place_35 : DD cX7_place 35 (.iload_n 1) 1 36 := ⟨by decide +kernel, rfl⟩
theorem dX7_place_36 : DD cX7_place 36 (.putfield 124) 3 39 := ⟨by decide +kernel, rfl⟩
theorem dX7_place_39 : DD cX7_place 39 (.aload_n 0) 1 40 := ⟨by decide +kernel, rfl⟩
theorem dX7_place_40 : DD cX7_place 40 (.getfield 10) 3 43 := ⟨by decide +kernel, rfl⟩
theorem dX7_place_43 : DD cX7_place 43 (.iload_n 2) 1 44 := ⟨by decide +kernel, rfl⟩
theorem dX7_place_44 : DD cX7_place 44 (.putfield 102) 3 47 := ⟨by decide +kernel, rfl⟩
theorem dX7_place_47 : DD cX7_place 47 (.aload_n 0) 1 48 := ⟨by decide +kernel, rfl⟩
theorem dX7_place_48 : DD cX7_place 48 (.getfield 10) 3 51 := ⟨by decide +kernel, rfl⟩
theorem dX7_place_51 : DD cX7_place 51 (.iload_n 3) 1 52 := ⟨by decide +kernel, rfl⟩
theorem dX7_place_52 : DD cX7_place 52 (.putfield 105) 3 55 := ⟨by decide +kernel, rfl⟩
theorem dX7_place_55 : DD cX7_place 55 (.aload_n 0) 1 56 := ⟨by decide +kernel, rfl⟩
theorem dX7_place_56 : DD cX7_place 56 (.getfield 10) 3 59 := ⟨by decide +kernel, rfl⟩
theorem dX7_place_59 : DD cX7_place 59 (.iconst (-1)) 1 60 := ⟨by decide +kernel, rfl⟩
theorem dX7_place_60 : DD cX7_place 60 (.putfield 108) 3 63 := ⟨by decide +kernel, rfl⟩
theorem dX7_place_63 : DD cX7_place 63 (.aload_n 0) 1 64 := ⟨by decide +kernel, rfl⟩
theorem dX7_place_64 : DD cX7_place 64 (.getfield 10) 3 67 := ⟨by decide +kernel, rfl⟩
theorem dX7_place_67 : DD cX7_place 67 (.invokevirtual 127) 3 70 := ⟨by decide +kernel, rfl⟩
theorem dX7_place_70 : DB cX7_place 70 (.ifCond .eq) 7 3 73 77 := ⟨by decide +kernel, rfl, rfl⟩
theorem dX7_place_73 : DD cX7_place 73 (.iconst 1) 1 74 := ⟨by decide +kernel, rfl⟩
theorem dX7_place_74 : DB cX7_place 74 (.goto) 4 3 77 78 := ⟨by decide +kernel, rfl, rfl⟩
theorem dX7_place_77 : DD cX7_place 77 (.iconst 0) 1 78 := ⟨by decide +kernel, rfl⟩
theorem dX7_place_78 : DD cX7_place 78 (.ireturn) 1 79 := ⟨by decide +kernel, rfl⟩
theorem dX7_bid_0 : DD cX7_bid 0 (.aload_n 0) 1 1 := ⟨by decide +kernel, rfl⟩
theorem dX7_bid_1 : DD cX7_bid 1 (.getfield 19) 3 4 := ⟨by decide +kernel, rfl⟩
theorem dX7_bid_4 : DD cX7_bid 4 (.aload_n 0) 1 5 := ⟨by decide +kernel, rfl⟩
theorem dX7_bid_5 : DD cX7_bid 5 (.getfield 10) 3 8 := ⟨by decide +kernel, rfl⟩
theorem dX7_bid_8 : DD cX7_bid 8 (.invokevirtual 120) 3 11 := ⟨by decide +kernel, rfl⟩
theorem dX7_bid_11 : DD cX7_bid 11 (.aload_n 0) 1 12 := ⟨by decide +kernel, rfl⟩
theorem dX7_bid_12 : DD cX7_bid 12 (.iload_n 1) 1 13 := ⟨by decide +kernel, rfl⟩
theorem dX7_bid_13 : DD cX7_bid 13 (.iload_n 2) 1 14 := ⟨by decide +kernel, rfl⟩
theorem dX7_bid_14 : DD cX7_bid 14 (.invokevirtual 131) 3 17 := ⟨by decide +kernel, rfl⟩
theorem dX7_bid_17 : DD cX7_bid 17 (.istore_n 3) 1 18 := ⟨by decide +kernel, rfl⟩
theorem dX7_bid_18 : DD cX7_bid 18 (.iload_n 3) 1 19 := ⟨by decide +kernel, rfl⟩
theorem dX7_bid_19 : DB cX7_bid 19 (.ifCond .eq) 18 3 22 37 := ⟨by decide +kernel, rfl, rfl⟩
theorem dX7_bid_22 : DD cX7_bid 22 (.aload_n 0) 1 23 := ⟨by decide +kernel, rfl⟩
theorem dX7_bid_23 : DD cX7_bid 23 (.getfield 10) 3 26 := ⟨by decide +kernel, rfl⟩
theorem dX7_bid_26 : DD cX7_bid 26 (.dup) 1 27 := ⟨by decide +kernel, rfl⟩
theorem dX7_bid_27 : DD cX7_bid 27 (.getfield 135) 3 30 := ⟨by decide +kernel, rfl⟩
theorem dX7_bid_30 : DD cX7_bid 30 (.iconst 1) 1 31 := ⟨by decide +kernel, rfl⟩
theorem dX7_bid_31 : DD cX7_bid 31 (.iadd) 1 32 := ⟨by decide +kernel, rfl⟩
theorem dX7_bid_32 : DD cX7_bid 32 (.putfield 135) 3 35 := ⟨by decide +kernel, rfl⟩
theorem dX7_bid_35 : DD cX7_bid 35 (.iload_n 3) 1 36 := ⟨by decide +kernel, rfl⟩
theorem dX7_bid_36 : DD cX7_bid 36 (.ireturn) 1 37 := ⟨by decide +kernel, rfl⟩
theorem dX7_bid_37 : DD cX7_bid 37 (.iload_n 1) 1 38 := ⟨by decide +kernel, rfl⟩
theorem dX7_bid_38 : DD cX7_bid 38 (.iload_n 2) 1 39 := ⟨by decide +kernel, rfl⟩
theorem dX7_bid_39 : DB cX7_bid 39 (.if_icmp .ne) 13 3 42 52 := ⟨by decide +kernel, rfl, rfl⟩
theorem dX7_bid_42 : DD cX7_bid 42 (.aload_n 0) 1 43 := ⟨by decide +kernel, rfl⟩
theorem dX7_bid_43 : DD cX7_bid 43 (.getfield 10) 3 46 := ⟨by decide +kernel, rfl⟩
theorem dX7_bid_46 : DD cX7_bid 46 (.getfield 105) 3 49 := ⟨by decide +kernel, rfl⟩
theorem dX7_bid_49 : DB cX7_bid 49 (.goto) 13 3 52 62 := ⟨by decide +kernel, rfl, rfl⟩
theorem dX7_bid_52 : DD cX7_bid 52 (.iload_n 1) 1 53 := ⟨by decide +kernel, rfl⟩
theorem dX7_bid_53 : DD cX7_bid 53 (.iload_n 2) 1 54 := ⟨by decide +kernel, rfl⟩
theorem dX7_bid_54 : DB cX7_bid 54 (.if_icmp .le) 7 3 57 61 := ⟨by decide +kernel, rfl, rfl⟩
theorem dX7_bid_57 : DD cX7_bid 57 (.iconst 0) 1 58 := ⟨by decide +kernel, rfl⟩
theorem dX7_bid_58 : DB cX7_bid 58 (.goto) 4 3 61 62 := ⟨by decide +kernel, rfl, rfl⟩
theorem dX7_bid_61 : DD cX7_bid 61 (.iconst 1) 1 62 := ⟨by decide +kernel, rfl⟩
theorem dX7_bid_62 : DD cX7_bid 62 (.istore 4) 2 64 := ⟨by decide +kernel, rfl⟩
theorem dX7_bid_64 : DD cX7_bid 64 (.iload_n 1) 1 65 := ⟨by decide +kernel, rfl⟩
theorem dX7_bid_65 : DD cX7_bid 65 (.iload_n 2) 1 66 := ⟨by decide +kernel, rfl⟩
theorem dX7_bid_66 : DB cX7_bid 66 (.if_icmp .ne) 32 3 69 98 := ⟨by decide +kernel, rfl, rfl⟩
theorem dX7_bid_69 : DD cX7_bid 69 (.aload_n 0) 1 70 := ⟨by decide +kernel, rfl⟩
theorem dX7_bid_70 : DD cX7_bid 70 (.getfield 10) 3 73 := ⟨by decide +kernel, rfl⟩
theorem dX7_bid_73 : DD cX7_bid 73 (.dup) 1 74 := ⟨by decide +kernel, rfl⟩
theorem dX7_bid_74 : DD cX7_bid 74 (.getfield 138) 3 77 := ⟨by decide +kernel, rfl⟩
theorem dX7_bid_77 : DD cX7_bid 77 (.iconst 1) 1 78 := ⟨by decide +kernel, rfl⟩
theorem dX7_bid_78 : DD cX7_bid 78 (.iadd) 1 79 := ⟨by decide +kernel, rfl⟩
theorem dX7_bid_79 : DD cX7_bid 79 (.putfield 138) 3 82 := ⟨by decide +kernel, rfl⟩
theorem dX7_bid_82 : DD cX7_bid 82 (.aload_n 0) 1 83 := ⟨by decide +kernel, rfl⟩
theorem dX7_bid_83 : DD cX7_bid 83 (.getfield 10) 3 86 := ⟨by decide +kernel, rfl⟩
theorem dX7_bid_86 : DD cX7_bid 86 (.iconst 1) 1 87 := ⟨by decide +kernel, rfl⟩
theorem dX7_bid_87 : DD cX7_bid 87 (.aload_n 0) 1 88 := ⟨by decide +kernel, rfl⟩
theorem dX7_bid_88 : DD cX7_bid 88 (.getfield 10) 3 91 := ⟨by decide +kernel, rfl⟩
theorem dX7_bid_91 : DD cX7_bid 91 (.getfield 105) 3 94 := ⟨by decide +kernel, rfl⟩
theorem dX7_bid_94 : DD cX7_bid 94 (.isub) 1 95 := ⟨by decide +kernel, rfl⟩
theorem dX7_bid_95 : DD cX7_bid 95 (.putfield 105) 3 98 := ⟨by decide +kernel, rfl⟩
theorem dX7_bid_98 : DD cX7_bid 98 (.aload_n 0) 1 99 := ⟨by decide +kernel, rfl⟩
theorem dX7_bid_99 : DD cX7_bid 99 (.getfield 10) 3 102 := ⟨by decide +kernel, rfl⟩
theorem dX7_bid_102 : DD cX7_bid 102 (.iload 4) 2 104 := ⟨by decide +kernel, rfl⟩
theorem dX7_bid_104 : DD cX7_bid 104 (.iload_n 1) 1 105 := ⟨by decide +kernel, rfl⟩
theorem dX7_bid_105 : DD cX7_bid 105 (.iload_n 2) 1 106 := ⟨by decide +kernel, rfl⟩
theorem dX7_bid_106 : DD cX7_bid 106 (.invokestatic 141) 3 109 := ⟨by decide +kernel, rfl⟩
theorem dX7_bid_109 : DD cX7_bid 109 (.invokevirtual 146) 3 112 := ⟨by decide +kernel, rfl⟩
theorem dX7_bid_112 : DD cX7_bid 112 (.bipush 10) 2 114 := ⟨by decide +kernel, rfl⟩
theorem dX7_bid_114 : DD cX7_bid 114 (.iload 4) 2 116 := ⟨by decide +kernel, rfl⟩
theorem dX7_bid_116 : DD cX7_bid 116 (.iadd) 1 117 := ⟨by decide +kernel, rfl⟩
theorem dX7_bid_117 : DD cX7_bid 117 (.ireturn) 1 118 := ⟨by decide +kernel, rfl⟩
theorem dX7_move_0 : DD cX7_move 0 (.aload_n 0) 1 1 := ⟨by decide +kernel, rfl⟩
theorem dX7_move_1 : DD cX7_move 1 (.getfield 19) 3 4 := ⟨by decide +kernel, rfl⟩
theorem dX7_move_4 : DD cX7_move 4 (.aload_n 0) 1 5 := ⟨by decide +kernel, rfl⟩
theorem dX7_move_5 : DD cX7_move 5 (.getfield 10) 3 8 := ⟨by decide +kernel, rfl⟩
theorem dX7_move_8 : DD cX7_move 8 (.invokevirtual 120) 3 11 := ⟨by decide +kernel, rfl⟩
theorem dX7_move_11 : DD cX7_move 11 (.aload_n 0) 1 12 := ⟨by decide +kernel, rfl⟩
theorem dX7_move_12 : DD cX7_move 12 (.iload_n 1) 1 13 := ⟨by decide +kernel, rfl⟩
theorem dX7_move_13 : DD cX7_move 13 (.invokevirtual 149) 3 16 := ⟨by decide +kernel, rfl⟩
theorem dX7_move_16 : DD cX7_move 16 (.istore_n 2) 1 17 := ⟨by decide +kernel, rfl⟩
theorem dX7_move_17 : DD cX7_move 17 (.iload_n 2) 1 18 := ⟨by decide +kernel, rfl⟩
theorem dX7_move_18 : DB cX7_move 18 (.ifCond .eq) 18 3 21 36 := ⟨by decide +kernel, rfl, rfl⟩
theorem dX7_move_21 : DD cX7_move 21 (.aload_n 0) 1 22 := ⟨by decide +kernel, rfl⟩
theorem dX7_move_22 : DD cX7_move 22 (.getfield 10) 3 25 := ⟨by decide +kernel, rfl⟩
theorem dX7_move_25 : DD cX7_move 25 (.dup) 1 26 := ⟨by decide +kernel, rfl⟩
theorem dX7_move_26 : DD cX7_move 26 (.getfield 135) 3 29 := ⟨by decide +kernel, rfl⟩
theorem dX7_move_29 : DD cX7_move 29 (.iconst 1) 1 30 := ⟨by decide +kernel, rfl⟩
theorem dX7_move_30 : DD cX7_move 30 (.iadd) 1 31 := ⟨by decide +kernel, rfl⟩
theorem dX7_move_31 : DD cX7_move 31 (.putfield 135) 3 34 := ⟨by decide +kernel, rfl⟩
theorem dX7_move_34 : DD cX7_move 34 (.iload_n 2) 1 35 := ⟨by decide +kernel, rfl⟩
theorem dX7_move_35 : DD cX7_move 35 (.ireturn) 1 36 := ⟨by decide +kernel, rfl⟩
theorem dX7_move_36 : DD cX7_move 36 (.aload_n 0) 1 37 := ⟨by decide +kernel, rfl⟩
theorem dX7_move_37 : DD cX7_move 37 (.getfield 10) 3 40 := ⟨by decide +kernel, rfl⟩
theorem dX7_move_40 : DD cX7_move 40 (.iload_n 1) 1 41 := ⟨by decide +kernel, rfl⟩
theorem dX7_move_41 : DD cX7_move 41 (.putfield 124) 3 44 := ⟨by decide +kernel, rfl⟩
theorem dX7_move_44 : DD cX7_move 44 (.aload_n 0) 1 45 := ⟨by decide +kernel, rfl⟩
theorem dX7_move_45 : DD cX7_move 45 (.getfield 10) 3 48 := ⟨by decide +kernel, rfl⟩
theorem dX7_move_48 : DD cX7_move 48 (.iconst (-1)) 1 49 := ⟨by decide +kernel, rfl⟩
theorem dX7_move_49 : DD cX7_move 49 (.putfield 108) 3 52 := ⟨by decide +kernel, rfl⟩
theorem dX7_move_52 : DD cX7_move 52 (.aload_n 0) 1 53 := ⟨by decide +kernel, rfl⟩
theorem dX7_move_53 : DD cX7_move 53 (.getfield 10) 3 56 := ⟨by decide +kernel, rfl⟩
theorem dX7_move_56 : DD cX7_move 56 (.invokevirtual 127) 3 59 := ⟨by decide +kernel, rfl⟩
theorem dX7_move_59 : DB cX7_move 59 (.ifCond .eq) 8 3 62 67 := ⟨by decide +kernel, rfl, rfl⟩
theorem dX7_move_62 : DD cX7_move 62 (.bipush 11) 2 64 := ⟨by decide +kernel, rfl⟩
theorem dX7_move_64 : DB cX7_move 64 (.goto) 5 3 67 69 := ⟨by decide +kernel, rfl, rfl⟩
theorem dX7_move_67 : DD cX7_move 67 (.bipush 10) 2 69 := ⟨by decide +kernel, rfl⟩
theorem dX7_move_69 : DD cX7_move 69 (.ireturn) 1 70 := ⟨by decide +kernel, rfl⟩
theorem dX7_append_0 : DD cX7_append 0 (.iload_n 1) 1 1 := ⟨by decide +kernel, rfl⟩
theorem dX7_append_1 : DD cX7_append 1 (.bipush 33) 2 3 := ⟨by decide +kernel, rfl⟩
theorem dX7_append_3 : DB cX7_append 3 (.if_icmp .lt) 9 3 6 12 := ⟨by decide +kernel, rfl, rfl⟩
theorem dX7_append_6 : DD cX7_append 6 (.iload_n 1) 1 7 := ⟨by decide +kernel, rfl⟩
theorem dX7_append_7 : DD cX7_append 7 (.bipush 126) 2 9 := ⟨by decide +kernel, rfl⟩
theorem dX7_append_9 : DB cX7_append 9 (.if_icmp .le) 13 3 12 22 := ⟨by decide +kernel, rfl, rfl⟩
theorem dX7_append_12 : DD cX7_append 12 (.new 56) 3 15 := ⟨by decide +kernel, rfl⟩
theorem dX7_append_15 : DD cX7_append 15 (.dup) 1 16 := ⟨by decide +kernel, rfl⟩
theorem dX7_append_16 : DD cX7_append 16 (.ldc 153) 2 18 := ⟨by decide +kernel, rfl⟩
theorem dX7_append_18 : DD cX7_append 18 (.invokespecial 60) 3 21 := ⟨by decide +kernel, rfl⟩
theorem dX7_append_21 : DD cX7_append 21 (.athrow) 1 22 := ⟨by decide +kernel, rfl⟩
theorem dX7_append_22 : DD cX7_append 22 (.aload_n 0) 1 23 := ⟨by decide +kernel, rfl⟩
theorem dX7_append_23 : DD cX7_append 23 (.getfield 34) 3 26 := ⟨by decide +kernel, rfl⟩
theorem dX7_append_26 : DD cX7_append 26 (.getfield 155) 3 29 := ⟨by decide +kernel, rfl⟩
theorem dX7_append_29 : DD cX7_append 29 (.bipush 60) 2 31 := ⟨by decide +kernel, rfl⟩
theorem dX7_append_31 : DB cX7_append 31 (.if_icmp .lt) 13 3 34 44 := ⟨by decide +kernel, rfl, rfl⟩
theorem dX7_append_34 : DD cX7_append 34 (.new 77) 3 37 := ⟨by decide +kernel, rfl⟩
theorem dX7_append_37 : DD cX7_append 37 (.dup) 1 38 := ⟨by decide +kernel, rfl⟩
theorem dX7_append_38 : DD cX7_append 38 (.ldc 158) 2 40 := ⟨by decide +kernel, rfl⟩
theorem dX7_append_40 : DD cX7_append 40 (.invokespecial 81) 3 43 := ⟨by decide +kernel, rfl⟩
theorem dX7_append_43 : DD cX7_append 43 (.athrow) 1 44 := ⟨by decide +kernel, rfl⟩
theorem dX7_append_44 : DD cX7_append 44 (.aload_n 0) 1 45 := ⟨by decide +kernel, rfl⟩
theorem dX7_append_45 : DD cX7_append 45 (.getfield 34) 3 48 := ⟨by decide +kernel, rfl⟩
theorem dX7_append_48 : DD cX7_append 48 (.getfield 160) 3 51 := ⟨by decide +kernel, rfl⟩
theorem dX7_append_51 : DD cX7_append 51 (.aload_n 0) 1 52 := ⟨by decide +kernel, rfl⟩
theorem dX7_append_52 : DD cX7_append 52 (.getfield 34) 3 55 := ⟨by decide +kernel, rfl⟩
theorem dX7_append_55 : DD cX7_append 55 (.getfield 155) 3 58 := ⟨by decide +kernel, rfl⟩
theorem dX7_append_58 : DD cX7_append 58 (.iload_n 1) 1 59 := ⟨by decide +kernel, rfl⟩
theorem dX7_append_59 : DD cX7_append 59 (.i2c) 1 60 := ⟨by decide +kernel, rfl⟩
theorem dX7_append_60 : DD cX7_append 60 (.castore) 1 61 := ⟨by decide +kernel, rfl⟩
theorem dX7_append_61 : DD cX7_append 61 (.aload_n 0) 1 62 := ⟨by decide +kernel, rfl⟩
theorem dX7_append_62 : DD cX7_append 62 (.getfield 34) 3 65 := ⟨by decide +kernel, rfl⟩
theorem dX7_append_65 : DD cX7_append 65 (.dup) 1 66 := ⟨by decide +kernel, rfl⟩
theorem dX7_append_66 : DD cX7_append 66 (.getfield 155) 3 69 := ⟨by decide +kernel, rfl⟩
theorem dX7_append_69 : DD cX7_append 69 (.iconst 1) 1 70 := ⟨by decide +kernel, rfl⟩
theorem dX7_append_70 : DD cX7_append 70 (.iadd) 1 71 := ⟨by decide +kernel, rfl⟩
theorem dX7_append_71 : DD cX7_append 71 (.putfield 155) 3 74 := ⟨by decide +kernel, rfl⟩
theorem dX7_append_74 : DD cX7_append 74 (.aload_n 0) 1 75 := ⟨by decide +kernel, rfl⟩
theorem dX7_append_75 : DD cX7_append 75 (.getfield 34) 3 78 := ⟨by decide +kernel, rfl⟩
theorem dX7_append_78 : DD cX7_append 78 (.getfield 155) 3 81 := ⟨by decide +kernel, rfl⟩
theorem dX7_append_81 : DD cX7_append 81 (.ireturn) 1 82 := ⟨by decide +kernel, rfl⟩
theorem dX7_clearBuffer_0 : DD cX7_clearBuffer 0 (.aload_n 0) 1 1 := ⟨by decide +kernel, rfl⟩
theorem dX7_clearBuffer_1 : DD cX7_clearBuffer 1 (.getfield 34) 3 4 := ⟨by decide +kernel, rfl⟩
theorem dX7_clearBuffer_4 : DD cX7_clearBuffer 4 (.getfield 155) 3 7 := ⟨by decide +kernel, rfl⟩
theorem dX7_clearBuffer_7 : DD cX7_clearBuffer 7 (.istore_n 1) 1 8 := ⟨by decide +kernel, rfl⟩
theorem dX7_clearBuffer_8 : DD cX7_clearBuffer 8 (.aload_n 0) 1 9 := ⟨by decide +kernel, rfl⟩
theorem dX7_clearBuffer_9 : DD cX7_clearBuffer 9 (.getfield 34) 3 12 := ⟨by decide +kernel, rfl⟩
theorem dX7_clearBuffer_12 : DD cX7_clearBuffer 12 (.iconst 0) 1 13 := ⟨by decide +kernel, rfl⟩
theorem dX7_clearBuffer_13 : DD cX7_clearBuffer 13 (.putfield 155) 3 16 := ⟨by decide +kernel, rfl⟩
theorem dX7_clearBuffer_16 : DD cX7_clearBuffer 16 (.iload_n 1) 1 17 := ⟨by decide +kernel, rfl⟩
theorem dX7_clearBuffer_17 : DD cX7_clearBuffer 17 (.ireturn) 1 18 := ⟨by decide +kernel, rfl⟩
theorem dX7_firstError_0 : DD cX7_firstError 0 (.aload_n 0) 1 1 := ⟨by decide +kernel, rfl⟩
theorem dX7_firstError_1 : DD cX7_firstError 1 (.getfield 34) 3 4 := ⟨by decide +kernel, rfl⟩
theorem dX7_firstError_4 : DD cX7_firstError 4 (.invokevirtual 164) 3 7 := ⟨by decide +kernel, rfl⟩
theorem dX7_firstError_7 : DD cX7_firstError 7 (.ireturn) 1 8 := ⟨by decide +kernel, rfl⟩
theorem dX7_load_0 : DD cX7_load 0 (.aload_n 0) 1 1 := ⟨by decide +kernel, rfl⟩
theorem dX7_load_1 : DD cX7_load 1 (.getfield 34) 3 4 := ⟨by decide +kernel, rfl⟩
theorem dX7_load_4 : DD cX7_load 4 (.invokevirtual 164) 3 7 := ⟨by decide +kernel, rfl⟩
theorem dX7_load_7 : DD cX7_load 7 (.istore_n 1) 1 8 := ⟨by decide +kernel, rfl⟩
theorem dX7_load_8 : DD cX7_load 8 (.iload_n 1) 1 9 := ⟨by decide +kernel, rfl⟩
theorem dX7_load_9 : DD cX7_load 9 (.aload_n 0) 1 10 := ⟨by decide +kernel, rfl⟩
theorem dX7_load_10 : DD cX7_load 10 (.getfield 34) 3 13 := ⟨by decide +kernel, rfl⟩
theorem dX7_load_13 : DD cX7_load 13 (.getfield 155) 3 16 := ⟨by decide +kernel, rfl⟩
theorem dX7_load_16 : DB cX7_load 16 (.if_icmp .lt) 13 3 19 29 := ⟨by decide +kernel, rfl, rfl⟩
theorem dX7_load_19 : DD cX7_load 19 (.aload_n 0) 1 20 := ⟨by decide +kernel, rfl⟩
theorem dX7_load_20 : DD cX7_load 20 (.getfield 34) 3 23 := ⟨by decide +kernel, rfl⟩
theorem dX7_load_23 : DD cX7_load 23 (.invokevirtual 168) 3 26 := ⟨by decide +kernel, rfl⟩
theorem dX7_load_26 : DB cX7_load 26 (.ifCond .ne) 13 3 29 39 := ⟨by decide +kernel, rfl, rfl⟩
theorem dX7_load_29 : DD cX7_load 29 (.new 56) 3 32 := ⟨by decide +kernel, rfl⟩
theorem dX7_load_32 : DD cX7_load 32 (.dup) 1 33 := ⟨by decide +kernel, rfl⟩
theorem dX7_load_33 : DD cX7_load 33 (.ldc 171) 2 35 := ⟨by decide +kernel, rfl⟩
theorem dX7_load_35 : DD cX7_load 35 (.invokespecial 60) 3 38 := ⟨by decide +kernel, rfl⟩
theorem dX7_load_38 : DD cX7_load 38 (.athrow) 1 39 := ⟨by decide +kernel, rfl⟩
theorem dX7_load_39 : DD cX7_load 39 (.aload_n 0) 1 40 := ⟨by decide +kernel, rfl⟩
end
section
theorem dX7_load_40 : DD cX7_load 40 (.invokevirtual 82) 3 43 := ⟨by decide +kernel, rfl⟩
theorem dX7_load_43 : DD cX7_load 43 (.aload_n 0) 1 44 := ⟨by decide +kernel, rfl⟩
theorem dX7_load_44 : DD cX7_load 44 (.getfield 10) 3 47 := ⟨by decide +kernel, rfl⟩
theorem dX7_load_47 : DD cX7_load 47 (.getfield 63) 3 50 := ⟨by decide +kernel, rfl⟩
theorem dX7_load_50 : DD cX7_load 50 (.aload_n 0) 1 51 := ⟨by decide +kernel, rfl⟩
theorem dX7_load_51 : DD cX7_load 51 (.getfield 34) 3 54 := ⟨by decide +kernel, rfl⟩
theorem dX7_load_54 : DD cX7_load 54 (.getfield 173) 3 57 := ⟨by decide +kernel, rfl⟩
theorem dX7_load_57 : DD cX7_load 57 (.invokevirtual 176) 3 60 := ⟨by decide +kernel, rfl⟩
theorem dX7_load_60 : DD cX7_load 60 (.aload_n 0) 1 61 := ⟨by decide +kernel, rfl⟩
theorem dX7_load_61 : DD cX7_load 61 (.getfield 10) 3 64 := ⟨by decide +kernel, rfl⟩
theorem dX7_load_64 : DD cX7_load 64 (.iconst (-1)) 1 65 := ⟨by decide +kernel, rfl⟩
theorem dX7_load_65 : DD cX7_load 65 (.putfield 108) 3 68 := ⟨by decide +kernel, rfl⟩
theorem dX7_load_68 : DD cX7_load 68 (.aload_n 0) 1 69 := ⟨by decide +kernel, rfl⟩
theorem dX7_load_69 : DD cX7_load 69 (.getfield 34) 3 72 := ⟨by decide +kernel, rfl⟩
theorem dX7_load_72 : DD cX7_load 72 (.iconst 0) 1 73 := ⟨by decide +kernel, rfl⟩
theorem dX7_load_73 : DD cX7_load 73 (.putfield 155) 3 76 := ⟨by decide +kernel, rfl⟩
theorem dX7_load_76 : DD cX7_load 76 (.aload_n 0) 1 77 := ⟨by decide +kernel, rfl⟩
theorem dX7_load_77 : DD cX7_load 77 (.getfield 34) 3 80 := ⟨by decide +kernel, rfl⟩
theorem dX7_load_80 : DD cX7_load 80 (.getfield 180) 3 83 := ⟨by decide +kernel, rfl⟩
theorem dX7_load_83 : DD cX7_load 83 (.ireturn) 1 84 := ⟨by decide +kernel, rfl⟩
theorem dX7_keep_0 : DD cX7_keep 0 (.iload_n 1) 1 1 := ⟨by decide +kernel, rfl⟩
theorem dX7_keep_1 : DD cX7_keep 1 (.iconst 1) 1 2 := ⟨by decide +kernel, rfl⟩
theorem dX7_keep_2 : DD cX7_keep 2 (.invokestatic 89) 3 5 := ⟨by decide +kernel, rfl⟩
theorem dX7_keep_5 : DD cX7_keep 5 (.aload_n 0) 1 6 := ⟨by decide +kernel, rfl⟩
theorem dX7_keep_6 : DD cX7_keep 6 (.getfield 23) 3 9 := ⟨by decide +kernel, rfl⟩
theorem dX7_keep_9 : DD cX7_keep 9 (.iload_n 1) 1 10 := ⟨by decide +kernel, rfl⟩
theorem dX7_keep_10 : DD cX7_keep 10 (.aaload) 1 11 := ⟨by decide +kernel, rfl⟩
theorem dX7_keep_11 : DD cX7_keep 11 (.aload_n 0) 1 12 := ⟨by decide +kernel, rfl⟩
theorem dX7_keep_12 : DD cX7_keep 12 (.getfield 10) 3 15 := ⟨by decide +kernel, rfl⟩
theorem dX7_keep_15 : DD cX7_keep 15 (.invokevirtual 183) 3 18 := ⟨by decide +kernel, rfl⟩
theorem dX7_keep_18 : DD cX7_keep 18 (.aload_n 0) 1 19 := ⟨by decide +kernel, rfl⟩
theorem dX7_keep_19 : DD cX7_keep 19 (.getfield 27) 3 22 := ⟨by decide +kernel, rfl⟩
theorem dX7_keep_22 : DD cX7_keep 22 (.iload_n 1) 1 23 := ⟨by decide +kernel, rfl⟩
theorem dX7_keep_23 : DD cX7_keep 23 (.iconst 1) 1 24 := ⟨by decide +kernel, rfl⟩
theorem dX7_keep_24 : DD cX7_keep 24 (.bastore) 1 25 := ⟨by decide +kernel, rfl⟩
theorem dX7_keep_25 : DD cX7_keep 25 (.aload_n 0) 1 26 := ⟨by decide +kernel, rfl⟩
theorem dX7_keep_26 : DD cX7_keep 26 (.getfield 10) 3 29 := ⟨by decide +kernel, rfl⟩
theorem dX7_keep_29 : DD cX7_keep 29 (.getfield 124) 3 32 := ⟨by decide +kernel, rfl⟩
theorem dX7_keep_32 : DD cX7_keep 32 (.ireturn) 1 33 := ⟨by decide +kernel, rfl⟩
theorem dX7_goBack_0 : DD cX7_goBack 0 (.iload_n 1) 1 1 := ⟨by decide +kernel, rfl⟩
theorem dX7_goBack_1 : DD cX7_goBack 1 (.iconst 1) 1 2 := ⟨by decide +kernel, rfl⟩
theorem dX7_goBack_2 : DD cX7_goBack 2 (.invokestatic 89) 3 5 := ⟨by decide +kernel, rfl⟩
theorem dX7_goBack_5 : DD cX7_goBack 5 (.aload_n 0) 1 6 := ⟨by decide +kernel, rfl⟩
theorem dX7_goBack_6 : DD cX7_goBack 6 (.getfield 27) 3 9 := ⟨by decide +kernel, rfl⟩
theorem dX7_goBack_9 : DD cX7_goBack 9 (.iload_n 1) 1 10 := ⟨by decide +kernel, rfl⟩
theorem dX7_goBack_10 : DD cX7_goBack 10 (.baload) 1 11 := ⟨by decide +kernel, rfl⟩
theorem dX7_goBack_11 : DB cX7_goBack 11 (.ifCond .ne) 13 3 14 24 := ⟨by decide +kernel, rfl, rfl⟩
theorem dX7_goBack_14 : DD cX7_goBack 14 (.new 77) 3 17 := ⟨by decide +kernel, rfl⟩
theorem dX7_goBack_17 : DD cX7_goBack 17 (.dup) 1 18 := ⟨by decide +kernel, rfl⟩
theorem dX7_goBack_18 : DD cX7_goBack 18 (.ldc 186) 2 20 := ⟨by decide +kernel, rfl⟩
theorem dX7_goBack_20 : DD cX7_goBack 20 (.invokespecial 81) 3 23 := ⟨by decide +kernel, rfl⟩
theorem dX7_goBack_23 : DD cX7_goBack 23 (.athrow) 1 24 := ⟨by decide +kernel, rfl⟩
theorem dX7_goBack_24 : DD cX7_goBack 24 (.aload_n 0) 1 25 := ⟨by decide +kernel, rfl⟩
theorem dX7_goBack_25 : DD cX7_goBack 25 (.invokevirtual 82) 3 28 := ⟨by decide +kernel, rfl⟩
theorem dX7_goBack_28 : DD cX7_goBack 28 (.aload_n 0) 1 29 := ⟨by decide +kernel, rfl⟩
theorem dX7_goBack_29 : DD cX7_goBack 29 (.getfield 10) 3 32 := ⟨by decide +kernel, rfl⟩
theorem dX7_goBack_32 : DD cX7_goBack 32 (.aload_n 0) 1 33 := ⟨by decide +kernel, rfl⟩
theorem dX7_goBack_33 : DD cX7_goBack 33 (.getfield 23) 3 36 := ⟨by decide +kernel, rfl⟩
theorem dX7_goBack_36 : DD cX7_goBack 36 (.iload_n 1) 1 37 := ⟨by decide +kernel, rfl⟩
theorem dX7_goBack_37 : DD cX7_goBack 37 (.aaload) 1 38 := ⟨by decide +kernel, rfl⟩
theorem dX7_goBack_38 : DD cX7_goBack 38 (.invokevirtual 183) 3 41 := ⟨by decide +kernel, rfl⟩
theorem dX7_goBack_41 : DD cX7_goBack 41 (.aload_n 0) 1 42 := ⟨by decide +kernel, rfl⟩
theorem dX7_goBack_42 : DD cX7_goBack 42 (.getfield 10) 3 45 := ⟨by decide +kernel, rfl⟩
theorem dX7_goBack_45 : DD cX7_goBack 45 (.getfield 124) 3 48 := ⟨by decide +kernel, rfl⟩
theorem dX7_goBack_48 : DD cX7_goBack 48 (.ireturn) 1 49 := ⟨by decide +kernel, rfl⟩
theorem dX7_undo_0 : DD cX7_undo 0 (.aload_n 0) 1 1 := ⟨by decide +kernel, rfl⟩
theorem dX7_undo_1 : DD cX7_undo 1 (.getfield 19) 3 4 := ⟨by decide +kernel, rfl⟩
theorem dX7_undo_4 : DD cX7_undo 4 (.getfield 188) 3 7 := ⟨by decide +kernel, rfl⟩
theorem dX7_undo_7 : DB cX7_undo 7 (.ifCond .ne) 13 3 10 20 := ⟨by decide +kernel, rfl, rfl⟩
theorem dX7_undo_10 : DD cX7_undo 10 (.new 77) 3 13 := ⟨by decide +kernel, rfl⟩
theorem dX7_undo_13 : DD cX7_undo 13 (.dup) 1 14 := ⟨by decide +kernel, rfl⟩
theorem dX7_undo_14 : DD cX7_undo 14 (.ldc 191) 2 16 := ⟨by decide +kernel, rfl⟩
theorem dX7_undo_16 : DD cX7_undo 16 (.invokespecial 81) 3 19 := ⟨by decide +kernel, rfl⟩
theorem dX7_undo_19 : DD cX7_undo 19 (.athrow) 1 20 := ⟨by decide +kernel, rfl⟩
theorem dX7_undo_20 : DD cX7_undo 20 (.aload_n 0) 1 21 := ⟨by decide +kernel, rfl⟩
theorem dX7_undo_21 : DD cX7_undo 21 (.getfield 19) 3 24 := ⟨by decide +kernel, rfl⟩
theorem dX7_undo_24 : DD cX7_undo 24 (.aload_n 0) 1 25 := ⟨by decide +kernel, rfl⟩
theorem dX7_undo_25 : DD cX7_undo 25 (.getfield 10) 3 28 := ⟨by decide +kernel, rfl⟩
theorem dX7_undo_28 : DD cX7_undo 28 (.invokevirtual 193) 3 31 := ⟨by decide +kernel, rfl⟩
theorem dX7_undo_31 : DD cX7_undo 31 (.aload_n 0) 1 32 := ⟨by decide +kernel, rfl⟩
theorem dX7_undo_32 : DD cX7_undo 32 (.invokevirtual 196) 3 35 := ⟨by decide +kernel, rfl⟩
theorem dX7_undo_35 : DD cX7_undo 35 (.aload_n 0) 1 36 := ⟨by decide +kernel, rfl⟩
theorem dX7_undo_36 : DD cX7_undo 36 (.getfield 19) 3 39 := ⟨by decide +kernel, rfl⟩
theorem dX7_undo_39 : DD cX7_undo 39 (.getfield 188) 3 42 := ⟨by decide +kernel, rfl⟩
theorem dX7_undo_42 : DD cX7_undo 42 (.ireturn) 1 43 := ⟨by decide +kernel, rfl⟩
theorem dX7_positionOf_0 : DD cX7_positionOf 0 (.iload_n 1) 1 1 := ⟨by decide +kernel, rfl⟩
theorem dX7_positionOf_1 : DD cX7_positionOf 1 (.invokestatic 52) 3 4 := ⟨by decide +kernel, rfl⟩
theorem dX7_positionOf_4 : DD cX7_positionOf 4 (.iload_n 2) 1 5 := ⟨by decide +kernel, rfl⟩
theorem dX7_positionOf_5 : DD cX7_positionOf 5 (.bipush 6) 2 7 := ⟨by decide +kernel, rfl⟩
theorem dX7_positionOf_7 : DD cX7_positionOf 7 (.invokestatic 89) 3 10 := ⟨by decide +kernel, rfl⟩
theorem dX7_positionOf_10 : DD cX7_positionOf 10 (.iload_n 2) 1 11 := ⟨by decide +kernel, rfl⟩
theorem dX7_positionOf_11 : decode cX7_positionOf 11 = .ok (.lookupswitch 71 #[(0, 33), (1, 46), (6, 59)], 33) := by decide +kernel
theorem dX7_positionOf_44 : DD cX7_positionOf 44 (.aload_n 0) 1 45 := ⟨by decide +kernel, rfl⟩
theorem dX7_positionOf_45 : DD cX7_positionOf 45 (.getfield 10) 3 48 := ⟨by decide +kernel, rfl⟩
theorem dX7_positionOf_48 : DD cX7_positionOf 48 (.getfield 63) 3 51 := ⟨by decide +kernel, rfl⟩
theorem dX7_positionOf_51 : DD cX7_positionOf 51 (.getfield 92) 3 54 := ⟨by decide +kernel, rfl⟩
theorem dX7_positionOf_54 : DD cX7_positionOf 54 (.iload_n 1) 1 55 := ⟨by decide +kernel, rfl⟩
theorem dX7_positionOf_55 : DD cX7_positionOf 55 (.iaload) 1 56 := ⟨by decide +kernel, rfl⟩
theorem dX7_positionOf_56 : DD cX7_positionOf 56 (.ireturn) 1 57 := ⟨by decide +kernel, rfl⟩
theorem dX7_positionOf_57 : DD cX7_positionOf 57 (.aload_n 0) 1 58 := ⟨by decide +kernel, rfl⟩
theorem dX7_positionOf_58 : DD cX7_positionOf 58 (.getfield 10) 3 61 := ⟨by decide +kernel, rfl⟩
theorem dX7_positionOf_61 : DD cX7_positionOf 61 (.getfield 63) 3 64 := ⟨by decide +kernel, rfl⟩
theorem dX7_positionOf_64 : DD cX7_positionOf 64 (.getfield 73) 3 67 := ⟨by decide +kernel, rfl⟩
theorem dX7_positionOf_67 : DD cX7_positionOf 67 (.iload_n 1) 1 68 := ⟨by decide +kernel, rfl⟩
theorem dX7_positionOf_68 : DD cX7_positionOf 68 (.iaload) 1 69 := ⟨by decide +kernel, rfl⟩
theorem dX7_positionOf_69 : DD cX7_positionOf 69 (.ireturn) 1 70 := ⟨by decide +kernel, rfl⟩
theorem dX7_positionOf_70 : DD cX7_positionOf 70 (.aload_n 0) 1 71 := ⟨by decide +kernel, rfl⟩
theorem dX7_positionOf_71 : DD cX7_positionOf 71 (.getfield 10) 3 74 := ⟨by decide +kernel, rfl⟩
theorem dX7_positionOf_74 : DD cX7_positionOf 74 (.getfield 63) 3 77 := ⟨by decide +kernel, rfl⟩
theorem dX7_positionOf_77 : DD cX7_positionOf 77 (.iload_n 1) 1 78 := ⟨by decide +kernel, rfl⟩
theorem dX7_positionOf_78 : DD cX7_positionOf 78 (.invokevirtual 199) 3 81 := ⟨by decide +kernel, rfl⟩
theorem dX7_positionOf_81 : DD cX7_positionOf 81 (.ireturn) 1 82 := ⟨by decide +kernel, rfl⟩
theorem dX7_positionOf_82 : DD cX7_positionOf 82 (.aload_n 0) 1 83 := ⟨by decide +kernel, rfl⟩
theorem dX7_positionOf_83 : DD cX7_positionOf 83 (.getfield 10) 3 86 := ⟨by decide +kernel, rfl⟩
theorem dX7_positionOf_86 : DD cX7_positionOf 86 (.getfield 63) 3 89 := ⟨by decide +kernel, rfl⟩
theorem dX7_positionOf_89 : DD cX7_positionOf 89 (.iload_n 1) 1 90 := ⟨by decide +kernel, rfl⟩
theorem dX7_positionOf_90 : DD cX7_positionOf 90 (.iload_n 2) 1 91 := ⟨by decide +kernel, rfl⟩
theorem dX7_positionOf_91 : DD cX7_positionOf 91 (.iconst 2) 1 92 := ⟨by decide +kernel, rfl⟩
theorem dX7_positionOf_92 : DD cX7_positionOf 92 (.isub) 1 93 := ⟨by decide +kernel, rfl⟩
theorem dX7_positionOf_93 : DD cX7_positionOf 93 (.invokevirtual 202) 3 96 := ⟨by decide +kernel, rfl⟩
theorem dX7_positionOf_96 : DD cX7_positionOf 96 (.ireturn) 1 97 := ⟨by decide +kernel, rfl⟩
theorem dX7_playerOf_0 : DD cX7_playerOf 0 (.iload_n 1) 1 1 := ⟨by decide +kernel, rfl⟩
theorem dX7_playerOf_1 : DD cX7_playerOf 1 (.invokestatic 205) 3 4 := ⟨by decide +kernel, rfl⟩
theorem dX7_playerOf_4 : DD cX7_playerOf 4 (.iload_n 2) 1 5 := ⟨by decide +kernel, rfl⟩
theorem dX7_playerOf_5 : DD cX7_playerOf 5 (.iconst 5) 1 6 := ⟨by decide +kernel, rfl⟩
theorem dX7_playerOf_6 : DD cX7_playerOf 6 (.invokestatic 89) 3 9 := ⟨by decide +kernel, rfl⟩
theorem dX7_playerOf_9 : DD cX7_playerOf 9 (.iload_n 2) 1 10 := ⟨by decide +kernel, rfl⟩
theorem dX7_playerOf_10 : decode cX7_playerOf 10 = .ok (.tableswitch 92 0 4 #[34, 43, 60, 70, 80], 34) := by decide +kernel
theorem dX7_playerOf_44 : DD cX7_playerOf 44 (.aload_n 0) 1 45 := ⟨by decide +kernel, rfl⟩
theorem dX7_playerOf_45 : DD cX7_playerOf 45 (.getfield 10) 3 48 := ⟨by decide +kernel, rfl⟩
theorem dX7_playerOf_48 : DD cX7_playerOf 48 (.iload_n 1) 1 49 := ⟨by decide +kernel, rfl⟩
theorem dX7_playerOf_49 : DD cX7_playerOf 49 (.invokevirtual 208) 3 52 := ⟨by decide +kernel, rfl⟩
theorem dX7_playerOf_52 : DD cX7_playerOf 52 (.ireturn) 1 53 := ⟨by decide +kernel, rfl⟩
theorem dX7_playerOf_53 : DD cX7_playerOf 53 (.aload_n 0) 1 54 := ⟨by decide +kernel, rfl⟩
theorem dX7_playerOf_54 : DD cX7_playerOf 54 (.getfield 10) 3 57 := ⟨by decide +kernel, rfl⟩
theorem dX7_playerOf_57 : DD cX7_playerOf 57 (.getfield 105) 3 60 := ⟨by decide +kernel, rfl⟩
theorem dX7_playerOf_60 : DD cX7_playerOf 60 (.iload_n 1) 1 61 := ⟨by decide +kernel, rfl⟩
theorem dX7_playerOf_61 : DB cX7_playerOf 61 (.if_icmp .ne) 7 3 64 68 := ⟨by decide +kernel, rfl, rfl⟩
theorem dX7_playerOf_64 : DD cX7_playerOf 64 (.iconst 1) 1 65 := ⟨by decide +kernel, rfl⟩
theorem dX7_playerOf_65 : DB cX7_playerOf 65 (.goto) 4 3 68 69 := ⟨by decide +kernel, rfl, rfl⟩
theorem dX7_playerOf_68 : DD cX7_playerOf 68 (.iconst 0) 1 69 := ⟨by decide +kernel, rfl⟩
theorem dX7_playerOf_69 : DD cX7_playerOf 69 (.ireturn) 1 70 := ⟨by decide +kernel, rfl⟩
theorem dX7_playerOf_70 : DD cX7_playerOf 70 (.aload_n 0) 1 71 := ⟨by decide +kernel, rfl⟩
theorem dX7_playerOf_71 : DD cX7_playerOf 71 (.getfield 10) 3 74 := ⟨by decide +kernel, rfl⟩
theorem dX7_playerOf_74 : DD cX7_playerOf 74 (.getfield 211) 3 77 := ⟨by decide +kernel, rfl⟩
theorem dX7_playerOf_77 : DD cX7_playerOf 77 (.iload_n 1) 1 78 := ⟨by decide +kernel, rfl⟩
theorem dX7_playerOf_78 : DD cX7_playerOf 78 (.iaload) 1 79 := ⟨by decide +kernel, rfl⟩
theorem dX7_playerOf_79 : DD cX7_playerOf 79 (.ireturn) 1 80 := ⟨by decide +kernel, rfl⟩
theorem dX7_playerOf_80 : DD cX7_playerOf 80 (.aload_n 0) 1 81 := ⟨by decide +kernel, rfl⟩
theorem dX7_playerOf_81 : DD cX7_playerOf 81 (.getfield 10) 3 84 := ⟨by decide +kernel, rfl⟩
theorem dX7_playerOf_84 : DD cX7_playerOf 84 (.getfield 214) 3 87 := ⟨by decide +kernel, rfl⟩
theorem dX7_playerOf_87 : DD cX7_playerOf 87 (.iload_n 1) 1 88 := ⟨by decide +kernel, rfl⟩
theorem dX7_playerOf_88 : DD cX7_playerOf 88 (.iaload) 1 89 := ⟨by decide +kernel, rfl⟩
theorem dX7_playerOf_89 : DD cX7_playerOf 89 (.ireturn) 1 90 := ⟨by decide +kernel, rfl⟩
theorem dX7_playerOf_90 : DD cX7_playerOf 90 (.aload_n 0) 1 91 := ⟨by decide +kernel, rfl⟩
theorem dX7_playerOf_91 : DD cX7_playerOf 91 (.getfield 10) 3 94 := ⟨by decide +kernel, rfl⟩
theorem dX7_playerOf_94 : DD cX7_playerOf 94 (.getfield 63) 3 97 := ⟨by decide +kernel, rfl⟩
theorem dX7_playerOf_97 : DD cX7_playerOf 97 (.iload_n 1) 1 98 := ⟨by decide +kernel, rfl⟩
theorem dX7_playerOf_98 : DD cX7_playerOf 98 (.invokevirtual 217) 3 101 := ⟨by decide +kernel, rfl⟩
theorem dX7_playerOf_101 : DD cX7_playerOf 101 (.ireturn) 1 102 := ⟨by decide +kernel, rfl⟩
theorem dX7_playerOf_102 : DD cX7_playerOf 102 (.aload_n 0) 1 103 := ⟨by decide +kernel, rfl⟩
theorem dX7_playerOf_103 : DD cX7_playerOf 103 (.getfield 41) 3 106 := ⟨by decide +kernel, rfl⟩
theorem dX7_playerOf_106 : DD cX7_playerOf 106 (.aload_n 0) 1 107 := ⟨by decide +kernel, rfl⟩
theorem dX7_playerOf_107 : DD cX7_playerOf 107 (.getfield 10) 3 110 := ⟨by decide +kernel, rfl⟩
theorem dX7_playerOf_110 : DD cX7_playerOf 110 (.aload_n 0) 1 111 := ⟨by decide +kernel, rfl⟩
theorem dX7_playerOf_111 : DD cX7_playerOf 111 (.getfield 10) 3 114 := ⟨by decide +kernel, rfl⟩
theorem dX7_playerOf_114 : DD cX7_playerOf 114 (.getfield 114) 3 117 := ⟨by decide +kernel, rfl⟩
theorem dX7_playerOf_117 : DD cX7_playerOf 117 (.invokevirtual 220) 3 120 := ⟨by decide +kernel, rfl⟩
theorem dX7_playerOf_120 : DD cX7_playerOf 120 (.aload_n 0) 1 121 := ⟨by decide +kernel, rfl⟩
theorem dX7_playerOf_121 : DD cX7_playerOf 121 (.getfield 41) 3 124 := ⟨by decide +kernel, rfl⟩
theorem dX7_playerOf_124 : DD cX7_playerOf 124 (.aload_n 0) 1 125 := ⟨by decide +kernel, rfl⟩
theorem dX7_playerOf_125 : DD cX7_playerOf 125 (.getfield 10) 3 128 := ⟨by decide +kernel, rfl⟩
theorem dX7_playerOf_128 : DD cX7_playerOf 128 (.iload_n 1) 1 129 := ⟨by decide +kernel, rfl⟩
theorem dX7_playerOf_129 : DD cX7_playerOf 129 (.invokevirtual 224) 3 132 := ⟨by decide +kernel, rfl⟩
theorem dX7_playerOf_132 : DD cX7_playerOf 132 (.ireturn) 1 133 := ⟨by decide +kernel, rfl⟩
theorem dX7_count_0 : DD cX7_count 0 (.iload_n 1) 1 1 := ⟨by decide +kernel, rfl⟩
theorem dX7_count_1 : DD cX7_count 1 (.bipush 10) 2 3 := ⟨by decide +kernel, rfl⟩
theorem dX7_count_3 : DD cX7_count 3 (.invokestatic 89) 3 6 := ⟨by decide +kernel, rfl⟩
theorem dX7_count_6 : DD cX7_count 6 (.iload_n 1) 1 7 := ⟨by decide +kernel, rfl⟩
theorem dX7_count_7 : decode cX7_count 7 = .ok (.tableswitch 169 0 9 #[53, 61, 77, 98, 106, 114, 122, 142, 150, 158], 53) := by decide +kernel
theorem dX7_count_60 : DD cX7_count 60 (.aload_n 0) 1 61 := ⟨by decide +kernel, rfl⟩
theorem dX7_count_61 : DD cX7_count 61 (.getfield 10) 3 64 := ⟨by decide +kernel, rfl⟩
theorem dX7_count_64 : DD cX7_count 64 (.getfield 124) 3 67 := ⟨by decide +kernel, rfl⟩
theorem dX7_count_67 : DD cX7_count 67 (.ireturn) 1 68 := ⟨by decide +kernel, rfl⟩
theorem dX7_count_68 : DD cX7_count 68 (.aload_n 0) 1 69 := ⟨by decide +kernel, rfl⟩
theorem dX7_count_69 : DD cX7_count 69 (.getfield 10) 3 72 := ⟨by decide +kernel, rfl⟩
theorem dX7_count_72 : DD cX7_count 72 (.invokevirtual 127) 3 75 := ⟨by decide +kernel, rfl⟩
theorem dX7_count_75 : DB cX7_count 75 (.ifCond .eq) 7 3 78 82 := ⟨by decide +kernel, rfl, rfl⟩
theorem dX7_count_78 : DD cX7_count 78 (.iconst 1) 1 79 := ⟨by decide +kernel, rfl⟩
theorem dX7_count_79 : DB cX7_count 79 (.goto) 4 3 82 83 := ⟨by decide +kernel, rfl, rfl⟩
theorem dX7_count_82 : DD cX7_count 82 (.iconst 0) 1 83 := ⟨by decide +kernel, rfl⟩
theorem dX7_count_83 : DD cX7_count 83 (.ireturn) 1 84 := ⟨by decide +kernel, rfl⟩
theorem dX7_count_84 : DD cX7_count 84 (.aload_n 0) 1 85 := ⟨by decide +kernel, rfl⟩
theorem dX7_count_85 : DD cX7_count 85 (.getfield 10) 3 88 := ⟨by decide +kernel, rfl⟩
theorem dX7_count_88 : DD cX7_count 88 (.getfield 63) 3 91 := ⟨by decide +kernel, rfl⟩
theorem dX7_count_91 : DD cX7_count 91 (.getfield 92) 3 94 := ⟨by decide +kernel, rfl⟩
theorem dX7_count_94 : DD cX7_count 94 (.aload_n 0) 1 95 := ⟨by decide +kernel, rfl⟩
theorem dX7_count_95 : DD cX7_count 95 (.getfield 10) 3 98 := ⟨by decide +kernel, rfl⟩
theorem dX7_count_98 : DD cX7_count 98 (.getfield 124) 3 101 := ⟨by decide +kernel, rfl⟩
theorem dX7_count_101 : DD cX7_count 101 (.iaload) 1 102 := ⟨by decide +kernel, rfl⟩
theorem dX7_count_102 : DD cX7_count 102 (.iconst 1) 1 103 := ⟨by decide +kernel, rfl⟩
theorem dX7_count_103 : DD cX7_count 103 (.isub) 1 104 := ⟨by decide +kernel, rfl⟩
theorem dX7_count_104 : DD cX7_count 104 (.ireturn) 1 105 := ⟨by decide +kernel, rfl⟩
theorem dX7_count_105 : DD cX7_count 105 (.aload_n 0) 1 106 := ⟨by decide +kernel, rfl⟩
theorem dX7_count_106 : DD cX7_count 106 (.getfield 10) 3 109 := ⟨by decide +kernel, rfl⟩
theorem dX7_count_109 : DD cX7_count 109 (.getfield 108) 3 112 := ⟨by decide +kernel, rfl⟩
theorem dX7_count_112 : DD cX7_count 112 (.ireturn) 1 113 := ⟨by decide +kernel, rfl⟩
theorem dX7_count_113 : DD cX7_count 113 (.aload_n 0) 1 114 := ⟨by decide +kernel, rfl⟩
theorem dX7_count_114 : DD cX7_count 114 (.getfield 10) 3 117 := ⟨by decide +kernel, rfl⟩
theorem dX7_count_117 : DD cX7_count 117 (.getfield 105) 3 120 := ⟨by decide +kernel, rfl⟩
theorem dX7_count_120 : DD cX7_count 120 (.ireturn) 1 121 := ⟨by decide +kernel, rfl⟩
theorem dX7_count_121 : DD cX7_count 121 (.aload_n 0) 1 122 := ⟨by decide +kernel, rfl⟩
theorem dX7_count_122 : DD cX7_count 122 (.getfield 10) 3 125 := ⟨by decide +kernel, rfl⟩
theorem dX7_count_125 : DD cX7_count 125 (.getfield 98) 3 128 := ⟨by decide +kernel, rfl⟩
theorem dX7_count_128 : DD cX7_count 128 (.ireturn) 1 129 := ⟨by decide +kernel, rfl⟩
theorem dX7_count_129 : DD cX7_count 129 (.aload_n 0) 1 130 := ⟨by decide +kernel, rfl⟩
theorem dX7_count_130 : DD cX7_count 130 (.getfield 10) 3 133 := ⟨by decide +kernel, rfl⟩
theorem dX7_count_133 : DD cX7_count 133 (.getfield 211) 3 136 := ⟨by decide +kernel, rfl⟩
theorem dX7_count_136 : DD cX7_count 136 (.iconst 0) 1 137 := ⟨by decide +kernel, rfl⟩
theorem dX7_count_137 : DD cX7_count 137 (.iaload) 1 138 := ⟨by decide +kernel, rfl⟩
theorem dX7_count_138 : DD cX7_count 138 (.aload_n 0) 1 139 := ⟨by decide +kernel, rfl⟩
theorem dX7_count_139 : DD cX7_count 139 (.getfield 10) 3 142 := ⟨by decide +kernel, rfl⟩
theorem dX7_count_142 : DD cX7_count 142 (.getfield 211) 3 145 := ⟨by decide +kernel, rfl⟩
theorem dX7_count_145 : DD cX7_count 145 (.iconst 1) 1 146 := ⟨by decide +kernel, rfl⟩
theorem dX7_count_146 : DD cX7_count 146 (.iaload) 1 147 := ⟨by decide +kernel, rfl⟩
theorem dX7_count_147 : DD cX7_count 147 (.iadd) 1 148 := ⟨by decide +kernel, rfl⟩
theorem dX7_count_148 : DD cX7_count 148 (.ireturn) 1 149 := ⟨by decide +kernel, rfl⟩
theorem dX7_count_149 : DD cX7_count 149 (.aload_n 0) 1 150 := ⟨by decide +kernel, rfl⟩
theorem dX7_count_150 : DD cX7_count 150 (.getfield 10) 3 153 := ⟨by decide +kernel, rfl⟩
theorem dX7_count_153 : DD cX7_count 153 (.getfield 138) 3 156 := ⟨by decide +kernel, rfl⟩
theorem dX7_count_156 : DD cX7_count 156 (.ireturn) 1 157 := ⟨by decide +kernel, rfl⟩
theorem dX7_count_157 : DD cX7_count 157 (.aload_n 0) 1 158 := ⟨by decide +kernel, rfl⟩
theorem dX7_count_158 : DD cX7_count 158 (.getfield 10) 3 161 := ⟨by decide +kernel, rfl⟩
theorem dX7_count_161 : DD cX7_count 161 (.getfield 135) 3 164 := ⟨by decide +kernel, rfl⟩
theorem dX7_count_164 : DD cX7_count 164 (.ireturn) 1 165 := ⟨by decide +kernel, rfl⟩
theorem dX7_count_165 : DD cX7_count 165 (.aload_n 0) 1 166 := ⟨by decide +kernel, rfl⟩
theorem dX7_count_166 : DD cX7_count 166 (.getfield 10) 3 169 := ⟨by decide +kernel, rfl⟩
theorem dX7_count_169 : DD cX7_count 169 (.getfield 63) 3 172 := ⟨by decide +kernel, rfl⟩
theorem dX7_count_172 : DD cX7_count 172 (.invokevirtual 228) 3 175 := ⟨by decide +kernel, rfl⟩
theorem dX7_count_175 : DD cX7_count 175 (.ireturn) 1 176 := ⟨by decide +kernel, rfl⟩
theorem dX7_count_176 : DD cX7_count 176 (.aload_n 0) 1 177 := ⟨by decide +kernel, rfl⟩
theorem dX7_count_177 : DD cX7_count 177 (.getfield 19) 3 180 := ⟨by decide +kernel, rfl⟩
theorem dX7_count_180 : DD cX7_count 180 (.getfield 188) 3 183 := ⟨by decide +kernel, rfl⟩
theorem dX7_count_183 : DD cX7_count 183 (.ireturn) 1 184 := ⟨by decide +kernel, rfl⟩
theorem dX7_setting_0 : DD cX7_setting 0 (.iload_n 1) 1 1 := ⟨by decide +kernel, rfl⟩
theorem dX7_setting_1 : DD cX7_setting 1 (.invokestatic 111) 3 4 := ⟨by decide +kernel, rfl⟩
theorem dX7_setting_4 : DD cX7_setting 4 (.iload_n 1) 1 5 := ⟨by decide +kernel, rfl⟩
theorem dX7_setting_5 : DB cX7_setting 5 (.ifCond .ne) 13 3 8 18 := ⟨by decide +kernel, rfl, rfl⟩
theorem dX7_setting_8 : DD cX7_setting 8 (.aload_n 0) 1 9 := ⟨by decide +kernel, rfl⟩
theorem dX7_setting_9 : DD cX7_setting 9 (.getfield 10) 3 12 := ⟨by decide +kernel, rfl⟩
theorem dX7_setting_12 : DD cX7_setting 12 (.getfield 98) 3 15 := ⟨by decide +kernel, rfl⟩
theorem dX7_setting_15 : DB cX7_setting 15 (.goto) 10 3 18 25 := ⟨by decide +kernel, rfl, rfl⟩
theorem dX7_setting_18 : DD cX7_setting 18 (.aload_n 0) 1 19 := ⟨by decide +kernel, rfl⟩
theorem dX7_setting_19 : DD cX7_setting 19 (.getfield 10) 3 22 := ⟨by decide +kernel, rfl⟩
theorem dX7_setting_22 : DD cX7_setting 22 (.getfield 114) 3 25 := ⟨by decide +kernel, rfl⟩
theorem dX7_setting_25 : DD cX7_setting 25 (.ireturn) 1 26 := ⟨by decide +kernel, rfl⟩
theorem dX7_force_0 : DD cX7_force 0 (.iload_n 1) 1 1 := ⟨by decide +kernel, rfl⟩
theorem dX7_force_1 : DD cX7_force 1 (.invokestatic 205) 3 4 := ⟨by decide +kernel, rfl⟩
theorem dX7_force_4 : DD cX7_force 4 (.iload_n 2) 1 5 := ⟨by decide +kernel, rfl⟩
theorem dX7_force_5 : DD cX7_force 5 (.invokestatic 52) 3 8 := ⟨by decide +kernel, rfl⟩
theorem dX7_force_8 : DD cX7_force 8 (.iload_n 3) 1 9 := ⟨by decide +kernel, rfl⟩
theorem dX7_force_9 : DD cX7_force 9 (.aload_n 0) 1 10 := ⟨by decide +kernel, rfl⟩
theorem dX7_force_10 : DD cX7_force 10 (.getfield 10) 3 13 := ⟨by decide +kernel, rfl⟩
theorem dX7_force_13 : DD cX7_force 13 (.getfield 98) 3 16 := ⟨by decide +kernel, rfl⟩
theorem dX7_force_16 : DD cX7_force 16 (.invokestatic 89) 3 19 := ⟨by decide +kernel, rfl⟩
theorem dX7_force_19 : DD cX7_force 19 (.iload 4) 2 21 := ⟨by decide +kernel, rfl⟩
theorem dX7_force_21 : DD cX7_force 21 (.iconst 1) 1 22 := ⟨by decide +kernel, rfl⟩
theorem dX7_force_22 : DD cX7_force 22 (.invokestatic 89) 3 25 := ⟨by decide +kernel, rfl⟩
theorem dX7_force_25 : DD cX7_force 25 (.iload 5) 2 27 := ⟨by decide +kernel, rfl⟩
theorem dX7_force_27 : DD cX7_force 27 (.bipush 12) 2 29 := ⟨by decide +kernel, rfl⟩
theorem dX7_force_29 : DD cX7_force 29 (.invokestatic 89) 3 32 := ⟨by decide +kernel, rfl⟩
theorem dX7_force_32 : DD cX7_force 32 (.aload_n 0) 1 33 := ⟨by decide +kernel, rfl⟩
theorem dX7_force_33 : DD cX7_force 33 (.getfield 41) 3 36 := ⟨by decide +kernel, rfl⟩
theorem dX7_force_36 : DD cX7_force 36 (.aload_n 0) 1 37 := ⟨by decide +kernel, rfl⟩
theorem dX7_force_37 : DD cX7_force 37 (.getfield 10) 3 40 := ⟨by decide +kernel, rfl⟩
theorem dX7_force_40 : DD cX7_force 40 (.iload 5) 2 42 := ⟨by decide +kernel, rfl⟩
theorem dX7_force_42 : DD cX7_force 42 (.invokevirtual 220) 3 45 := ⟨by decide +kernel, rfl⟩
theorem dX7_force_45 : DD cX7_force 45 (.aload_n 0) 1 46 := ⟨by decide +kernel, rfl⟩
theorem dX7_force_46 : DD cX7_force 46 (.getfield 41) 3 49 := ⟨by decide +kernel, rfl⟩
theorem dX7_force_49 : DD cX7_force 49 (.iload 5) 2 51 := ⟨by decide +kernel, rfl⟩
theorem dX7_force_51 : DD cX7_force 51 (.iload_n 1) 1 52 := ⟨by decide +kernel, rfl⟩
theorem dX7_force_52 : DD cX7_force 52 (.iload_n 2) 1 53 := ⟨by decide +kernel, rfl⟩
theorem dX7_force_53 : DD cX7_force 53 (.iload 4) 2 55 := ⟨by decide +kernel, rfl⟩
theorem dX7_force_55 : DD cX7_force 55 (.invokevirtual 231) 3 58 := ⟨by decide +kernel, rfl⟩
theorem dX7_force_58 : DD cX7_force 58 (.iload_n 3) 1 59 := ⟨by decide +kernel, rfl⟩
theorem dX7_force_59 : DD cX7_force 59 (.invokestatic 235) 3 62 := ⟨by decide +kernel, rfl⟩
theorem dX7_force_62 : DB cX7_force 62 (.ifCond .eq) 7 3 65 69 := ⟨by decide +kernel, rfl, rfl⟩
theorem dX7_force_65 : DD cX7_force 65 (.iconst 1) 1 66 := ⟨by decide +kernel, rfl⟩
theorem dX7_force_66 : DB cX7_force 66 (.goto) 4 3 69 70 := ⟨by decide +kernel, rfl, rfl⟩
theorem dX7_force_69 : DD cX7_force 69 (.iconst 0) 1 70 := ⟨by decide +kernel, rfl⟩
theorem dX7_force_70 : DD cX7_force 70 (.ireturn) 1 71 := ⟨by decide +kernel, rfl⟩
theorem dX7_threshold_0 : DD cX7_threshold 0 (.iload_n 1) 1 1 := ⟨by decide +kernel, rfl⟩
theorem dX7_threshold_1 : DD cX7_threshold 1 (.invokestatic 205) 3 4 := ⟨by decide +kernel, rfl⟩
theorem dX7_threshold_4 : DD cX7_threshold 4 (.iload_n 2) 1 5 := ⟨by decide +kernel, rfl⟩
theorem dX7_threshold_5 : DD cX7_threshold 5 (.invokestatic 52) 3 8 := ⟨by decide +kernel, rfl⟩
theorem dX7_threshold_8 : DD cX7_threshold 8 (.iload_n 3) 1 9 := ⟨by decide +kernel, rfl⟩
theorem dX7_threshold_9 : DD cX7_threshold 9 (.iconst 1) 1 10 := ⟨by decide +kernel, rfl⟩
theorem dX7_threshold_10 : DD cX7_threshold 10 (.invokestatic 89) 3 13 := ⟨by decide +kernel, rfl⟩
theorem dX7_threshold_13 : DD cX7_threshold 13 (.iload 4) 2 15 := ⟨by decide +kernel, rfl⟩
theorem dX7_threshold_15 : DD cX7_threshold 15 (.iconst 1) 1 16 := ⟨by decide +kernel, rfl⟩
theorem dX7_threshold_16 : DD cX7_threshold 16 (.invokestatic 89) 3 19 := ⟨by decide +kernel, rfl⟩
theorem dX7_threshold_19 : DD cX7_threshold 19 (.iload 4) 2 21 := ⟨by decide +kernel, rfl⟩
theorem dX7_threshold_21 : DB cX7_threshold 21 (.ifCond .ne) 42 3 24 63 := ⟨by decide +kernel, rfl, rfl⟩
theorem dX7_threshold_24 : DD cX7_threshold 24 (.aload_n 0) 1 25 := ⟨by decide +kernel, rfl⟩
theorem dX7_threshold_25 : DD cX7_threshold 25 (.getfield 41) 3 28 := ⟨by decide +kernel, rfl⟩
theorem dX7_threshold_28 : DD cX7_threshold 28 (.aload_n 0) 1 29 := ⟨by decide +kernel, rfl⟩
theorem dX7_threshold_29 : DD cX7_threshold 29 (.getfield 10) 3 32 := ⟨by decide +kernel, rfl⟩
theorem dX7_threshold_32 : DD cX7_threshold 32 (.aload_n 0) 1 33 := ⟨by decide +kernel, rfl⟩
theorem dX7_threshold_33 : DD cX7_threshold 33 (.getfield 10) 3 36 := ⟨by decide +kernel, rfl⟩
theorem dX7_threshold_36 : DD cX7_threshold 36 (.getfield 114) 3 39 := ⟨by decide +kernel, rfl⟩
theorem dX7_threshold_39 : DD cX7_threshold 39 (.invokevirtual 220) 3 42 := ⟨by decide +kernel, rfl⟩
theorem dX7_threshold_42 : DD cX7_threshold 42 (.aload_n 0) 1 43 := ⟨by decide +kernel, rfl⟩
theorem dX7_threshold_43 : DD cX7_threshold 43 (.getfield 41) 3 46 := ⟨by decide +kernel, rfl⟩
theorem dX7_threshold_46 : DD cX7_threshold 46 (.aload_n 0) 1 47 := ⟨by decide +kernel, rfl⟩
theorem dX7_threshold_47 : DD cX7_threshold 47 (.getfield 10) 3 50 := ⟨by decide +kernel, rfl⟩
theorem dX7_threshold_50 : DD cX7_threshold 50 (.getfield 114) 3 53 := ⟨by decide +kernel, rfl⟩
theorem dX7_threshold_53 : DD cX7_threshold 53 (.iload_n 1) 1 54 := ⟨by decide +kernel, rfl⟩
theorem dX7_threshold_54 : DD cX7_threshold 54 (.iload_n 2) 1 55 := ⟨by decide +kernel, rfl⟩
theorem dX7_threshold_55 : DD cX7_threshold 55 (.iload_n 3) 1 56 := ⟨by decide +kernel, rfl⟩
theorem dX7_threshold_56 : DD cX7_threshold 56 (.invokevirtual 231) 3 59 := ⟨by decide +kernel, rfl⟩
theorem dX7_threshold_59 : DD cX7_threshold 59 (.invokestatic 238) 3 62 := ⟨by decide +kernel, rfl⟩
theorem dX7_threshold_62 : DD cX7_threshold 62 (.ireturn) 1 63 := ⟨by decide +kernel, rfl⟩
theorem dX7_threshold_63 : DD cX7_threshold 63 (.aload_n 0) 1 64 := ⟨by decide +kernel, rfl⟩
theorem dX7_threshold_64 : DD cX7_threshold 64 (.getfield 48) 3 67 := ⟨by decide +kernel, rfl⟩
theorem dX7_threshold_67 : DD cX7_threshold 67 (.aload_n 0) 1 68 := ⟨by decide +kernel, rfl⟩
theorem dX7_threshold_68 : DD cX7_threshold 68 (.getfield 10) 3 71 := ⟨by decide +kernel, rfl⟩
theorem dX7_threshold_71 : DD cX7_threshold 71 (.aload_n 0) 1 72 := ⟨by decide +kernel, rfl⟩
theorem dX7_threshold_72 : DD cX7_threshold 72 (.getfield 10) 3 75 := ⟨by decide +kernel, rfl⟩
theorem dX7_threshold_75 : DD cX7_threshold 75 (.getfield 114) 3 78 := ⟨by decide +kernel, rfl⟩
theorem dX7_threshold_78 : DD cX7_threshold 78 (.invokevirtual 241) 3 81 := ⟨by decide +kernel, rfl⟩
theorem dX7_threshold_81 : DD cX7_threshold 81 (.aload_n 0) 1 82 := ⟨by decide +kernel, rfl⟩
theorem dX7_threshold_82 : DD cX7_threshold 82 (.getfield 48) 3 85 := ⟨by decide +kernel, rfl⟩
theorem dX7_threshold_85 : DD cX7_threshold 85 (.aload_n 0) 1 86 := ⟨by decide +kernel, rfl⟩
theorem dX7_threshold_86 : DD cX7_threshold 86 (.getfield 10) 3 89 := ⟨by decide +kernel, rfl⟩
theorem dX7_threshold_89 : DD cX7_threshold 89 (.getfield 114) 3 92 := ⟨by decide +kernel, rfl⟩
theorem dX7_threshold_92 : DD cX7_threshold 92 (.iload_n 1) 1 93 := ⟨by decide +kernel, rfl⟩
theorem dX7_threshold_93 : DD cX7_threshold 93 (.iload_n 2) 1 94 := ⟨by decide +kernel, rfl⟩
theorem dX7_threshold_94 : DD cX7_threshold 94 (.iload_n 3) 1 95 := ⟨by decide +kernel, rfl⟩
theorem dX7_threshold_95 : DD cX7_threshold 95 (.invokevirtual 242) 3 98 := ⟨by decide +kernel, rfl⟩
theorem dX7_threshold_98 : DD cX7_threshold 98 (.istore 5) 2 100 := ⟨by decide +kernel, rfl⟩
theorem dX7_threshold_100 : DD cX7_threshold 100 (.iload 5) 2 102 := ⟨by decide +kernel, rfl⟩
theorem dX7_threshold_102 : DD cX7_threshold 102 (.aload_n 0) 1 103 := ⟨by decide +kernel, rfl⟩
theorem dX7_threshold_103 : DD cX7_threshold 103 (.getfield 10) 3 106 := ⟨by decide +kernel, rfl⟩
theorem dX7_threshold_106 : DD cX7_threshold 106 (.getfield 98) 3 109 := ⟨by decide +kernel, rfl⟩
theorem dX7_threshold_109 : DB cX7_threshold 109 (.if_icmp .gt) 8 3 112 117 := ⟨by decide +kernel, rfl, rfl⟩
theorem dX7_threshold_112 : DD cX7_threshold 112 (.iload 5) 2 114 := ⟨by decide +kernel, rfl⟩
theorem dX7_threshold_114 : DB cX7_threshold 114 (.goto) 4 3 117 118 := ⟨by decide +kernel, rfl, rfl⟩
theorem dX7_threshold_117 : DD cX7_threshold 117 (.iconst (-1)) 1 118 := ⟨by decide +kernel, rfl⟩
theorem dX7_threshold_118 : DD cX7_threshold 118 (.ireturn) 1 119 := ⟨by decide +kernel, rfl⟩
theorem dX7_advice_0 : DD cX7_advice 0 (.iload_n 1) 1 1 := ⟨by decide +kernel, rfl⟩
theorem dX7_advice_1 : DD cX7_advice 1 (.invokestatic 205) 3 4 := ⟨by decide +kernel, rfl⟩
theorem dX7_advice_4 : DD cX7_advice 4 (.aload_n 0) 1 5 := ⟨by decide +kernel, rfl⟩
theorem dX7_advice_5 : DD cX7_advice 5 (.getfield 10) 3 8 := ⟨by decide +kernel, rfl⟩
theorem dX7_advice_8 : DD cX7_advice 8 (.invokevirtual 127) 3 11 := ⟨by decide +kernel, rfl⟩
theorem dX7_advice_11 : DB cX7_advice 11 (.ifCond .ne) 13 3 14 24 := ⟨by decide +kernel, rfl, rfl⟩
theorem dX7_advice_14 : DD cX7_advice 14 (.aload_n 0) 1 15 := ⟨by decide +kernel, rfl⟩
theorem dX7_advice_15 : DD cX7_advice 15 (.getfield 10) 3 18 := ⟨by decide +kernel, rfl⟩
theorem dX7_advice_18 : DD cX7_advice 18 (.getfield 114) 3 21 := ⟨by decide +kernel, rfl⟩
theorem dX7_advice_21 : DB cX7_advice 21 (.ifCond .ne) 5 3 24 26 := ⟨by decide +kernel, rfl, rfl⟩
theorem dX7_advice_24 : DD cX7_advice 24 (.iconst (-1)) 1 25 := ⟨by decide +kernel, rfl⟩
theorem dX7_advice_25 : DD cX7_advice 25 (.ireturn) 1 26 := ⟨by decide +kernel, rfl⟩
theorem dX7_advice_26 : DD cX7_advice 26 (.aload_n 0) 1 27 := ⟨by decide +kernel, rfl⟩
theorem dX7_advice_27 : DD cX7_advice 27 (.getfield 41) 3 30 := ⟨by decide +kernel, rfl⟩
theorem dX7_advice_30 : DD cX7_advice 30 (.aload_n 0) 1 31 := ⟨by decide +kernel, rfl⟩
theorem dX7_advice_31 : DD cX7_advice 31 (.getfield 10) 3 34 := ⟨by decide +kernel, rfl⟩
theorem dX7_advice_34 : DD cX7_advice 34 (.aload_n 0) 1 35 := ⟨by decide +kernel, rfl⟩
theorem dX7_advice_35 : DD cX7_advice 35 (.getfield 10) 3 38 := ⟨by decide +kernel, rfl⟩
theorem dX7_advice_38 : DD cX7_advice 38 (.getfield 114) 3 41 := ⟨by decide +kernel, rfl⟩
theorem dX7_advice_41 : DD cX7_advice 41 (.iconst 1) 1 42 := ⟨by decide +kernel, rfl⟩
theorem dX7_advice_42 : DD cX7_advice 42 (.isub) 1 43 := ⟨by decide +kernel, rfl⟩
theorem dX7_advice_43 : DD cX7_advice 43 (.invokevirtual 220) 3 46 := ⟨by decide +kernel, rfl⟩
theorem dX7_advice_46 : DD cX7_advice 46 (.aload_n 0) 1 47 := ⟨by decide +kernel, rfl⟩
theorem dX7_advice_47 : DD cX7_advice 47 (.getfield 41) 3 50 := ⟨by decide +kernel, rfl⟩
theorem dX7_advice_50 : DD cX7_advice 50 (.aload_n 0) 1 51 := ⟨by decide +kernel, rfl⟩
theorem dX7_advice_51 : DD cX7_advice 51 (.getfield 10) 3 54 := ⟨by decide +kernel, rfl⟩
theorem dX7_advice_54 : DD cX7_advice 54 (.aload_n 0) 1 55 := ⟨by decide +kernel, rfl⟩
theorem dX7_advice_55 : DD cX7_advice 55 (.getfield 10) 3 58 := ⟨by decide +kernel, rfl⟩
theorem dX7_advice_58 : DD cX7_advice 58 (.getfield 114) 3 61 := ⟨by decide +kernel, rfl⟩
theorem dX7_advice_61 : DD cX7_advice 61 (.iload_n 1) 1 62 := ⟨by decide +kernel, rfl⟩
theorem dX7_advice_62 : DD cX7_advice 62 (.aload_n 0) 1 63 := ⟨by decide +kernel, rfl⟩
theorem dX7_advice_63 : DD cX7_advice 63 (.getfield 10) 3 66 := ⟨by decide +kernel, rfl⟩
theorem dX7_advice_66 : DD cX7_advice 66 (.getfield 124) 3 69 := ⟨by decide +kernel, rfl⟩
theorem dX7_advice_69 : DD cX7_advice 69 (.invokevirtual 243) 3 72 := ⟨by decide +kernel, rfl⟩
theorem dX7_advice_72 : DD cX7_advice 72 (.aload_n 0) 1 73 := ⟨by decide +kernel, rfl⟩
theorem dX7_advice_73 : DD cX7_advice 73 (.getfield 41) 3 76 := ⟨by decide +kernel, rfl⟩
theorem dX7_advice_76 : DD cX7_advice 76 (.aload_n 0) 1 77 := ⟨by decide +kernel, rfl⟩
theorem dX7_advice_77 : DD cX7_advice 77 (.getfield 10) 3 80 := ⟨by decide +kernel, rfl⟩
theorem dX7_advice_80 : DD cX7_advice 80 (.getfield 98) 3 83 := ⟨by decide +kernel, rfl⟩
theorem dX7_advice_83 : DD cX7_advice 83 (.iload_n 1) 1 84 := ⟨by decide +kernel, rfl⟩
theorem dX7_advice_84 : DD cX7_advice 84 (.aload_n 0) 1 85 := ⟨by decide +kernel, rfl⟩
theorem dX7_advice_85 : DD cX7_advice 85 (.getfield 10) 3 88 := ⟨by decide +kernel, rfl⟩
theorem dX7_advice_88 : DD cX7_advice 88 (.iload_n 1) 1 89 := ⟨by decide +kernel, rfl⟩
theorem dX7_advice_89 : DD cX7_advice 89 (.invokevirtual 208) 3 92 := ⟨by decide +kernel, rfl⟩
theorem dX7_advice_92 : DD cX7_advice 92 (.aload_n 0) 1 93 := ⟨by decide +kernel, rfl⟩
theorem dX7_advice_93 : DD cX7_advice 93 (.getfield 10) 3 96 := ⟨by decide +kernel, rfl⟩
theorem dX7_advice_96 : DD cX7_advice 96 (.getfield 105) 3 99 := ⟨by decide +kernel, rfl⟩
theorem dX7_advice_99 : DD cX7_advice 99 (.invokevirtual 247) 3 102 := ⟨by decide +kernel, rfl⟩
theorem dX7_advice_102 : DD cX7_advice 102 (.ireturn) 1 103 := ⟨by decide +kernel, rfl⟩
theorem dX7_refuted_0 : DD cX7_refuted 0 (.iload_n 1) 1 1 := ⟨by decide +kernel, rfl⟩
theorem dX7_refuted_1 : DD cX7_refuted 1 (.invokestatic 205) 3 4 := ⟨by decide +kernel, rfl⟩
theorem dX7_refuted_4 : DD cX7_refuted 4 (.iload_n 2) 1 5 := ⟨by decide +kernel, rfl⟩
theorem dX7_refuted_5 : DD cX7_refuted 5 (.aload_n 0) 1 6 := ⟨by decide +kernel, rfl⟩
theorem dX7_refuted_6 : DD cX7_refuted 6 (.getfield 10) 3 9 := ⟨by decide +kernel, rfl⟩
theorem dX7_refuted_9 : DD cX7_refuted 9 (.iload_n 1) 1 10 := ⟨by decide +kernel, rfl⟩
theorem dX7_refuted_10 : DD cX7_refuted 10 (.invokevirtual 208) 3 13 := ⟨by decide +kernel, rfl⟩
theorem dX7_refuted_13 : DD cX7_refuted 13 (.invokestatic 89) 3 16 := ⟨by decide +kernel, rfl⟩
theorem dX7_refuted_16 : DD cX7_refuted 16 (.aload_n 0) 1 17 := ⟨by decide +kernel, rfl⟩
theorem dX7_refuted_17 : DD cX7_refuted 17 (.getfield 10) 3 20 := ⟨by decide +kernel, rfl⟩
theorem dX7_refuted_20 : DD cX7_refuted 20 (.getfield 63) 3 23 := ⟨by decide +kernel, rfl⟩
theorem dX7_refuted_23 : DD cX7_refuted 23 (.iload_n 1) 1 24 := ⟨by decide +kernel, rfl⟩
theorem dX7_refuted_24 : DD cX7_refuted 24 (.aload_n 0) 1 25 := ⟨by decide +kernel, rfl⟩
theorem dX7_refuted_25 : DD cX7_refuted 25 (.getfield 10) 3 28 := ⟨by decide +kernel, rfl⟩
theorem dX7_refuted_28 : DD cX7_refuted 28 (.getfield 124) 3 31 := ⟨by decide +kernel, rfl⟩
theorem dX7_refuted_31 : DD cX7_refuted 31 (.invokevirtual 250) 3 34 := ⟨by decide +kernel, rfl⟩
theorem dX7_refuted_34 : DB cX7_refuted 34 (.ifCond .eq) 5 3 37 39 := ⟨by decide +kernel, rfl, rfl⟩
theorem dX7_refuted_37 : DD cX7_refuted 37 (.iconst (-1)) 1 38 := ⟨by decide +kernel, rfl⟩
theorem dX7_refuted_38 : DD cX7_refuted 38 (.ireturn) 1 39 := ⟨by decide +kernel, rfl⟩
theorem dX7_refuted_39 : DD cX7_refuted 39 (.aload_n 0) 1 40 := ⟨by decide +kernel, rfl⟩
theorem dX7_refuted_40 : DD cX7_refuted 40 (.getfield 10) 3 43 := ⟨by decide +kernel, rfl⟩
theorem dX7_refuted_43 : DD cX7_refuted 43 (.invokevirtual 127) 3 46 := ⟨by decide +kernel, rfl⟩
theorem dX7_refuted_46 : DB cX7_refuted 46 (.ifCond .ne) 13 3 49 59 := ⟨by decide +kernel, rfl, rfl⟩
theorem dX7_refuted_49 : DD cX7_refuted 49 (.aload_n 0) 1 50 := ⟨by decide +kernel, rfl⟩
theorem dX7_refuted_50 : DD cX7_refuted 50 (.getfield 10) 3 53 := ⟨by decide +kernel, rfl⟩
theorem dX7_refuted_53 : DD cX7_refuted 53 (.getfield 114) 3 56 := ⟨by decide +kernel, rfl⟩
theorem dX7_refuted_56 : DB cX7_refuted 56 (.ifCond .ne) 5 3 59 61 := ⟨by decide +kernel, rfl, rfl⟩
theorem dX7_refuted_59 : DD cX7_refuted 59 (.iconst 0) 1 60 := ⟨by decide +kernel, rfl⟩
theorem dX7_refuted_60 : DD cX7_refuted 60 (.ireturn) 1 61 := ⟨by decide +kernel, rfl⟩
theorem dX7_refuted_61 : DD cX7_refuted 61 (.aload_n 0) 1 62 := ⟨by decide +kernel, rfl⟩
theorem dX7_refuted_62 : DD cX7_refuted 62 (.getfield 41) 3 65 := ⟨by decide +kernel, rfl⟩
theorem dX7_refuted_65 : DD cX7_refuted 65 (.aload_n 0) 1 66 := ⟨by decide +kernel, rfl⟩
theorem dX7_refuted_66 : DD cX7_refuted 66 (.getfield 10) 3 69 := ⟨by decide +kernel, rfl⟩
theorem dX7_refuted_69 : DD cX7_refuted 69 (.aload_n 0) 1 70 := ⟨by decide +kernel, rfl⟩
theorem dX7_refuted_70 : DD cX7_refuted 70 (.getfield 10) 3 73 := ⟨by decide +kernel, rfl⟩
theorem dX7_refuted_73 : DD cX7_refuted 73 (.getfield 114) 3 76 := ⟨by decide +kernel, rfl⟩
theorem dX7_refuted_76 : DD cX7_refuted 76 (.iconst 1) 1 77 := ⟨by decide +kernel, rfl⟩
theorem dX7_refuted_77 : DD cX7_refuted 77 (.isub) 1 78 := ⟨by decide +kernel, rfl⟩
theorem dX7_refuted_78 : DD cX7_refuted 78 (.invokevirtual 220) 3 81 := ⟨by decide +kernel, rfl⟩
theorem dX7_refuted_81 : DD cX7_refuted 81 (.aload_n 0) 1 82 := ⟨by decide +kernel, rfl⟩
theorem dX7_refuted_82 : DD cX7_refuted 82 (.getfield 41) 3 85 := ⟨by decide +kernel, rfl⟩
theorem dX7_refuted_85 : DD cX7_refuted 85 (.aload_n 0) 1 86 := ⟨by decide +kernel, rfl⟩
theorem dX7_refuted_86 : DD cX7_refuted 86 (.getfield 10) 3 89 := ⟨by decide +kernel, rfl⟩
theorem dX7_refuted_89 : DD cX7_refuted 89 (.aload_n 0) 1 90 := ⟨by decide +kernel, rfl⟩
theorem dX7_refuted_90 : DD cX7_refuted 90 (.getfield 10) 3 93 := ⟨by decide +kernel, rfl⟩
theorem dX7_refuted_93 : DD cX7_refuted 93 (.getfield 114) 3 96 := ⟨by decide +kernel, rfl⟩
theorem dX7_refuted_96 : DD cX7_refuted 96 (.iload_n 1) 1 97 := ⟨by decide +kernel, rfl⟩
theorem dX7_refuted_97 : DD cX7_refuted 97 (.aload_n 0) 1 98 := ⟨by decide +kernel, rfl⟩
theorem dX7_refuted_98 : DD cX7_refuted 98 (.getfield 10) 3 101 := ⟨by decide +kernel, rfl⟩
theorem dX7_refuted_101 : DD cX7_refuted 101 (.getfield 124) 3 104 := ⟨by decide +kernel, rfl⟩
theorem dX7_refuted_104 : DD cX7_refuted 104 (.invokevirtual 243) 3 107 := ⟨by decide +kernel, rfl⟩
theorem dX7_refuted_107 : DD cX7_refuted 107 (.aload_n 0) 1 108 := ⟨by decide +kernel, rfl⟩
theorem dX7_refuted_108 : DD cX7_refuted 108 (.getfield 41) 3 111 := ⟨by decide +kernel, rfl⟩
theorem dX7_refuted_111 : DD cX7_refuted 111 (.aload_n 0) 1 112 := ⟨by decide +kernel, rfl⟩
theorem dX7_refuted_112 : DD cX7_refuted 112 (.getfield 10) 3 115 := ⟨by decide +kernel, rfl⟩
theorem dX7_refuted_115 : DD cX7_refuted 115 (.getfield 98) 3 118 := ⟨by decide +kernel, rfl⟩
theorem dX7_refuted_118 : DD cX7_refuted 118 (.iload_n 1) 1 119 := ⟨by decide +kernel, rfl⟩
theorem dX7_refuted_119 : DD cX7_refuted 119 (.aload_n 0) 1 120 := ⟨by decide +kernel, rfl⟩
theorem dX7_refuted_120 : DD cX7_refuted 120 (.getfield 10) 3 123 := ⟨by decide +kernel, rfl⟩
theorem dX7_refuted_123 : DD cX7_refuted 123 (.iload_n 1) 1 124 := ⟨by decide +kernel, rfl⟩
theorem dX7_refuted_124 : DD cX7_refuted 124 (.invokevirtual 208) 3 127 := ⟨by decide +kernel, rfl⟩
theorem dX7_refuted_127 : DD cX7_refuted 127 (.aload_n 0) 1 128 := ⟨by decide +kernel, rfl⟩
theorem dX7_refuted_128 : DD cX7_refuted 128 (.getfield 10) 3 131 := ⟨by decide +kernel, rfl⟩
theorem dX7_refuted_131 : DD cX7_refuted 131 (.getfield 105) 3 134 := ⟨by decide +kernel, rfl⟩
theorem dX7_refuted_134 : DD cX7_refuted 134 (.iload_n 2) 1 135 := ⟨by decide +kernel, rfl⟩
theorem dX7_refuted_135 : DD cX7_refuted 135 (.invokevirtual 253) 3 138 := ⟨by decide +kernel, rfl⟩
theorem dX7_refuted_138 : DD cX7_refuted 138 (.ireturn) 1 139 := ⟨by decide +kernel, rfl⟩
theorem dX7_bestMove_0 : DD cX7_bestMove 0 (.iload_n 1) 1 1 := ⟨by decide +kernel, rfl⟩
theorem dX7_bestMove_1 : DD cX7_bestMove 1 (.invokestatic 205) 3 4 := ⟨by decide +kernel, rfl⟩
theorem dX7_bestMove_4 : DD cX7_bestMove 4 (.iload_n 2) 1 5 := ⟨by decide +kernel, rfl⟩
theorem dX7_bestMove_5 : DD cX7_bestMove 5 (.aload_n 0) 1 6 := ⟨by decide +kernel, rfl⟩
theorem dX7_bestMove_6 : DD cX7_bestMove 6 (.getfield 10) 3 9 := ⟨by decide +kernel, rfl⟩
theorem dX7_bestMove_9 : DD cX7_bestMove 9 (.iload_n 1) 1 10 := ⟨by decide +kernel, rfl⟩
theorem dX7_bestMove_10 : DD cX7_bestMove 10 (.invokevirtual 208) 3 13 := ⟨by decide +kernel, rfl⟩
theorem dX7_bestMove_13 : DD cX7_bestMove 13 (.invokestatic 89) 3 16 := ⟨by decide +kernel, rfl⟩
theorem dX7_bestMove_16 : DD cX7_bestMove 16 (.aload_n 0) 1 17 := ⟨by decide +kernel, rfl⟩
theorem dX7_bestMove_17 : DD cX7_bestMove 17 (.getfield 10) 3 20 := ⟨by decide +kernel, rfl⟩
theorem dX7_bestMove_20 : DD cX7_bestMove 20 (.invokevirtual 127) 3 23 := ⟨by decide +kernel, rfl⟩
theorem dX7_bestMove_23 : DB cX7_bestMove 23 (.ifCond .ne) 13 3 26 36 := ⟨by decide +kernel, rfl, rfl⟩
theorem dX7_bestMove_26 : DD cX7_bestMove 26 (.aload_n 0) 1 27 := ⟨by decide +kernel, rfl⟩
theorem dX7_bestMove_27 : DD cX7_bestMove 27 (.getfield 10) 3 30 := ⟨by decide +kernel, rfl⟩
theorem dX7_bestMove_30 : DD cX7_bestMove 30 (.getfield 114) 3 33 := ⟨by decide +kernel, rfl⟩
theorem dX7_bestMove_33 : DB cX7_bestMove 33 (.ifCond .ne) 5 3 36 38 := ⟨by decide +kernel, rfl, rfl⟩
theorem dX7_bestMove_36 : DD cX7_bestMove 36 (.iconst (-1)) 1 37 := ⟨by decide +kernel, rfl⟩
theorem dX7_bestMove_37 : DD cX7_bestMove 37 (.ireturn) 1 38 := ⟨by decide +kernel, rfl⟩
theorem dX7_bestMove_38 : DD cX7_bestMove 38 (.aload_n 0) 1 39 := ⟨by decide +kernel, rfl⟩
theorem dX7_bestMove_39 : DD cX7_bestMove 39 (.getfield 41) 3 42 := ⟨by decide +kernel, rfl⟩
theorem dX7_bestMove_42 : DD cX7_bestMove 42 (.aload_n 0) 1 43 := ⟨by decide +kernel, rfl⟩
theorem dX7_bestMove_43 : DD cX7_bestMove 43 (.getfield 10) 3 46 := ⟨by decide +kernel, rfl⟩
theorem dX7_bestMove_46 : DD cX7_bestMove 46 (.aload_n 0) 1 47 := ⟨by decide +kernel, rfl⟩
theorem dX7_bestMove_47 : DD cX7_bestMove 47 (.getfield 10) 3 50 := ⟨by decide +kernel, rfl⟩
theorem dX7_bestMove_50 : DD cX7_bestMove 50 (.getfield 114) 3 53 := ⟨by decide +kernel, rfl⟩
theorem dX7_bestMove_53 : DD cX7_bestMove 53 (.iconst 1) 1 54 := ⟨by decide +kernel, rfl⟩
theorem dX7_bestMove_54 : DD cX7_bestMove 54 (.isub) 1 55 := ⟨by decide +kernel, rfl⟩
theorem dX7_bestMove_55 : DD cX7_bestMove 55 (.invokevirtual 220) 3 58 := ⟨by decide +kernel, rfl⟩
theorem dX7_bestMove_58 : DD cX7_bestMove 58 (.aload_n 0) 1 59 := ⟨by decide +kernel, rfl⟩
theorem dX7_bestMove_59 : DD cX7_bestMove 59 (.getfield 10) 3 62 := ⟨by decide +kernel, rfl⟩
theorem dX7_bestMove_62 : DD cX7_bestMove 62 (.iload_n 1) 1 63 := ⟨by decide +kernel, rfl⟩
theorem dX7_bestMove_63 : DD cX7_bestMove 63 (.invokevirtual 208) 3 66 := ⟨by decide +kernel, rfl⟩
theorem dX7_bestMove_66 : DD cX7_bestMove 66 (.iload_n 2) 1 67 := ⟨by decide +kernel, rfl⟩
theorem dX7_bestMove_67 : DD cX7_bestMove 67 (.isub) 1 68 := ⟨by decide +kernel, rfl⟩
theorem dX7_bestMove_68 : DD cX7_bestMove 68 (.istore_n 3) 1 69 := ⟨by decide +kernel, rfl⟩
theorem dX7_bestMove_69 : DD cX7_bestMove 69 (.iconst 0) 1 70 := ⟨by decide +kernel, rfl⟩
theorem dX7_bestMove_70 : DD cX7_bestMove 70 (.istore 4) 2 72 := ⟨by decide +kernel, rfl⟩
theorem dX7_bestMove_72 : DD cX7_bestMove 72 (.iload 4) 2 74 := ⟨by decide +kernel, rfl⟩
theorem dX7_bestMove_74 : DD cX7_bestMove 74 (.aload_n 0) 1 75 := ⟨by decide +kernel, rfl⟩
theorem dX7_bestMove_75 : DD cX7_bestMove 75 (.getfield 10) 3 78 := ⟨by decide +kernel, rfl⟩
theorem dX7_bestMove_78 : DD cX7_bestMove 78 (.getfield 63) 3 81 := ⟨by decide +kernel, rfl⟩
theorem dX7_bestMove_81 : DD cX7_bestMove 81 (.getfield 73) 3 84 := ⟨by decide +kernel, rfl⟩
theorem dX7_bestMove_84 : DD cX7_bestMove 84 (.aload_n 0) 1 85 := ⟨by decide +kernel, rfl⟩
theorem dX7_bestMove_85 : DD cX7_bestMove 85 (.getfield 10) 3 88 := ⟨by decide +kernel, rfl⟩
theorem dX7_bestMove_88 : DD cX7_bestMove 88 (.getfield 124) 3 91 := ⟨by decide +kernel, rfl⟩
theorem dX7_bestMove_91 : DD cX7_bestMove 91 (.iaload) 1 92 := ⟨by decide +kernel, rfl⟩
theorem dX7_bestMove_92 : DB cX7_bestMove 92 (.if_icmp .ge) 66 3 95 158 := ⟨by decide +kernel, rfl, rfl⟩
theorem dX7_bestMove_95 : DD cX7_bestMove 95 (.aload_n 0) 1 96 := ⟨by decide +kernel, rfl⟩
theorem dX7_bestMove_96 : DD cX7_bestMove 96 (.getfield 10) 3 99 := ⟨by decide +kernel, rfl⟩
theorem dX7_bestMove_99 : DD cX7_bestMove 99 (.getfield 63) 3 102 := ⟨by decide +kernel, rfl⟩
theorem dX7_bestMove_102 : DD cX7_bestMove 102 (.aload_n 0) 1 103 := ⟨by decide +kernel, rfl⟩
theorem dX7_bestMove_103 : DD cX7_bestMove 103 (.getfield 10) 3 106 := ⟨by decide +kernel, rfl⟩
theorem dX7_bestMove_106 : DD cX7_bestMove 106 (.getfield 124) 3 109 := ⟨by decide +kernel, rfl⟩
theorem dX7_bestMove_109 : DD cX7_bestMove 109 (.iload 4) 2 111 := ⟨by decide +kernel, rfl⟩
theorem dX7_bestMove_111 : DD cX7_bestMove 111 (.invokevirtual 202) 3 114 := ⟨by decide +kernel, rfl⟩
theorem dX7_bestMove_114 : DD cX7_bestMove 114 (.istore 5) 2 116 := ⟨by decide +kernel, rfl⟩
theorem dX7_bestMove_116 : DD cX7_bestMove 116 (.aload_n 0) 1 117 := ⟨by decide +kernel, rfl⟩
theorem dX7_bestMove_117 : DD cX7_bestMove 117 (.getfield 41) 3 120 := ⟨by decide +kernel, rfl⟩
theorem dX7_bestMove_120 : DD cX7_bestMove 120 (.aload_n 0) 1 121 := ⟨by decide +kernel, rfl⟩
theorem dX7_bestMove_121 : DD cX7_bestMove 121 (.getfield 10) 3 124 := ⟨by decide +kernel, rfl⟩
theorem dX7_bestMove_124 : DD cX7_bestMove 124 (.getfield 114) 3 127 := ⟨by decide +kernel, rfl⟩
theorem dX7_bestMove_127 : DD cX7_bestMove 127 (.iconst 1) 1 128 := ⟨by decide +kernel, rfl⟩
theorem dX7_bestMove_128 : DD cX7_bestMove 128 (.isub) 1 129 := ⟨by decide +kernel, rfl⟩
theorem dX7_bestMove_129 : DD cX7_bestMove 129 (.iload_n 1) 1 130 := ⟨by decide +kernel, rfl⟩
theorem dX7_bestMove_130 : DD cX7_bestMove 130 (.iload 5) 2 132 := ⟨by decide +kernel, rfl⟩
theorem dX7_bestMove_132 : DD cX7_bestMove 132 (.aload_n 0) 1 133 := ⟨by decide +kernel, rfl⟩
theorem dX7_bestMove_133 : DD cX7_bestMove 133 (.getfield 10) 3 136 := ⟨by decide +kernel, rfl⟩
theorem dX7_bestMove_136 : DD cX7_bestMove 136 (.getfield 105) 3 139 := ⟨by decide +kernel, rfl⟩
theorem dX7_bestMove_139 : DD cX7_bestMove 139 (.invokevirtual 231) 3 142 := ⟨by decide +kernel, rfl⟩
theorem dX7_bestMove_142 : DD cX7_bestMove 142 (.iload_n 3) 1 143 := ⟨by decide +kernel, rfl⟩
theorem dX7_bestMove_143 : DD cX7_bestMove 143 (.invokestatic 235) 3 146 := ⟨by decide +kernel, rfl⟩
theorem dX7_bestMove_146 : DB cX7_bestMove 146 (.ifCond .eq) 6 3 149 152 := ⟨by decide +kernel, rfl, rfl⟩
theorem dX7_bestMove_149 : DD cX7_bestMove 149 (.iload 5) 2 151 := ⟨by decide +kernel, rfl⟩
theorem dX7_bestMove_151 : DD cX7_bestMove 151 (.ireturn) 1 152 := ⟨by decide +kernel, rfl⟩
theorem dX7_bestMove_152 : DD cX7_bestMove 152 (.iinc 4 1) 3 155 := ⟨by decide +kernel, rfl⟩
theorem dX7_bestMove_155 : DB cX7_bestMove 155 (.goto) (-83) 3 158 72 := ⟨by decide +kernel, rfl, rfl⟩
theorem dX7_bestMove_158 : DD cX7_bestMove 158 (.iconst (-1)) 1 159 := ⟨by decide +kernel, rfl⟩
theorem dX7_bestMove_159 : DD cX7_bestMove 159 (.ireturn) 1 160 := ⟨by decide +kernel, rfl⟩
theorem dX7_winIn_0 : DD cX7_winIn 0 (.iload_n 1) 1 1 := ⟨by decide +kernel, rfl⟩
theorem dX7_winIn_1 : DD cX7_winIn 1 (.invokestatic 205) 3 4 := ⟨by decide +kernel, rfl⟩
theorem dX7_winIn_4 : DD cX7_winIn 4 (.aload_n 0) 1 5 := ⟨by decide +kernel, rfl⟩
theorem dX7_winIn_5 : DD cX7_winIn 5 (.getfield 10) 3 8 := ⟨by decide +kernel, rfl⟩
theorem dX7_winIn_8 : DD cX7_winIn 8 (.iload_n 1) 1 9 := ⟨by decide +kernel, rfl⟩
theorem dX7_winIn_9 : DD cX7_winIn 9 (.invokevirtual 208) 3 12 := ⟨by decide +kernel, rfl⟩
theorem dX7_winIn_12 : DD cX7_winIn 12 (.istore_n 2) 1 13 := ⟨by decide +kernel, rfl⟩
theorem dX7_winIn_13 : DD cX7_winIn 13 (.iconst 0) 1 14 := ⟨by decide +kernel, rfl⟩
theorem dX7_winIn_14 : DD cX7_winIn 14 (.istore_n 3) 1 15 := ⟨by decide +kernel, rfl⟩
theorem dX7_winIn_15 : DD cX7_winIn 15 (.iload_n 3) 1 16 := ⟨by decide +kernel, rfl⟩
theorem dX7_winIn_16 : DD cX7_winIn 16 (.bipush 12) 2 18 := ⟨by decide +kernel, rfl⟩
theorem dX7_winIn_18 : DB cX7_winIn 18 (.if_icmp .gt) 53 3 21 71 := ⟨by decide +kernel, rfl, rfl⟩
theorem dX7_winIn_21 : DD cX7_winIn 21 (.aload_n 0) 1 22 := ⟨by decide +kernel, rfl⟩
theorem dX7_winIn_22 : DD cX7_winIn 22 (.getfield 41) 3 25 := ⟨by decide +kernel, rfl⟩
theorem dX7_winIn_25 : DD cX7_winIn 25 (.aload_n 0) 1 26 := ⟨by decide +kernel, rfl⟩
theorem dX7_winIn_26 : DD cX7_winIn 26 (.getfield 10) 3 29 := ⟨by decide +kernel, rfl⟩
theorem dX7_winIn_29 : DD cX7_winIn 29 (.iload_n 3) 1 30 := ⟨by decide +kernel, rfl⟩
theorem dX7_winIn_30 : DD cX7_winIn 30 (.invokevirtual 220) 3 33 := ⟨by decide +kernel, rfl⟩
theorem dX7_winIn_33 : DD cX7_winIn 33 (.aload_n 0) 1 34 := ⟨by decide +kernel, rfl⟩
theorem dX7_winIn_34 : DD cX7_winIn 34 (.getfield 41) 3 37 := ⟨by decide +kernel, rfl⟩
theorem dX7_winIn_37 : DD cX7_winIn 37 (.iload_n 3) 1 38 := ⟨by decide +kernel, rfl⟩
theorem dX7_winIn_38 : DD cX7_winIn 38 (.iload_n 1) 1 39 := ⟨by decide +kernel, rfl⟩
theorem dX7_winIn_39 : DD cX7_winIn 39 (.aload_n 0) 1 40 := ⟨by decide +kernel, rfl⟩
theorem dX7_winIn_40 : DD cX7_winIn 40 (.getfield 10) 3 43 := ⟨by decide +kernel, rfl⟩
theorem dX7_winIn_43 : DD cX7_winIn 43 (.getfield 124) 3 46 := ⟨by decide +kernel, rfl⟩
theorem dX7_winIn_46 : DD cX7_winIn 46 (.aload_n 0) 1 47 := ⟨by decide +kernel, rfl⟩
theorem dX7_winIn_47 : DD cX7_winIn 47 (.getfield 10) 3 50 := ⟨by decide +kernel, rfl⟩
theorem dX7_winIn_50 : DD cX7_winIn 50 (.getfield 105) 3 53 := ⟨by decide +kernel, rfl⟩
theorem dX7_winIn_53 : DD cX7_winIn 53 (.invokevirtual 231) 3 56 := ⟨by decide +kernel, rfl⟩
theorem dX7_winIn_56 : DD cX7_winIn 56 (.iload_n 2) 1 57 := ⟨by decide +kernel, rfl⟩
theorem dX7_winIn_57 : DD cX7_winIn 57 (.invokestatic 235) 3 60 := ⟨by decide +kernel, rfl⟩
theorem dX7_winIn_60 : DB cX7_winIn 60 (.ifCond .eq) 5 3 63 65 := ⟨by decide +kernel, rfl, rfl⟩
theorem dX7_winIn_63 : DD cX7_winIn 63 (.iload_n 3) 1 64 := ⟨by decide +kernel, rfl⟩
theorem dX7_winIn_64 : DD cX7_winIn 64 (.ireturn) 1 65 := ⟨by decide +kernel, rfl⟩
theorem dX7_winIn_65 : DD cX7_winIn 65 (.iinc 3 1) 3 68 := ⟨by decide +kernel, rfl⟩
theorem dX7_winIn_68 : DB cX7_winIn 68 (.goto) (-53) 3 71 15 := ⟨by decide +kernel, rfl, rfl⟩
theorem dX7_winIn_71 : DD cX7_winIn 71 (.iconst (-1)) 1 72 := ⟨by decide +kernel, rfl⟩
theorem dX7_winIn_72 : DD cX7_winIn 72 (.ireturn) 1 73 := ⟨by decide +kernel, rfl⟩
theorem dX7_forcedShare_0 : DD cX7_forcedShare 0 (.aload_n 0) 1 1 := ⟨by decide +kernel, rfl⟩
theorem dX7_forcedShare_1 : DD cX7_forcedShare 1 (.getfield 41) 3 4 := ⟨by decide +kernel, rfl⟩
theorem dX7_forcedShare_4 : DD cX7_forcedShare 4 (.aload_n 0) 1 5 := ⟨by decide +kernel, rfl⟩
theorem dX7_forcedShare_5 : DD cX7_forcedShare 5 (.getfield 10) 3 8 := ⟨by decide +kernel, rfl⟩
theorem dX7_forcedShare_8 : DD cX7_forcedShare 8 (.aload_n 0) 1 9 := ⟨by decide +kernel, rfl⟩
theorem dX7_forcedShare_9 : DD cX7_forcedShare 9 (.getfield 10) 3 12 := ⟨by decide +kernel, rfl⟩
theorem dX7_forcedShare_12 : DD cX7_forcedShare 12 (.getfield 114) 3 15 := ⟨by decide +kernel, rfl⟩
theorem dX7_forcedShare_15 : DD cX7_forcedShare 15 (.invokevirtual 220) 3 18 := ⟨by decide +kernel, rfl⟩
theorem dX7_forcedShare_18 : DD cX7_forcedShare 18 (.iconst 0) 1 19 := ⟨by decide +kernel, rfl⟩
theorem dX7_forcedShare_19 : DD cX7_forcedShare 19 (.istore_n 1) 1 20 := ⟨by decide +kernel, rfl⟩
theorem dX7_forcedShare_20 : DD cX7_forcedShare 20 (.iconst 0) 1 21 := ⟨by decide +kernel, rfl⟩
theorem dX7_forcedShare_21 : DD cX7_forcedShare 21 (.istore_n 2) 1 22 := ⟨by decide +kernel, rfl⟩
theorem dX7_forcedShare_22 : DD cX7_forcedShare 22 (.iload_n 2) 1 23 := ⟨by decide +kernel, rfl⟩
theorem dX7_forcedShare_23 : DD cX7_forcedShare 23 (.bipush 8) 2 25 := ⟨by decide +kernel, rfl⟩
theorem dX7_forcedShare_25 : DB cX7_forcedShare 25 (.if_icmp .ge) 45 3 28 70 := ⟨by decide +kernel, rfl, rfl⟩
theorem dX7_forcedShare_28 : DD cX7_forcedShare 28 (.iconst 0) 1 29 := ⟨by decide +kernel, rfl⟩
theorem dX7_forcedShare_29 : DD cX7_forcedShare 29 (.istore_n 3) 1 30 := ⟨by decide +kernel, rfl⟩
theorem dX7_forcedShare_30 : DD cX7_forcedShare 30 (.iload_n 3) 1 31 := ⟨by decide +kernel, rfl⟩
theorem dX7_forcedShare_31 : DD cX7_forcedShare 31 (.iconst 2) 1 32 := ⟨by decide +kernel, rfl⟩
theorem dX7_forcedShare_32 : DB cX7_forcedShare 32 (.if_icmp .ge) 32 3 35 64 := ⟨by decide +kernel, rfl, rfl⟩
theorem dX7_forcedShare_35 : DD cX7_forcedShare 35 (.iload_n 1) 1 36 := ⟨by decide +kernel, rfl⟩
theorem dX7_forcedShare_36 : DD cX7_forcedShare 36 (.aload_n 0) 1 37 := ⟨by decide +kernel, rfl⟩
theorem dX7_forcedShare_37 : DD cX7_forcedShare 37 (.getfield 41) 3 40 := ⟨by decide +kernel, rfl⟩
theorem dX7_forcedShare_40 : DD cX7_forcedShare 40 (.aload_n 0) 1 41 := ⟨by decide +kernel, rfl⟩
theorem dX7_forcedShare_41 : DD cX7_forcedShare 41 (.getfield 10) 3 44 := ⟨by decide +kernel, rfl⟩
theorem dX7_forcedShare_44 : DD cX7_forcedShare 44 (.getfield 114) 3 47 := ⟨by decide +kernel, rfl⟩
theorem dX7_forcedShare_47 : DD cX7_forcedShare 47 (.iconst 0) 1 48 := ⟨by decide +kernel, rfl⟩
theorem dX7_forcedShare_48 : DD cX7_forcedShare 48 (.iload_n 2) 1 49 := ⟨by decide +kernel, rfl⟩
theorem dX7_forcedShare_49 : DD cX7_forcedShare 49 (.iload_n 3) 1 50 := ⟨by decide +kernel, rfl⟩
theorem dX7_forcedShare_50 : DD cX7_forcedShare 50 (.invokevirtual 231) 3 53 := ⟨by decide +kernel, rfl⟩
theorem dX7_forcedShare_53 : DD cX7_forcedShare 53 (.invokestatic 257) 3 56 := ⟨by decide +kernel, rfl⟩
theorem dX7_forcedShare_56 : DD cX7_forcedShare 56 (.iadd) 1 57 := ⟨by decide +kernel, rfl⟩
theorem dX7_forcedShare_57 : DD cX7_forcedShare 57 (.istore_n 1) 1 58 := ⟨by decide +kernel, rfl⟩
theorem dX7_forcedShare_58 : DD cX7_forcedShare 58 (.iinc 3 1) 3 61 := ⟨by decide +kernel, rfl⟩
theorem dX7_forcedShare_61 : DB cX7_forcedShare 61 (.goto) (-31) 3 64 30 := ⟨by decide +kernel, rfl, rfl⟩
theorem dX7_forcedShare_64 : DD cX7_forcedShare 64 (.iinc 2 1) 3 67 := ⟨by decide +kernel, rfl⟩
theorem dX7_forcedShare_67 : DB cX7_forcedShare 67 (.goto) (-45) 3 70 22 := ⟨by decide +kernel, rfl, rfl⟩
theorem dX7_forcedShare_70 : DD cX7_forcedShare 70 (.bipush 16) 2 72 := ⟨by decide +kernel, rfl⟩
theorem dX7_forcedShare_72 : DD cX7_forcedShare 72 (.aload_n 0) 1 73 := ⟨by decide +kernel, rfl⟩
theorem dX7_forcedShare_73 : DD cX7_forcedShare 73 (.getfield 10) 3 76 := ⟨by decide +kernel, rfl⟩
theorem dX7_forcedShare_76 : DD cX7_forcedShare 76 (.getfield 98) 3 79 := ⟨by decide +kernel, rfl⟩
theorem dX7_forcedShare_79 : DD cX7_forcedShare 79 (.iconst 1) 1 80 := ⟨by decide +kernel, rfl⟩
theorem dX7_forcedShare_80 : DD cX7_forcedShare 80 (.iadd) 1 81 := ⟨by decide +kernel, rfl⟩
theorem dX7_forcedShare_81 : DD cX7_forcedShare 81 (.imul) 1 82 := ⟨by decide +kernel, rfl⟩
theorem dX7_forcedShare_82 : DD cX7_forcedShare 82 (.i2d) 1 83 := ⟨by decide +kernel, rfl⟩
theorem dX7_forcedShare_83 : DD cX7_forcedShare 83 (.dstore_n 2) 1 84 := ⟨by decide +kernel, rfl⟩
theorem dX7_forcedShare_84 : DD cX7_forcedShare 84 (.iload_n 1) 1 85 := ⟨by decide +kernel, rfl⟩
theorem dX7_forcedShare_85 : DD cX7_forcedShare 85 (.i2d) 1 86 := ⟨by decide +kernel, rfl⟩
theorem dX7_forcedShare_86 : DD cX7_forcedShare 86 (.dload_n 2) 1 87 := ⟨by decide +kernel, rfl⟩
theorem dX7_forcedShare_87 : DD cX7_forcedShare 87 (.ddiv) 1 88 := ⟨by decide +kernel, rfl⟩
theorem dX7_forcedShare_88 : DD cX7_forcedShare 88 (.dreturn) 1 89 := ⟨by decide +kernel, rfl⟩
theorem dX7_digest_0 : DD cX7_digest 0 (.ldc2_w 262) 3 3 := ⟨by decide +kernel, rfl⟩
theorem dX7_digest_3 : DD cX7_digest 3 (.lstore_n 1) 1 4 := ⟨by decide +kernel, rfl⟩
theorem dX7_digest_4 : DD cX7_digest 4 (.iconst 0) 1 5 := ⟨by decide +kernel, rfl⟩
theorem dX7_digest_5 : DD cX7_digest 5 (.istore_n 3) 1 6 := ⟨by decide +kernel, rfl⟩
theorem dX7_digest_6 : DD cX7_digest 6 (.iload_n 3) 1 7 := ⟨by decide +kernel, rfl⟩
theorem dX7_digest_7 : DD cX7_digest 7 (.bipush 10) 2 9 := ⟨by decide +kernel, rfl⟩
theorem dX7_digest_9 : DB cX7_digest 9 (.if_icmp .gt) 22 3 12 31 := ⟨by decide +kernel, rfl, rfl⟩
theorem dX7_digest_12 : DD cX7_digest 12 (.ldc2_w 264) 3 15 := ⟨by decide +kernel, rfl⟩
theorem dX7_digest_15 : DD cX7_digest 15 (.lload_n 1) 1 16 := ⟨by decide +kernel, rfl⟩
theorem dX7_digest_16 : DD cX7_digest 16 (.lmul) 1 17 := ⟨by decide +kernel, rfl⟩
theorem dX7_digest_17 : DD cX7_digest 17 (.aload_n 0) 1 18 := ⟨by decide +kernel, rfl⟩
theorem dX7_digest_18 : DD cX7_digest 18 (.iload_n 3) 1 19 := ⟨by decide +kernel, rfl⟩
theorem dX7_digest_19 : DD cX7_digest 19 (.invokevirtual 266) 3 22 := ⟨by decide +kernel, rfl⟩
theorem dX7_digest_22 : DD cX7_digest 22 (.i2l) 1 23 := ⟨by decide +kernel, rfl⟩
theorem dX7_digest_23 : DD cX7_digest 23 (.ladd) 1 24 := ⟨by decide +kernel, rfl⟩
theorem dX7_digest_24 : DD cX7_digest 24 (.lstore_n 1) 1 25 := ⟨by decide +kernel, rfl⟩
theorem dX7_digest_25 : DD cX7_digest 25 (.iinc 3 1) 3 28 := ⟨by decide +kernel, rfl⟩
theorem dX7_digest_28 : DB cX7_digest 28 (.goto) (-22) 3 31 6 := ⟨by decide +kernel, rfl, rfl⟩
theorem dX7_digest_31 : DD cX7_digest 31 (.ldc2_w 264) 3 34 := ⟨by decide +kernel, rfl⟩
theorem dX7_digest_34 : DD cX7_digest 34 (.lload_n 1) 1 35 := ⟨by decide +kernel, rfl⟩
theorem dX7_digest_35 : DD cX7_digest 35 (.lmul) 1 36 := ⟨by decide +kernel, rfl⟩
theorem dX7_digest_36 : DD cX7_digest 36 (.aload_n 0) 1 37 := ⟨by decide +kernel, rfl⟩
theorem dX7_digest_37 : DD cX7_digest 37 (.getfield 10) 3 40 := ⟨by decide +kernel, rfl⟩
theorem dX7_digest_40 : DD cX7_digest 40 (.getfield 98) 3 43 := ⟨by decide +kernel, rfl⟩
theorem dX7_digest_43 : DD cX7_digest 43 (.i2l) 1 44 := ⟨by decide +kernel, rfl⟩
theorem dX7_digest_44 : DD cX7_digest 44 (.ladd) 1 45 := ⟨by decide +kernel, rfl⟩
theorem dX7_digest_45 : DD cX7_digest 45 (.lstore_n 1) 1 46 := ⟨by decide +kernel, rfl⟩
theorem dX7_digest_46 : DD cX7_digest 46 (.ldc2_w 264) 3 49 := ⟨by decide +kernel, rfl⟩
theorem dX7_digest_49 : DD cX7_digest 49 (.lload_n 1) 1 50 := ⟨by decide +kernel, rfl⟩
theorem dX7_digest_50 : DD cX7_digest 50 (.lmul) 1 51 := ⟨by decide +kernel, rfl⟩
theorem dX7_digest_51 : DD cX7_digest 51 (.aload_n 0) 1 52 := ⟨by decide +kernel, rfl⟩
theorem dX7_digest_52 : DD cX7_digest 52 (.getfield 10) 3 55 := ⟨by decide +kernel, rfl⟩
theorem dX7_digest_55 : DD cX7_digest 55 (.getfield 114) 3 58 := ⟨by decide +kernel, rfl⟩
theorem dX7_digest_58 : DD cX7_digest 58 (.i2l) 1 59 := ⟨by decide +kernel, rfl⟩
theorem dX7_digest_59 : DD cX7_digest 59 (.ladd) 1 60 := ⟨by decide +kernel, rfl⟩
theorem dX7_digest_60 : DD cX7_digest 60 (.lstore_n 1) 1 61 := ⟨by decide +kernel, rfl⟩
theorem dX7_digest_61 : DD cX7_digest 61 (.iconst 0) 1 62 := ⟨by decide +kernel, rfl⟩
theorem dX7_digest_62 : DD cX7_digest 62 (.istore_n 3) 1 63 := ⟨by decide +kernel, rfl⟩
theorem dX7_digest_63 : DD cX7_digest 63 (.iload_n 3) 1 64 := ⟨by decide +kernel, rfl⟩
theorem dX7_digest_64 : DD cX7_digest 64 (.bipush 8) 2 66 := ⟨by decide +kernel, rfl⟩
theorem dX7_digest_66 : DB cX7_digest 66 (.if_icmp .ge) 106 3 69 172 := ⟨by decide +kernel, rfl, rfl⟩
theorem dX7_digest_69 : DD cX7_digest 69 (.iconst 0) 1 70 := ⟨by decide +kernel, rfl⟩
theorem dX7_digest_70 : DD cX7_digest 70 (.istore 4) 2 72 := ⟨by decide +kernel, rfl⟩
theorem dX7_digest_72 : DD cX7_digest 72 (.iload 4) 2 74 := ⟨by decide +kernel, rfl⟩
theorem dX7_digest_74 : DD cX7_digest 74 (.bipush 6) 2 76 := ⟨by decide +kernel, rfl⟩
theorem dX7_digest_76 : DB cX7_digest 76 (.if_icmp .gt) 24 3 79 100 := ⟨by decide +kernel, rfl, rfl⟩
theorem dX7_digest_79 : DD cX7_digest 79 (.ldc2_w 264) 3 82 := ⟨by decide +kernel, rfl⟩
theorem dX7_digest_82 : DD cX7_digest 82 (.lload_n 1) 1 83 := ⟨by decide +kernel, rfl⟩
theorem dX7_digest_83 : DD cX7_digest 83 (.lmul) 1 84 := ⟨by decide +kernel, rfl⟩
theorem dX7_digest_84 : DD cX7_digest 84 (.aload_n 0) 1 85 := ⟨by decide +kernel, rfl⟩
theorem dX7_digest_85 : DD cX7_digest 85 (.iload_n 3) 1 86 := ⟨by decide +kernel, rfl⟩
theorem dX7_digest_86 : DD cX7_digest 86 (.iload 4) 2 88 := ⟨by decide +kernel, rfl⟩
theorem dX7_digest_88 : DD cX7_digest 88 (.invokevirtual 269) 3 91 := ⟨by decide +kernel, rfl⟩
theorem dX7_digest_91 : DD cX7_digest 91 (.i2l) 1 92 := ⟨by decide +kernel, rfl⟩
theorem dX7_digest_92 : DD cX7_digest 92 (.ladd) 1 93 := ⟨by decide +kernel, rfl⟩
theorem dX7_digest_93 : DD cX7_digest 93 (.lstore_n 1) 1 94 := ⟨by decide +kernel, rfl⟩
theorem dX7_digest_94 : DD cX7_digest 94 (.iinc 4 1) 3 97 := ⟨by decide +kernel, rfl⟩
theorem dX7_digest_97 : DB cX7_digest 97 (.goto) (-25) 3 100 72 := ⟨by decide +kernel, rfl, rfl⟩
theorem dX7_digest_100 : DD cX7_digest 100 (.iconst 0) 1 101 := ⟨by decide +kernel, rfl⟩
theorem dX7_digest_101 : DD cX7_digest 101 (.istore 4) 2 103 := ⟨by decide +kernel, rfl⟩
theorem dX7_digest_103 : DD cX7_digest 103 (.iload 4) 2 105 := ⟨by decide +kernel, rfl⟩
theorem dX7_digest_105 : DD cX7_digest 105 (.iconst 2) 1 106 := ⟨by decide +kernel, rfl⟩
theorem dX7_digest_106 : DB cX7_digest 106 (.if_icmp .ge) 60 3 109 166 := ⟨by decide +kernel, rfl, rfl⟩
theorem dX7_digest_109 : DD cX7_digest 109 (.iconst 0) 1 110 := ⟨by decide +kernel, rfl⟩
theorem dX7_digest_110 : DD cX7_digest 110 (.istore 5) 2 112 := ⟨by decide +kernel, rfl⟩
theorem dX7_digest_112 : DD cX7_digest 112 (.iload 5) 2 114 := ⟨by decide +kernel, rfl⟩
theorem dX7_digest_114 : DD cX7_digest 114 (.iconst 2) 1 115 := ⟨by decide +kernel, rfl⟩
theorem dX7_digest_115 : DB cX7_digest 115 (.if_icmp .ge) 45 3 118 160 := ⟨by decide +kernel, rfl, rfl⟩
theorem dX7_digest_118 : DD cX7_digest 118 (.ldc2_w 264) 3 121 := ⟨by decide +kernel, rfl⟩
theorem dX7_digest_121 : DD cX7_digest 121 (.lload_n 1) 1 122 := ⟨by decide +kernel, rfl⟩
theorem dX7_digest_122 : DD cX7_digest 122 (.lmul) 1 123 := ⟨by decide +kernel, rfl⟩
theorem dX7_digest_123 : DD cX7_digest 123 (.aload_n 0) 1 124 := ⟨by decide +kernel, rfl⟩
theorem dX7_digest_124 : DD cX7_digest 124 (.iload 4) 2 126 := ⟨by decide +kernel, rfl⟩
theorem dX7_digest_126 : DD cX7_digest 126 (.iload_n 3) 1 127 := ⟨by decide +kernel, rfl⟩
theorem dX7_digest_127 : DD cX7_digest 127 (.iload 5) 2 129 := ⟨by decide +kernel, rfl⟩
theorem dX7_digest_129 : DD cX7_digest 129 (.iconst 0) 1 130 := ⟨by decide +kernel, rfl⟩
theorem dX7_digest_130 : DD cX7_digest 130 (.invokevirtual 272) 3 133 := ⟨by decide +kernel, rfl⟩
theorem dX7_digest_133 : DD cX7_digest 133 (.i2l) 1 134 := ⟨by decide +kernel, rfl⟩
theorem dX7_digest_134 : DD cX7_digest 134 (.ladd) 1 135 := ⟨by decide +kernel, rfl⟩
theorem dX7_digest_135 : DD cX7_digest 135 (.lstore_n 1) 1 136 := ⟨by decide +kernel, rfl⟩
theorem dX7_digest_136 : DD cX7_digest 136 (.ldc2_w 264) 3 139 := ⟨by decide +kernel, rfl⟩
theorem dX7_digest_139 : DD cX7_digest 139 (.lload_n 1) 1 140 := ⟨by decide +kernel, rfl⟩
theorem dX7_digest_140 : DD cX7_digest 140 (.lmul) 1 141 := ⟨by decide +kernel, rfl⟩
theorem dX7_digest_141 : DD cX7_digest 141 (.aload_n 0) 1 142 := ⟨by decide +kernel, rfl⟩
theorem dX7_digest_142 : DD cX7_digest 142 (.iload 4) 2 144 := ⟨by decide +kernel, rfl⟩
theorem dX7_digest_144 : DD cX7_digest 144 (.iload_n 3) 1 145 := ⟨by decide +kernel, rfl⟩
theorem dX7_digest_145 : DD cX7_digest 145 (.iload 5) 2 147 := ⟨by decide +kernel, rfl⟩
theorem dX7_digest_147 : DD cX7_digest 147 (.iconst 1) 1 148 := ⟨by decide +kernel, rfl⟩
theorem dX7_digest_148 : DD cX7_digest 148 (.invokevirtual 272) 3 151 := ⟨by decide +kernel, rfl⟩
theorem dX7_digest_151 : DD cX7_digest 151 (.i2l) 1 152 := ⟨by decide +kernel, rfl⟩
theorem dX7_digest_152 : DD cX7_digest 152 (.ladd) 1 153 := ⟨by decide +kernel, rfl⟩
theorem dX7_digest_153 : DD cX7_digest 153 (.lstore_n 1) 1 154 := ⟨by decide +kernel, rfl⟩
theorem dX7_digest_154 : DD cX7_digest 154 (.iinc 5 1) 3 157 := ⟨by decide +kernel, rfl⟩
theorem dX7_digest_157 : DB cX7_digest 157 (.goto) (-45) 3 160 112 := ⟨by decide +kernel, rfl, rfl⟩
theorem dX7_digest_160 : DD cX7_digest 160 (.iinc 4 1) 3 163 := ⟨by decide +kernel, rfl⟩
theorem dX7_digest_163 : DB cX7_digest 163 (.goto) (-60) 3 166 103 := ⟨by decide +kernel, rfl, rfl⟩
theorem dX7_digest_166 : DD cX7_digest 166 (.iinc 3 1) 3 169 := ⟨by decide +kernel, rfl⟩
theorem dX7_digest_169 : DB cX7_digest 169 (.goto) (-106) 3 172 63 := ⟨by decide +kernel, rfl, rfl⟩
theorem dX7_digest_172 : DD cX7_digest 172 (.iconst 0) 1 173 := ⟨by decide +kernel, rfl⟩
theorem dX7_digest_173 : DD cX7_digest 173 (.istore_n 3) 1 174 := ⟨by decide +kernel, rfl⟩
theorem dX7_digest_174 : DD cX7_digest 174 (.iload_n 3) 1 175 := ⟨by decide +kernel, rfl⟩
theorem dX7_digest_175 : DD cX7_digest 175 (.iconst 2) 1 176 := ⟨by decide +kernel, rfl⟩
theorem dX7_digest_176 : DB cX7_digest 176 (.if_icmp .ge) 93 3 179 269 := ⟨by decide +kernel, rfl, rfl⟩
theorem dX7_digest_179 : DD cX7_digest 179 (.iconst 0) 1 180 := ⟨by decide +kernel, rfl⟩
theorem dX7_digest_180 : DD cX7_digest 180 (.istore 4) 2 182 := ⟨by decide +kernel, rfl⟩
theorem dX7_digest_182 : DD cX7_digest 182 (.iload 4) 2 184 := ⟨by decide +kernel, rfl⟩
theorem dX7_digest_184 : DD cX7_digest 184 (.iconst 5) 1 185 := ⟨by decide +kernel, rfl⟩
theorem dX7_digest_185 : DB cX7_digest 185 (.if_icmp .gt) 24 3 188 209 := ⟨by decide +kernel, rfl, rfl⟩
theorem dX7_digest_188 : DD cX7_digest 188 (.ldc2_w 264) 3 191 := ⟨by decide +kernel, rfl⟩
theorem dX7_digest_191 : DD cX7_digest 191 (.lload_n 1) 1 192 := ⟨by decide +kernel, rfl⟩
theorem dX7_digest_192 : DD cX7_digest 192 (.lmul) 1 193 := ⟨by decide +kernel, rfl⟩
theorem dX7_digest_193 : DD cX7_digest 193 (.aload_n 0) 1 194 := ⟨by decide +kernel, rfl⟩
theorem dX7_digest_194 : DD cX7_digest 194 (.iload_n 3) 1 195 := ⟨by decide +kernel, rfl⟩
theorem dX7_digest_195 : DD cX7_digest 195 (.iload 4) 2 197 := ⟨by decide +kernel, rfl⟩
theorem dX7_digest_197 : DD cX7_digest 197 (.invokevirtual 275) 3 200 := ⟨by decide +kernel, rfl⟩
theorem dX7_digest_200 : DD cX7_digest 200 (.i2l) 1 201 := ⟨by decide +kernel, rfl⟩
theorem dX7_digest_201 : DD cX7_digest 201 (.ladd) 1 202 := ⟨by decide +kernel, rfl⟩
theorem dX7_digest_202 : DD cX7_digest 202 (.lstore_n 1) 1 203 := ⟨by decide +kernel, rfl⟩
theorem dX7_digest_203 : DD cX7_digest 203 (.iinc 4 1) 3 206 := ⟨by decide +kernel, rfl⟩
theorem dX7_digest_206 : DB cX7_digest 206 (.goto) (-24) 3 209 182 := ⟨by decide +kernel, rfl, rfl⟩
theorem dX7_digest_209 : DD cX7_digest 209 (.ldc2_w 264) 3 212 := ⟨by decide +kernel, rfl⟩
theorem dX7_digest_212 : DD cX7_digest 212 (.lload_n 1) 1 213 := ⟨by decide +kernel, rfl⟩
theorem dX7_digest_213 : DD cX7_digest 213 (.lmul) 1 214 := ⟨by decide +kernel, rfl⟩
theorem dX7_digest_214 : DD cX7_digest 214 (.aload_n 0) 1 215 := ⟨by decide +kernel, rfl⟩
theorem dX7_digest_215 : DD cX7_digest 215 (.iload_n 3) 1 216 := ⟨by decide +kernel, rfl⟩
theorem dX7_digest_216 : DD cX7_digest 216 (.invokevirtual 278) 3 219 := ⟨by decide +kernel, rfl⟩
theorem dX7_digest_219 : DD cX7_digest 219 (.i2l) 1 220 := ⟨by decide +kernel, rfl⟩
theorem dX7_digest_220 : DD cX7_digest 220 (.ladd) 1 221 := ⟨by decide +kernel, rfl⟩
theorem dX7_digest_221 : DD cX7_digest 221 (.lstore_n 1) 1 222 := ⟨by decide +kernel, rfl⟩
theorem dX7_digest_222 : DD cX7_digest 222 (.ldc2_w 264) 3 225 := ⟨by decide +kernel, rfl⟩
theorem dX7_digest_225 : DD cX7_digest 225 (.lload_n 1) 1 226 := ⟨by decide +kernel, rfl⟩
theorem dX7_digest_226 : DD cX7_digest 226 (.lmul) 1 227 := ⟨by decide +kernel, rfl⟩
theorem dX7_digest_227 : DD cX7_digest 227 (.aload_n 0) 1 228 := ⟨by decide +kernel, rfl⟩
theorem dX7_digest_228 : DD cX7_digest 228 (.iload_n 3) 1 229 := ⟨by decide +kernel, rfl⟩
theorem dX7_digest_229 : DD cX7_digest 229 (.iconst 0) 1 230 := ⟨by decide +kernel, rfl⟩
theorem dX7_digest_230 : DD cX7_digest 230 (.invokevirtual 281) 3 233 := ⟨by decide +kernel, rfl⟩
theorem dX7_digest_233 : DD cX7_digest 233 (.i2l) 1 234 := ⟨by decide +kernel, rfl⟩
theorem dX7_digest_234 : DD cX7_digest 234 (.ladd) 1 235 := ⟨by decide +kernel, rfl⟩
theorem dX7_digest_235 : DD cX7_digest 235 (.lstore_n 1) 1 236 := ⟨by decide +kernel, rfl⟩
theorem dX7_digest_236 : DD cX7_digest 236 (.ldc2_w 264) 3 239 := ⟨by decide +kernel, rfl⟩
theorem dX7_digest_239 : DD cX7_digest 239 (.lload_n 1) 1 240 := ⟨by decide +kernel, rfl⟩
theorem dX7_digest_240 : DD cX7_digest 240 (.lmul) 1 241 := ⟨by decide +kernel, rfl⟩
theorem dX7_digest_241 : DD cX7_digest 241 (.aload_n 0) 1 242 := ⟨by decide +kernel, rfl⟩
theorem dX7_digest_242 : DD cX7_digest 242 (.iload_n 3) 1 243 := ⟨by decide +kernel, rfl⟩
theorem dX7_digest_243 : DD cX7_digest 243 (.iconst 0) 1 244 := ⟨by decide +kernel, rfl⟩
theorem dX7_digest_244 : DD cX7_digest 244 (.invokevirtual 284) 3 247 := ⟨by decide +kernel, rfl⟩
theorem dX7_digest_247 : DD cX7_digest 247 (.i2l) 1 248 := ⟨by decide +kernel, rfl⟩
theorem dX7_digest_248 : DD cX7_digest 248 (.ladd) 1 249 := ⟨by decide +kernel, rfl⟩
theorem dX7_digest_249 : DD cX7_digest 249 (.lstore_n 1) 1 250 := ⟨by decide +kernel, rfl⟩
theorem dX7_digest_250 : DD cX7_digest 250 (.ldc2_w 264) 3 253 := ⟨by decide +kernel, rfl⟩
theorem dX7_digest_253 : DD cX7_digest 253 (.lload_n 1) 1 254 := ⟨by decide +kernel, rfl⟩
theorem dX7_digest_254 : DD cX7_digest 254 (.lmul) 1 255 := ⟨by decide +kernel, rfl⟩
theorem dX7_digest_255 : DD cX7_digest 255 (.aload_n 0) 1 256 := ⟨by decide +kernel, rfl⟩
theorem dX7_digest_256 : DD cX7_digest 256 (.iload_n 3) 1 257 := ⟨by decide +kernel, rfl⟩
theorem dX7_digest_257 : DD cX7_digest 257 (.invokevirtual 287) 3 260 := ⟨by decide +kernel, rfl⟩
theorem dX7_digest_260 : DD cX7_digest 260 (.i2l) 1 261 := ⟨by decide +kernel, rfl⟩
theorem dX7_digest_261 : DD cX7_digest 261 (.ladd) 1 262 := ⟨by decide +kernel, rfl⟩
theorem dX7_digest_262 : DD cX7_digest 262 (.lstore_n 1) 1 263 := ⟨by decide +kernel, rfl⟩
theorem dX7_digest_263 : DD cX7_digest 263 (.iinc 3 1) 3 266 := ⟨by decide +kernel, rfl⟩
theorem dX7_digest_266 : DB cX7_digest 266 (.goto) (-92) 3 269 174 := ⟨by decide +kernel, rfl, rfl⟩
theorem dX7_digest_269 : DD cX7_digest 269 (.ldc2_w 264) 3 272 := ⟨by decide +kernel, rfl⟩
theorem dX7_digest_272 : DD cX7_digest 272 (.lload_n 1) 1 273 := ⟨by decide +kernel, rfl⟩
theorem dX7_digest_273 : DD cX7_digest 273 (.lmul) 1 274 := ⟨by decide +kernel, rfl⟩
theorem dX7_digest_274 : DD cX7_digest 274 (.aload_n 0) 1 275 := ⟨by decide +kernel, rfl⟩
theorem dX7_digest_275 : DD cX7_digest 275 (.invokevirtual 290) 3 278 := ⟨by decide +kernel, rfl⟩
theorem dX7_digest_278 : DD cX7_digest 278 (.invokestatic 294) 3 281 := ⟨by decide +kernel, rfl⟩
theorem dX7_digest_281 : DD cX7_digest 281 (.ladd) 1 282 := ⟨by decide +kernel, rfl⟩
theorem dX7_digest_282 : DD cX7_digest 282 (.lstore_n 1) 1 283 := ⟨by decide +kernel, rfl⟩
theorem dX7_digest_283 : DD cX7_digest 283 (.iconst 0) 1 284 := ⟨by decide +kernel, rfl⟩
theorem dX7_digest_284 : DD cX7_digest 284 (.istore_n 3) 1 285 := ⟨by decide +kernel, rfl⟩
theorem dX7_digest_285 : DD cX7_digest 285 (.iload_n 3) 1 286 := ⟨by decide +kernel, rfl⟩
theorem dX7_digest_286 : DD cX7_digest 286 (.iconst 2) 1 287 := ⟨by decide +kernel, rfl⟩
theorem dX7_digest_287 : DB cX7_digest 287 (.if_icmp .ge) 31 3 290 318 := ⟨by decide +kernel, rfl, rfl⟩
theorem dX7_digest_290 : DD cX7_digest 290 (.ldc2_w 264) 3 293 := ⟨by decide +kernel, rfl⟩
theorem dX7_digest_293 : DD cX7_digest 293 (.lload_n 1) 1 294 := ⟨by decide +kernel, rfl⟩
theorem dX7_digest_294 : DD cX7_digest 294 (.lmul) 1 295 := ⟨by decide +kernel, rfl⟩
theorem dX7_digest_295 : DD cX7_digest 295 (.aload_n 0) 1 296 := ⟨by decide +kernel, rfl⟩
theorem dX7_digest_296 : DD cX7_digest 296 (.getfield 27) 3 299 := ⟨by decide +kernel, rfl⟩
theorem dX7_digest_299 : DD cX7_digest 299 (.iload_n 3) 1 300 := ⟨by decide +kernel, rfl⟩
theorem dX7_digest_300 : DD cX7_digest 300 (.baload) 1 301 := ⟨by decide +kernel, rfl⟩
theorem dX7_digest_301 : DB cX7_digest 301 (.ifCond .eq) 7 3 304 308 := ⟨by decide +kernel, rfl, rfl⟩
theorem dX7_digest_304 : DD cX7_digest 304 (.iconst 1) 1 305 := ⟨by decide +kernel, rfl⟩
theorem dX7_digest_305 : DB cX7_digest 305 (.goto) 4 3 308 309 := ⟨by decide +kernel, rfl, rfl⟩
theorem dX7_digest_308 : DD cX7_digest 308 (.iconst 0) 1 309 := ⟨by decide +kernel, rfl⟩
theorem dX7_digest_309 : DD cX7_digest 309 (.i2l) 1 310 := ⟨by decide +kernel, rfl⟩
theorem dX7_digest_310 : DD cX7_digest 310 (.ladd) 1 311 := ⟨by decide +kernel, rfl⟩
theorem dX7_digest_311 : DD cX7_digest 311 (.lstore_n 1) 1 312 := ⟨by decide +kernel, rfl⟩
theorem dX7_digest_312 : DD cX7_digest 312 (.iinc 3 1) 3 315 := ⟨by decide +kernel, rfl⟩
theorem dX7_digest_315 : DB cX7_digest 315 (.goto) (-30) 3 318 285 := ⟨by decide +kernel, rfl, rfl⟩
theorem dX7_digest_318 : DD cX7_digest 318 (.ldc2_w 264) 3 321 := ⟨by decide +kernel, rfl⟩
theorem dX7_digest_321 : DD cX7_digest 321 (.lload_n 1) 1 322 := ⟨by decide +kernel, rfl⟩
theorem dX7_digest_322 : DD cX7_digest 322 (.lmul) 1 323 := ⟨by decide +kernel, rfl⟩
theorem dX7_digest_323 : DD cX7_digest 323 (.aload_n 0) 1 324 := ⟨by decide +kernel, rfl⟩
theorem dX7_digest_324 : DD cX7_digest 324 (.getfield 34) 3 327 := ⟨by decide +kernel, rfl⟩
theorem dX7_digest_327 : DD cX7_digest 327 (.getfield 155) 3 330 := ⟨by decide +kernel, rfl⟩
theorem dX7_digest_330 : DD cX7_digest 330 (.i2l) 1 331 := ⟨by decide +kernel, rfl⟩
theorem dX7_digest_331 : DD cX7_digest 331 (.ladd) 1 332 := ⟨by decide +kernel, rfl⟩
theorem dX7_digest_332 : DD cX7_digest 332 (.lstore_n 1) 1 333 := ⟨by decide +kernel, rfl⟩
theorem dX7_digest_333 : DD cX7_digest 333 (.iconst 0) 1 334 := ⟨by decide +kernel, rfl⟩
theorem dX7_digest_334 : DD cX7_digest 334 (.istore_n 3) 1 335 := ⟨by decide +kernel, rfl⟩
theorem dX7_digest_335 : DD cX7_digest 335 (.iload_n 3) 1 336 := ⟨by decide +kernel, rfl⟩
theorem dX7_digest_336 : DD cX7_digest 336 (.aload_n 0) 1 337 := ⟨by decide +kernel, rfl⟩
theorem dX7_digest_337 : DD cX7_digest 337 (.getfield 34) 3 340 := ⟨by decide +kernel, rfl⟩
theorem dX7_digest_340 : DD cX7_digest 340 (.getfield 155) 3 343 := ⟨by decide +kernel, rfl⟩
theorem dX7_digest_343 : DB cX7_digest 343 (.if_icmp .ge) 26 3 346 369 := ⟨by decide +kernel, rfl, rfl⟩
theorem dX7_digest_346 : DD cX7_digest 346 (.ldc2_w 264) 3 349 := ⟨by decide +kernel, rfl⟩
theorem dX7_digest_349 : DD cX7_digest 349 (.lload_n 1) 1 350 := ⟨by decide +kernel, rfl⟩
theorem dX7_digest_350 : DD cX7_digest 350 (.lmul) 1 351 := ⟨by decide +kernel, rfl⟩
theorem dX7_digest_351 : DD cX7_digest 351 (.aload_n 0) 1 352 := ⟨by decide +kernel, rfl⟩
theorem dX7_digest_352 : DD cX7_digest 352 (.getfield 34) 3 355 := ⟨by decide +kernel, rfl⟩
theorem dX7_digest_355 : DD cX7_digest 355 (.getfield 160) 3 358 := ⟨by decide +kernel, rfl⟩
theorem dX7_digest_358 : DD cX7_digest 358 (.iload_n 3) 1 359 := ⟨by decide +kernel, rfl⟩
theorem dX7_digest_359 : DD cX7_digest 359 (.caload) 1 360 := ⟨by decide +kernel, rfl⟩
theorem dX7_digest_360 : DD cX7_digest 360 (.i2l) 1 361 := ⟨by decide +kernel, rfl⟩
theorem dX7_digest_361 : DD cX7_digest 361 (.ladd) 1 362 := ⟨by decide +kernel, rfl⟩
theorem dX7_digest_362 : DD cX7_digest 362 (.lstore_n 1) 1 363 := ⟨by decide +kernel, rfl⟩
theorem dX7_digest_363 : DD cX7_digest 363 (.iinc 3 1) 3 366 := ⟨by decide +kernel, rfl⟩
theorem dX7_digest_366 : DB cX7_digest 366 (.goto) (-31) 3 369 335 := ⟨by decide +kernel, rfl, rfl⟩
theorem dX7_digest_369 : DD cX7_digest 369 (.lload_n 1) 1 370 := ⟨by decide +kernel, rfl⟩
theorem dX7_digest_370 : DD cX7_digest 370 (.lreturn) 1 371 := ⟨by decide +kernel, rfl⟩
theorem dX7_needPosition_0 : DD cX7_needPosition 0 (.iload_n 0) 1 1 := ⟨by decide +kernel, rfl⟩
theorem dX7_needPosition_1 : DB cX7_needPosition 1 (.ifCond .lt) 9 3 4 10 := ⟨by decide +kernel, rfl, rfl⟩
theorem dX7_needPosition_4 : DD cX7_needPosition 4 (.iload_n 0) 1 5 := ⟨by decide +kernel, rfl⟩
theorem dX7_needPosition_5 : DD cX7_needPosition 5 (.bipush 8) 2 7 := ⟨by decide +kernel, rfl⟩
theorem dX7_needPosition_7 : DB cX7_needPosition 7 (.if_icmp .lt) 14 3 10 21 := ⟨by decide +kernel, rfl, rfl⟩
theorem dX7_needPosition_10 : DD cX7_needPosition 10 (.new 298) 3 13 := ⟨by decide +kernel, rfl⟩
theorem dX7_needPosition_13 : DD cX7_needPosition 13 (.dup) 1 14 := ⟨by decide +kernel, rfl⟩
theorem dX7_needPosition_14 : DD cX7_needPosition 14 (.ldc_w 300) 3 17 := ⟨by decide +kernel, rfl⟩
theorem dX7_needPosition_17 : DD cX7_needPosition 17 (.invokespecial 302) 3 20 := ⟨by decide +kernel, rfl⟩
theorem dX7_needPosition_20 : DD cX7_needPosition 20 (.athrow) 1 21 := ⟨by decide +kernel, rfl⟩
theorem dX7_needPosition_21 : DD cX7_needPosition 21 (.return_) 1 22 := ⟨by decide +kernel, rfl⟩
theorem dX7_needPlayer_0 : DD cX7_needPlayer 0 (.iload_n 0) 1 1 := ⟨by decide +kernel, rfl⟩
theorem dX7_needPlayer_1 : DB cX7_needPlayer 1 (.ifCond .lt) 8 3 4 9 := ⟨by decide +kernel, rfl, rfl⟩
theorem dX7_needPlayer_4 : DD cX7_needPlayer 4 (.iload_n 0) 1 5 := ⟨by decide +kernel, rfl⟩
theorem dX7_needPlayer_5 : DD cX7_needPlayer 5 (.iconst 2) 1 6 := ⟨by decide +kernel, rfl⟩
theorem dX7_needPlayer_6 : DB cX7_needPlayer 6 (.if_icmp .lt) 14 3 9 20 := ⟨by decide +kernel, rfl, rfl⟩
theorem dX7_needPlayer_9 : DD cX7_needPlayer 9 (.new 298) 3 12 := ⟨by decide +kernel, rfl⟩
theorem dX7_needPlayer_12 : DD cX7_needPlayer 12 (.dup) 1 13 := ⟨by decide +kernel, rfl⟩
theorem dX7_needPlayer_13 : DD cX7_needPlayer 13 (.ldc_w 303) 3 16 := ⟨by decide +kernel, rfl⟩
theorem dX7_needPlayer_16 : DD cX7_needPlayer 16 (.invokespecial 302) 3 19 := ⟨by decide +kernel, rfl⟩
theorem dX7_needPlayer_19 : DD cX7_needPlayer 19 (.athrow) 1 20 := ⟨by decide +kernel, rfl⟩
theorem dX7_needPlayer_20 : DD cX7_needPlayer 20 (.return_) 1 21 := ⟨by decide +kernel, rfl⟩
theorem dX7_needSetting_0 : DD cX7_needSetting 0 (.iload_n 0) 1 1 := ⟨by decide +kernel, rfl⟩
theorem dX7_needSetting_1 : DB cX7_needSetting 1 (.ifCond .lt) 8 3 4 9 := ⟨by decide +kernel, rfl, rfl⟩
theorem dX7_needSetting_4 : DD cX7_needSetting 4 (.iload_n 0) 1 5 := ⟨by decide +kernel, rfl⟩
theorem dX7_needSetting_5 : DD cX7_needSetting 5 (.iconst 1) 1 6 := ⟨by decide +kernel, rfl⟩
theorem dX7_needSetting_6 : DB cX7_needSetting 6 (.if_icmp .le) 14 3 9 20 := ⟨by decide +kernel, rfl, rfl⟩
theorem dX7_needSetting_9 : DD cX7_needSetting 9 (.new 298) 3 12 := ⟨by decide +kernel, rfl⟩
theorem dX7_needSetting_12 : DD cX7_needSetting 12 (.dup) 1 13 := ⟨by decide +kernel, rfl⟩
theorem dX7_needSetting_13 : DD cX7_needSetting 13 (.ldc_w 305) 3 16 := ⟨by decide +kernel, rfl⟩
theorem dX7_needSetting_16 : DD cX7_needSetting 16 (.invokespecial 302) 3 19 := ⟨by decide +kernel, rfl⟩
theorem dX7_needSetting_19 : DD cX7_needSetting 19 (.athrow) 1 20 := ⟨by decide +kernel, rfl⟩
theorem dX7_needSetting_20 : DD cX7_needSetting 20 (.return_) 1 21 := ⟨by decide +kernel, rfl⟩
theorem dX7_needUpTo_0 : DD cX7_needUpTo 0 (.iload_n 0) 1 1 := ⟨by decide +kernel, rfl⟩
theorem dX7_needUpTo_1 : DB cX7_needUpTo 1 (.ifCond .lt) 8 3 4 9 := ⟨by decide +kernel, rfl, rfl⟩
theorem dX7_needUpTo_4 : DD cX7_needUpTo 4 (.iload_n 0) 1 5 := ⟨by decide +kernel, rfl⟩
theorem dX7_needUpTo_5 : DD cX7_needUpTo 5 (.iload_n 1) 1 6 := ⟨by decide +kernel, rfl⟩
theorem dX7_needUpTo_6 : DB cX7_needUpTo 6 (.if_icmp .le) 14 3 9 20 := ⟨by decide +kernel, rfl, rfl⟩
theorem dX7_needUpTo_9 : DD cX7_needUpTo 9 (.new 56) 3 12 := ⟨by decide +kernel, rfl⟩
theorem dX7_needUpTo_12 : DD cX7_needUpTo 12 (.dup) 1 13 := ⟨by decide +kernel, rfl⟩
theorem dX7_needUpTo_13 : DD cX7_needUpTo 13 (.ldc_w 307) 3 16 := ⟨by decide +kernel, rfl⟩
theorem dX7_needUpTo_16 : DD cX7_needUpTo 16 (.invokespecial 60) 3 19 := ⟨by decide +kernel, rfl⟩
theorem dX7_needUpTo_19 : DD cX7_needUpTo 19 (.athrow) 1 20 := ⟨by decide +kernel, rfl⟩
theorem dX7_needUpTo_20 : DD cX7_needUpTo 20 (.return_) 1 21 := ⟨by decide +kernel, rfl⟩
theorem dX7_saveBeforeBoard_0 : DD cX7_saveBeforeBoard 0 (.aload_n 0) 1 1 := ⟨by decide +kernel, rfl⟩
theorem dX7_saveBeforeBoard_1 : DD cX7_saveBeforeBoard 1 (.getfield 19) 3 4 := ⟨by decide +kernel, rfl⟩
theorem dX7_saveBeforeBoard_4 : DD cX7_saveBeforeBoard 4 (.aload_n 0) 1 5 := ⟨by decide +kernel, rfl⟩
theorem dX7_saveBeforeBoard_5 : DD cX7_saveBeforeBoard 5 (.getfield 10) 3 8 := ⟨by decide +kernel, rfl⟩
theorem dX7_saveBeforeBoard_8 : DD cX7_saveBeforeBoard 8 (.invokevirtual 120) 3 11 := ⟨by decide +kernel, rfl⟩
theorem dX7_saveBeforeBoard_11 : DD cX7_saveBeforeBoard 11 (.aload_n 0) 1 12 := ⟨by decide +kernel, rfl⟩
theorem dX7_saveBeforeBoard_12 : DD cX7_saveBeforeBoard 12 (.invokevirtual 196) 3 15 := ⟨by decide +kernel, rfl⟩
theorem dX7_saveBeforeBoard_15 : DD cX7_saveBeforeBoard 15 (.return_) 1 16 := ⟨by decide +kernel, rfl⟩
theorem dX7_forgetForced_0 : DD cX7_forgetForced 0 (.aload_n 0) 1 1 := ⟨by decide +kernel, rfl⟩
theorem dX7_forgetForced_1 : DD cX7_forgetForced 1 (.getfield 41) 3 4 := ⟨by decide +kernel, rfl⟩
theorem dX7_forgetForced_4 : DD cX7_forgetForced 4 (.invokevirtual 309) 3 7 := ⟨by decide +kernel, rfl⟩
theorem dX7_forgetForced_7 : DD cX7_forgetForced 7 (.aload_n 0) 1 8 := ⟨by decide +kernel, rfl⟩
theorem dX7_forgetForced_8 : DD cX7_forgetForced 8 (.getfield 48) 3 11 := ⟨by decide +kernel, rfl⟩
theorem dX7_forgetForced_11 : DD cX7_forgetForced 11 (.invokevirtual 312) 3 14 := ⟨by decide +kernel, rfl⟩
theorem dX7_forgetForced_14 : DD cX7_forgetForced 14 (.return_) 1 15 := ⟨by decide +kernel, rfl⟩
theorem dX7_reasonAgainstBids_0 : DD cX7_reasonAgainstBids 0 (.aload_n 0) 1 1 := ⟨by decide +kernel, rfl⟩
theorem dX7_reasonAgainstBids_1 : DD cX7_reasonAgainstBids 1 (.getfield 10) 3 4 := ⟨by decide +kernel, rfl⟩
theorem dX7_reasonAgainstBids_4 : DD cX7_reasonAgainstBids 4 (.invokevirtual 127) 3 7 := ⟨by decide +kernel, rfl⟩
theorem dX7_reasonAgainstBids_7 : DB cX7_reasonAgainstBids 7 (.ifCond .eq) 5 3 10 12 := ⟨by decide +kernel, rfl, rfl⟩
theorem dX7_reasonAgainstBids_10 : DD cX7_reasonAgainstBids 10 (.iconst 1) 1 11 := ⟨by decide +kernel, rfl⟩
theorem dX7_reasonAgainstBids_11 : DD cX7_reasonAgainstBids 11 (.ireturn) 1 12 := ⟨by decide +kernel, rfl⟩
theorem dX7_reasonAgainstBids_12 : DD cX7_reasonAgainstBids 12 (.aload_n 0) 1 13 := ⟨by decide +kernel, rfl⟩
theorem dX7_reasonAgainstBids_13 : DD cX7_reasonAgainstBids 13 (.getfield 10) 3 16 := ⟨by decide +kernel, rfl⟩
theorem dX7_reasonAgainstBids_16 : DD cX7_reasonAgainstBids 16 (.getfield 108) 3 19 := ⟨by decide +kernel, rfl⟩
theorem dX7_reasonAgainstBids_19 : DD cX7_reasonAgainstBids 19 (.iconst (-1)) 1 20 := ⟨by decide +kernel, rfl⟩
theorem dX7_reasonAgainstBids_20 : DB cX7_reasonAgainstBids 20 (.if_icmp .eq) 5 3 23 25 := ⟨by decide +kernel, rfl, rfl⟩
theorem dX7_reasonAgainstBids_23 : DD cX7_reasonAgainstBids 23 (.iconst 2) 1 24 := ⟨by decide +kernel, rfl⟩
theorem dX7_reasonAgainstBids_24 : DD cX7_reasonAgainstBids 24 (.ireturn) 1 25 := ⟨by decide +kernel, rfl⟩
theorem dX7_reasonAgainstBids_25 : DD cX7_reasonAgainstBids 25 (.iload_n 1) 1 26 := ⟨by decide +kernel, rfl⟩
theorem dX7_reasonAgainstBids_26 : DB cX7_reasonAgainstBids 26 (.ifCond .lt) 7 3 29 33 := ⟨by decide +kernel, rfl, rfl⟩
theorem dX7_reasonAgainstBids_29 : DD cX7_reasonAgainstBids 29 (.iload_n 2) 1 30 := ⟨by decide +kernel, rfl⟩
theorem dX7_reasonAgainstBids_30 : DB cX7_reasonAgainstBids 30 (.ifCond .ge) 5 3 33 35 := ⟨by decide +kernel, rfl, rfl⟩
theorem dX7_reasonAgainstBids_33 : DD cX7_reasonAgainstBids 33 (.iconst 3) 1 34 := ⟨by decide +kernel, rfl⟩
theorem dX7_reasonAgainstBids_34 : DD cX7_reasonAgainstBids 34 (.ireturn) 1 35 := ⟨by decide +kernel, rfl⟩
theorem dX7_reasonAgainstBids_35 : DD cX7_reasonAgainstBids 35 (.iload_n 1) 1 36 := ⟨by decide +kernel, rfl⟩
theorem dX7_reasonAgainstBids_36 : DD cX7_reasonAgainstBids 36 (.aload_n 0) 1 37 := ⟨by decide +kernel, rfl⟩
theorem dX7_reasonAgainstBids_37 : DD cX7_reasonAgainstBids 37 (.getfield 10) 3 40 := ⟨by decide +kernel, rfl⟩
theorem dX7_reasonAgainstBids_40 : DD cX7_reasonAgainstBids 40 (.iconst 0) 1 41 := ⟨by decide +kernel, rfl⟩
theorem dX7_reasonAgainstBids_41 : DD cX7_reasonAgainstBids 41 (.invokevirtual 208) 3 44 := ⟨by decide +kernel, rfl⟩
theorem dX7_reasonAgainstBids_44 : DB cX7_reasonAgainstBids 44 (.if_icmp .gt) 15 3 47 59 := ⟨by decide +kernel, rfl, rfl⟩
theorem dX7_reasonAgainstBids_47 : DD cX7_reasonAgainstBids 47 (.iload_n 2) 1 48 := ⟨by decide +kernel, rfl⟩
theorem dX7_reasonAgainstBids_48 : DD cX7_reasonAgainstBids 48 (.aload_n 0) 1 49 := ⟨by decide +kernel, rfl⟩
theorem dX7_reasonAgainstBids_49 : DD cX7_reasonAgainstBids 49 (.getfield 10) 3 52 := ⟨by decide +kernel, rfl⟩
theorem dX7_reasonAgainstBids_52 : DD cX7_reasonAgainstBids 52 (.iconst 1) 1 53 := ⟨by decide +kernel, rfl⟩
theorem dX7_reasonAgainstBids_53 : DD cX7_reasonAgainstBids 53 (.invokevirtual 208) 3 56 := ⟨by decide +kernel, rfl⟩
theorem dX7_reasonAgainstBids_56 : DB cX7_reasonAgainstBids 56 (.if_icmp .le) 7 3 59 63 := ⟨by decide +kernel, rfl, rfl⟩
theorem dX7_reasonAgainstBids_59 : DD cX7_reasonAgainstBids 59 (.iconst 4) 1 60 := ⟨by decide +kernel, rfl⟩
theorem dX7_reasonAgainstBids_60 : DB cX7_reasonAgainstBids 60 (.goto) 4 3 63 64 := ⟨by decide +kernel, rfl, rfl⟩
theorem dX7_reasonAgainstBids_63 : DD cX7_reasonAgainstBids 63 (.iconst 0) 1 64 := ⟨by decide +kernel, rfl⟩
theorem dX7_reasonAgainstBids_64 : DD cX7_reasonAgainstBids 64 (.ireturn) 1 65 := ⟨by decide +kernel, rfl⟩
theorem dX7_reasonAgainstMove_0 : DD cX7_reasonAgainstMove 0 (.aload_n 0) 1 1 := ⟨by decide +kernel, rfl⟩
theorem dX7_reasonAgainstMove_1 : DD cX7_reasonAgainstMove 1 (.getfield 10) 3 4 := ⟨by decide +kernel, rfl⟩
theorem dX7_reasonAgainstMove_4 : DD cX7_reasonAgainstMove 4 (.invokevirtual 127) 3 7 := ⟨by decide +kernel, rfl⟩
theorem dX7_reasonAgainstMove_7 : DB cX7_reasonAgainstMove 7 (.ifCond .eq) 5 3 10 12 := ⟨by decide +kernel, rfl, rfl⟩
theorem dX7_reasonAgainstMove_10 : DD cX7_reasonAgainstMove 10 (.iconst 1) 1 11 := ⟨by decide +kernel, rfl⟩
theorem dX7_reasonAgainstMove_11 : DD cX7_reasonAgainstMove 11 (.ireturn) 1 12 := ⟨by decide +kernel, rfl⟩
theorem dX7_reasonAgainstMove_12 : DD cX7_reasonAgainstMove 12 (.aload_n 0) 1 13 := ⟨by decide +kernel, rfl⟩
theorem dX7_reasonAgainstMove_13 : DD cX7_reasonAgainstMove 13 (.getfield 10) 3 16 := ⟨by decide +kernel, rfl⟩
theorem dX7_reasonAgainstMove_16 : DD cX7_reasonAgainstMove 16 (.getfield 108) 3 19 := ⟨by decide +kernel, rfl⟩
theorem dX7_reasonAgainstMove_19 : DD cX7_reasonAgainstMove 19 (.iconst (-1)) 1 20 := ⟨by decide +kernel, rfl⟩
theorem dX7_reasonAgainstMove_20 : DB cX7_reasonAgainstMove 20 (.if_icmp .ne) 5 3 23 25 := ⟨by decide +kernel, rfl, rfl⟩
theorem dX7_reasonAgainstMove_23 : DD cX7_reasonAgainstMove 23 (.iconst 2) 1 24 := ⟨by decide +kernel, rfl⟩
theorem dX7_reasonAgainstMove_24 : DD cX7_reasonAgainstMove 24 (.ireturn) 1 25 := ⟨by decide +kernel, rfl⟩
theorem dX7_reasonAgainstMove_25 : DD cX7_reasonAgainstMove 25 (.aload_n 0) 1 26 := ⟨by decide +kernel, rfl⟩
theorem dX7_reasonAgainstMove_26 : DD cX7_reasonAgainstMove 26 (.getfield 10) 3 29 := ⟨by decide +kernel, rfl⟩
theorem dX7_reasonAgainstMove_29 : DD cX7_reasonAgainstMove 29 (.getfield 63) 3 32 := ⟨by decide +kernel, rfl⟩
theorem dX7_reasonAgainstMove_32 : DD cX7_reasonAgainstMove 32 (.aload_n 0) 1 33 := ⟨by decide +kernel, rfl⟩
theorem dX7_reasonAgainstMove_33 : DD cX7_reasonAgainstMove 33 (.getfield 10) 3 36 := ⟨by decide +kernel, rfl⟩
theorem dX7_reasonAgainstMove_36 : DD cX7_reasonAgainstMove 36 (.getfield 124) 3 39 := ⟨by decide +kernel, rfl⟩
theorem dX7_reasonAgainstMove_39 : DD cX7_reasonAgainstMove 39 (.iload_n 1) 1 40 := ⟨by decide +kernel, rfl⟩
theorem dX7_reasonAgainstMove_40 : DD cX7_reasonAgainstMove 40 (.invokevirtual 67) 3 43 := ⟨by decide +kernel, rfl⟩
theorem dX7_reasonAgainstMove_43 : DB cX7_reasonAgainstMove 43 (.ifCond .eq) 7 3 46 50 := ⟨by decide +kernel, rfl, rfl⟩
theorem dX7_reasonAgainstMove_46 : DD cX7_reasonAgainstMove 46 (.iconst 0) 1 47 := ⟨by decide +kernel, rfl⟩
theorem dX7_reasonAgainstMove_47 : DB cX7_reasonAgainstMove 47 (.goto) 4 3 50 51 := ⟨by decide +kernel, rfl, rfl⟩
theorem dX7_reasonAgainstMove_50 : DD cX7_reasonAgainstMove 50 (.iconst 3) 1 51 := ⟨by decide +kernel, rfl⟩
theorem dX7_reasonAgainstMove_51 : DD cX7_reasonAgainstMove 51 (.ireturn) 1 52 := ⟨by decide +kernel, rfl⟩
theorem dX7_holds_0 : DD cX7_holds 0 (.iload_n 0) 1 1 := ⟨by decide +kernel, rfl⟩
theorem dX7_holds_1 : DD cX7_holds 1 (.iload_n 1) 1 2 := ⟨by decide +kernel, rfl⟩
theorem dX7_holds_2 : DD cX7_holds 2 (.ishr) 1 3 := ⟨by decide +kernel, rfl⟩
theorem dX7_holds_3 : DD cX7_holds 3 (.iconst 1) 1 4 := ⟨by decide +kernel, rfl⟩
theorem dX7_holds_4 : DD cX7_holds 4 (.iand) 1 5 := ⟨by decide +kernel, rfl⟩
theorem dX7_holds_5 : DD cX7_holds 5 (.iconst 1) 1 6 := ⟨by decide +kernel, rfl⟩
theorem dX7_holds_6 : DB cX7_holds 6 (.if_icmp .ne) 7 3 9 13 := ⟨by decide +kernel, rfl, rfl⟩
theorem dX7_holds_9 : DD cX7_holds 9 (.iconst 1) 1 10 := ⟨by decide +kernel, rfl⟩
theorem dX7_holds_10 : DB cX7_holds 10 (.goto) 4 3 13 14 := ⟨by decide +kernel, rfl, rfl⟩
theorem dX7_holds_13 : DD cX7_holds 13 (.iconst 0) 1 14 := ⟨by decide +kernel, rfl⟩
theorem dX7_holds_14 : DD cX7_holds 14 (.ireturn) 1 15 := ⟨by decide +kernel, rfl⟩
theorem dX7_leastOf_0 : DD cX7_leastOf 0 (.iconst 0) 1 1 := ⟨by decide +kernel, rfl⟩
theorem dX7_leastOf_1 : DD cX7_leastOf 1 (.istore_n 1) 1 2 := ⟨by decide +kernel, rfl⟩
theorem dX7_leastOf_2 : DD cX7_leastOf 2 (.iload_n 1) 1 3 := ⟨by decide +kernel, rfl⟩
theorem dX7_leastOf_3 : DD cX7_leastOf 3 (.bipush 20) 2 5 := ⟨by decide +kernel, rfl⟩
theorem dX7_leastOf_5 : DB cX7_leastOf 5 (.if_icmp .gt) 19 3 8 24 := ⟨by decide +kernel, rfl, rfl⟩
theorem dX7_leastOf_8 : DD cX7_leastOf 8 (.iload_n 0) 1 9 := ⟨by decide +kernel, rfl⟩
theorem dX7_leastOf_9 : DD cX7_leastOf 9 (.iload_n 1) 1 10 := ⟨by decide +kernel, rfl⟩
theorem dX7_leastOf_10 : DD cX7_leastOf 10 (.invokestatic 235) 3 13 := ⟨by decide +kernel, rfl⟩
theorem dX7_leastOf_13 : DB cX7_leastOf 13 (.ifCond .eq) 5 3 16 18 := ⟨by decide +kernel, rfl, rfl⟩
theorem dX7_leastOf_16 : DD cX7_leastOf 16 (.iload_n 1) 1 17 := ⟨by decide +kernel, rfl⟩
theorem dX7_leastOf_17 : DD cX7_leastOf 17 (.ireturn) 1 18 := ⟨by decide +kernel, rfl⟩
theorem dX7_leastOf_18 : DD cX7_leastOf 18 (.iinc 1 1) 3 21 := ⟨by decide +kernel, rfl⟩
theorem dX7_leastOf_21 : DB cX7_leastOf 21 (.goto) (-19) 3 24 2 := ⟨by decide +kernel, rfl, rfl⟩
theorem dX7_leastOf_24 : DD cX7_leastOf 24 (.iconst (-1)) 1 25 := ⟨by decide +kernel, rfl⟩
theorem dX7_leastOf_25 : DD cX7_leastOf 25 (.ireturn) 1 26 := ⟨by decide +kernel, rfl⟩
theorem dX7_bitsOf_0 : DD cX7_bitsOf 0 (.dload_n 0) 1 1 := ⟨by decide +kernel, rfl⟩
theorem dX7_bitsOf_1 : DD cX7_bitsOf 1 (.dconst 0) 1 2 := ⟨by decide +kernel, rfl⟩
theorem dX7_bitsOf_2 : DD cX7_bitsOf 2 (.dcmp .g) 1 3 := ⟨by decide +kernel, rfl⟩
theorem dX7_bitsOf_3 : DB cX7_bitsOf 3 (.ifCond .gt) 5 3 6 8 := ⟨by decide +kernel, rfl, rfl⟩
theorem dX7_bitsOf_6 : DD cX7_bitsOf 6 (.lconst 0) 1 7 := ⟨by decide +kernel, rfl⟩
theorem dX7_bitsOf_7 : DD cX7_bitsOf 7 (.lreturn) 1 8 := ⟨by decide +kernel, rfl⟩
theorem dX7_bitsOf_8 : DD cX7_bitsOf 8 (.dload_n 0) 1 9 := ⟨by decide +kernel, rfl⟩
theorem dX7_bitsOf_9 : DD cX7_bitsOf 9 (.dstore_n 2) 1 10 := ⟨by decide +kernel, rfl⟩
theorem dX7_bitsOf_10 : DD cX7_bitsOf 10 (.ldc2_w 313) 3 13 := ⟨by decide +kernel, rfl⟩
theorem dX7_bitsOf_13 : DD cX7_bitsOf 13 (.lstore 4) 2 15 := ⟨by decide +kernel, rfl⟩
theorem dX7_bitsOf_15 : DD cX7_bitsOf 15 (.dload_n 2) 1 16 := ⟨by decide +kernel, rfl⟩
theorem dX7_bitsOf_16 : DD cX7_bitsOf 16 (.dconst 1) 1 17 := ⟨by decide +kernel, rfl⟩
theorem dX7_bitsOf_17 : DD cX7_bitsOf 17 (.dcmp .g) 1 18 := ⟨by decide +kernel, rfl⟩
theorem dX7_bitsOf_18 : DB cX7_bitsOf 18 (.ifCond .ge) 25 3 21 43 := ⟨by decide +kernel, rfl, rfl⟩
theorem dX7_bitsOf_21 : DD cX7_bitsOf 21 (.lload 4) 2 23 := ⟨by decide +kernel, rfl⟩
theorem dX7_bitsOf_23 : DD cX7_bitsOf 23 (.lconst 1) 1 24 := ⟨by decide +kernel, rfl⟩
theorem dX7_bitsOf_24 : DD cX7_bitsOf 24 (.lcmp) 1 25 := ⟨by decide +kernel, rfl⟩
theorem dX7_bitsOf_25 : DB cX7_bitsOf 25 (.ifCond .le) 18 3 28 43 := ⟨by decide +kernel, rfl, rfl⟩
theorem dX7_bitsOf_28 : DD cX7_bitsOf 28 (.dload_n 2) 1 29 := ⟨by decide +kernel, rfl⟩
theorem dX7_bitsOf_29 : DD cX7_bitsOf 29 (.ldc2_w 315) 3 32 := ⟨by decide +kernel, rfl⟩
theorem dX7_bitsOf_32 : DD cX7_bitsOf 32 (.dmul) 1 33 := ⟨by decide +kernel, rfl⟩
theorem dX7_bitsOf_33 : DD cX7_bitsOf 33 (.dstore_n 2) 1 34 := ⟨by decide +kernel, rfl⟩
theorem dX7_bitsOf_34 : DD cX7_bitsOf 34 (.lload 4) 2 36 := ⟨by decide +kernel, rfl⟩
theorem dX7_bitsOf_36 : DD cX7_bitsOf 36 (.lconst 1) 1 37 := ⟨by decide +kernel, rfl⟩
theorem dX7_bitsOf_37 : DD cX7_bitsOf 37 (.lsub) 1 38 := ⟨by decide +kernel, rfl⟩
theorem dX7_bitsOf_38 : DD cX7_bitsOf 38 (.lstore 4) 2 40 := ⟨by decide +kernel, rfl⟩
theorem dX7_bitsOf_40 : DB cX7_bitsOf 40 (.goto) (-25) 3 43 15 := ⟨by decide +kernel, rfl, rfl⟩
theorem dX7_bitsOf_43 : DD cX7_bitsOf 43 (.dload_n 2) 1 44 := ⟨by decide +kernel, rfl⟩
theorem dX7_bitsOf_44 : DD cX7_bitsOf 44 (.dconst 1) 1 45 := ⟨by decide +kernel, rfl⟩
theorem dX7_bitsOf_45 : DD cX7_bitsOf 45 (.dsub) 1 46 := ⟨by decide +kernel, rfl⟩
theorem dX7_bitsOf_46 : DD cX7_bitsOf 46 (.ldc2_w 317) 3 49 := ⟨by decide +kernel, rfl⟩
theorem dX7_bitsOf_49 : DD cX7_bitsOf 49 (.dmul) 1 50 := ⟨by decide +kernel, rfl⟩
theorem dX7_bitsOf_50 : DD cX7_bitsOf 50 (.d2l) 1 51 := ⟨by decide +kernel, rfl⟩
theorem dX7_bitsOf_51 : DD cX7_bitsOf 51 (.lstore 6) 2 53 := ⟨by decide +kernel, rfl⟩
theorem dX7_bitsOf_53 : DD cX7_bitsOf 53 (.lload 4) 2 55 := ⟨by decide +kernel, rfl⟩
theorem dX7_bitsOf_55 : DD cX7_bitsOf 55 (.bipush 52) 2 57 := ⟨by decide +kernel, rfl⟩
theorem dX7_bitsOf_57 : DD cX7_bitsOf 57 (.lshl) 1 58 := ⟨by decide +kernel, rfl⟩
theorem dX7_bitsOf_58 : DD cX7_bitsOf 58 (.lload 6) 2 60 := ⟨by decide +kernel, rfl⟩
theorem dX7_bitsOf_60 : DD cX7_bitsOf 60 (.ladd) 1 61 := ⟨by decide +kernel, rfl⟩
theorem dX7_bitsOf_61 : DD cX7_bitsOf 61 (.lreturn) 1 62 := ⟨by decide +kernel, rfl⟩
theorem dX8_init_0 : DD cX8_init 0 (.aload_n 0) 1 1 := ⟨by decide +kernel, rfl⟩
theorem dX8_init_1 : DD cX8_init 1 (.invokespecial 1) 3 4 := ⟨by decide +kernel, rfl⟩
theorem dX8_init_4 : DD cX8_init 4 (.aload_n 0) 1 5 := ⟨by decide +kernel, rfl⟩
theorem dX8_init_5 : DD cX8_init 5 (.bipush 60) 2 7 := ⟨by decide +kernel, rfl⟩
theorem dX8_init_7 : DD cX8_init 7 (.newarray .int) 2 9 := ⟨by decide +kernel, rfl⟩
theorem dX8_init_9 : DD cX8_init 9 (.putfield 7) 3 12 := ⟨by decide +kernel, rfl⟩
theorem dX8_init_12 : DD cX8_init 12 (.aload_n 0) 1 13 := ⟨by decide +kernel, rfl⟩
theorem dX8_init_13 : DD cX8_init 13 (.sipush 360) 3 16 := ⟨by decide +kernel, rfl⟩
theorem dX8_init_16 : DD cX8_init 16 (.newarray .int) 2 18 := ⟨by decide +kernel, rfl⟩
theorem dX8_init_18 : DD cX8_init 18 (.putfield 13) 3 21 := ⟨by decide +kernel, rfl⟩
theorem dX8_init_21 : DD cX8_init 21 (.aload_n 0) 1 22 := ⟨by decide +kernel, rfl⟩
theorem dX8_init_22 : DD cX8_init 22 (.bipush 120) 2 24 := ⟨by decide +kernel, rfl⟩
theorem dX8_init_24 : DD cX8_init 24 (.newarray .int) 2 26 := ⟨by decide +kernel, rfl⟩
theorem dX8_init_26 : DD cX8_init 26 (.putfield 16) 3 29 := ⟨by decide +kernel, rfl⟩
theorem dX8_init_29 : DD cX8_init 29 (.aload_n 0) 1 30 := ⟨by decide +kernel, rfl⟩
theorem dX8_init_30 : DD cX8_init 30 (.iconst 2) 1 31 := ⟨by decide +kernel, rfl⟩
theorem dX8_init_31 : DD cX8_init 31 (.newarray .boolean) 2 33 := ⟨by decide +kernel, rfl⟩
theorem dX8_init_33 : DD cX8_init 33 (.putfield 19) 3 36 := ⟨by decide +kernel, rfl⟩
theorem dX8_init_36 : DD cX8_init 36 (.aload_n 0) 1 37 := ⟨by decide +kernel, rfl⟩
theorem dX8_init_37 : DD cX8_init 37 (.bipush 60) 2 39 := ⟨by decide +kernel, rfl⟩
theorem dX8_init_39 : DD cX8_init 39 (.newarray .int) 2 41 := ⟨by decide +kernel, rfl⟩
theorem dX8_init_41 : DD cX8_init 41 (.putfield 23) 3 44 := ⟨by decide +kernel, rfl⟩
theorem dX8_init_44 : DD cX8_init 44 (.aload_n 0) 1 45 := ⟨by decide +kernel, rfl⟩
theorem dX8_init_45 : DD cX8_init 45 (.sipush 416) 3 48 := ⟨by decide +kernel, rfl⟩
theorem dX8_init_48 : DD cX8_init 48 (.newarray .int) 2 50 := ⟨by decide +kernel, rfl⟩
theorem dX8_init_50 : DD cX8_init 50 (.putfield 26) 3 53 := ⟨by decide +kernel, rfl⟩
theorem dX8_init_53 : DD cX8_init 53 (.aload_n 0) 1 54 := ⟨by decide +kernel, rfl⟩
theorem dX8_init_54 : DD cX8_init 54 (.bipush 48) 2 56 := ⟨by decide +kernel, rfl⟩
theorem dX8_init_56 : DD cX8_init 56 (.newarray .int) 2 58 := ⟨by decide +kernel, rfl⟩
theorem dX8_init_58 : DD cX8_init 58 (.putfield 29) 3 61 := ⟨by decide +kernel, rfl⟩
theorem dX8_init_61 : DD cX8_init 61 (.aload_n 0) 1 62 := ⟨by decide +kernel, rfl⟩
theorem dX8_init_62 : DD cX8_init 62 (.getfield 7) 3 65 := ⟨by decide +kernel, rfl⟩
theorem dX8_init_65 : DD cX8_init 65 (.iconst 0) 1 66 := ⟨by decide +kernel, rfl⟩
theorem dX8_init_66 : DD cX8_init 66 (.bipush 8) 2 68 := ⟨by decide +kernel, rfl⟩
theorem dX8_init_68 : DD cX8_init 68 (.iastore) 1 69 := ⟨by decide +kernel, rfl⟩
theorem dX8_init_69 : DD cX8_init 69 (.aload_n 0) 1 70 := ⟨by decide +kernel, rfl⟩
theorem dX8_init_70 : DD cX8_init 70 (.getfield 7) 3 73 := ⟨by decide +kernel, rfl⟩
theorem dX8_init_73 : DD cX8_init 73 (.iconst 1) 1 74 := ⟨by decide +kernel, rfl⟩
theorem dX8_init_74 : DD cX8_init 74 (.bipush 6) 2 76 := ⟨by decide +kernel, rfl⟩
theorem dX8_init_76 : DD cX8_init 76 (.iastore) 1 77 := ⟨by decide +kernel, rfl⟩
theorem dX8_init_77 : DD cX8_init 77 (.aload_n 0) 1 78 := ⟨by decide +kernel, rfl⟩
theorem dX8_init_78 : DD cX8_init 78 (.getfield 7) 3 81 := ⟨by decide +kernel, rfl⟩
theorem dX8_init_81 : DD cX8_init 81 (.iconst 2) 1 82 := ⟨by decide +kernel, rfl⟩
theorem dX8_init_82 : DD cX8_init 82 (.iconst 4) 1 83 := ⟨by decide +kernel, rfl⟩
theorem dX8_init_83 : DD cX8_init 83 (.iastore) 1 84 := ⟨by decide +kernel, rfl⟩
theorem dX8_init_84 : DD cX8_init 84 (.return_) 1 85 := ⟨by decide +kernel, rfl⟩
theorem dX8_thrown_0 : DD cX8_thrown 0 (.aload_n 0) 1 1 := ⟨by decide +kernel, rfl⟩
theorem dX8_thrown_1 : DD cX8_thrown 1 (.getfield 32) 3 4 := ⟨by decide +kernel, rfl⟩
theorem dX8_thrown_4 : DD cX8_thrown 4 (.ireturn) 1 5 := ⟨by decide +kernel, rfl⟩
theorem dX8_holds_0 : DD cX8_holds 0 (.aload_n 0) 1 1 := ⟨by decide +kernel, rfl⟩
theorem dX8_holds_1 : DD cX8_holds 1 (.iload_n 1) 1 2 := ⟨by decide +kernel, rfl⟩
theorem dX8_holds_2 : DD cX8_holds 2 (.putfield 32) 3 5 := ⟨by decide +kernel, rfl⟩
theorem dX8_holds_5 : DD cX8_holds 5 (.iload_n 1) 1 6 := ⟨by decide +kernel, rfl⟩
theorem dX8_holds_6 : DB cX8_holds 6 (.ifCond .ne) 7 3 9 13 := ⟨by decide +kernel, rfl, rfl⟩
theorem dX8_holds_9 : DD cX8_holds 9 (.iconst 1) 1 10 := ⟨by decide +kernel, rfl⟩
theorem dX8_holds_10 : DB cX8_holds 10 (.goto) 4 3 13 14 := ⟨by decide +kernel, rfl, rfl⟩
theorem dX8_holds_13 : DD cX8_holds 13 (.iconst 0) 1 14 := ⟨by decide +kernel, rfl⟩
theorem dX8_holds_14 : DD cX8_holds 14 (.ireturn) 1 15 := ⟨by decide +kernel, rfl⟩
theorem dX8_in_0 : DD cX8_in 0 (.iload_n 0) 1 1 := ⟨by decide +kernel, rfl⟩
theorem dX8_in_1 : DD cX8_in 1 (.iload_n 1) 1 2 := ⟨by decide +kernel, rfl⟩
theorem dX8_in_2 : DB cX8_in 2 (.if_icmp .lt) 12 3 5 14 := ⟨by decide +kernel, rfl, rfl⟩
theorem dX8_in_5 : DD cX8_in 5 (.iload_n 0) 1 6 := ⟨by decide +kernel, rfl⟩
theorem dX8_in_6 : DD cX8_in 6 (.iload_n 2) 1 7 := ⟨by decide +kernel, rfl⟩
theorem dX8_in_7 : DB cX8_in 7 (.if_icmp .gt) 7 3 10 14 := ⟨by decide +kernel, rfl, rfl⟩
theorem dX8_in_10 : DD cX8_in 10 (.iconst 1) 1 11 := ⟨by decide +kernel, rfl⟩
theorem dX8_in_11 : DB cX8_in 11 (.goto) 4 3 14 15 := ⟨by decide +kernel, rfl, rfl⟩
theorem dX8_in_14 : DD cX8_in 14 (.iconst 0) 1 15 := ⟨by decide +kernel, rfl⟩
theorem dX8_in_15 : DD cX8_in 15 (.ireturn) 1 16 := ⟨by decide +kernel, rfl⟩
theorem dX8_isPosition_0 : DD cX8_isPosition 0 (.iload_n 0) 1 1 := ⟨by decide +kernel, rfl⟩
theorem dX8_isPosition_1 : DD cX8_isPosition 1 (.iconst 0) 1 2 := ⟨by decide +kernel, rfl⟩
theorem dX8_isPosition_2 : DD cX8_isPosition 2 (.bipush 7) 2 4 := ⟨by decide +kernel, rfl⟩
theorem dX8_isPosition_4 : DD cX8_isPosition 4 (.invokestatic 36) 3 7 := ⟨by decide +kernel, rfl⟩
theorem dX8_isPosition_7 : DD cX8_isPosition 7 (.ireturn) 1 8 := ⟨by decide +kernel, rfl⟩
theorem dX8_isOneOfTwo_0 : DD cX8_isOneOfTwo 0 (.iload_n 0) 1 1 := ⟨by decide +kernel, rfl⟩
theorem dX8_isOneOfTwo_1 : DD cX8_isOneOfTwo 1 (.iconst 0) 1 2 := ⟨by decide +kernel, rfl⟩
theorem dX8_isOneOfTwo_2 : DD cX8_isOneOfTwo 2 (.iconst 1) 1 3 := ⟨by decide +kernel, rfl⟩
theorem dX8_isOneOfTwo_3 : DD cX8_isOneOfTwo 3 (.invokestatic 36) 3 6 := ⟨by decide +kernel, rfl⟩
theorem dX8_isOneOfTwo_6 : DD cX8_isOneOfTwo 6 (.ireturn) 1 7 := ⟨by decide +kernel, rfl⟩
theorem dX8_of_0 : DD cX8_of 0 (.aload_n 0) 1 1 := ⟨by decide +kernel, rfl⟩
theorem dX8_of_1 : DD cX8_of 1 (.getfield 7) 3 4 := ⟨by decide +kernel, rfl⟩
theorem dX8_of_4 : DD cX8_of 4 (.bipush 12) 2 6 := ⟨by decide +kernel, rfl⟩
theorem dX8_of_6 : DD cX8_of 6 (.bipush 6) 2 8 := ⟨by decide +kernel, rfl⟩
theorem dX8_of_8 : DD cX8_of 8 (.iload_n 1) 1 9 := ⟨by decide +kernel, rfl⟩
theorem dX8_of_9 : DD cX8_of 9 (.imul) 1 10 := ⟨by decide +kernel, rfl⟩
theorem dX8_of_10 : DD cX8_of 10 (.iadd) 1 11 := ⟨by decide +kernel, rfl⟩
theorem dX8_of_11 : DD cX8_of 11 (.iload_n 2) 1 12 := ⟨by decide +kernel, rfl⟩
theorem dX8_of_12 : DD cX8_of 12 (.iadd) 1 13 := ⟨by decide +kernel, rfl⟩
theorem dX8_of_13 : DD cX8_of 13 (.iaload) 1 14 := ⟨by decide +kernel, rfl⟩
theorem dX8_of_14 : DD cX8_of 14 (.ireturn) 1 15 := ⟨by decide +kernel, rfl⟩
theorem dX8_put_0 : DD cX8_put 0 (.aload_n 0) 1 1 := ⟨by decide +kernel, rfl⟩
theorem dX8_put_1 : DD cX8_put 1 (.getfield 7) 3 4 := ⟨by decide +kernel, rfl⟩
theorem dX8_put_4 : DD cX8_put 4 (.bipush 12) 2 6 := ⟨by decide +kernel, rfl⟩
theorem dX8_put_6 : DD cX8_put 6 (.bipush 6) 2 8 := ⟨by decide +kernel, rfl⟩
theorem dX8_put_8 : DD cX8_put 8 (.iload_n 1) 1 9 := ⟨by decide +kernel, rfl⟩
theorem dX8_put_9 : DD cX8_put 9 (.imul) 1 10 := ⟨by decide +kernel, rfl⟩
theorem dX8_put_10 : DD cX8_put 10 (.iadd) 1 11 := ⟨by decide +kernel, rfl⟩
theorem dX8_put_11 : DD cX8_put 11 (.iload_n 2) 1 12 := ⟨by decide +kernel, rfl⟩
theorem dX8_put_12 : DD cX8_put 12 (.iadd) 1 13 := ⟨by decide +kernel, rfl⟩
theorem dX8_put_13 : DD cX8_put 13 (.iload_n 3) 1 14 := ⟨by decide +kernel, rfl⟩
theorem dX8_put_14 : DD cX8_put 14 (.iastore) 1 15 := ⟨by decide +kernel, rfl⟩
theorem dX8_put_15 : DD cX8_put 15 (.return_) 1 16 := ⟨by decide +kernel, rfl⟩
theorem dX8_budgetOf_0 : DD cX8_budgetOf 0 (.iload_n 1) 1 1 := ⟨by decide +kernel, rfl⟩
theorem dX8_budgetOf_1 : DB cX8_budgetOf 1 (.ifCond .ne) 12 3 4 13 := ⟨by decide +kernel, rfl, rfl⟩
theorem dX8_budgetOf_4 : DD cX8_budgetOf 4 (.aload_n 0) 1 5 := ⟨by decide +kernel, rfl⟩
theorem dX8_budgetOf_5 : DD cX8_budgetOf 5 (.getfield 7) 3 8 := ⟨by decide +kernel, rfl⟩
theorem dX8_budgetOf_8 : DD cX8_budgetOf 8 (.iconst 2) 1 9 := ⟨by decide +kernel, rfl⟩
theorem dX8_budgetOf_9 : DD cX8_budgetOf 9 (.iaload) 1 10 := ⟨by decide +kernel, rfl⟩
theorem dX8_budgetOf_10 : DB cX8_budgetOf 10 (.goto) 16 3 13 26 := ⟨by decide +kernel, rfl, rfl⟩
theorem dX8_budgetOf_13 : DD cX8_budgetOf 13 (.aload_n 0) 1 14 := ⟨by decide +kernel, rfl⟩
theorem dX8_budgetOf_14 : DD cX8_budgetOf 14 (.getfield 7) 3 17 := ⟨by decide +kernel, rfl⟩
theorem dX8_budgetOf_17 : DD cX8_budgetOf 17 (.iconst 0) 1 18 := ⟨by decide +kernel, rfl⟩
theorem dX8_budgetOf_18 : DD cX8_budgetOf 18 (.iaload) 1 19 := ⟨by decide +kernel, rfl⟩
theorem dX8_budgetOf_19 : DD cX8_budgetOf 19 (.aload_n 0) 1 20 := ⟨by decide +kernel, rfl⟩
theorem dX8_budgetOf_20 : DD cX8_budgetOf 20 (.getfield 7) 3 23 := ⟨by decide +kernel, rfl⟩
theorem dX8_budgetOf_23 : DD cX8_budgetOf 23 (.iconst 2) 1 24 := ⟨by decide +kernel, rfl⟩
theorem dX8_budgetOf_24 : DD cX8_budgetOf 24 (.iaload) 1 25 := ⟨by decide +kernel, rfl⟩
theorem dX8_budgetOf_25 : DD cX8_budgetOf 25 (.isub) 1 26 := ⟨by decide +kernel, rfl⟩
theorem dX8_budgetOf_26 : DD cX8_budgetOf 26 (.ireturn) 1 27 := ⟨by decide +kernel, rfl⟩
theorem dX8_isOver_0 : DD cX8_isOver 0 (.aload_n 0) 1 1 := ⟨by decide +kernel, rfl⟩
theorem dX8_isOver_1 : DD cX8_isOver 1 (.iload_n 1) 1 2 := ⟨by decide +kernel, rfl⟩
theorem dX8_isOver_2 : DD cX8_isOver 2 (.iconst 0) 1 3 := ⟨by decide +kernel, rfl⟩
theorem dX8_isOver_3 : DD cX8_isOver 3 (.invokevirtual 40) 3 6 := ⟨by decide +kernel, rfl⟩
theorem dX8_isOver_6 : DB cX8_isOver 6 (.ifCond .gt) 12 3 9 18 := ⟨by decide +kernel, rfl, rfl⟩
theorem dX8_isOver_9 : DD cX8_isOver 9 (.aload_n 0) 1 10 := ⟨by decide +kernel, rfl⟩
theorem dX8_isOver_10 : DD cX8_isOver 10 (.iload_n 1) 1 11 := ⟨by decide +kernel, rfl⟩
theorem dX8_isOver_11 : DD cX8_isOver 11 (.iconst 1) 1 12 := ⟨by decide +kernel, rfl⟩
theorem dX8_isOver_12 : DD cX8_isOver 12 (.invokevirtual 40) 3 15 := ⟨by decide +kernel, rfl⟩
theorem dX8_isOver_15 : DB cX8_isOver 15 (.ifCond .ne) 7 3 18 22 := ⟨by decide +kernel, rfl, rfl⟩
theorem dX8_isOver_18 : DD cX8_isOver 18 (.iconst 1) 1 19 := ⟨by decide +kernel, rfl⟩
theorem dX8_isOver_19 : DB cX8_isOver 19 (.goto) 4 3 22 23 := ⟨by decide +kernel, rfl, rfl⟩
theorem dX8_isOver_22 : DD cX8_isOver 22 (.iconst 0) 1 23 := ⟨by decide +kernel, rfl⟩
theorem dX8_isOver_23 : DD cX8_isOver 23 (.ireturn) 1 24 := ⟨by decide +kernel, rfl⟩
theorem dX8_isWonFor_0 : DD cX8_isWonFor 0 (.aload_n 0) 1 1 := ⟨by decide +kernel, rfl⟩
theorem dX8_isWonFor_1 : DD cX8_isWonFor 1 (.iload_n 2) 1 2 := ⟨by decide +kernel, rfl⟩
theorem dX8_isWonFor_2 : DD cX8_isWonFor 2 (.iconst 0) 1 3 := ⟨by decide +kernel, rfl⟩
theorem dX8_isWonFor_3 : DD cX8_isWonFor 3 (.invokevirtual 40) 3 6 := ⟨by decide +kernel, rfl⟩
theorem dX8_isWonFor_6 : DD cX8_isWonFor 6 (.iload_n 1) 1 7 := ⟨by decide +kernel, rfl⟩
theorem dX8_isWonFor_7 : DD cX8_isWonFor 7 (.iconst 1) 1 8 := ⟨by decide +kernel, rfl⟩
theorem dX8_isWonFor_8 : DD cX8_isWonFor 8 (.iadd) 1 9 := ⟨by decide +kernel, rfl⟩
theorem dX8_isWonFor_9 : DB cX8_isWonFor 9 (.if_icmp .ne) 7 3 12 16 := ⟨by decide +kernel, rfl, rfl⟩
theorem dX8_isWonFor_12 : DD cX8_isWonFor 12 (.iconst 1) 1 13 := ⟨by decide +kernel, rfl⟩
theorem dX8_isWonFor_13 : DB cX8_isWonFor 13 (.goto) 4 3 16 17 := ⟨by decide +kernel, rfl, rfl⟩
theorem dX8_isWonFor_16 : DD cX8_isWonFor 16 (.iconst 0) 1 17 := ⟨by decide +kernel, rfl⟩
theorem dX8_isWonFor_17 : DD cX8_isWonFor 17 (.ireturn) 1 18 := ⟨by decide +kernel, rfl⟩
theorem dX8_hasMove_0 : DD cX8_hasMove 0 (.iconst 0) 1 1 := ⟨by decide +kernel, rfl⟩
theorem dX8_hasMove_1 : DD cX8_hasMove 1 (.istore_n 3) 1 2 := ⟨by decide +kernel, rfl⟩
theorem dX8_hasMove_2 : DD cX8_hasMove 2 (.iconst 0) 1 3 := ⟨by decide +kernel, rfl⟩
theorem dX8_hasMove_3 : DD cX8_hasMove 3 (.istore 4) 2 5 := ⟨by decide +kernel, rfl⟩
theorem dX8_hasMove_5 : DD cX8_hasMove 5 (.iload 4) 2 7 := ⟨by decide +kernel, rfl⟩
theorem dX8_hasMove_7 : DD cX8_hasMove 7 (.aload_n 0) 1 8 := ⟨by decide +kernel, rfl⟩
theorem dX8_hasMove_8 : DD cX8_hasMove 8 (.iload_n 1) 1 9 := ⟨by decide +kernel, rfl⟩
theorem dX8_hasMove_9 : DD cX8_hasMove 9 (.iconst 1) 1 10 := ⟨by decide +kernel, rfl⟩
theorem dX8_hasMove_10 : DD cX8_hasMove 10 (.invokevirtual 40) 3 13 := ⟨by decide +kernel, rfl⟩
theorem dX8_hasMove_13 : DB cX8_hasMove 13 (.if_icmp .ge) 32 3 16 45 := ⟨by decide +kernel, rfl, rfl⟩
theorem dX8_hasMove_16 : DD cX8_hasMove 16 (.iload_n 3) 1 17 := ⟨by decide +kernel, rfl⟩
theorem dX8_hasMove_17 : DB cX8_hasMove 17 (.ifCond .ne) 16 3 20 33 := ⟨by decide +kernel, rfl, rfl⟩
theorem dX8_hasMove_20 : DD cX8_hasMove 20 (.aload_n 0) 1 21 := ⟨by decide +kernel, rfl⟩
theorem dX8_hasMove_21 : DD cX8_hasMove 21 (.iload_n 1) 1 22 := ⟨by decide +kernel, rfl⟩
theorem dX8_hasMove_22 : DD cX8_hasMove 22 (.iconst 2) 1 23 := ⟨by decide +kernel, rfl⟩
theorem dX8_hasMove_23 : DD cX8_hasMove 23 (.iload 4) 2 25 := ⟨by decide +kernel, rfl⟩
theorem dX8_hasMove_25 : DD cX8_hasMove 25 (.iadd) 1 26 := ⟨by decide +kernel, rfl⟩
theorem dX8_hasMove_26 : DD cX8_hasMove 26 (.invokevirtual 40) 3 29 := ⟨by decide +kernel, rfl⟩
theorem dX8_hasMove_29 : DD cX8_hasMove 29 (.iload_n 2) 1 30 := ⟨by decide +kernel, rfl⟩
theorem dX8_hasMove_30 : DB cX8_hasMove 30 (.if_icmp .ne) 7 3 33 37 := ⟨by decide +kernel, rfl, rfl⟩
theorem dX8_hasMove_33 : DD cX8_hasMove 33 (.iconst 1) 1 34 := ⟨by decide +kernel, rfl⟩
theorem dX8_hasMove_34 : DB cX8_hasMove 34 (.goto) 4 3 37 38 := ⟨by decide +kernel, rfl, rfl⟩
theorem dX8_hasMove_37 : DD cX8_hasMove 37 (.iconst 0) 1 38 := ⟨by decide +kernel, rfl⟩
theorem dX8_hasMove_38 : DD cX8_hasMove 38 (.istore_n 3) 1 39 := ⟨by decide +kernel, rfl⟩
theorem dX8_hasMove_39 : DD cX8_hasMove 39 (.iinc 4 1) 3 42 := ⟨by decide +kernel, rfl⟩
theorem dX8_hasMove_42 : DB cX8_hasMove 42 (.goto) (-37) 3 45 5 := ⟨by decide +kernel, rfl, rfl⟩
theorem dX8_hasMove_45 : DD cX8_hasMove 45 (.iload_n 3) 1 46 := ⟨by decide +kernel, rfl⟩
theorem dX8_hasMove_46 : DD cX8_hasMove 46 (.ireturn) 1 47 := ⟨by decide +kernel, rfl⟩
theorem dX8_save_0 : DD cX8_save 0 (.aload_n 0) 1 1 := ⟨by decide +kernel, rfl⟩
theorem dX8_save_1 : DD cX8_save 1 (.getfield 44) 3 4 := ⟨by decide +kernel, rfl⟩
theorem dX8_save_4 : DD cX8_save 4 (.bipush 6) 2 6 := ⟨by decide +kernel, rfl⟩
theorem dX8_save_6 : DB cX8_save 6 (.if_icmp .ne) 43 3 9 49 := ⟨by decide +kernel, rfl, rfl⟩
theorem dX8_save_9 : DD cX8_save 9 (.iconst 0) 1 10 := ⟨by decide +kernel, rfl⟩
theorem dX8_save_10 : DD cX8_save 10 (.istore_n 1) 1 11 := ⟨by decide +kernel, rfl⟩
theorem dX8_save_11 : DD cX8_save 11 (.iload_n 1) 1 12 := ⟨by decide +kernel, rfl⟩
theorem dX8_save_12 : DD cX8_save 12 (.sipush 300) 3 15 := ⟨by decide +kernel, rfl⟩
theorem dX8_save_15 : DB cX8_save 15 (.if_icmp .ge) 24 3 18 39 := ⟨by decide +kernel, rfl, rfl⟩
theorem dX8_save_18 : DD cX8_save 18 (.aload_n 0) 1 19 := ⟨by decide +kernel, rfl⟩
theorem dX8_save_19 : DD cX8_save 19 (.getfield 13) 3 22 := ⟨by decide +kernel, rfl⟩
theorem dX8_save_22 : DD cX8_save 22 (.iload_n 1) 1 23 := ⟨by decide +kernel, rfl⟩
theorem dX8_save_23 : DD cX8_save 23 (.aload_n 0) 1 24 := ⟨by decide +kernel, rfl⟩
theorem dX8_save_24 : DD cX8_save 24 (.getfield 13) 3 27 := ⟨by decide +kernel, rfl⟩
theorem dX8_save_27 : DD cX8_save 27 (.bipush 60) 2 29 := ⟨by decide +kernel, rfl⟩
theorem dX8_save_29 : DD cX8_save 29 (.iload_n 1) 1 30 := ⟨by decide +kernel, rfl⟩
theorem dX8_save_30 : DD cX8_save 30 (.iadd) 1 31 := ⟨by decide +kernel, rfl⟩
theorem dX8_save_31 : DD cX8_save 31 (.iaload) 1 32 := ⟨by decide +kernel, rfl⟩
theorem dX8_save_32 : DD cX8_save 32 (.iastore) 1 33 := ⟨by decide +kernel, rfl⟩
theorem dX8_save_33 : DD cX8_save 33 (.iinc 1 1) 3 36 := ⟨by decide +kernel, rfl⟩
theorem dX8_save_36 : DB cX8_save 36 (.goto) (-25) 3 39 11 := ⟨by decide +kernel, rfl, rfl⟩
theorem dX8_save_39 : DD cX8_save 39 (.aload_n 0) 1 40 := ⟨by decide +kernel, rfl⟩
theorem dX8_save_40 : DD cX8_save 40 (.dup) 1 41 := ⟨by decide +kernel, rfl⟩
theorem dX8_save_41 : DD cX8_save 41 (.getfield 44) 3 44 := ⟨by decide +kernel, rfl⟩
theorem dX8_save_44 : DD cX8_save 44 (.iconst 1) 1 45 := ⟨by decide +kernel, rfl⟩
theorem dX8_save_45 : DD cX8_save 45 (.isub) 1 46 := ⟨by decide +kernel, rfl⟩
theorem dX8_save_46 : DD cX8_save 46 (.putfield 44) 3 49 := ⟨by decide +kernel, rfl⟩
theorem dX8_save_49 : DD cX8_save 49 (.iconst 0) 1 50 := ⟨by decide +kernel, rfl⟩
theorem dX8_save_50 : DD cX8_save 50 (.istore_n 1) 1 51 := ⟨by decide +kernel, rfl⟩
theorem dX8_save_51 : DD cX8_save 51 (.iload_n 1) 1 52 := ⟨by decide +kernel, rfl⟩
theorem dX8_save_52 : DD cX8_save 52 (.bipush 60) 2 54 := ⟨by decide +kernel, rfl⟩
theorem dX8_save_54 : DB cX8_save 54 (.if_icmp .ge) 29 3 57 83 := ⟨by decide +kernel, rfl, rfl⟩
theorem dX8_save_57 : DD cX8_save 57 (.aload_n 0) 1 58 := ⟨by decide +kernel, rfl⟩
theorem dX8_save_58 : DD cX8_save 58 (.getfield 13) 3 61 := ⟨by decide +kernel, rfl⟩
theorem dX8_save_61 : DD cX8_save 61 (.bipush 60) 2 63 := ⟨by decide +kernel, rfl⟩
theorem dX8_save_63 : DD cX8_save 63 (.aload_n 0) 1 64 := ⟨by decide +kernel, rfl⟩
theorem dX8_save_64 : DD cX8_save 64 (.getfield 44) 3 67 := ⟨by decide +kernel, rfl⟩
theorem dX8_save_67 : DD cX8_save 67 (.imul) 1 68 := ⟨by decide +kernel, rfl⟩
theorem dX8_save_68 : DD cX8_save 68 (.iload_n 1) 1 69 := ⟨by decide +kernel, rfl⟩
theorem dX8_save_69 : DD cX8_save 69 (.iadd) 1 70 := ⟨by decide +kernel, rfl⟩
theorem dX8_save_70 : DD cX8_save 70 (.aload_n 0) 1 71 := ⟨by decide +kernel, rfl⟩
theorem dX8_save_71 : DD cX8_save 71 (.getfield 7) 3 74 := ⟨by decide +kernel, rfl⟩
theorem dX8_save_74 : DD cX8_save 74 (.iload_n 1) 1 75 := ⟨by decide +kernel, rfl⟩
theorem dX8_save_75 : DD cX8_save 75 (.iaload) 1 76 := ⟨by decide +kernel, rfl⟩
theorem dX8_save_76 : DD cX8_save 76 (.iastore) 1 77 := ⟨by decide +kernel, rfl⟩
theorem dX8_save_77 : DD cX8_save 77 (.iinc 1 1) 3 80 := ⟨by decide +kernel, rfl⟩
theorem dX8_save_80 : DB cX8_save 80 (.goto) (-29) 3 83 51 := ⟨by decide +kernel, rfl, rfl⟩
theorem dX8_save_83 : DD cX8_save 83 (.aload_n 0) 1 84 := ⟨by decide +kernel, rfl⟩
theorem dX8_save_84 : DD cX8_save 84 (.dup) 1 85 := ⟨by decide +kernel, rfl⟩
theorem dX8_save_85 : DD cX8_save 85 (.getfield 44) 3 88 := ⟨by decide +kernel, rfl⟩
theorem dX8_save_88 : DD cX8_save 88 (.iconst 1) 1 89 := ⟨by decide +kernel, rfl⟩
theorem dX8_save_89 : DD cX8_save 89 (.iadd) 1 90 := ⟨by decide +kernel, rfl⟩
theorem dX8_save_90 : DD cX8_save 90 (.putfield 44) 3 93 := ⟨by decide +kernel, rfl⟩
theorem dX8_save_93 : DD cX8_save 93 (.return_) 1 94 := ⟨by decide +kernel, rfl⟩
theorem dX8_leastAt_0 : DD cX8_leastAt 0 (.aload_n 0) 1 1 := ⟨by decide +kernel, rfl⟩
theorem dX8_leastAt_1 : DD cX8_leastAt 1 (.getfield 26) 3 4 := ⟨by decide +kernel, rfl⟩
theorem dX8_leastAt_4 : DD cX8_leastAt 4 (.bipush 32) 2 6 := ⟨by decide +kernel, rfl⟩
theorem dX8_leastAt_6 : DD cX8_leastAt 6 (.iload_n 1) 1 7 := ⟨by decide +kernel, rfl⟩
theorem dX8_leastAt_7 : DD cX8_leastAt 7 (.imul) 1 8 := ⟨by decide +kernel, rfl⟩
theorem dX8_leastAt_8 : DD cX8_leastAt 8 (.bipush 16) 2 10 := ⟨by decide +kernel, rfl⟩
theorem dX8_leastAt_10 : DD cX8_leastAt 10 (.iload_n 2) 1 11 := ⟨by decide +kernel, rfl⟩
theorem dX8_leastAt_11 : DD cX8_leastAt 11 (.imul) 1 12 := ⟨by decide +kernel, rfl⟩
theorem dX8_leastAt_12 : DD cX8_leastAt 12 (.iadd) 1 13 := ⟨by decide +kernel, rfl⟩
theorem dX8_leastAt_13 : DD cX8_leastAt 13 (.iconst 2) 1 14 := ⟨by decide +kernel, rfl⟩
theorem dX8_leastAt_14 : DD cX8_leastAt 14 (.iload_n 3) 1 15 := ⟨by decide +kernel, rfl⟩
theorem dX8_leastAt_15 : DD cX8_leastAt 15 (.imul) 1 16 := ⟨by decide +kernel, rfl⟩
theorem dX8_leastAt_16 : DD cX8_leastAt 16 (.iadd) 1 17 := ⟨by decide +kernel, rfl⟩
theorem dX8_leastAt_17 : DD cX8_leastAt 17 (.iload 4) 2 19 := ⟨by decide +kernel, rfl⟩
theorem dX8_leastAt_19 : DD cX8_leastAt 19 (.iadd) 1 20 := ⟨by decide +kernel, rfl⟩
theorem dX8_leastAt_20 : DD cX8_leastAt 20 (.iaload) 1 21 := ⟨by decide +kernel, rfl⟩
theorem dX8_leastAt_21 : DD cX8_leastAt 21 (.ireturn) 1 22 := ⟨by decide +kernel, rfl⟩
theorem dX8_easiest_0 : DD cX8_easiest 0 (.bipush 99) 2 2 := ⟨by decide +kernel, rfl⟩
theorem dX8_easiest_2 : DD cX8_easiest 2 (.istore 5) 2 4 := ⟨by decide +kernel, rfl⟩
theorem dX8_easiest_4 : DD cX8_easiest 4 (.iconst 0) 1 5 := ⟨by decide +kernel, rfl⟩
theorem dX8_easiest_5 : DD cX8_easiest 5 (.istore 6) 2 7 := ⟨by decide +kernel, rfl⟩
theorem dX8_easiest_7 : DD cX8_easiest 7 (.iload 6) 2 9 := ⟨by decide +kernel, rfl⟩
theorem dX8_easiest_9 : DD cX8_easiest 9 (.aload_n 0) 1 10 := ⟨by decide +kernel, rfl⟩
theorem dX8_easiest_10 : DD cX8_easiest 10 (.iload_n 3) 1 11 := ⟨by decide +kernel, rfl⟩
theorem dX8_easiest_11 : DD cX8_easiest 11 (.iconst 1) 1 12 := ⟨by decide +kernel, rfl⟩
theorem dX8_easiest_12 : DD cX8_easiest 12 (.invokevirtual 40) 3 15 := ⟨by decide +kernel, rfl⟩
theorem dX8_easiest_15 : DB cX8_easiest 15 (.if_icmp .ge) 44 3 18 59 := ⟨by decide +kernel, rfl, rfl⟩
theorem dX8_easiest_18 : DD cX8_easiest 18 (.aload_n 0) 1 19 := ⟨by decide +kernel, rfl⟩
theorem dX8_easiest_19 : DD cX8_easiest 19 (.iload_n 1) 1 20 := ⟨by decide +kernel, rfl⟩
theorem dX8_easiest_20 : DD cX8_easiest 20 (.iload_n 2) 1 21 := ⟨by decide +kernel, rfl⟩
theorem dX8_easiest_21 : DD cX8_easiest 21 (.aload_n 0) 1 22 := ⟨by decide +kernel, rfl⟩
theorem dX8_easiest_22 : DD cX8_easiest 22 (.iload_n 3) 1 23 := ⟨by decide +kernel, rfl⟩
theorem dX8_easiest_23 : DD cX8_easiest 23 (.iconst 2) 1 24 := ⟨by decide +kernel, rfl⟩
theorem dX8_easiest_24 : DD cX8_easiest 24 (.iload 6) 2 26 := ⟨by decide +kernel, rfl⟩
theorem dX8_easiest_26 : DD cX8_easiest 26 (.iadd) 1 27 := ⟨by decide +kernel, rfl⟩
theorem dX8_easiest_27 : DD cX8_easiest 27 (.invokevirtual 40) 3 30 := ⟨by decide +kernel, rfl⟩
theorem dX8_easiest_30 : DD cX8_easiest 30 (.iload 4) 2 32 := ⟨by decide +kernel, rfl⟩
theorem dX8_easiest_32 : DD cX8_easiest 32 (.invokevirtual 47) 3 35 := ⟨by decide +kernel, rfl⟩
theorem dX8_easiest_35 : DD cX8_easiest 35 (.istore 7) 2 37 := ⟨by decide +kernel, rfl⟩
theorem dX8_easiest_37 : DD cX8_easiest 37 (.iload 7) 2 39 := ⟨by decide +kernel, rfl⟩
theorem dX8_easiest_39 : DD cX8_easiest 39 (.iload 5) 2 41 := ⟨by decide +kernel, rfl⟩
theorem dX8_easiest_41 : DB cX8_easiest 41 (.if_icmp .ge) 8 3 44 49 := ⟨by decide +kernel, rfl, rfl⟩
theorem dX8_easiest_44 : DD cX8_easiest 44 (.iload 7) 2 46 := ⟨by decide +kernel, rfl⟩
theorem dX8_easiest_46 : DB cX8_easiest 46 (.goto) 5 3 49 51 := ⟨by decide +kernel, rfl, rfl⟩
theorem dX8_easiest_49 : DD cX8_easiest 49 (.iload 5) 2 51 := ⟨by decide +kernel, rfl⟩
theorem dX8_easiest_51 : DD cX8_easiest 51 (.istore 5) 2 53 := ⟨by decide +kernel, rfl⟩
theorem dX8_easiest_53 : DD cX8_easiest 53 (.iinc 6 1) 3 56 := ⟨by decide +kernel, rfl⟩
theorem dX8_easiest_56 : DB cX8_easiest 56 (.goto) (-49) 3 59 7 := ⟨by decide +kernel, rfl, rfl⟩
theorem dX8_easiest_59 : DD cX8_easiest 59 (.iload 5) 2 61 := ⟨by decide +kernel, rfl⟩
theorem dX8_easiest_61 : DD cX8_easiest 61 (.ireturn) 1 62 := ⟨by decide +kernel, rfl⟩
theorem dX8_hardest_0 : DD cX8_hardest 0 (.iconst 0) 1 1 := ⟨by decide +kernel, rfl⟩
theorem dX8_hardest_1 : DD cX8_hardest 1 (.istore 5) 2 3 := ⟨by decide +kernel, rfl⟩
theorem dX8_hardest_3 : DD cX8_hardest 3 (.iconst 0) 1 4 := ⟨by decide +kernel, rfl⟩
theorem dX8_hardest_4 : DD cX8_hardest 4 (.istore 6) 2 6 := ⟨by decide +kernel, rfl⟩
theorem dX8_hardest_6 : DD cX8_hardest 6 (.iload 6) 2 8 := ⟨by decide +kernel, rfl⟩
theorem dX8_hardest_8 : DD cX8_hardest 8 (.aload_n 0) 1 9 := ⟨by decide +kernel, rfl⟩
theorem dX8_hardest_9 : DD cX8_hardest 9 (.iload_n 3) 1 10 := ⟨by decide +kernel, rfl⟩
theorem dX8_hardest_10 : DD cX8_hardest 10 (.iconst 1) 1 11 := ⟨by decide +kernel, rfl⟩
theorem dX8_hardest_11 : DD cX8_hardest 11 (.invokevirtual 40) 3 14 := ⟨by decide +kernel, rfl⟩
theorem dX8_hardest_14 : DB cX8_hardest 14 (.if_icmp .ge) 44 3 17 58 := ⟨by decide +kernel, rfl, rfl⟩
theorem dX8_hardest_17 : DD cX8_hardest 17 (.aload_n 0) 1 18 := ⟨by decide +kernel, rfl⟩
theorem dX8_hardest_18 : DD cX8_hardest 18 (.iload_n 1) 1 19 := ⟨by decide +kernel, rfl⟩
theorem dX8_hardest_19 : DD cX8_hardest 19 (.iload_n 2) 1 20 := ⟨by decide +kernel, rfl⟩
theorem dX8_hardest_20 : DD cX8_hardest 20 (.aload_n 0) 1 21 := ⟨by decide +kernel, rfl⟩
theorem dX8_hardest_21 : DD cX8_hardest 21 (.iload_n 3) 1 22 := ⟨by decide +kernel, rfl⟩
theorem dX8_hardest_22 : DD cX8_hardest 22 (.iconst 2) 1 23 := ⟨by decide +kernel, rfl⟩
theorem dX8_hardest_23 : DD cX8_hardest 23 (.iload 6) 2 25 := ⟨by decide +kernel, rfl⟩
theorem dX8_hardest_25 : DD cX8_hardest 25 (.iadd) 1 26 := ⟨by decide +kernel, rfl⟩
theorem dX8_hardest_26 : DD cX8_hardest 26 (.invokevirtual 40) 3 29 := ⟨by decide +kernel, rfl⟩
theorem dX8_hardest_29 : DD cX8_hardest 29 (.iload 4) 2 31 := ⟨by decide +kernel, rfl⟩
theorem dX8_hardest_31 : DD cX8_hardest 31 (.invokevirtual 47) 3 34 := ⟨by decide +kernel, rfl⟩
theorem dX8_hardest_34 : DD cX8_hardest 34 (.istore 7) 2 36 := ⟨by decide +kernel, rfl⟩
theorem dX8_hardest_36 : DD cX8_hardest 36 (.iload 7) 2 38 := ⟨by decide +kernel, rfl⟩
theorem dX8_hardest_38 : DD cX8_hardest 38 (.iload 5) 2 40 := ⟨by decide +kernel, rfl⟩
theorem dX8_hardest_40 : DB cX8_hardest 40 (.if_icmp .le) 8 3 43 48 := ⟨by decide +kernel, rfl, rfl⟩
theorem dX8_hardest_43 : DD cX8_hardest 43 (.iload 7) 2 45 := ⟨by decide +kernel, rfl⟩
theorem dX8_hardest_45 : DB cX8_hardest 45 (.goto) 5 3 48 50 := ⟨by decide +kernel, rfl, rfl⟩
theorem dX8_hardest_48 : DD cX8_hardest 48 (.iload 5) 2 50 := ⟨by decide +kernel, rfl⟩
theorem dX8_hardest_50 : DD cX8_hardest 50 (.istore 5) 2 52 := ⟨by decide +kernel, rfl⟩
theorem dX8_hardest_52 : DD cX8_hardest 52 (.iinc 6 1) 3 55 := ⟨by decide +kernel, rfl⟩
theorem dX8_hardest_55 : DB cX8_hardest 55 (.goto) (-49) 3 58 6 := ⟨by decide +kernel, rfl, rfl⟩
theorem dX8_hardest_58 : DD cX8_hardest 58 (.iload 5) 2 60 := ⟨by decide +kernel, rfl⟩
theorem dX8_hardest_60 : DD cX8_hardest 60 (.ireturn) 1 61 := ⟨by decide +kernel, rfl⟩
theorem dX8_isEnough_0 : DD cX8_isEnough 0 (.iload 6) 2 2 := ⟨by decide +kernel, rfl⟩
theorem dX8_isEnough_2 : DD cX8_isEnough 2 (.iload 7) 2 4 := ⟨by decide +kernel, rfl⟩
theorem dX8_isEnough_4 : DB cX8_isEnough 4 (.if_icmp .le) 26 3 7 30 := ⟨by decide +kernel, rfl, rfl⟩
theorem dX8_isEnough_7 : DD cX8_isEnough 7 (.iload 5) 2 9 := ⟨by decide +kernel, rfl⟩
theorem dX8_isEnough_9 : DD cX8_isEnough 9 (.iload 6) 2 11 := ⟨by decide +kernel, rfl⟩
theorem dX8_isEnough_11 : DD cX8_isEnough 11 (.isub) 1 12 := ⟨by decide +kernel, rfl⟩
theorem dX8_isEnough_12 : DD cX8_isEnough 12 (.aload_n 0) 1 13 := ⟨by decide +kernel, rfl⟩
theorem dX8_isEnough_13 : DD cX8_isEnough 13 (.iload_n 1) 1 14 := ⟨by decide +kernel, rfl⟩
theorem dX8_isEnough_14 : DD cX8_isEnough 14 (.iload_n 2) 1 15 := ⟨by decide +kernel, rfl⟩
theorem dX8_isEnough_15 : DD cX8_isEnough 15 (.iload_n 3) 1 16 := ⟨by decide +kernel, rfl⟩
theorem dX8_isEnough_16 : DD cX8_isEnough 16 (.iload 4) 2 18 := ⟨by decide +kernel, rfl⟩
theorem dX8_isEnough_18 : DD cX8_isEnough 18 (.invokevirtual 51) 3 21 := ⟨by decide +kernel, rfl⟩
theorem dX8_isEnough_21 : DB cX8_isEnough 21 (.if_icmp .lt) 7 3 24 28 := ⟨by decide +kernel, rfl, rfl⟩
theorem dX8_isEnough_24 : DD cX8_isEnough 24 (.iconst 1) 1 25 := ⟨by decide +kernel, rfl⟩
theorem dX8_isEnough_25 : DB cX8_isEnough 25 (.goto) 4 3 28 29 := ⟨by decide +kernel, rfl, rfl⟩
theorem dX8_isEnough_28 : DD cX8_isEnough 28 (.iconst 0) 1 29 := ⟨by decide +kernel, rfl⟩
theorem dX8_isEnough_29 : DD cX8_isEnough 29 (.ireturn) 1 30 := ⟨by decide +kernel, rfl⟩
theorem dX8_isEnough_30 : DD cX8_isEnough 30 (.iload 6) 2 32 := ⟨by decide +kernel, rfl⟩
theorem dX8_isEnough_32 : DD cX8_isEnough 32 (.iload 7) 2 34 := ⟨by decide +kernel, rfl⟩
theorem dX8_isEnough_34 : DB cX8_isEnough 34 (.if_icmp .ge) 26 3 37 60 := ⟨by decide +kernel, rfl, rfl⟩
theorem dX8_isEnough_37 : DD cX8_isEnough 37 (.iload 5) 2 39 := ⟨by decide +kernel, rfl⟩
theorem dX8_isEnough_39 : DD cX8_isEnough 39 (.iload 7) 2 41 := ⟨by decide +kernel, rfl⟩
theorem dX8_isEnough_41 : DD cX8_isEnough 41 (.iadd) 1 42 := ⟨by decide +kernel, rfl⟩
theorem dX8_isEnough_42 : DD cX8_isEnough 42 (.aload_n 0) 1 43 := ⟨by decide +kernel, rfl⟩
theorem dX8_isEnough_43 : DD cX8_isEnough 43 (.iload_n 1) 1 44 := ⟨by decide +kernel, rfl⟩
theorem dX8_isEnough_44 : DD cX8_isEnough 44 (.iload_n 2) 1 45 := ⟨by decide +kernel, rfl⟩
theorem dX8_isEnough_45 : DD cX8_isEnough 45 (.iload_n 3) 1 46 := ⟨by decide +kernel, rfl⟩
theorem dX8_isEnough_46 : DD cX8_isEnough 46 (.iload 4) 2 48 := ⟨by decide +kernel, rfl⟩
theorem dX8_isEnough_48 : DD cX8_isEnough 48 (.invokevirtual 54) 3 51 := ⟨by decide +kernel, rfl⟩
theorem dX8_isEnough_51 : DB cX8_isEnough 51 (.if_icmp .lt) 7 3 54 58 := ⟨by decide +kernel, rfl, rfl⟩
theorem dX8_isEnough_54 : DD cX8_isEnough 54 (.iconst 1) 1 55 := ⟨by decide +kernel, rfl⟩
theorem dX8_isEnough_55 : DB cX8_isEnough 55 (.goto) 4 3 58 59 := ⟨by decide +kernel, rfl, rfl⟩
theorem dX8_isEnough_58 : DD cX8_isEnough 58 (.iconst 0) 1 59 := ⟨by decide +kernel, rfl⟩
theorem dX8_isEnough_59 : DD cX8_isEnough 59 (.ireturn) 1 60 := ⟨by decide +kernel, rfl⟩
theorem dX8_isEnough_60 : DD cX8_isEnough 60 (.iload 4) 2 62 := ⟨by decide +kernel, rfl⟩
theorem dX8_isEnough_62 : DD cX8_isEnough 62 (.iload_n 2) 1 63 := ⟨by decide +kernel, rfl⟩
theorem dX8_isEnough_63 : DB cX8_isEnough 63 (.if_icmp .ne) 29 3 66 92 := ⟨by decide +kernel, rfl, rfl⟩
theorem dX8_isEnough_66 : DD cX8_isEnough 66 (.iload 5) 2 68 := ⟨by decide +kernel, rfl⟩
theorem dX8_isEnough_68 : DD cX8_isEnough 68 (.iload 6) 2 70 := ⟨by decide +kernel, rfl⟩
theorem dX8_isEnough_70 : DD cX8_isEnough 70 (.isub) 1 71 := ⟨by decide +kernel, rfl⟩
theorem dX8_isEnough_71 : DD cX8_isEnough 71 (.aload_n 0) 1 72 := ⟨by decide +kernel, rfl⟩
theorem dX8_isEnough_72 : DD cX8_isEnough 72 (.iload_n 1) 1 73 := ⟨by decide +kernel, rfl⟩
theorem dX8_isEnough_73 : DD cX8_isEnough 73 (.iload_n 2) 1 74 := ⟨by decide +kernel, rfl⟩
theorem dX8_isEnough_74 : DD cX8_isEnough 74 (.iload_n 3) 1 75 := ⟨by decide +kernel, rfl⟩
theorem dX8_isEnough_75 : DD cX8_isEnough 75 (.iconst 1) 1 76 := ⟨by decide +kernel, rfl⟩
theorem dX8_isEnough_76 : DD cX8_isEnough 76 (.iload_n 2) 1 77 := ⟨by decide +kernel, rfl⟩
theorem dX8_isEnough_77 : DD cX8_isEnough 77 (.isub) 1 78 := ⟨by decide +kernel, rfl⟩
theorem dX8_isEnough_78 : DD cX8_isEnough 78 (.invokevirtual 51) 3 81 := ⟨by decide +kernel, rfl⟩
theorem dX8_isEnough_81 : DB cX8_isEnough 81 (.if_icmp .lt) 7 3 84 88 := ⟨by decide +kernel, rfl, rfl⟩
theorem dX8_isEnough_84 : DD cX8_isEnough 84 (.iconst 1) 1 85 := ⟨by decide +kernel, rfl⟩
theorem dX8_isEnough_85 : DB cX8_isEnough 85 (.goto) 28 3 88 113 := ⟨by decide +kernel, rfl, rfl⟩
theorem dX8_isEnough_88 : DD cX8_isEnough 88 (.iconst 0) 1 89 := ⟨by decide +kernel, rfl⟩
theorem dX8_isEnough_89 : DB cX8_isEnough 89 (.goto) 24 3 92 113 := ⟨by decide +kernel, rfl, rfl⟩
theorem dX8_isEnough_92 : DD cX8_isEnough 92 (.iload 5) 2 94 := ⟨by decide +kernel, rfl⟩
theorem dX8_isEnough_94 : DD cX8_isEnough 94 (.iload 6) 2 96 := ⟨by decide +kernel, rfl⟩
theorem dX8_isEnough_96 : DD cX8_isEnough 96 (.iadd) 1 97 := ⟨by decide +kernel, rfl⟩
theorem dX8_isEnough_97 : DD cX8_isEnough 97 (.aload_n 0) 1 98 := ⟨by decide +kernel, rfl⟩
theorem dX8_isEnough_98 : DD cX8_isEnough 98 (.iload_n 1) 1 99 := ⟨by decide +kernel, rfl⟩
theorem dX8_isEnough_99 : DD cX8_isEnough 99 (.iload_n 2) 1 100 := ⟨by decide +kernel, rfl⟩
theorem dX8_isEnough_100 : DD cX8_isEnough 100 (.iload_n 3) 1 101 := ⟨by decide +kernel, rfl⟩
theorem dX8_isEnough_101 : DD cX8_isEnough 101 (.iload_n 2) 1 102 := ⟨by decide +kernel, rfl⟩
theorem dX8_isEnough_102 : DD cX8_isEnough 102 (.invokevirtual 54) 3 105 := ⟨by decide +kernel, rfl⟩
theorem dX8_isEnough_105 : DB cX8_isEnough 105 (.if_icmp .lt) 7 3 108 112 := ⟨by decide +kernel, rfl, rfl⟩
theorem dX8_isEnough_108 : DD cX8_isEnough 108 (.iconst 1) 1 109 := ⟨by decide +kernel, rfl⟩
theorem dX8_isEnough_109 : DB cX8_isEnough 109 (.goto) 4 3 112 113 := ⟨by decide +kernel, rfl, rfl⟩
theorem dX8_isEnough_112 : DD cX8_isEnough 112 (.iconst 0) 1 113 := ⟨by decide +kernel, rfl⟩
theorem dX8_isEnough_113 : DD cX8_isEnough 113 (.ireturn) 1 114 := ⟨by decide +kernel, rfl⟩
theorem dX8_wins_0 : DD cX8_wins 0 (.aload_n 0) 1 1 := ⟨by decide +kernel, rfl⟩
theorem dX8_wins_1 : DD cX8_wins 1 (.getfield 7) 3 4 := ⟨by decide +kernel, rfl⟩
theorem dX8_wins_4 : DD cX8_wins 4 (.iconst 0) 1 5 := ⟨by decide +kernel, rfl⟩
theorem dX8_wins_5 : DD cX8_wins 5 (.iaload) 1 6 := ⟨by decide +kernel, rfl⟩
theorem dX8_wins_6 : DD cX8_wins 6 (.iload 5) 2 8 := ⟨by decide +kernel, rfl⟩
theorem dX8_wins_8 : DD cX8_wins 8 (.isub) 1 9 := ⟨by decide +kernel, rfl⟩
theorem dX8_wins_9 : DD cX8_wins 9 (.istore 7) 2 11 := ⟨by decide +kernel, rfl⟩
theorem dX8_wins_11 : DD cX8_wins 11 (.iload 6) 2 13 := ⟨by decide +kernel, rfl⟩
theorem dX8_wins_13 : DB cX8_wins 13 (.ifCond .eq) 20 3 16 33 := ⟨by decide +kernel, rfl, rfl⟩
theorem dX8_wins_16 : DD cX8_wins 16 (.aload_n 0) 1 17 := ⟨by decide +kernel, rfl⟩
theorem dX8_wins_17 : DD cX8_wins 17 (.iload_n 1) 1 18 := ⟨by decide +kernel, rfl⟩
theorem dX8_wins_18 : DD cX8_wins 18 (.iload_n 2) 1 19 := ⟨by decide +kernel, rfl⟩
theorem dX8_wins_19 : DD cX8_wins 19 (.iload_n 3) 1 20 := ⟨by decide +kernel, rfl⟩
theorem dX8_wins_20 : DD cX8_wins 20 (.iload 4) 2 22 := ⟨by decide +kernel, rfl⟩
theorem dX8_wins_22 : DD cX8_wins 22 (.iload 5) 2 24 := ⟨by decide +kernel, rfl⟩
theorem dX8_wins_24 : DD cX8_wins 24 (.iload 6) 2 26 := ⟨by decide +kernel, rfl⟩
theorem dX8_wins_26 : DD cX8_wins 26 (.iconst 0) 1 27 := ⟨by decide +kernel, rfl⟩
theorem dX8_wins_27 : DD cX8_wins 27 (.invokevirtual 57) 3 30 := ⟨by decide +kernel, rfl⟩
theorem dX8_wins_30 : DB cX8_wins 30 (.ifCond .eq) 7 3 33 37 := ⟨by decide +kernel, rfl, rfl⟩
theorem dX8_wins_33 : DD cX8_wins 33 (.iconst 1) 1 34 := ⟨by decide +kernel, rfl⟩
theorem dX8_wins_34 : DB cX8_wins 34 (.goto) 4 3 37 38 := ⟨by decide +kernel, rfl, rfl⟩
theorem dX8_wins_37 : DD cX8_wins 37 (.iconst 0) 1 38 := ⟨by decide +kernel, rfl⟩
theorem dX8_wins_38 : DD cX8_wins 38 (.istore 8) 2 40 := ⟨by decide +kernel, rfl⟩
theorem dX8_wins_40 : DD cX8_wins 40 (.iload 6) 2 42 := ⟨by decide +kernel, rfl⟩
theorem dX8_wins_42 : DD cX8_wins 42 (.iload 7) 2 44 := ⟨by decide +kernel, rfl⟩
theorem dX8_wins_44 : DB cX8_wins 44 (.if_icmp .gt) 21 3 47 65 := ⟨by decide +kernel, rfl, rfl⟩
theorem dX8_wins_47 : DD cX8_wins 47 (.aload_n 0) 1 48 := ⟨by decide +kernel, rfl⟩
theorem dX8_wins_48 : DD cX8_wins 48 (.iload_n 1) 1 49 := ⟨by decide +kernel, rfl⟩
theorem dX8_wins_49 : DD cX8_wins 49 (.iload_n 2) 1 50 := ⟨by decide +kernel, rfl⟩
theorem dX8_wins_50 : DD cX8_wins 50 (.iload_n 3) 1 51 := ⟨by decide +kernel, rfl⟩
theorem dX8_wins_51 : DD cX8_wins 51 (.iload 4) 2 53 := ⟨by decide +kernel, rfl⟩
theorem dX8_wins_53 : DD cX8_wins 53 (.iload 5) 2 55 := ⟨by decide +kernel, rfl⟩
theorem dX8_wins_55 : DD cX8_wins 55 (.iload 6) 2 57 := ⟨by decide +kernel, rfl⟩
theorem dX8_wins_57 : DD cX8_wins 57 (.iload 6) 2 59 := ⟨by decide +kernel, rfl⟩
theorem dX8_wins_59 : DD cX8_wins 59 (.invokevirtual 57) 3 62 := ⟨by decide +kernel, rfl⟩
theorem dX8_wins_62 : DB cX8_wins 62 (.ifCond .eq) 7 3 65 69 := ⟨by decide +kernel, rfl, rfl⟩
theorem dX8_wins_65 : DD cX8_wins 65 (.iconst 1) 1 66 := ⟨by decide +kernel, rfl⟩
theorem dX8_wins_66 : DB cX8_wins 66 (.goto) 4 3 69 70 := ⟨by decide +kernel, rfl, rfl⟩
theorem dX8_wins_69 : DD cX8_wins 69 (.iconst 0) 1 70 := ⟨by decide +kernel, rfl⟩
theorem dX8_wins_70 : DD cX8_wins 70 (.istore 9) 2 72 := ⟨by decide +kernel, rfl⟩
theorem dX8_wins_72 : DD cX8_wins 72 (.iload 8) 2 74 := ⟨by decide +kernel, rfl⟩
theorem dX8_wins_74 : DB cX8_wins 74 (.ifCond .eq) 39 3 77 113 := ⟨by decide +kernel, rfl, rfl⟩
theorem dX8_wins_77 : DD cX8_wins 77 (.iload 9) 2 79 := ⟨by decide +kernel, rfl⟩
theorem dX8_wins_79 : DB cX8_wins 79 (.ifCond .eq) 34 3 82 113 := ⟨by decide +kernel, rfl, rfl⟩
theorem dX8_wins_82 : DD cX8_wins 82 (.iload 6) 2 84 := ⟨by decide +kernel, rfl⟩
theorem dX8_wins_84 : DD cX8_wins 84 (.iload 7) 2 86 := ⟨by decide +kernel, rfl⟩
theorem dX8_wins_86 : DB cX8_wins 86 (.if_icmp .ge) 23 3 89 109 := ⟨by decide +kernel, rfl, rfl⟩
theorem dX8_wins_89 : DD cX8_wins 89 (.aload_n 0) 1 90 := ⟨by decide +kernel, rfl⟩
theorem dX8_wins_90 : DD cX8_wins 90 (.iload_n 1) 1 91 := ⟨by decide +kernel, rfl⟩
theorem dX8_wins_91 : DD cX8_wins 91 (.iload_n 2) 1 92 := ⟨by decide +kernel, rfl⟩
theorem dX8_wins_92 : DD cX8_wins 92 (.iload_n 3) 1 93 := ⟨by decide +kernel, rfl⟩
theorem dX8_wins_93 : DD cX8_wins 93 (.iload 4) 2 95 := ⟨by decide +kernel, rfl⟩
theorem dX8_wins_95 : DD cX8_wins 95 (.iload 5) 2 97 := ⟨by decide +kernel, rfl⟩
theorem dX8_wins_97 : DD cX8_wins 97 (.iload 6) 2 99 := ⟨by decide +kernel, rfl⟩
theorem dX8_wins_99 : DD cX8_wins 99 (.iload 6) 2 101 := ⟨by decide +kernel, rfl⟩
theorem dX8_wins_101 : DD cX8_wins 101 (.iconst 1) 1 102 := ⟨by decide +kernel, rfl⟩
theorem dX8_wins_102 : DD cX8_wins 102 (.iadd) 1 103 := ⟨by decide +kernel, rfl⟩
theorem dX8_wins_103 : DD cX8_wins 103 (.invokevirtual 57) 3 106 := ⟨by decide +kernel, rfl⟩
theorem dX8_wins_106 : DB cX8_wins 106 (.ifCond .eq) 7 3 109 113 := ⟨by decide +kernel, rfl, rfl⟩
theorem dX8_wins_109 : DD cX8_wins 109 (.iconst 1) 1 110 := ⟨by decide +kernel, rfl⟩
theorem dX8_wins_110 : DB cX8_wins 110 (.goto) 4 3 113 114 := ⟨by decide +kernel, rfl, rfl⟩
theorem dX8_wins_113 : DD cX8_wins 113 (.iconst 0) 1 114 := ⟨by decide +kernel, rfl⟩
theorem dX8_wins_114 : DD cX8_wins 114 (.ireturn) 1 115 := ⟨by decide +kernel, rfl⟩
theorem dX8_leastBid_0 : DD cX8_leastBid 0 (.iconst 0) 1 1 := ⟨by decide +kernel, rfl⟩
theorem dX8_leastBid_1 : DD cX8_leastBid 1 (.istore 6) 2 3 := ⟨by decide +kernel, rfl⟩
theorem dX8_leastBid_3 : DD cX8_leastBid 3 (.iload 6) 2 5 := ⟨by decide +kernel, rfl⟩
theorem dX8_leastBid_5 : DD cX8_leastBid 5 (.iload 5) 2 7 := ⟨by decide +kernel, rfl⟩
theorem dX8_leastBid_7 : DB cX8_leastBid 7 (.if_icmp .gt) 28 3 10 35 := ⟨by decide +kernel, rfl, rfl⟩
theorem dX8_leastBid_10 : DD cX8_leastBid 10 (.aload_n 0) 1 11 := ⟨by decide +kernel, rfl⟩
theorem dX8_leastBid_11 : DD cX8_leastBid 11 (.iload_n 1) 1 12 := ⟨by decide +kernel, rfl⟩
theorem dX8_leastBid_12 : DD cX8_leastBid 12 (.iload_n 2) 1 13 := ⟨by decide +kernel, rfl⟩
theorem dX8_leastBid_13 : DD cX8_leastBid 13 (.iload_n 3) 1 14 := ⟨by decide +kernel, rfl⟩
theorem dX8_leastBid_14 : DD cX8_leastBid 14 (.iload 4) 2 16 := ⟨by decide +kernel, rfl⟩
theorem dX8_leastBid_16 : DD cX8_leastBid 16 (.iload 5) 2 18 := ⟨by decide +kernel, rfl⟩
theorem dX8_leastBid_18 : DD cX8_leastBid 18 (.iload 6) 2 20 := ⟨by decide +kernel, rfl⟩
theorem dX8_leastBid_20 : DD cX8_leastBid 20 (.invokevirtual 61) 3 23 := ⟨by decide +kernel, rfl⟩
theorem dX8_leastBid_23 : DB cX8_leastBid 23 (.ifCond .eq) 6 3 26 29 := ⟨by decide +kernel, rfl, rfl⟩
theorem dX8_leastBid_26 : DD cX8_leastBid 26 (.iload 6) 2 28 := ⟨by decide +kernel, rfl⟩
theorem dX8_leastBid_28 : DD cX8_leastBid 28 (.ireturn) 1 29 := ⟨by decide +kernel, rfl⟩
theorem dX8_leastBid_29 : DD cX8_leastBid 29 (.iinc 6 1) 3 32 := ⟨by decide +kernel, rfl⟩
theorem dX8_leastBid_32 : DB cX8_leastBid 32 (.goto) (-29) 3 35 3 := ⟨by decide +kernel, rfl, rfl⟩
theorem dX8_leastBid_35 : DD cX8_leastBid 35 (.iconst (-1)) 1 36 := ⟨by decide +kernel, rfl⟩
theorem dX8_leastBid_36 : DD cX8_leastBid 36 (.ireturn) 1 37 := ⟨by decide +kernel, rfl⟩
theorem dX8_leastBudget_0 : DD cX8_leastBudget 0 (.aload_n 0) 1 1 := ⟨by decide +kernel, rfl⟩
theorem dX8_leastBudget_1 : DD cX8_leastBudget 1 (.iload_n 2) 1 2 := ⟨by decide +kernel, rfl⟩
theorem dX8_leastBudget_2 : DD cX8_leastBudget 2 (.iload_n 3) 1 3 := ⟨by decide +kernel, rfl⟩
theorem dX8_leastBudget_3 : DD cX8_leastBudget 3 (.invokevirtual 65) 3 6 := ⟨by decide +kernel, rfl⟩
theorem dX8_leastBudget_6 : DB cX8_leastBudget 6 (.ifCond .eq) 5 3 9 11 := ⟨by decide +kernel, rfl, rfl⟩
theorem dX8_leastBudget_9 : DD cX8_leastBudget 9 (.iconst 0) 1 10 := ⟨by decide +kernel, rfl⟩
theorem dX8_leastBudget_10 : DD cX8_leastBudget 10 (.ireturn) 1 11 := ⟨by decide +kernel, rfl⟩
theorem dX8_leastBudget_11 : DD cX8_leastBudget 11 (.iload_n 1) 1 12 := ⟨by decide +kernel, rfl⟩
theorem dX8_leastBudget_12 : DB cX8_leastBudget 12 (.ifCond .eq) 11 3 15 23 := ⟨by decide +kernel, rfl, rfl⟩
theorem dX8_leastBudget_15 : DD cX8_leastBudget 15 (.aload_n 0) 1 16 := ⟨by decide +kernel, rfl⟩
theorem dX8_leastBudget_16 : DD cX8_leastBudget 16 (.iload_n 3) 1 17 := ⟨by decide +kernel, rfl⟩
theorem dX8_leastBudget_17 : DD cX8_leastBudget 17 (.invokevirtual 69) 3 20 := ⟨by decide +kernel, rfl⟩
theorem dX8_leastBudget_20 : DB cX8_leastBudget 20 (.ifCond .eq) 6 3 23 26 := ⟨by decide +kernel, rfl, rfl⟩
theorem dX8_leastBudget_23 : DD cX8_leastBudget 23 (.bipush 99) 2 25 := ⟨by decide +kernel, rfl⟩
theorem dX8_leastBudget_25 : DD cX8_leastBudget 25 (.ireturn) 1 26 := ⟨by decide +kernel, rfl⟩
theorem dX8_leastBudget_26 : DD cX8_leastBudget 26 (.iconst 0) 1 27 := ⟨by decide +kernel, rfl⟩
theorem dX8_leastBudget_27 : DD cX8_leastBudget 27 (.istore 5) 2 29 := ⟨by decide +kernel, rfl⟩
theorem dX8_leastBudget_29 : DD cX8_leastBudget 29 (.iload 5) 2 31 := ⟨by decide +kernel, rfl⟩
theorem dX8_leastBudget_31 : DD cX8_leastBudget 31 (.aload_n 0) 1 32 := ⟨by decide +kernel, rfl⟩
theorem dX8_leastBudget_32 : DD cX8_leastBudget 32 (.getfield 7) 3 35 := ⟨by decide +kernel, rfl⟩
theorem dX8_leastBudget_35 : DD cX8_leastBudget 35 (.iconst 0) 1 36 := ⟨by decide +kernel, rfl⟩
theorem dX8_leastBudget_36 : DD cX8_leastBudget 36 (.iaload) 1 37 := ⟨by decide +kernel, rfl⟩
theorem dX8_leastBudget_37 : DB cX8_leastBudget 37 (.if_icmp .gt) 29 3 40 66 := ⟨by decide +kernel, rfl, rfl⟩
theorem dX8_leastBudget_40 : DD cX8_leastBudget 40 (.aload_n 0) 1 41 := ⟨by decide +kernel, rfl⟩
theorem dX8_leastBudget_41 : DD cX8_leastBudget 41 (.iload_n 1) 1 42 := ⟨by decide +kernel, rfl⟩
theorem dX8_leastBudget_42 : DD cX8_leastBudget 42 (.iconst 1) 1 43 := ⟨by decide +kernel, rfl⟩
theorem dX8_leastBudget_43 : DD cX8_leastBudget 43 (.isub) 1 44 := ⟨by decide +kernel, rfl⟩
theorem dX8_leastBudget_44 : DD cX8_leastBudget 44 (.iload_n 2) 1 45 := ⟨by decide +kernel, rfl⟩
theorem dX8_leastBudget_45 : DD cX8_leastBudget 45 (.iload_n 3) 1 46 := ⟨by decide +kernel, rfl⟩
theorem dX8_leastBudget_46 : DD cX8_leastBudget 46 (.iload 4) 2 48 := ⟨by decide +kernel, rfl⟩
theorem dX8_leastBudget_48 : DD cX8_leastBudget 48 (.iload 5) 2 50 := ⟨by decide +kernel, rfl⟩
theorem dX8_leastBudget_50 : DD cX8_leastBudget 50 (.invokevirtual 73) 3 53 := ⟨by decide +kernel, rfl⟩
theorem dX8_leastBudget_53 : DD cX8_leastBudget 53 (.iconst (-1)) 1 54 := ⟨by decide +kernel, rfl⟩
theorem dX8_leastBudget_54 : DB cX8_leastBudget 54 (.if_icmp .eq) 6 3 57 60 := ⟨by decide +kernel, rfl, rfl⟩
theorem dX8_leastBudget_57 : DD cX8_leastBudget 57 (.iload 5) 2 59 := ⟨by decide +kernel, rfl⟩
theorem dX8_leastBudget_59 : DD cX8_leastBudget 59 (.ireturn) 1 60 := ⟨by decide +kernel, rfl⟩
theorem dX8_leastBudget_60 : DD cX8_leastBudget 60 (.iinc 5 1) 3 63 := ⟨by decide +kernel, rfl⟩
theorem dX8_leastBudget_63 : DB cX8_leastBudget 63 (.goto) (-34) 3 66 29 := ⟨by decide +kernel, rfl, rfl⟩
theorem dX8_leastBudget_66 : DD cX8_leastBudget 66 (.bipush 99) 2 68 := ⟨by decide +kernel, rfl⟩
theorem dX8_leastBudget_68 : DD cX8_leastBudget 68 (.ireturn) 1 69 := ⟨by decide +kernel, rfl⟩
theorem dX8_lay_0 : DD cX8_lay 0 (.iconst 0) 1 1 := ⟨by decide +kernel, rfl⟩
theorem dX8_lay_1 : DD cX8_lay 1 (.istore_n 1) 1 2 := ⟨by decide +kernel, rfl⟩
theorem dX8_lay_2 : DD cX8_lay 2 (.iload_n 1) 1 3 := ⟨by decide +kernel, rfl⟩
theorem dX8_lay_3 : DD cX8_lay 3 (.bipush 12) 2 5 := ⟨by decide +kernel, rfl⟩
theorem dX8_lay_5 : DB cX8_lay 5 (.if_icmp .gt) 52 3 8 57 := ⟨by decide +kernel, rfl, rfl⟩
theorem dX8_lay_8 : DD cX8_lay 8 (.iconst 0) 1 9 := ⟨by decide +kernel, rfl⟩
theorem dX8_lay_9 : DD cX8_lay 9 (.istore_n 2) 1 10 := ⟨by decide +kernel, rfl⟩
theorem dX8_lay_10 : DD cX8_lay 10 (.iload_n 2) 1 11 := ⟨by decide +kernel, rfl⟩
theorem dX8_lay_11 : DD cX8_lay 11 (.bipush 32) 2 13 := ⟨by decide +kernel, rfl⟩
theorem dX8_lay_13 : DB cX8_lay 13 (.if_icmp .ge) 38 3 16 51 := ⟨by decide +kernel, rfl, rfl⟩
theorem dX8_lay_16 : DD cX8_lay 16 (.aload_n 0) 1 17 := ⟨by decide +kernel, rfl⟩
theorem dX8_lay_17 : DD cX8_lay 17 (.getfield 26) 3 20 := ⟨by decide +kernel, rfl⟩
theorem dX8_lay_20 : DD cX8_lay 20 (.bipush 32) 2 22 := ⟨by decide +kernel, rfl⟩
theorem dX8_lay_22 : DD cX8_lay 22 (.iload_n 1) 1 23 := ⟨by decide +kernel, rfl⟩
theorem dX8_lay_23 : DD cX8_lay 23 (.imul) 1 24 := ⟨by decide +kernel, rfl⟩
theorem dX8_lay_24 : DD cX8_lay 24 (.iload_n 2) 1 25 := ⟨by decide +kernel, rfl⟩
theorem dX8_lay_25 : DD cX8_lay 25 (.iadd) 1 26 := ⟨by decide +kernel, rfl⟩
theorem dX8_lay_26 : DD cX8_lay 26 (.aload_n 0) 1 27 := ⟨by decide +kernel, rfl⟩
theorem dX8_lay_27 : DD cX8_lay 27 (.iload_n 1) 1 28 := ⟨by decide +kernel, rfl⟩
theorem dX8_lay_28 : DD cX8_lay 28 (.iload_n 2) 1 29 := ⟨by decide +kernel, rfl⟩
theorem dX8_lay_29 : DD cX8_lay 29 (.bipush 16) 2 31 := ⟨by decide +kernel, rfl⟩
theorem dX8_lay_31 : DD cX8_lay 31 (.idiv) 1 32 := ⟨by decide +kernel, rfl⟩
theorem dX8_lay_32 : DD cX8_lay 32 (.iload_n 2) 1 33 := ⟨by decide +kernel, rfl⟩
theorem dX8_lay_33 : DD cX8_lay 33 (.iconst 2) 1 34 := ⟨by decide +kernel, rfl⟩
theorem dX8_lay_34 : DD cX8_lay 34 (.idiv) 1 35 := ⟨by decide +kernel, rfl⟩
theorem dX8_lay_35 : DD cX8_lay 35 (.bipush 8) 2 37 := ⟨by decide +kernel, rfl⟩
theorem dX8_lay_37 : DD cX8_lay 37 (.irem) 1 38 := ⟨by decide +kernel, rfl⟩
theorem dX8_lay_38 : DD cX8_lay 38 (.iload_n 2) 1 39 := ⟨by decide +kernel, rfl⟩
theorem dX8_lay_39 : DD cX8_lay 39 (.iconst 2) 1 40 := ⟨by decide +kernel, rfl⟩
theorem dX8_lay_40 : DD cX8_lay 40 (.irem) 1 41 := ⟨by decide +kernel, rfl⟩
theorem dX8_lay_41 : DD cX8_lay 41 (.invokevirtual 77) 3 44 := ⟨by decide +kernel, rfl⟩
theorem dX8_lay_44 : DD cX8_lay 44 (.iastore) 1 45 := ⟨by decide +kernel, rfl⟩
theorem dX8_lay_45 : DD cX8_lay 45 (.iinc 2 1) 3 48 := ⟨by decide +kernel, rfl⟩
theorem dX8_lay_48 : DB cX8_lay 48 (.goto) (-38) 3 51 10 := ⟨by decide +kernel, rfl, rfl⟩
theorem dX8_lay_51 : DD cX8_lay 51 (.iinc 1 1) 3 54 := ⟨by decide +kernel, rfl⟩
theorem dX8_lay_54 : DB cX8_lay 54 (.goto) (-52) 3 57 2 := ⟨by decide +kernel, rfl, rfl⟩
theorem dX8_lay_57 : DD cX8_lay 57 (.return_) 1 58 := ⟨by decide +kernel, rfl⟩
theorem dX8_canForce_0 : DD cX8_canForce 0 (.iload_n 3) 1 1 := ⟨by decide +kernel, rfl⟩
theorem dX8_canForce_1 : DD cX8_canForce 1 (.aload_n 0) 1 2 := ⟨by decide +kernel, rfl⟩
theorem dX8_canForce_2 : DD cX8_canForce 2 (.iload 5) 2 4 := ⟨by decide +kernel, rfl⟩
theorem dX8_canForce_4 : DD cX8_canForce 4 (.iload_n 1) 1 5 := ⟨by decide +kernel, rfl⟩
theorem dX8_canForce_5 : DD cX8_canForce 5 (.iload_n 2) 1 6 := ⟨by decide +kernel, rfl⟩
theorem dX8_canForce_6 : DD cX8_canForce 6 (.iload 4) 2 8 := ⟨by decide +kernel, rfl⟩
theorem dX8_canForce_8 : DD cX8_canForce 8 (.invokevirtual 47) 3 11 := ⟨by decide +kernel, rfl⟩
theorem dX8_canForce_11 : DB cX8_canForce 11 (.if_icmp .lt) 7 3 14 18 := ⟨by decide +kernel, rfl, rfl⟩
theorem dX8_canForce_14 : DD cX8_canForce 14 (.iconst 1) 1 15 := ⟨by decide +kernel, rfl⟩
theorem dX8_canForce_15 : DB cX8_canForce 15 (.goto) 4 3 18 19 := ⟨by decide +kernel, rfl, rfl⟩
theorem dX8_canForce_18 : DD cX8_canForce 18 (.iconst 0) 1 19 := ⟨by decide +kernel, rfl⟩
theorem dX8_canForce_19 : DD cX8_canForce 19 (.ireturn) 1 20 := ⟨by decide +kernel, rfl⟩
theorem dX8_addMove_0 : DD cX8_addMove 0 (.iload_n 1) 1 1 := ⟨by decide +kernel, rfl⟩
theorem dX8_addMove_1 : DD cX8_addMove 1 (.invokestatic 80) 3 4 := ⟨by decide +kernel, rfl⟩
theorem dX8_addMove_4 : DB cX8_addMove 4 (.ifCond .eq) 14 3 7 18 := ⟨by decide +kernel, rfl, rfl⟩
theorem dX8_addMove_7 : DD cX8_addMove 7 (.iload_n 2) 1 8 := ⟨by decide +kernel, rfl⟩
theorem dX8_addMove_8 : DD cX8_addMove 8 (.invokestatic 80) 3 11 := ⟨by decide +kernel, rfl⟩
theorem dX8_addMove_11 : DB cX8_addMove 11 (.ifCond .eq) 7 3 14 18 := ⟨by decide +kernel, rfl, rfl⟩
theorem dX8_addMove_14 : DD cX8_addMove 14 (.iconst 1) 1 15 := ⟨by decide +kernel, rfl⟩
theorem dX8_addMove_15 : DB cX8_addMove 15 (.goto) 4 3 18 19 := ⟨by decide +kernel, rfl, rfl⟩
theorem dX8_addMove_18 : DD cX8_addMove 18 (.iconst 0) 1 19 := ⟨by decide +kernel, rfl⟩
theorem dX8_addMove_19 : DD cX8_addMove 19 (.istore_n 3) 1 20 := ⟨by decide +kernel, rfl⟩
theorem dX8_addMove_20 : DD cX8_addMove 20 (.aload_n 0) 1 21 := ⟨by decide +kernel, rfl⟩
theorem dX8_addMove_21 : DD cX8_addMove 21 (.iload_n 3) 1 22 := ⟨by decide +kernel, rfl⟩
theorem dX8_addMove_22 : DB cX8_addMove 22 (.ifCond .ne) 7 3 25 29 := ⟨by decide +kernel, rfl, rfl⟩
theorem dX8_addMove_25 : DD cX8_addMove 25 (.iconst 1) 1 26 := ⟨by decide +kernel, rfl⟩
theorem dX8_addMove_26 : DB cX8_addMove 26 (.goto) 36 3 29 62 := ⟨by decide +kernel, rfl, rfl⟩
theorem dX8_addMove_29 : DD cX8_addMove 29 (.iload_n 1) 1 30 := ⟨by decide +kernel, rfl⟩
theorem dX8_addMove_30 : DD cX8_addMove 30 (.iload_n 2) 1 31 := ⟨by decide +kernel, rfl⟩
theorem dX8_addMove_31 : DB cX8_addMove 31 (.if_icmp .ne) 7 3 34 38 := ⟨by decide +kernel, rfl, rfl⟩
theorem dX8_addMove_34 : DD cX8_addMove 34 (.iconst 2) 1 35 := ⟨by decide +kernel, rfl⟩
theorem dX8_addMove_35 : DB cX8_addMove 35 (.goto) 27 3 38 62 := ⟨by decide +kernel, rfl, rfl⟩
theorem dX8_addMove_38 : DD cX8_addMove 38 (.aload_n 0) 1 39 := ⟨by decide +kernel, rfl⟩
theorem dX8_addMove_39 : DD cX8_addMove 39 (.iload_n 1) 1 40 := ⟨by decide +kernel, rfl⟩
theorem dX8_addMove_40 : DD cX8_addMove 40 (.iload_n 2) 1 41 := ⟨by decide +kernel, rfl⟩
theorem dX8_addMove_41 : DD cX8_addMove 41 (.invokevirtual 83) 3 44 := ⟨by decide +kernel, rfl⟩
theorem dX8_addMove_44 : DB cX8_addMove 44 (.ifCond .ne) 13 3 47 57 := ⟨by decide +kernel, rfl, rfl⟩
end
section
theorem dX8_addMove_47 : DD cX8_addMove 47 (.aload_n 0) 1 48 := ⟨by decide +kernel, rfl⟩
theorem dX8_addMove_48 : DD cX8_addMove 48 (.iload_n 1) 1 49 := ⟨by decide +kernel, rfl⟩
theorem dX8_addMove_49 : DD cX8_addMove 49 (.iconst 1) 1 50 := ⟨by decide +kernel, rfl⟩
theorem dX8_addMove_50 : DD cX8_addMove 50 (.invokevirtual 40) 3 53 := ⟨by decide +kernel, rfl⟩
theorem dX8_addMove_53 : DD cX8_addMove 53 (.iconst 4) 1 54 := ⟨by decide +kernel, rfl⟩
theorem dX8_addMove_54 : DB cX8_addMove 54 (.if_icmp .ne) 7 3 57 61 := ⟨by decide +kernel, rfl, rfl⟩
theorem dX8_addMove_57 : DD cX8_addMove 57 (.iconst 3) 1 58 := ⟨by decide +kernel, rfl⟩
theorem dX8_addMove_58 : DB cX8_addMove 58 (.goto) 4 3 61 62 := ⟨by decide +kernel, rfl, rfl⟩
theorem dX8_addMove_61 : DD cX8_addMove 61 (.iconst 0) 1 62 := ⟨by decide +kernel, rfl⟩
theorem dX8_addMove_62 : DD cX8_addMove 62 (.invokevirtual 86) 3 65 := ⟨by decide +kernel, rfl⟩
theorem dX8_addMove_65 : DB cX8_addMove 65 (.ifCond .ne) 5 3 68 70 := ⟨by decide +kernel, rfl, rfl⟩
theorem dX8_addMove_68 : DD cX8_addMove 68 (.iconst 0) 1 69 := ⟨by decide +kernel, rfl⟩
theorem dX8_addMove_69 : DD cX8_addMove 69 (.ireturn) 1 70 := ⟨by decide +kernel, rfl⟩
theorem dX8_addMove_70 : DD cX8_addMove 70 (.aload_n 0) 1 71 := ⟨by decide +kernel, rfl⟩
theorem dX8_addMove_71 : DD cX8_addMove 71 (.invokevirtual 89) 3 74 := ⟨by decide +kernel, rfl⟩
theorem dX8_addMove_74 : DD cX8_addMove 74 (.aload_n 0) 1 75 := ⟨by decide +kernel, rfl⟩
theorem dX8_addMove_75 : DD cX8_addMove 75 (.iload_n 1) 1 76 := ⟨by decide +kernel, rfl⟩
theorem dX8_addMove_76 : DD cX8_addMove 76 (.iconst 2) 1 77 := ⟨by decide +kernel, rfl⟩
theorem dX8_addMove_77 : DD cX8_addMove 77 (.aload_n 0) 1 78 := ⟨by decide +kernel, rfl⟩
theorem dX8_addMove_78 : DD cX8_addMove 78 (.iload_n 1) 1 79 := ⟨by decide +kernel, rfl⟩
theorem dX8_addMove_79 : DD cX8_addMove 79 (.iconst 1) 1 80 := ⟨by decide +kernel, rfl⟩
theorem dX8_addMove_80 : DD cX8_addMove 80 (.invokevirtual 40) 3 83 := ⟨by decide +kernel, rfl⟩
theorem dX8_addMove_83 : DD cX8_addMove 83 (.iadd) 1 84 := ⟨by decide +kernel, rfl⟩
theorem dX8_addMove_84 : DD cX8_addMove 84 (.iload_n 2) 1 85 := ⟨by decide +kernel, rfl⟩
theorem dX8_addMove_85 : DD cX8_addMove 85 (.invokevirtual 92) 3 88 := ⟨by decide +kernel, rfl⟩
theorem dX8_addMove_88 : DD cX8_addMove 88 (.aload_n 0) 1 89 := ⟨by decide +kernel, rfl⟩
theorem dX8_addMove_89 : DD cX8_addMove 89 (.iload_n 1) 1 90 := ⟨by decide +kernel, rfl⟩
theorem dX8_addMove_90 : DD cX8_addMove 90 (.iconst 1) 1 91 := ⟨by decide +kernel, rfl⟩
theorem dX8_addMove_91 : DD cX8_addMove 91 (.aload_n 0) 1 92 := ⟨by decide +kernel, rfl⟩
theorem dX8_addMove_92 : DD cX8_addMove 92 (.iload_n 1) 1 93 := ⟨by decide +kernel, rfl⟩
theorem dX8_addMove_93 : DD cX8_addMove 93 (.iconst 1) 1 94 := ⟨by decide +kernel, rfl⟩
theorem dX8_addMove_94 : DD cX8_addMove 94 (.invokevirtual 40) 3 97 := ⟨by decide +kernel, rfl⟩
theorem dX8_addMove_97 : DD cX8_addMove 97 (.iconst 1) 1 98 := ⟨by decide +kernel, rfl⟩
theorem dX8_addMove_98 : DD cX8_addMove 98 (.iadd) 1 99 := ⟨by decide +kernel, rfl⟩
theorem dX8_addMove_99 : DD cX8_addMove 99 (.invokevirtual 92) 3 102 := ⟨by decide +kernel, rfl⟩
theorem dX8_addMove_102 : DD cX8_addMove 102 (.aload_n 0) 1 103 := ⟨by decide +kernel, rfl⟩
theorem dX8_addMove_103 : DD cX8_addMove 103 (.iload_n 1) 1 104 := ⟨by decide +kernel, rfl⟩
theorem dX8_addMove_104 : DD cX8_addMove 104 (.iconst 1) 1 105 := ⟨by decide +kernel, rfl⟩
theorem dX8_addMove_105 : DD cX8_addMove 105 (.invokevirtual 40) 3 108 := ⟨by decide +kernel, rfl⟩
theorem dX8_addMove_108 : DD cX8_addMove 108 (.ireturn) 1 109 := ⟨by decide +kernel, rfl⟩
theorem dX8_clearMoves_0 : DD cX8_clearMoves 0 (.aload_n 0) 1 1 := ⟨by decide +kernel, rfl⟩
theorem dX8_clearMoves_1 : DD cX8_clearMoves 1 (.iload_n 1) 1 2 := ⟨by decide +kernel, rfl⟩
theorem dX8_clearMoves_2 : DD cX8_clearMoves 2 (.invokestatic 80) 3 5 := ⟨by decide +kernel, rfl⟩
theorem dX8_clearMoves_5 : DB cX8_clearMoves 5 (.ifCond .eq) 7 3 8 12 := ⟨by decide +kernel, rfl, rfl⟩
theorem dX8_clearMoves_8 : DD cX8_clearMoves 8 (.iconst 0) 1 9 := ⟨by decide +kernel, rfl⟩
theorem dX8_clearMoves_9 : DB cX8_clearMoves 9 (.goto) 4 3 12 13 := ⟨by decide +kernel, rfl, rfl⟩
theorem dX8_clearMoves_12 : DD cX8_clearMoves 12 (.iconst 1) 1 13 := ⟨by decide +kernel, rfl⟩
theorem dX8_clearMoves_13 : DD cX8_clearMoves 13 (.invokevirtual 86) 3 16 := ⟨by decide +kernel, rfl⟩
theorem dX8_clearMoves_16 : DB cX8_clearMoves 16 (.ifCond .ne) 5 3 19 21 := ⟨by decide +kernel, rfl, rfl⟩
theorem dX8_clearMoves_19 : DD cX8_clearMoves 19 (.iconst 0) 1 20 := ⟨by decide +kernel, rfl⟩
theorem dX8_clearMoves_20 : DD cX8_clearMoves 20 (.ireturn) 1 21 := ⟨by decide +kernel, rfl⟩
theorem dX8_clearMoves_21 : DD cX8_clearMoves 21 (.aload_n 0) 1 22 := ⟨by decide +kernel, rfl⟩
theorem dX8_clearMoves_22 : DD cX8_clearMoves 22 (.invokevirtual 89) 3 25 := ⟨by decide +kernel, rfl⟩
theorem dX8_clearMoves_25 : DD cX8_clearMoves 25 (.aload_n 0) 1 26 := ⟨by decide +kernel, rfl⟩
theorem dX8_clearMoves_26 : DD cX8_clearMoves 26 (.iload_n 1) 1 27 := ⟨by decide +kernel, rfl⟩
theorem dX8_clearMoves_27 : DD cX8_clearMoves 27 (.iconst 1) 1 28 := ⟨by decide +kernel, rfl⟩
theorem dX8_clearMoves_28 : DD cX8_clearMoves 28 (.invokevirtual 40) 3 31 := ⟨by decide +kernel, rfl⟩
theorem dX8_clearMoves_31 : DD cX8_clearMoves 31 (.istore_n 2) 1 32 := ⟨by decide +kernel, rfl⟩
theorem dX8_clearMoves_32 : DD cX8_clearMoves 32 (.aload_n 0) 1 33 := ⟨by decide +kernel, rfl⟩
theorem dX8_clearMoves_33 : DD cX8_clearMoves 33 (.iload_n 1) 1 34 := ⟨by decide +kernel, rfl⟩
theorem dX8_clearMoves_34 : DD cX8_clearMoves 34 (.iconst 1) 1 35 := ⟨by decide +kernel, rfl⟩
theorem dX8_clearMoves_35 : DD cX8_clearMoves 35 (.iconst 0) 1 36 := ⟨by decide +kernel, rfl⟩
theorem dX8_clearMoves_36 : DD cX8_clearMoves 36 (.invokevirtual 92) 3 39 := ⟨by decide +kernel, rfl⟩
theorem dX8_clearMoves_39 : DD cX8_clearMoves 39 (.iload_n 2) 1 40 := ⟨by decide +kernel, rfl⟩
theorem dX8_clearMoves_40 : DD cX8_clearMoves 40 (.ireturn) 1 41 := ⟨by decide +kernel, rfl⟩
theorem dX8_mark_0 : DD cX8_mark 0 (.aload_n 0) 1 1 := ⟨by decide +kernel, rfl⟩
theorem dX8_mark_1 : DD cX8_mark 1 (.iload_n 1) 1 2 := ⟨by decide +kernel, rfl⟩
theorem dX8_mark_2 : DD cX8_mark 2 (.invokestatic 80) 3 5 := ⟨by decide +kernel, rfl⟩
theorem dX8_mark_5 : DB cX8_mark 5 (.ifCond .ne) 7 3 8 12 := ⟨by decide +kernel, rfl, rfl⟩
theorem dX8_mark_8 : DD cX8_mark 8 (.iconst 1) 1 9 := ⟨by decide +kernel, rfl⟩
theorem dX8_mark_9 : DB cX8_mark 9 (.goto) 17 3 12 26 := ⟨by decide +kernel, rfl, rfl⟩
theorem dX8_mark_12 : DD cX8_mark 12 (.iload_n 2) 1 13 := ⟨by decide +kernel, rfl⟩
theorem dX8_mark_13 : DD cX8_mark 13 (.iconst 0) 1 14 := ⟨by decide +kernel, rfl⟩
theorem dX8_mark_14 : DD cX8_mark 14 (.iconst 2) 1 15 := ⟨by decide +kernel, rfl⟩
theorem dX8_mark_15 : DD cX8_mark 15 (.invokestatic 36) 3 18 := ⟨by decide +kernel, rfl⟩
theorem dX8_mark_18 : DB cX8_mark 18 (.ifCond .ne) 7 3 21 25 := ⟨by decide +kernel, rfl, rfl⟩
theorem dX8_mark_21 : DD cX8_mark 21 (.iconst 2) 1 22 := ⟨by decide +kernel, rfl⟩
theorem dX8_mark_22 : DB cX8_mark 22 (.goto) 4 3 25 26 := ⟨by decide +kernel, rfl, rfl⟩
theorem dX8_mark_25 : DD cX8_mark 25 (.iconst 0) 1 26 := ⟨by decide +kernel, rfl⟩
theorem dX8_mark_26 : DD cX8_mark 26 (.invokevirtual 86) 3 29 := ⟨by decide +kernel, rfl⟩
theorem dX8_mark_29 : DB cX8_mark 29 (.ifCond .ne) 5 3 32 34 := ⟨by decide +kernel, rfl, rfl⟩
theorem dX8_mark_32 : DD cX8_mark 32 (.iconst 0) 1 33 := ⟨by decide +kernel, rfl⟩
theorem dX8_mark_33 : DD cX8_mark 33 (.ireturn) 1 34 := ⟨by decide +kernel, rfl⟩
theorem dX8_mark_34 : DD cX8_mark 34 (.aload_n 0) 1 35 := ⟨by decide +kernel, rfl⟩
theorem dX8_mark_35 : DD cX8_mark 35 (.invokevirtual 89) 3 38 := ⟨by decide +kernel, rfl⟩
theorem dX8_mark_38 : DD cX8_mark 38 (.aload_n 0) 1 39 := ⟨by decide +kernel, rfl⟩
theorem dX8_mark_39 : DD cX8_mark 39 (.iload_n 1) 1 40 := ⟨by decide +kernel, rfl⟩
theorem dX8_mark_40 : DD cX8_mark 40 (.iconst 0) 1 41 := ⟨by decide +kernel, rfl⟩
theorem dX8_mark_41 : DD cX8_mark 41 (.invokevirtual 40) 3 44 := ⟨by decide +kernel, rfl⟩
theorem dX8_mark_44 : DD cX8_mark 44 (.istore_n 3) 1 45 := ⟨by decide +kernel, rfl⟩
theorem dX8_mark_45 : DD cX8_mark 45 (.aload_n 0) 1 46 := ⟨by decide +kernel, rfl⟩
theorem dX8_mark_46 : DD cX8_mark 46 (.iload_n 1) 1 47 := ⟨by decide +kernel, rfl⟩
theorem dX8_mark_47 : DD cX8_mark 47 (.iconst 0) 1 48 := ⟨by decide +kernel, rfl⟩
theorem dX8_mark_48 : DD cX8_mark 48 (.iload_n 2) 1 49 := ⟨by decide +kernel, rfl⟩
theorem dX8_mark_49 : DD cX8_mark 49 (.invokevirtual 92) 3 52 := ⟨by decide +kernel, rfl⟩
theorem dX8_mark_52 : DD cX8_mark 52 (.iload_n 3) 1 53 := ⟨by decide +kernel, rfl⟩
theorem dX8_mark_53 : DD cX8_mark 53 (.ireturn) 1 54 := ⟨by decide +kernel, rfl⟩
theorem dX8_reverse_0 : DD cX8_reverse 0 (.aload_n 0) 1 1 := ⟨by decide +kernel, rfl⟩
theorem dX8_reverse_1 : DD cX8_reverse 1 (.iconst 0) 1 2 := ⟨by decide +kernel, rfl⟩
theorem dX8_reverse_2 : DD cX8_reverse 2 (.putfield 32) 3 5 := ⟨by decide +kernel, rfl⟩
theorem dX8_reverse_5 : DD cX8_reverse 5 (.aload_n 0) 1 6 := ⟨by decide +kernel, rfl⟩
theorem dX8_reverse_6 : DD cX8_reverse 6 (.invokevirtual 89) 3 9 := ⟨by decide +kernel, rfl⟩
theorem dX8_reverse_9 : DD cX8_reverse 9 (.iconst 0) 1 10 := ⟨by decide +kernel, rfl⟩
theorem dX8_reverse_10 : DD cX8_reverse 10 (.istore_n 1) 1 11 := ⟨by decide +kernel, rfl⟩
theorem dX8_reverse_11 : DD cX8_reverse 11 (.iload_n 1) 1 12 := ⟨by decide +kernel, rfl⟩
theorem dX8_reverse_12 : DD cX8_reverse 12 (.bipush 8) 2 14 := ⟨by decide +kernel, rfl⟩
theorem dX8_reverse_14 : DB cX8_reverse 14 (.if_icmp .ge) 33 3 17 47 := ⟨by decide +kernel, rfl, rfl⟩
theorem dX8_reverse_17 : DD cX8_reverse 17 (.aload_n 0) 1 18 := ⟨by decide +kernel, rfl⟩
theorem dX8_reverse_18 : DD cX8_reverse 18 (.iload_n 1) 1 19 := ⟨by decide +kernel, rfl⟩
theorem dX8_reverse_19 : DD cX8_reverse 19 (.iconst 0) 1 20 := ⟨by decide +kernel, rfl⟩
theorem dX8_reverse_20 : DD cX8_reverse 20 (.invokevirtual 40) 3 23 := ⟨by decide +kernel, rfl⟩
theorem dX8_reverse_23 : DD cX8_reverse 23 (.istore_n 2) 1 24 := ⟨by decide +kernel, rfl⟩
theorem dX8_reverse_24 : DD cX8_reverse 24 (.aload_n 0) 1 25 := ⟨by decide +kernel, rfl⟩
theorem dX8_reverse_25 : DD cX8_reverse 25 (.iload_n 1) 1 26 := ⟨by decide +kernel, rfl⟩
theorem dX8_reverse_26 : DD cX8_reverse 26 (.iconst 0) 1 27 := ⟨by decide +kernel, rfl⟩
theorem dX8_reverse_27 : DD cX8_reverse 27 (.iload_n 2) 1 28 := ⟨by decide +kernel, rfl⟩
theorem dX8_reverse_28 : DB cX8_reverse 28 (.ifCond .ne) 7 3 31 35 := ⟨by decide +kernel, rfl, rfl⟩
theorem dX8_reverse_31 : DD cX8_reverse 31 (.iconst 0) 1 32 := ⟨by decide +kernel, rfl⟩
theorem dX8_reverse_32 : DB cX8_reverse 32 (.goto) 6 3 35 38 := ⟨by decide +kernel, rfl, rfl⟩
theorem dX8_reverse_35 : DD cX8_reverse 35 (.iconst 3) 1 36 := ⟨by decide +kernel, rfl⟩
theorem dX8_reverse_36 : DD cX8_reverse 36 (.iload_n 2) 1 37 := ⟨by decide +kernel, rfl⟩
theorem dX8_reverse_37 : DD cX8_reverse 37 (.isub) 1 38 := ⟨by decide +kernel, rfl⟩
theorem dX8_reverse_38 : DD cX8_reverse 38 (.invokevirtual 92) 3 41 := ⟨by decide +kernel, rfl⟩
theorem dX8_reverse_41 : DD cX8_reverse 41 (.iinc 1 1) 3 44 := ⟨by decide +kernel, rfl⟩
theorem dX8_reverse_44 : DB cX8_reverse 44 (.goto) (-33) 3 47 11 := ⟨by decide +kernel, rfl, rfl⟩
theorem dX8_reverse_47 : DD cX8_reverse 47 (.aload_n 0) 1 48 := ⟨by decide +kernel, rfl⟩
theorem dX8_reverse_48 : DD cX8_reverse 48 (.getfield 7) 3 51 := ⟨by decide +kernel, rfl⟩
theorem dX8_reverse_51 : DD cX8_reverse 51 (.iconst 2) 1 52 := ⟨by decide +kernel, rfl⟩
theorem dX8_reverse_52 : DD cX8_reverse 52 (.aload_n 0) 1 53 := ⟨by decide +kernel, rfl⟩
theorem dX8_reverse_53 : DD cX8_reverse 53 (.getfield 7) 3 56 := ⟨by decide +kernel, rfl⟩
theorem dX8_reverse_56 : DD cX8_reverse 56 (.iconst 0) 1 57 := ⟨by decide +kernel, rfl⟩
theorem dX8_reverse_57 : DD cX8_reverse 57 (.iaload) 1 58 := ⟨by decide +kernel, rfl⟩
theorem dX8_reverse_58 : DD cX8_reverse 58 (.aload_n 0) 1 59 := ⟨by decide +kernel, rfl⟩
theorem dX8_reverse_59 : DD cX8_reverse 59 (.getfield 7) 3 62 := ⟨by decide +kernel, rfl⟩
theorem dX8_reverse_62 : DD cX8_reverse 62 (.iconst 2) 1 63 := ⟨by decide +kernel, rfl⟩
theorem dX8_reverse_63 : DD cX8_reverse 63 (.iaload) 1 64 := ⟨by decide +kernel, rfl⟩
theorem dX8_reverse_64 : DD cX8_reverse 64 (.isub) 1 65 := ⟨by decide +kernel, rfl⟩
theorem dX8_reverse_65 : DD cX8_reverse 65 (.iastore) 1 66 := ⟨by decide +kernel, rfl⟩
theorem dX8_reverse_66 : DD cX8_reverse 66 (.aload_n 0) 1 67 := ⟨by decide +kernel, rfl⟩
theorem dX8_reverse_67 : DD cX8_reverse 67 (.getfield 7) 3 70 := ⟨by decide +kernel, rfl⟩
theorem dX8_reverse_70 : DD cX8_reverse 70 (.iconst 3) 1 71 := ⟨by decide +kernel, rfl⟩
theorem dX8_reverse_71 : DD cX8_reverse 71 (.iconst 1) 1 72 := ⟨by decide +kernel, rfl⟩
theorem dX8_reverse_72 : DD cX8_reverse 72 (.aload_n 0) 1 73 := ⟨by decide +kernel, rfl⟩
theorem dX8_reverse_73 : DD cX8_reverse 73 (.getfield 7) 3 76 := ⟨by decide +kernel, rfl⟩
theorem dX8_reverse_76 : DD cX8_reverse 76 (.iconst 3) 1 77 := ⟨by decide +kernel, rfl⟩
theorem dX8_reverse_77 : DD cX8_reverse 77 (.iaload) 1 78 := ⟨by decide +kernel, rfl⟩
theorem dX8_reverse_78 : DD cX8_reverse 78 (.isub) 1 79 := ⟨by decide +kernel, rfl⟩
theorem dX8_reverse_79 : DD cX8_reverse 79 (.iastore) 1 80 := ⟨by decide +kernel, rfl⟩
theorem dX8_reverse_80 : DD cX8_reverse 80 (.aload_n 0) 1 81 := ⟨by decide +kernel, rfl⟩
theorem dX8_reverse_81 : DD cX8_reverse 81 (.getfield 7) 3 84 := ⟨by decide +kernel, rfl⟩
theorem dX8_reverse_84 : DD cX8_reverse 84 (.iconst 5) 1 85 := ⟨by decide +kernel, rfl⟩
theorem dX8_reverse_85 : DD cX8_reverse 85 (.aload_n 0) 1 86 := ⟨by decide +kernel, rfl⟩
theorem dX8_reverse_86 : DD cX8_reverse 86 (.getfield 7) 3 89 := ⟨by decide +kernel, rfl⟩
theorem dX8_reverse_89 : DD cX8_reverse 89 (.iconst 5) 1 90 := ⟨by decide +kernel, rfl⟩
theorem dX8_reverse_90 : DD cX8_reverse 90 (.iaload) 1 91 := ⟨by decide +kernel, rfl⟩
theorem dX8_reverse_91 : DB cX8_reverse 91 (.ifCond .ne) 7 3 94 98 := ⟨by decide +kernel, rfl, rfl⟩
theorem dX8_reverse_94 : DD cX8_reverse 94 (.iconst 0) 1 95 := ⟨by decide +kernel, rfl⟩
theorem dX8_reverse_95 : DB cX8_reverse 95 (.goto) 11 3 98 106 := ⟨by decide +kernel, rfl, rfl⟩
theorem dX8_reverse_98 : DD cX8_reverse 98 (.iconst 3) 1 99 := ⟨by decide +kernel, rfl⟩
theorem dX8_reverse_99 : DD cX8_reverse 99 (.aload_n 0) 1 100 := ⟨by decide +kernel, rfl⟩
theorem dX8_reverse_100 : DD cX8_reverse 100 (.getfield 7) 3 103 := ⟨by decide +kernel, rfl⟩
theorem dX8_reverse_103 : DD cX8_reverse 103 (.iconst 5) 1 104 := ⟨by decide +kernel, rfl⟩
theorem dX8_reverse_104 : DD cX8_reverse 104 (.iaload) 1 105 := ⟨by decide +kernel, rfl⟩
theorem dX8_reverse_105 : DD cX8_reverse 105 (.isub) 1 106 := ⟨by decide +kernel, rfl⟩
theorem dX8_reverse_106 : DD cX8_reverse 106 (.iastore) 1 107 := ⟨by decide +kernel, rfl⟩
theorem dX8_reverse_107 : DD cX8_reverse 107 (.aload_n 0) 1 108 := ⟨by decide +kernel, rfl⟩
theorem dX8_reverse_108 : DD cX8_reverse 108 (.getfield 7) 3 111 := ⟨by decide +kernel, rfl⟩
theorem dX8_reverse_111 : DD cX8_reverse 111 (.iconst 2) 1 112 := ⟨by decide +kernel, rfl⟩
theorem dX8_reverse_112 : DD cX8_reverse 112 (.iaload) 1 113 := ⟨by decide +kernel, rfl⟩
theorem dX8_reverse_113 : DD cX8_reverse 113 (.ireturn) 1 114 := ⟨by decide +kernel, rfl⟩
theorem dX8_set_0 : DD cX8_set 0 (.aload_n 0) 1 1 := ⟨by decide +kernel, rfl⟩
theorem dX8_set_1 : DD cX8_set 1 (.iload_n 1) 1 2 := ⟨by decide +kernel, rfl⟩
theorem dX8_set_2 : DD cX8_set 2 (.invokestatic 96) 3 5 := ⟨by decide +kernel, rfl⟩
theorem dX8_set_5 : DB cX8_set 5 (.ifCond .ne) 7 3 8 12 := ⟨by decide +kernel, rfl, rfl⟩
theorem dX8_set_8 : DD cX8_set 8 (.iconst 1) 1 9 := ⟨by decide +kernel, rfl⟩
theorem dX8_set_9 : DB cX8_set 9 (.goto) 27 3 12 36 := ⟨by decide +kernel, rfl, rfl⟩
theorem dX8_set_12 : DD cX8_set 12 (.iload_n 2) 1 13 := ⟨by decide +kernel, rfl⟩
theorem dX8_set_13 : DD cX8_set 13 (.iconst 0) 1 14 := ⟨by decide +kernel, rfl⟩
theorem dX8_set_14 : DD cX8_set 14 (.iload_n 1) 1 15 := ⟨by decide +kernel, rfl⟩
theorem dX8_set_15 : DB cX8_set 15 (.ifCond .ne) 8 3 18 23 := ⟨by decide +kernel, rfl, rfl⟩
theorem dX8_set_18 : DD cX8_set 18 (.bipush 20) 2 20 := ⟨by decide +kernel, rfl⟩
theorem dX8_set_20 : DB cX8_set 20 (.goto) 5 3 23 25 := ⟨by decide +kernel, rfl, rfl⟩
theorem dX8_set_23 : DD cX8_set 23 (.bipush 12) 2 25 := ⟨by decide +kernel, rfl⟩
theorem dX8_set_25 : DD cX8_set 25 (.invokestatic 36) 3 28 := ⟨by decide +kernel, rfl⟩
theorem dX8_set_28 : DB cX8_set 28 (.ifCond .ne) 7 3 31 35 := ⟨by decide +kernel, rfl, rfl⟩
theorem dX8_set_31 : DD cX8_set 31 (.iconst 2) 1 32 := ⟨by decide +kernel, rfl⟩
theorem dX8_set_32 : DB cX8_set 32 (.goto) 4 3 35 36 := ⟨by decide +kernel, rfl, rfl⟩
theorem dX8_set_35 : DD cX8_set 35 (.iconst 0) 1 36 := ⟨by decide +kernel, rfl⟩
theorem dX8_set_36 : DD cX8_set 36 (.invokevirtual 86) 3 39 := ⟨by decide +kernel, rfl⟩
theorem dX8_set_39 : DB cX8_set 39 (.ifCond .ne) 5 3 42 44 := ⟨by decide +kernel, rfl, rfl⟩
theorem dX8_set_42 : DD cX8_set 42 (.iconst 0) 1 43 := ⟨by decide +kernel, rfl⟩
theorem dX8_set_43 : DD cX8_set 43 (.ireturn) 1 44 := ⟨by decide +kernel, rfl⟩
theorem dX8_set_44 : DD cX8_set 44 (.aload_n 0) 1 45 := ⟨by decide +kernel, rfl⟩
theorem dX8_set_45 : DD cX8_set 45 (.invokevirtual 89) 3 48 := ⟨by decide +kernel, rfl⟩
theorem dX8_set_48 : DD cX8_set 48 (.aload_n 0) 1 49 := ⟨by decide +kernel, rfl⟩
theorem dX8_set_49 : DD cX8_set 49 (.getfield 7) 3 52 := ⟨by decide +kernel, rfl⟩
theorem dX8_set_52 : DD cX8_set 52 (.iconst 0) 1 53 := ⟨by decide +kernel, rfl⟩
theorem dX8_set_53 : DD cX8_set 53 (.iload_n 1) 1 54 := ⟨by decide +kernel, rfl⟩
theorem dX8_set_54 : DD cX8_set 54 (.iadd) 1 55 := ⟨by decide +kernel, rfl⟩
theorem dX8_set_55 : DD cX8_set 55 (.iaload) 1 56 := ⟨by decide +kernel, rfl⟩
theorem dX8_set_56 : DD cX8_set 56 (.istore_n 3) 1 57 := ⟨by decide +kernel, rfl⟩
theorem dX8_set_57 : DD cX8_set 57 (.aload_n 0) 1 58 := ⟨by decide +kernel, rfl⟩
theorem dX8_set_58 : DD cX8_set 58 (.getfield 7) 3 61 := ⟨by decide +kernel, rfl⟩
theorem dX8_set_61 : DD cX8_set 61 (.iconst 0) 1 62 := ⟨by decide +kernel, rfl⟩
theorem dX8_set_62 : DD cX8_set 62 (.iload_n 1) 1 63 := ⟨by decide +kernel, rfl⟩
theorem dX8_set_63 : DD cX8_set 63 (.iadd) 1 64 := ⟨by decide +kernel, rfl⟩
theorem dX8_set_64 : DD cX8_set 64 (.iload_n 2) 1 65 := ⟨by decide +kernel, rfl⟩
theorem dX8_set_65 : DD cX8_set 65 (.iastore) 1 66 := ⟨by decide +kernel, rfl⟩
theorem dX8_set_66 : DD cX8_set 66 (.aload_n 0) 1 67 := ⟨by decide +kernel, rfl⟩
theorem dX8_set_67 : DD cX8_set 67 (.getfield 7) 3 70 := ⟨by decide +kernel, rfl⟩
theorem dX8_set_70 : DD cX8_set 70 (.iconst 2) 1 71 := ⟨by decide +kernel, rfl⟩
theorem dX8_set_71 : DD cX8_set 71 (.iload_n 1) 1 72 := ⟨by decide +kernel, rfl⟩
theorem dX8_set_72 : DB cX8_set 72 (.ifCond .ne) 9 3 75 81 := ⟨by decide +kernel, rfl, rfl⟩
theorem dX8_set_75 : DD cX8_set 75 (.iload_n 2) 1 76 := ⟨by decide +kernel, rfl⟩
theorem dX8_set_76 : DD cX8_set 76 (.iconst 2) 1 77 := ⟨by decide +kernel, rfl⟩
theorem dX8_set_77 : DD cX8_set 77 (.idiv) 1 78 := ⟨by decide +kernel, rfl⟩
theorem dX8_set_78 : DB cX8_set 78 (.goto) 9 3 81 87 := ⟨by decide +kernel, rfl, rfl⟩
theorem dX8_set_81 : DD cX8_set 81 (.aload_n 0) 1 82 := ⟨by decide +kernel, rfl⟩
theorem dX8_set_82 : DD cX8_set 82 (.getfield 7) 3 85 := ⟨by decide +kernel, rfl⟩
theorem dX8_set_85 : DD cX8_set 85 (.iconst 2) 1 86 := ⟨by decide +kernel, rfl⟩
theorem dX8_set_86 : DD cX8_set 86 (.iaload) 1 87 := ⟨by decide +kernel, rfl⟩
theorem dX8_set_87 : DD cX8_set 87 (.iastore) 1 88 := ⟨by decide +kernel, rfl⟩
theorem dX8_set_88 : DD cX8_set 88 (.iload_n 3) 1 89 := ⟨by decide +kernel, rfl⟩
theorem dX8_set_89 : DD cX8_set 89 (.ireturn) 1 90 := ⟨by decide +kernel, rfl⟩
theorem dX8_place_0 : DD cX8_place 0 (.aload_n 0) 1 1 := ⟨by decide +kernel, rfl⟩
theorem dX8_place_1 : DD cX8_place 1 (.iload_n 1) 1 2 := ⟨by decide +kernel, rfl⟩
theorem dX8_place_2 : DD cX8_place 2 (.invokestatic 80) 3 5 := ⟨by decide +kernel, rfl⟩
theorem dX8_place_5 : DB cX8_place 5 (.ifCond .ne) 7 3 8 12 := ⟨by decide +kernel, rfl, rfl⟩
theorem dX8_place_8 : DD cX8_place 8 (.iconst 1) 1 9 := ⟨by decide +kernel, rfl⟩
theorem dX8_place_9 : DB cX8_place 9 (.goto) 29 3 12 38 := ⟨by decide +kernel, rfl, rfl⟩
theorem dX8_place_12 : DD cX8_place 12 (.iload_n 2) 1 13 := ⟨by decide +kernel, rfl⟩
theorem dX8_place_13 : DD cX8_place 13 (.iconst 0) 1 14 := ⟨by decide +kernel, rfl⟩
theorem dX8_place_14 : DD cX8_place 14 (.aload_n 0) 1 15 := ⟨by decide +kernel, rfl⟩
theorem dX8_place_15 : DD cX8_place 15 (.getfield 7) 3 18 := ⟨by decide +kernel, rfl⟩
theorem dX8_place_18 : DD cX8_place 18 (.iconst 0) 1 19 := ⟨by decide +kernel, rfl⟩
theorem dX8_place_19 : DD cX8_place 19 (.iaload) 1 20 := ⟨by decide +kernel, rfl⟩
theorem dX8_place_20 : DD cX8_place 20 (.invokestatic 36) 3 23 := ⟨by decide +kernel, rfl⟩
theorem dX8_place_23 : DB cX8_place 23 (.ifCond .eq) 10 3 26 33 := ⟨by decide +kernel, rfl, rfl⟩
theorem dX8_place_26 : DD cX8_place 26 (.iload_n 3) 1 27 := ⟨by decide +kernel, rfl⟩
theorem dX8_place_27 : DD cX8_place 27 (.invokestatic 96) 3 30 := ⟨by decide +kernel, rfl⟩
theorem dX8_place_30 : DB cX8_place 30 (.ifCond .ne) 7 3 33 37 := ⟨by decide +kernel, rfl, rfl⟩
theorem dX8_place_33 : DD cX8_place 33 (.iconst 2) 1 34 := ⟨by decide +kernel, rfl⟩
theorem dX8_place_34 : DB cX8_place 34 (.goto) 4 3 37 38 := ⟨by decide +kernel, rfl, rfl⟩
theorem dX8_place_37 : DD cX8_place 37 (.iconst 0) 1 38 := ⟨by decide +kernel, rfl⟩
theorem dX8_place_38 : DD cX8_place 38 (.invokevirtual 86) 3 41 := ⟨by decide +kernel, rfl⟩
theorem dX8_place_41 : DB cX8_place 41 (.ifCond .ne) 5 3 44 46 := ⟨by decide +kernel, rfl, rfl⟩
theorem dX8_place_44 : DD cX8_place 44 (.iconst 0) 1 45 := ⟨by decide +kernel, rfl⟩
theorem dX8_place_45 : DD cX8_place 45 (.ireturn) 1 46 := ⟨by decide +kernel, rfl⟩
theorem dX8_place_46 : DD cX8_place 46 (.aload_n 0) 1 47 := ⟨by decide +kernel, rfl⟩
theorem dX8_place_47 : DD cX8_place 47 (.invokevirtual 89) 3 50 := ⟨by decide +kernel, rfl⟩
theorem dX8_place_50 : DD cX8_place 50 (.aload_n 0) 1 51 := ⟨by decide +kernel, rfl⟩
theorem dX8_place_51 : DD cX8_place 51 (.getfield 7) 3 54 := ⟨by decide +kernel, rfl⟩
theorem dX8_place_54 : DD cX8_place 54 (.iconst 4) 1 55 := ⟨by decide +kernel, rfl⟩
theorem dX8_place_55 : DD cX8_place 55 (.iload_n 1) 1 56 := ⟨by decide +kernel, rfl⟩
theorem dX8_place_56 : DD cX8_place 56 (.iastore) 1 57 := ⟨by decide +kernel, rfl⟩
theorem dX8_place_57 : DD cX8_place 57 (.aload_n 0) 1 58 := ⟨by decide +kernel, rfl⟩
theorem dX8_place_58 : DD cX8_place 58 (.getfield 7) 3 61 := ⟨by decide +kernel, rfl⟩
theorem dX8_place_61 : DD cX8_place 61 (.iconst 2) 1 62 := ⟨by decide +kernel, rfl⟩
theorem dX8_place_62 : DD cX8_place 62 (.iload_n 2) 1 63 := ⟨by decide +kernel, rfl⟩
theorem dX8_place_63 : DD cX8_place 63 (.iastore) 1 64 := ⟨by decide +kernel, rfl⟩
theorem dX8_place_64 : DD cX8_place 64 (.aload_n 0) 1 65 := ⟨by decide +kernel, rfl⟩
theorem dX8_place_65 : DD cX8_place 65 (.getfield 7) 3 68 := ⟨by decide +kernel, rfl⟩
theorem dX8_place_68 : DD cX8_place 68 (.iconst 3) 1 69 := ⟨by decide +kernel, rfl⟩
theorem dX8_place_69 : DD cX8_place 69 (.iload_n 3) 1 70 := ⟨by decide +kernel, rfl⟩
theorem dX8_place_70 : DD cX8_place 70 (.iastore) 1 71 := ⟨by decide +kernel, rfl⟩
theorem dX8_place_71 : DD cX8_place 71 (.aload_n 0) 1 72 := ⟨by decide +kernel, rfl⟩
theorem dX8_place_72 : DD cX8_place 72 (.getfield 7) 3 75 := ⟨by decide +kernel, rfl⟩
theorem dX8_place_75 : DD cX8_place 75 (.iconst 5) 1 76 := ⟨by decide +kernel, rfl⟩
theorem dX8_place_76 : DD cX8_place 76 (.iconst 0) 1 77 := ⟨by decide +kernel, rfl⟩
theorem dX8_place_77 : DD cX8_place 77 (.iastore) 1 78 := ⟨by decide +kernel, rfl⟩
theorem dX8_place_78 : DD cX8_place 78 (.aload_n 0) 1 79 := ⟨by decide +kernel, rfl⟩
theorem dX8_place_79 : DD cX8_place 79 (.iload_n 1) 1 80 := ⟨by decide +kernel, rfl⟩
theorem dX8_place_80 : DD cX8_place 80 (.invokevirtual 69) 3 83 := ⟨by decide +kernel, rfl⟩
theorem dX8_place_83 : DB cX8_place 83 (.ifCond .eq) 7 3 86 90 := ⟨by decide +kernel, rfl, rfl⟩
theorem dX8_place_86 : DD cX8_place 86 (.iconst 1) 1 87 := ⟨by decide +kernel, rfl⟩
theorem dX8_place_87 : DB cX8_place 87 (.goto) 4 3 90 91 := ⟨by decide +kernel, rfl, rfl⟩
theorem dX8_place_90 : DD cX8_place 90 (.iconst 0) 1 91 := ⟨by decide +kernel, rfl⟩
theorem dX8_place_91 : DD cX8_place 91 (.ireturn) 1 92 := ⟨by decide +kernel, rfl⟩
theorem dX8_refuse_0 : DD cX8_refuse 0 (.aload_n 0) 1 1 := ⟨by decide +kernel, rfl⟩
theorem dX8_refuse_1 : DD cX8_refuse 1 (.getfield 7) 3 4 := ⟨by decide +kernel, rfl⟩
theorem dX8_refuse_4 : DD cX8_refuse 4 (.bipush 11) 2 6 := ⟨by decide +kernel, rfl⟩
theorem dX8_refuse_6 : DD cX8_refuse 6 (.dup2) 1 7 := ⟨by decide +kernel, rfl⟩
theorem dX8_refuse_7 : DD cX8_refuse 7 (.iaload) 1 8 := ⟨by decide +kernel, rfl⟩
theorem dX8_refuse_8 : DD cX8_refuse 8 (.iconst 1) 1 9 := ⟨by decide +kernel, rfl⟩
theorem dX8_refuse_9 : DD cX8_refuse 9 (.iadd) 1 10 := ⟨by decide +kernel, rfl⟩
theorem dX8_refuse_10 : DD cX8_refuse 10 (.iastore) 1 11 := ⟨by decide +kernel, rfl⟩
theorem dX8_refuse_11 : DD cX8_refuse 11 (.iload_n 1) 1 12 := ⟨by decide +kernel, rfl⟩
theorem dX8_refuse_12 : DD cX8_refuse 12 (.ireturn) 1 13 := ⟨by decide +kernel, rfl⟩
theorem dX8_bid_0 : DD cX8_bid 0 (.aload_n 0) 1 1 := ⟨by decide +kernel, rfl⟩
theorem dX8_bid_1 : DD cX8_bid 1 (.iconst 0) 1 2 := ⟨by decide +kernel, rfl⟩
theorem dX8_bid_2 : DD cX8_bid 2 (.putfield 32) 3 5 := ⟨by decide +kernel, rfl⟩
theorem dX8_bid_5 : DD cX8_bid 5 (.aload_n 0) 1 6 := ⟨by decide +kernel, rfl⟩
theorem dX8_bid_6 : DD cX8_bid 6 (.invokevirtual 89) 3 9 := ⟨by decide +kernel, rfl⟩
theorem dX8_bid_9 : DD cX8_bid 9 (.aload_n 0) 1 10 := ⟨by decide +kernel, rfl⟩
theorem dX8_bid_10 : DD cX8_bid 10 (.aload_n 0) 1 11 := ⟨by decide +kernel, rfl⟩
theorem dX8_bid_11 : DD cX8_bid 11 (.getfield 7) 3 14 := ⟨by decide +kernel, rfl⟩
theorem dX8_bid_14 : DD cX8_bid 14 (.iconst 4) 1 15 := ⟨by decide +kernel, rfl⟩
theorem dX8_bid_15 : DD cX8_bid 15 (.iaload) 1 16 := ⟨by decide +kernel, rfl⟩
theorem dX8_bid_16 : DD cX8_bid 16 (.invokevirtual 69) 3 19 := ⟨by decide +kernel, rfl⟩
theorem dX8_bid_19 : DB cX8_bid 19 (.ifCond .eq) 9 3 22 28 := ⟨by decide +kernel, rfl, rfl⟩
theorem dX8_bid_22 : DD cX8_bid 22 (.aload_n 0) 1 23 := ⟨by decide +kernel, rfl⟩
theorem dX8_bid_23 : DD cX8_bid 23 (.iconst 1) 1 24 := ⟨by decide +kernel, rfl⟩
theorem dX8_bid_24 : DD cX8_bid 24 (.invokevirtual 99) 3 27 := ⟨by decide +kernel, rfl⟩
theorem dX8_bid_27 : DD cX8_bid 27 (.ireturn) 1 28 := ⟨by decide +kernel, rfl⟩
theorem dX8_bid_28 : DD cX8_bid 28 (.aload_n 0) 1 29 := ⟨by decide +kernel, rfl⟩
theorem dX8_bid_29 : DD cX8_bid 29 (.getfield 7) 3 32 := ⟨by decide +kernel, rfl⟩
theorem dX8_bid_32 : DD cX8_bid 32 (.iconst 5) 1 33 := ⟨by decide +kernel, rfl⟩
theorem dX8_bid_33 : DD cX8_bid 33 (.iaload) 1 34 := ⟨by decide +kernel, rfl⟩
theorem dX8_bid_34 : DB cX8_bid 34 (.ifCond .le) 9 3 37 43 := ⟨by decide +kernel, rfl, rfl⟩
theorem dX8_bid_37 : DD cX8_bid 37 (.aload_n 0) 1 38 := ⟨by decide +kernel, rfl⟩
theorem dX8_bid_38 : DD cX8_bid 38 (.iconst 2) 1 39 := ⟨by decide +kernel, rfl⟩
theorem dX8_bid_39 : DD cX8_bid 39 (.invokevirtual 99) 3 42 := ⟨by decide +kernel, rfl⟩
theorem dX8_bid_42 : DD cX8_bid 42 (.ireturn) 1 43 := ⟨by decide +kernel, rfl⟩
theorem dX8_bid_43 : DD cX8_bid 43 (.iload_n 1) 1 44 := ⟨by decide +kernel, rfl⟩
theorem dX8_bid_44 : DB cX8_bid 44 (.ifCond .lt) 7 3 47 51 := ⟨by decide +kernel, rfl, rfl⟩
theorem dX8_bid_47 : DD cX8_bid 47 (.iload_n 2) 1 48 := ⟨by decide +kernel, rfl⟩
theorem dX8_bid_48 : DB cX8_bid 48 (.ifCond .ge) 9 3 51 57 := ⟨by decide +kernel, rfl, rfl⟩
theorem dX8_bid_51 : DD cX8_bid 51 (.aload_n 0) 1 52 := ⟨by decide +kernel, rfl⟩
theorem dX8_bid_52 : DD cX8_bid 52 (.iconst 3) 1 53 := ⟨by decide +kernel, rfl⟩
theorem dX8_bid_53 : DD cX8_bid 53 (.invokevirtual 99) 3 56 := ⟨by decide +kernel, rfl⟩
theorem dX8_bid_56 : DD cX8_bid 56 (.ireturn) 1 57 := ⟨by decide +kernel, rfl⟩
theorem dX8_bid_57 : DD cX8_bid 57 (.iload_n 1) 1 58 := ⟨by decide +kernel, rfl⟩
theorem dX8_bid_58 : DD cX8_bid 58 (.aload_n 0) 1 59 := ⟨by decide +kernel, rfl⟩
theorem dX8_bid_59 : DD cX8_bid 59 (.iconst 0) 1 60 := ⟨by decide +kernel, rfl⟩
theorem dX8_bid_60 : DD cX8_bid 60 (.invokevirtual 103) 3 63 := ⟨by decide +kernel, rfl⟩
theorem dX8_bid_63 : DB cX8_bid 63 (.if_icmp .gt) 12 3 66 75 := ⟨by decide +kernel, rfl, rfl⟩
theorem dX8_bid_66 : DD cX8_bid 66 (.iload_n 2) 1 67 := ⟨by decide +kernel, rfl⟩
theorem dX8_bid_67 : DD cX8_bid 67 (.aload_n 0) 1 68 := ⟨by decide +kernel, rfl⟩
theorem dX8_bid_68 : DD cX8_bid 68 (.iconst 1) 1 69 := ⟨by decide +kernel, rfl⟩
theorem dX8_bid_69 : DD cX8_bid 69 (.invokevirtual 103) 3 72 := ⟨by decide +kernel, rfl⟩
theorem dX8_bid_72 : DB cX8_bid 72 (.if_icmp .le) 9 3 75 81 := ⟨by decide +kernel, rfl, rfl⟩
theorem dX8_bid_75 : DD cX8_bid 75 (.aload_n 0) 1 76 := ⟨by decide +kernel, rfl⟩
theorem dX8_bid_76 : DD cX8_bid 76 (.iconst 4) 1 77 := ⟨by decide +kernel, rfl⟩
theorem dX8_bid_77 : DD cX8_bid 77 (.invokevirtual 99) 3 80 := ⟨by decide +kernel, rfl⟩
theorem dX8_bid_80 : DD cX8_bid 80 (.ireturn) 1 81 := ⟨by decide +kernel, rfl⟩
theorem dX8_bid_81 : DD cX8_bid 81 (.iload_n 1) 1 82 := ⟨by decide +kernel, rfl⟩
theorem dX8_bid_82 : DD cX8_bid 82 (.iload_n 2) 1 83 := ⟨by decide +kernel, rfl⟩
theorem dX8_bid_83 : DB cX8_bid 83 (.if_icmp .le) 7 3 86 90 := ⟨by decide +kernel, rfl, rfl⟩
theorem dX8_bid_86 : DD cX8_bid 86 (.iconst 0) 1 87 := ⟨by decide +kernel, rfl⟩
theorem dX8_bid_87 : DB cX8_bid 87 (.goto) 18 3 90 105 := ⟨by decide +kernel, rfl, rfl⟩
theorem dX8_bid_90 : DD cX8_bid 90 (.iload_n 1) 1 91 := ⟨by decide +kernel, rfl⟩
theorem dX8_bid_91 : DD cX8_bid 91 (.iload_n 2) 1 92 := ⟨by decide +kernel, rfl⟩
theorem dX8_bid_92 : DB cX8_bid 92 (.if_icmp .ge) 7 3 95 99 := ⟨by decide +kernel, rfl, rfl⟩
theorem dX8_bid_95 : DD cX8_bid 95 (.iconst 1) 1 96 := ⟨by decide +kernel, rfl⟩
theorem dX8_bid_96 : DB cX8_bid 96 (.goto) 9 3 99 105 := ⟨by decide +kernel, rfl, rfl⟩
theorem dX8_bid_99 : DD cX8_bid 99 (.aload_n 0) 1 100 := ⟨by decide +kernel, rfl⟩
theorem dX8_bid_100 : DD cX8_bid 100 (.getfield 7) 3 103 := ⟨by decide +kernel, rfl⟩
theorem dX8_bid_103 : DD cX8_bid 103 (.iconst 3) 1 104 := ⟨by decide +kernel, rfl⟩
theorem dX8_bid_104 : DD cX8_bid 104 (.iaload) 1 105 := ⟨by decide +kernel, rfl⟩
theorem dX8_bid_105 : DD cX8_bid 105 (.istore_n 3) 1 106 := ⟨by decide +kernel, rfl⟩
theorem dX8_bid_106 : DD cX8_bid 106 (.iload_n 3) 1 107 := ⟨by decide +kernel, rfl⟩
theorem dX8_bid_107 : DB cX8_bid 107 (.ifCond .ne) 7 3 110 114 := ⟨by decide +kernel, rfl, rfl⟩
theorem dX8_bid_110 : DD cX8_bid 110 (.iload_n 1) 1 111 := ⟨by decide +kernel, rfl⟩
theorem dX8_bid_111 : DB cX8_bid 111 (.goto) 4 3 114 115 := ⟨by decide +kernel, rfl, rfl⟩
theorem dX8_bid_114 : DD cX8_bid 114 (.iload_n 2) 1 115 := ⟨by decide +kernel, rfl⟩
theorem dX8_bid_115 : DD cX8_bid 115 (.istore 4) 2 117 := ⟨by decide +kernel, rfl⟩
theorem dX8_bid_117 : DD cX8_bid 117 (.iload_n 1) 1 118 := ⟨by decide +kernel, rfl⟩
theorem dX8_bid_118 : DD cX8_bid 118 (.iload_n 2) 1 119 := ⟨by decide +kernel, rfl⟩
theorem dX8_bid_119 : DB cX8_bid 119 (.if_icmp .ne) 23 3 122 142 := ⟨by decide +kernel, rfl, rfl⟩
theorem dX8_bid_122 : DD cX8_bid 122 (.aload_n 0) 1 123 := ⟨by decide +kernel, rfl⟩
theorem dX8_bid_123 : DD cX8_bid 123 (.getfield 7) 3 126 := ⟨by decide +kernel, rfl⟩
theorem dX8_bid_126 : DD cX8_bid 126 (.bipush 10) 2 128 := ⟨by decide +kernel, rfl⟩
theorem dX8_bid_128 : DD cX8_bid 128 (.dup2) 1 129 := ⟨by decide +kernel, rfl⟩
theorem dX8_bid_129 : DD cX8_bid 129 (.iaload) 1 130 := ⟨by decide +kernel, rfl⟩
theorem dX8_bid_130 : DD cX8_bid 130 (.iconst 1) 1 131 := ⟨by decide +kernel, rfl⟩
theorem dX8_bid_131 : DD cX8_bid 131 (.iadd) 1 132 := ⟨by decide +kernel, rfl⟩
theorem dX8_bid_132 : DD cX8_bid 132 (.iastore) 1 133 := ⟨by decide +kernel, rfl⟩
theorem dX8_bid_133 : DD cX8_bid 133 (.aload_n 0) 1 134 := ⟨by decide +kernel, rfl⟩
theorem dX8_bid_134 : DD cX8_bid 134 (.getfield 7) 3 137 := ⟨by decide +kernel, rfl⟩
theorem dX8_bid_137 : DD cX8_bid 137 (.iconst 3) 1 138 := ⟨by decide +kernel, rfl⟩
theorem dX8_bid_138 : DD cX8_bid 138 (.iconst 1) 1 139 := ⟨by decide +kernel, rfl⟩
theorem dX8_bid_139 : DD cX8_bid 139 (.iload_n 3) 1 140 := ⟨by decide +kernel, rfl⟩
theorem dX8_bid_140 : DD cX8_bid 140 (.isub) 1 141 := ⟨by decide +kernel, rfl⟩
theorem dX8_bid_141 : DD cX8_bid 141 (.iastore) 1 142 := ⟨by decide +kernel, rfl⟩
theorem dX8_bid_142 : DD cX8_bid 142 (.aload_n 0) 1 143 := ⟨by decide +kernel, rfl⟩
theorem dX8_bid_143 : DD cX8_bid 143 (.getfield 7) 3 146 := ⟨by decide +kernel, rfl⟩
theorem dX8_bid_146 : DD cX8_bid 146 (.iconst 2) 1 147 := ⟨by decide +kernel, rfl⟩
theorem dX8_bid_147 : DD cX8_bid 147 (.dup2) 1 148 := ⟨by decide +kernel, rfl⟩
theorem dX8_bid_148 : DD cX8_bid 148 (.iaload) 1 149 := ⟨by decide +kernel, rfl⟩
theorem dX8_bid_149 : DD cX8_bid 149 (.iload_n 3) 1 150 := ⟨by decide +kernel, rfl⟩
theorem dX8_bid_150 : DB cX8_bid 150 (.ifCond .ne) 9 3 153 159 := ⟨by decide +kernel, rfl, rfl⟩
theorem dX8_bid_153 : DD cX8_bid 153 (.iload 4) 2 155 := ⟨by decide +kernel, rfl⟩
theorem dX8_bid_155 : DD cX8_bid 155 (.ineg) 1 156 := ⟨by decide +kernel, rfl⟩
theorem dX8_bid_156 : DB cX8_bid 156 (.goto) 5 3 159 161 := ⟨by decide +kernel, rfl, rfl⟩
theorem dX8_bid_159 : DD cX8_bid 159 (.iload 4) 2 161 := ⟨by decide +kernel, rfl⟩
theorem dX8_bid_161 : DD cX8_bid 161 (.iadd) 1 162 := ⟨by decide +kernel, rfl⟩
theorem dX8_bid_162 : DD cX8_bid 162 (.iastore) 1 163 := ⟨by decide +kernel, rfl⟩
theorem dX8_bid_163 : DD cX8_bid 163 (.aload_n 0) 1 164 := ⟨by decide +kernel, rfl⟩
theorem dX8_bid_164 : DD cX8_bid 164 (.getfield 7) 3 167 := ⟨by decide +kernel, rfl⟩
theorem dX8_bid_167 : DD cX8_bid 167 (.iconst 5) 1 168 := ⟨by decide +kernel, rfl⟩
theorem dX8_bid_168 : DD cX8_bid 168 (.iload_n 3) 1 169 := ⟨by decide +kernel, rfl⟩
theorem dX8_bid_169 : DD cX8_bid 169 (.iconst 1) 1 170 := ⟨by decide +kernel, rfl⟩
theorem dX8_bid_170 : DD cX8_bid 170 (.iadd) 1 171 := ⟨by decide +kernel, rfl⟩
theorem dX8_bid_171 : DD cX8_bid 171 (.iastore) 1 172 := ⟨by decide +kernel, rfl⟩
theorem dX8_bid_172 : DD cX8_bid 172 (.aload_n 0) 1 173 := ⟨by decide +kernel, rfl⟩
theorem dX8_bid_173 : DD cX8_bid 173 (.getfield 7) 3 176 := ⟨by decide +kernel, rfl⟩
theorem dX8_bid_176 : DD cX8_bid 176 (.bipush 6) 2 178 := ⟨by decide +kernel, rfl⟩
theorem dX8_bid_178 : DD cX8_bid 178 (.iload_n 3) 1 179 := ⟨by decide +kernel, rfl⟩
theorem dX8_bid_179 : DD cX8_bid 179 (.iadd) 1 180 := ⟨by decide +kernel, rfl⟩
theorem dX8_bid_180 : DD cX8_bid 180 (.dup2) 1 181 := ⟨by decide +kernel, rfl⟩
theorem dX8_bid_181 : DD cX8_bid 181 (.iaload) 1 182 := ⟨by decide +kernel, rfl⟩
theorem dX8_bid_182 : DD cX8_bid 182 (.iconst 1) 1 183 := ⟨by decide +kernel, rfl⟩
theorem dX8_bid_183 : DD cX8_bid 183 (.iadd) 1 184 := ⟨by decide +kernel, rfl⟩
theorem dX8_bid_184 : DD cX8_bid 184 (.iastore) 1 185 := ⟨by decide +kernel, rfl⟩
theorem dX8_bid_185 : DD cX8_bid 185 (.aload_n 0) 1 186 := ⟨by decide +kernel, rfl⟩
theorem dX8_bid_186 : DD cX8_bid 186 (.getfield 7) 3 189 := ⟨by decide +kernel, rfl⟩
theorem dX8_bid_189 : DD cX8_bid 189 (.bipush 8) 2 191 := ⟨by decide +kernel, rfl⟩
theorem dX8_bid_191 : DD cX8_bid 191 (.iload_n 3) 1 192 := ⟨by decide +kernel, rfl⟩
theorem dX8_bid_192 : DD cX8_bid 192 (.iadd) 1 193 := ⟨by decide +kernel, rfl⟩
theorem dX8_bid_193 : DD cX8_bid 193 (.dup2) 1 194 := ⟨by decide +kernel, rfl⟩
theorem dX8_bid_194 : DD cX8_bid 194 (.iaload) 1 195 := ⟨by decide +kernel, rfl⟩
theorem dX8_bid_195 : DD cX8_bid 195 (.iload 4) 2 197 := ⟨by decide +kernel, rfl⟩
theorem dX8_bid_197 : DD cX8_bid 197 (.iadd) 1 198 := ⟨by decide +kernel, rfl⟩
theorem dX8_bid_198 : DD cX8_bid 198 (.iastore) 1 199 := ⟨by decide +kernel, rfl⟩
theorem dX8_bid_199 : DD cX8_bid 199 (.bipush 10) 2 201 := ⟨by decide +kernel, rfl⟩
theorem dX8_bid_201 : DD cX8_bid 201 (.iload_n 3) 1 202 := ⟨by decide +kernel, rfl⟩
theorem dX8_bid_202 : DD cX8_bid 202 (.iadd) 1 203 := ⟨by decide +kernel, rfl⟩
theorem dX8_bid_203 : DD cX8_bid 203 (.ireturn) 1 204 := ⟨by decide +kernel, rfl⟩
theorem dX8_move_0 : DD cX8_move 0 (.aload_n 0) 1 1 := ⟨by decide +kernel, rfl⟩
theorem dX8_move_1 : DD cX8_move 1 (.iconst 0) 1 2 := ⟨by decide +kernel, rfl⟩
theorem dX8_move_2 : DD cX8_move 2 (.putfield 32) 3 5 := ⟨by decide +kernel, rfl⟩
theorem dX8_move_5 : DD cX8_move 5 (.aload_n 0) 1 6 := ⟨by decide +kernel, rfl⟩
theorem dX8_move_6 : DD cX8_move 6 (.invokevirtual 89) 3 9 := ⟨by decide +kernel, rfl⟩
theorem dX8_move_9 : DD cX8_move 9 (.aload_n 0) 1 10 := ⟨by decide +kernel, rfl⟩
theorem dX8_move_10 : DD cX8_move 10 (.aload_n 0) 1 11 := ⟨by decide +kernel, rfl⟩
theorem dX8_move_11 : DD cX8_move 11 (.getfield 7) 3 14 := ⟨by decide +kernel, rfl⟩
theorem dX8_move_14 : DD cX8_move 14 (.iconst 4) 1 15 := ⟨by decide +kernel, rfl⟩
theorem dX8_move_15 : DD cX8_move 15 (.iaload) 1 16 := ⟨by decide +kernel, rfl⟩
theorem dX8_move_16 : DD cX8_move 16 (.invokevirtual 69) 3 19 := ⟨by decide +kernel, rfl⟩
theorem dX8_move_19 : DB cX8_move 19 (.ifCond .eq) 9 3 22 28 := ⟨by decide +kernel, rfl, rfl⟩
theorem dX8_move_22 : DD cX8_move 22 (.aload_n 0) 1 23 := ⟨by decide +kernel, rfl⟩
theorem dX8_move_23 : DD cX8_move 23 (.iconst 1) 1 24 := ⟨by decide +kernel, rfl⟩
theorem dX8_move_24 : DD cX8_move 24 (.invokevirtual 99) 3 27 := ⟨by decide +kernel, rfl⟩
theorem dX8_move_27 : DD cX8_move 27 (.ireturn) 1 28 := ⟨by decide +kernel, rfl⟩
theorem dX8_move_28 : DD cX8_move 28 (.aload_n 0) 1 29 := ⟨by decide +kernel, rfl⟩
theorem dX8_move_29 : DD cX8_move 29 (.getfield 7) 3 32 := ⟨by decide +kernel, rfl⟩
theorem dX8_move_32 : DD cX8_move 32 (.iconst 5) 1 33 := ⟨by decide +kernel, rfl⟩
theorem dX8_move_33 : DD cX8_move 33 (.iaload) 1 34 := ⟨by decide +kernel, rfl⟩
theorem dX8_move_34 : DB cX8_move 34 (.ifCond .ne) 9 3 37 43 := ⟨by decide +kernel, rfl, rfl⟩
theorem dX8_move_37 : DD cX8_move 37 (.aload_n 0) 1 38 := ⟨by decide +kernel, rfl⟩
theorem dX8_move_38 : DD cX8_move 38 (.iconst 2) 1 39 := ⟨by decide +kernel, rfl⟩
theorem dX8_move_39 : DD cX8_move 39 (.invokevirtual 99) 3 42 := ⟨by decide +kernel, rfl⟩
theorem dX8_move_42 : DD cX8_move 42 (.ireturn) 1 43 := ⟨by decide +kernel, rfl⟩
theorem dX8_move_43 : DD cX8_move 43 (.aload_n 0) 1 44 := ⟨by decide +kernel, rfl⟩
theorem dX8_move_44 : DD cX8_move 44 (.aload_n 0) 1 45 := ⟨by decide +kernel, rfl⟩
theorem dX8_move_45 : DD cX8_move 45 (.getfield 7) 3 48 := ⟨by decide +kernel, rfl⟩
theorem dX8_move_48 : DD cX8_move 48 (.iconst 4) 1 49 := ⟨by decide +kernel, rfl⟩
theorem dX8_move_49 : DD cX8_move 49 (.iaload) 1 50 := ⟨by decide +kernel, rfl⟩
theorem dX8_move_50 : DD cX8_move 50 (.iload_n 1) 1 51 := ⟨by decide +kernel, rfl⟩
theorem dX8_move_51 : DD cX8_move 51 (.invokevirtual 83) 3 54 := ⟨by decide +kernel, rfl⟩
theorem dX8_move_54 : DB cX8_move 54 (.ifCond .ne) 9 3 57 63 := ⟨by decide +kernel, rfl, rfl⟩
theorem dX8_move_57 : DD cX8_move 57 (.aload_n 0) 1 58 := ⟨by decide +kernel, rfl⟩
theorem dX8_move_58 : DD cX8_move 58 (.iconst 3) 1 59 := ⟨by decide +kernel, rfl⟩
theorem dX8_move_59 : DD cX8_move 59 (.invokevirtual 99) 3 62 := ⟨by decide +kernel, rfl⟩
theorem dX8_move_62 : DD cX8_move 62 (.ireturn) 1 63 := ⟨by decide +kernel, rfl⟩
theorem dX8_move_63 : DD cX8_move 63 (.aload_n 0) 1 64 := ⟨by decide +kernel, rfl⟩
theorem dX8_move_64 : DD cX8_move 64 (.getfield 7) 3 67 := ⟨by decide +kernel, rfl⟩
theorem dX8_move_67 : DD cX8_move 67 (.iconst 4) 1 68 := ⟨by decide +kernel, rfl⟩
theorem dX8_move_68 : DD cX8_move 68 (.iload_n 1) 1 69 := ⟨by decide +kernel, rfl⟩
theorem dX8_move_69 : DD cX8_move 69 (.iastore) 1 70 := ⟨by decide +kernel, rfl⟩
theorem dX8_move_70 : DD cX8_move 70 (.aload_n 0) 1 71 := ⟨by decide +kernel, rfl⟩
theorem dX8_move_71 : DD cX8_move 71 (.getfield 7) 3 74 := ⟨by decide +kernel, rfl⟩
theorem dX8_move_74 : DD cX8_move 74 (.iconst 5) 1 75 := ⟨by decide +kernel, rfl⟩
theorem dX8_move_75 : DD cX8_move 75 (.iconst 0) 1 76 := ⟨by decide +kernel, rfl⟩
theorem dX8_move_76 : DD cX8_move 76 (.iastore) 1 77 := ⟨by decide +kernel, rfl⟩
theorem dX8_move_77 : DD cX8_move 77 (.aload_n 0) 1 78 := ⟨by decide +kernel, rfl⟩
theorem dX8_move_78 : DD cX8_move 78 (.iload_n 1) 1 79 := ⟨by decide +kernel, rfl⟩
theorem dX8_move_79 : DD cX8_move 79 (.invokevirtual 69) 3 82 := ⟨by decide +kernel, rfl⟩
theorem dX8_move_82 : DB cX8_move 82 (.ifCond .eq) 8 3 85 90 := ⟨by decide +kernel, rfl, rfl⟩
theorem dX8_move_85 : DD cX8_move 85 (.bipush 11) 2 87 := ⟨by decide +kernel, rfl⟩
theorem dX8_move_87 : DB cX8_move 87 (.goto) 5 3 90 92 := ⟨by decide +kernel, rfl, rfl⟩
theorem dX8_move_90 : DD cX8_move 90 (.bipush 10) 2 92 := ⟨by decide +kernel, rfl⟩
theorem dX8_move_92 : DD cX8_move 92 (.ireturn) 1 93 := ⟨by decide +kernel, rfl⟩
theorem dX8_append_0 : DD cX8_append 0 (.aload_n 0) 1 1 := ⟨by decide +kernel, rfl⟩
theorem dX8_append_1 : DD cX8_append 1 (.iload_n 1) 1 2 := ⟨by decide +kernel, rfl⟩
theorem dX8_append_2 : DD cX8_append 2 (.bipush 33) 2 4 := ⟨by decide +kernel, rfl⟩
theorem dX8_append_4 : DD cX8_append 4 (.bipush 126) 2 6 := ⟨by decide +kernel, rfl⟩
theorem dX8_append_6 : DD cX8_append 6 (.invokestatic 36) 3 9 := ⟨by decide +kernel, rfl⟩
theorem dX8_append_9 : DB cX8_append 9 (.ifCond .ne) 7 3 12 16 := ⟨by decide +kernel, rfl, rfl⟩
theorem dX8_append_12 : DD cX8_append 12 (.iconst 1) 1 13 := ⟨by decide +kernel, rfl⟩
theorem dX8_append_13 : DB cX8_append 13 (.goto) 17 3 16 30 := ⟨by decide +kernel, rfl, rfl⟩
theorem dX8_append_16 : DD cX8_append 16 (.aload_n 0) 1 17 := ⟨by decide +kernel, rfl⟩
theorem dX8_append_17 : DD cX8_append 17 (.getfield 106) 3 20 := ⟨by decide +kernel, rfl⟩
theorem dX8_append_20 : DD cX8_append 20 (.bipush 60) 2 22 := ⟨by decide +kernel, rfl⟩
theorem dX8_append_22 : DB cX8_append 22 (.if_icmp .ne) 7 3 25 29 := ⟨by decide +kernel, rfl, rfl⟩
theorem dX8_append_25 : DD cX8_append 25 (.iconst 2) 1 26 := ⟨by decide +kernel, rfl⟩
theorem dX8_append_26 : DB cX8_append 26 (.goto) 4 3 29 30 := ⟨by decide +kernel, rfl, rfl⟩
theorem dX8_append_29 : DD cX8_append 29 (.iconst 0) 1 30 := ⟨by decide +kernel, rfl⟩
theorem dX8_append_30 : DD cX8_append 30 (.invokevirtual 86) 3 33 := ⟨by decide +kernel, rfl⟩
theorem dX8_append_33 : DB cX8_append 33 (.ifCond .ne) 5 3 36 38 := ⟨by decide +kernel, rfl, rfl⟩
theorem dX8_append_36 : DD cX8_append 36 (.iconst 0) 1 37 := ⟨by decide +kernel, rfl⟩
theorem dX8_append_37 : DD cX8_append 37 (.ireturn) 1 38 := ⟨by decide +kernel, rfl⟩
theorem dX8_append_38 : DD cX8_append 38 (.aload_n 0) 1 39 := ⟨by decide +kernel, rfl⟩
theorem dX8_append_39 : DD cX8_append 39 (.getfield 23) 3 42 := ⟨by decide +kernel, rfl⟩
theorem dX8_append_42 : DD cX8_append 42 (.aload_n 0) 1 43 := ⟨by decide +kernel, rfl⟩
theorem dX8_append_43 : DD cX8_append 43 (.getfield 106) 3 46 := ⟨by decide +kernel, rfl⟩
theorem dX8_append_46 : DD cX8_append 46 (.iload_n 1) 1 47 := ⟨by decide +kernel, rfl⟩
theorem dX8_append_47 : DD cX8_append 47 (.iastore) 1 48 := ⟨by decide +kernel, rfl⟩
theorem dX8_append_48 : DD cX8_append 48 (.aload_n 0) 1 49 := ⟨by decide +kernel, rfl⟩
theorem dX8_append_49 : DD cX8_append 49 (.dup) 1 50 := ⟨by decide +kernel, rfl⟩
theorem dX8_append_50 : DD cX8_append 50 (.getfield 106) 3 53 := ⟨by decide +kernel, rfl⟩
theorem dX8_append_53 : DD cX8_append 53 (.iconst 1) 1 54 := ⟨by decide +kernel, rfl⟩
theorem dX8_append_54 : DD cX8_append 54 (.iadd) 1 55 := ⟨by decide +kernel, rfl⟩
theorem dX8_append_55 : DD cX8_append 55 (.putfield 106) 3 58 := ⟨by decide +kernel, rfl⟩
theorem dX8_append_58 : DD cX8_append 58 (.aload_n 0) 1 59 := ⟨by decide +kernel, rfl⟩
theorem dX8_append_59 : DD cX8_append 59 (.getfield 106) 3 62 := ⟨by decide +kernel, rfl⟩
theorem dX8_append_62 : DD cX8_append 62 (.ireturn) 1 63 := ⟨by decide +kernel, rfl⟩
theorem dX8_clearBuffer_0 : DD cX8_clearBuffer 0 (.aload_n 0) 1 1 := ⟨by decide +kernel, rfl⟩
theorem dX8_clearBuffer_1 : DD cX8_clearBuffer 1 (.iconst 0) 1 2 := ⟨by decide +kernel, rfl⟩
theorem dX8_clearBuffer_2 : DD cX8_clearBuffer 2 (.putfield 32) 3 5 := ⟨by decide +kernel, rfl⟩
theorem dX8_clearBuffer_5 : DD cX8_clearBuffer 5 (.aload_n 0) 1 6 := ⟨by decide +kernel, rfl⟩
theorem dX8_clearBuffer_6 : DD cX8_clearBuffer 6 (.getfield 106) 3 9 := ⟨by decide +kernel, rfl⟩
theorem dX8_clearBuffer_9 : DD cX8_clearBuffer 9 (.istore_n 1) 1 10 := ⟨by decide +kernel, rfl⟩
theorem dX8_clearBuffer_10 : DD cX8_clearBuffer 10 (.aload_n 0) 1 11 := ⟨by decide +kernel, rfl⟩
theorem dX8_clearBuffer_11 : DD cX8_clearBuffer 11 (.iconst 0) 1 12 := ⟨by decide +kernel, rfl⟩
theorem dX8_clearBuffer_12 : DD cX8_clearBuffer 12 (.putfield 106) 3 15 := ⟨by decide +kernel, rfl⟩
theorem dX8_clearBuffer_15 : DD cX8_clearBuffer 15 (.iload_n 1) 1 16 := ⟨by decide +kernel, rfl⟩
theorem dX8_clearBuffer_16 : DD cX8_clearBuffer 16 (.ireturn) 1 17 := ⟨by decide +kernel, rfl⟩
theorem dX8_isNext_0 : DD cX8_isNext 0 (.aload_n 0) 1 1 := ⟨by decide +kernel, rfl⟩
theorem dX8_isNext_1 : DD cX8_isNext 1 (.getfield 109) 3 4 := ⟨by decide +kernel, rfl⟩
theorem dX8_isNext_4 : DD cX8_isNext 4 (.aload_n 0) 1 5 := ⟨by decide +kernel, rfl⟩
theorem dX8_isNext_5 : DD cX8_isNext 5 (.getfield 106) 3 8 := ⟨by decide +kernel, rfl⟩
theorem dX8_isNext_8 : DB cX8_isNext 8 (.if_icmp .ge) 24 3 11 32 := ⟨by decide +kernel, rfl, rfl⟩
theorem dX8_isNext_11 : DD cX8_isNext 11 (.aload_n 0) 1 12 := ⟨by decide +kernel, rfl⟩
theorem dX8_isNext_12 : DD cX8_isNext 12 (.getfield 23) 3 15 := ⟨by decide +kernel, rfl⟩
theorem dX8_isNext_15 : DD cX8_isNext 15 (.aload_n 0) 1 16 := ⟨by decide +kernel, rfl⟩
theorem dX8_isNext_16 : DD cX8_isNext 16 (.getfield 109) 3 19 := ⟨by decide +kernel, rfl⟩
theorem dX8_isNext_19 : DD cX8_isNext 19 (.iaload) 1 20 := ⟨by decide +kernel, rfl⟩
theorem dX8_isNext_20 : DD cX8_isNext 20 (.iload_n 1) 1 21 := ⟨by decide +kernel, rfl⟩
theorem dX8_isNext_21 : DD cX8_isNext 21 (.iload_n 2) 1 22 := ⟨by decide +kernel, rfl⟩
theorem dX8_isNext_22 : DD cX8_isNext 22 (.invokestatic 36) 3 25 := ⟨by decide +kernel, rfl⟩
theorem dX8_isNext_25 : DB cX8_isNext 25 (.ifCond .eq) 7 3 28 32 := ⟨by decide +kernel, rfl, rfl⟩
theorem dX8_isNext_28 : DD cX8_isNext 28 (.iconst 1) 1 29 := ⟨by decide +kernel, rfl⟩
theorem dX8_isNext_29 : DB cX8_isNext 29 (.goto) 4 3 32 33 := ⟨by decide +kernel, rfl, rfl⟩
theorem dX8_isNext_32 : DD cX8_isNext 32 (.iconst 0) 1 33 := ⟨by decide +kernel, rfl⟩
theorem dX8_isNext_33 : DD cX8_isNext 33 (.ireturn) 1 34 := ⟨by decide +kernel, rfl⟩
theorem dX8_takes_0 : DD cX8_takes 0 (.aload_n 0) 1 1 := ⟨by decide +kernel, rfl⟩
theorem dX8_takes_1 : DD cX8_takes 1 (.iload_n 1) 1 2 := ⟨by decide +kernel, rfl⟩
theorem dX8_takes_2 : DD cX8_takes 2 (.iload_n 1) 1 3 := ⟨by decide +kernel, rfl⟩
theorem dX8_takes_3 : DD cX8_takes 3 (.invokevirtual 112) 3 6 := ⟨by decide +kernel, rfl⟩
theorem dX8_takes_6 : DD cX8_takes 6 (.istore_n 2) 1 7 := ⟨by decide +kernel, rfl⟩
theorem dX8_takes_7 : DD cX8_takes 7 (.aload_n 0) 1 8 := ⟨by decide +kernel, rfl⟩
theorem dX8_takes_8 : DD cX8_takes 8 (.dup) 1 9 := ⟨by decide +kernel, rfl⟩
theorem dX8_takes_9 : DD cX8_takes 9 (.getfield 109) 3 12 := ⟨by decide +kernel, rfl⟩
theorem dX8_takes_12 : DD cX8_takes 12 (.iload_n 2) 1 13 := ⟨by decide +kernel, rfl⟩
theorem dX8_takes_13 : DB cX8_takes 13 (.ifCond .eq) 7 3 16 20 := ⟨by decide +kernel, rfl, rfl⟩
theorem dX8_takes_16 : DD cX8_takes 16 (.iconst 1) 1 17 := ⟨by decide +kernel, rfl⟩
theorem dX8_takes_17 : DB cX8_takes 17 (.goto) 4 3 20 21 := ⟨by decide +kernel, rfl, rfl⟩
theorem dX8_takes_20 : DD cX8_takes 20 (.iconst 0) 1 21 := ⟨by decide +kernel, rfl⟩
theorem dX8_takes_21 : DD cX8_takes 21 (.iadd) 1 22 := ⟨by decide +kernel, rfl⟩
theorem dX8_takes_22 : DD cX8_takes 22 (.putfield 109) 3 25 := ⟨by decide +kernel, rfl⟩
theorem dX8_takes_25 : DD cX8_takes 25 (.iload_n 2) 1 26 := ⟨by decide +kernel, rfl⟩
theorem dX8_takes_26 : DD cX8_takes 26 (.ireturn) 1 27 := ⟨by decide +kernel, rfl⟩
theorem dX8_readPosition_0 : DD cX8_readPosition 0 (.aload_n 0) 1 1 := ⟨by decide +kernel, rfl⟩
theorem dX8_readPosition_1 : DD cX8_readPosition 1 (.bipush 48) 2 3 := ⟨by decide +kernel, rfl⟩
theorem dX8_readPosition_3 : DD cX8_readPosition 3 (.bipush 55) 2 5 := ⟨by decide +kernel, rfl⟩
theorem dX8_readPosition_5 : DD cX8_readPosition 5 (.invokevirtual 112) 3 8 := ⟨by decide +kernel, rfl⟩
theorem dX8_readPosition_8 : DB cX8_readPosition 8 (.ifCond .eq) 18 3 11 26 := ⟨by decide +kernel, rfl, rfl⟩
theorem dX8_readPosition_11 : DD cX8_readPosition 11 (.aload_n 0) 1 12 := ⟨by decide +kernel, rfl⟩
theorem dX8_readPosition_12 : DD cX8_readPosition 12 (.getfield 23) 3 15 := ⟨by decide +kernel, rfl⟩
theorem dX8_readPosition_15 : DD cX8_readPosition 15 (.aload_n 0) 1 16 := ⟨by decide +kernel, rfl⟩
theorem dX8_readPosition_16 : DD cX8_readPosition 16 (.getfield 109) 3 19 := ⟨by decide +kernel, rfl⟩
theorem dX8_readPosition_19 : DD cX8_readPosition 19 (.iaload) 1 20 := ⟨by decide +kernel, rfl⟩
theorem dX8_readPosition_20 : DD cX8_readPosition 20 (.bipush 48) 2 22 := ⟨by decide +kernel, rfl⟩
theorem dX8_readPosition_22 : DD cX8_readPosition 22 (.isub) 1 23 := ⟨by decide +kernel, rfl⟩
theorem dX8_readPosition_23 : DB cX8_readPosition 23 (.goto) 4 3 26 27 := ⟨by decide +kernel, rfl, rfl⟩
theorem dX8_readPosition_26 : DD cX8_readPosition 26 (.iconst (-1)) 1 27 := ⟨by decide +kernel, rfl⟩
theorem dX8_readPosition_27 : DD cX8_readPosition 27 (.istore_n 2) 1 28 := ⟨by decide +kernel, rfl⟩
theorem dX8_readPosition_28 : DD cX8_readPosition 28 (.iload_n 2) 1 29 := ⟨by decide +kernel, rfl⟩
theorem dX8_readPosition_29 : DD cX8_readPosition 29 (.iconst (-1)) 1 30 := ⟨by decide +kernel, rfl⟩
theorem dX8_readPosition_30 : DB cX8_readPosition 30 (.if_icmp .eq) 12 3 33 42 := ⟨by decide +kernel, rfl, rfl⟩
theorem dX8_readPosition_33 : DD cX8_readPosition 33 (.iload_n 1) 1 34 := ⟨by decide +kernel, rfl⟩
theorem dX8_readPosition_34 : DD cX8_readPosition 34 (.iload_n 2) 1 35 := ⟨by decide +kernel, rfl⟩
theorem dX8_readPosition_35 : DD cX8_readPosition 35 (.ishr) 1 36 := ⟨by decide +kernel, rfl⟩
theorem dX8_readPosition_36 : DD cX8_readPosition 36 (.iconst 1) 1 37 := ⟨by decide +kernel, rfl⟩
theorem dX8_readPosition_37 : DD cX8_readPosition 37 (.iand) 1 38 := ⟨by decide +kernel, rfl⟩
theorem dX8_readPosition_38 : DD cX8_readPosition 38 (.iconst 1) 1 39 := ⟨by decide +kernel, rfl⟩
theorem dX8_readPosition_39 : DB cX8_readPosition 39 (.if_icmp .ne) 5 3 42 44 := ⟨by decide +kernel, rfl, rfl⟩
theorem dX8_readPosition_42 : DD cX8_readPosition 42 (.iconst (-1)) 1 43 := ⟨by decide +kernel, rfl⟩
theorem dX8_readPosition_43 : DD cX8_readPosition 43 (.ireturn) 1 44 := ⟨by decide +kernel, rfl⟩
theorem dX8_readPosition_44 : DD cX8_readPosition 44 (.aload_n 0) 1 45 := ⟨by decide +kernel, rfl⟩
theorem dX8_readPosition_45 : DD cX8_readPosition 45 (.dup) 1 46 := ⟨by decide +kernel, rfl⟩
theorem dX8_readPosition_46 : DD cX8_readPosition 46 (.getfield 109) 3 49 := ⟨by decide +kernel, rfl⟩
theorem dX8_readPosition_49 : DD cX8_readPosition 49 (.iconst 1) 1 50 := ⟨by decide +kernel, rfl⟩
theorem dX8_readPosition_50 : DD cX8_readPosition 50 (.iadd) 1 51 := ⟨by decide +kernel, rfl⟩
theorem dX8_readPosition_51 : DD cX8_readPosition 51 (.putfield 109) 3 54 := ⟨by decide +kernel, rfl⟩
theorem dX8_readPosition_54 : DD cX8_readPosition 54 (.iload_n 2) 1 55 := ⟨by decide +kernel, rfl⟩
theorem dX8_readPosition_55 : DD cX8_readPosition 55 (.ireturn) 1 56 := ⟨by decide +kernel, rfl⟩
theorem dX8_readMoves_0 : DD cX8_readMoves 0 (.iconst 1) 1 1 := ⟨by decide +kernel, rfl⟩
theorem dX8_readMoves_1 : DD cX8_readMoves 1 (.iload_n 1) 1 2 := ⟨by decide +kernel, rfl⟩
theorem dX8_readMoves_2 : DD cX8_readMoves 2 (.ishl) 1 3 := ⟨by decide +kernel, rfl⟩
theorem dX8_readMoves_3 : DD cX8_readMoves 3 (.istore_n 2) 1 4 := ⟨by decide +kernel, rfl⟩
theorem dX8_readMoves_4 : DD cX8_readMoves 4 (.iconst 0) 1 5 := ⟨by decide +kernel, rfl⟩
theorem dX8_readMoves_5 : DD cX8_readMoves 5 (.istore_n 3) 1 6 := ⟨by decide +kernel, rfl⟩
theorem dX8_readMoves_6 : DD cX8_readMoves 6 (.aload_n 0) 1 7 := ⟨by decide +kernel, rfl⟩
theorem dX8_readMoves_7 : DD cX8_readMoves 7 (.iload_n 2) 1 8 := ⟨by decide +kernel, rfl⟩
theorem dX8_readMoves_8 : DD cX8_readMoves 8 (.invokevirtual 115) 3 11 := ⟨by decide +kernel, rfl⟩
theorem dX8_readMoves_11 : DD cX8_readMoves 11 (.istore 4) 2 13 := ⟨by decide +kernel, rfl⟩
theorem dX8_readMoves_13 : DD cX8_readMoves 13 (.iload 4) 2 15 := ⟨by decide +kernel, rfl⟩
theorem dX8_readMoves_15 : DD cX8_readMoves 15 (.iconst (-1)) 1 16 := ⟨by decide +kernel, rfl⟩
theorem dX8_readMoves_16 : DB cX8_readMoves 16 (.if_icmp .eq) 47 3 19 63 := ⟨by decide +kernel, rfl, rfl⟩
theorem dX8_readMoves_19 : DD cX8_readMoves 19 (.aload_n 0) 1 20 := ⟨by decide +kernel, rfl⟩
theorem dX8_readMoves_20 : DD cX8_readMoves 20 (.getfield 29) 3 23 := ⟨by decide +kernel, rfl⟩
theorem dX8_readMoves_23 : DD cX8_readMoves 23 (.bipush 6) 2 25 := ⟨by decide +kernel, rfl⟩
theorem dX8_readMoves_25 : DD cX8_readMoves 25 (.iload_n 1) 1 26 := ⟨by decide +kernel, rfl⟩
theorem dX8_readMoves_26 : DD cX8_readMoves 26 (.imul) 1 27 := ⟨by decide +kernel, rfl⟩
theorem dX8_readMoves_27 : DD cX8_readMoves 27 (.iconst 2) 1 28 := ⟨by decide +kernel, rfl⟩
theorem dX8_readMoves_28 : DD cX8_readMoves 28 (.iadd) 1 29 := ⟨by decide +kernel, rfl⟩
theorem dX8_readMoves_29 : DD cX8_readMoves 29 (.iload_n 3) 1 30 := ⟨by decide +kernel, rfl⟩
theorem dX8_readMoves_30 : DD cX8_readMoves 30 (.iadd) 1 31 := ⟨by decide +kernel, rfl⟩
theorem dX8_readMoves_31 : DD cX8_readMoves 31 (.iload 4) 2 33 := ⟨by decide +kernel, rfl⟩
theorem dX8_readMoves_33 : DD cX8_readMoves 33 (.iastore) 1 34 := ⟨by decide +kernel, rfl⟩
theorem dX8_readMoves_34 : DD cX8_readMoves 34 (.iinc 3 1) 3 37 := ⟨by decide +kernel, rfl⟩
theorem dX8_readMoves_37 : DD cX8_readMoves 37 (.iload_n 2) 1 38 := ⟨by decide +kernel, rfl⟩
theorem dX8_readMoves_38 : DD cX8_readMoves 38 (.iconst 1) 1 39 := ⟨by decide +kernel, rfl⟩
theorem dX8_readMoves_39 : DD cX8_readMoves 39 (.iload 4) 2 41 := ⟨by decide +kernel, rfl⟩
theorem dX8_readMoves_41 : DD cX8_readMoves 41 (.ishl) 1 42 := ⟨by decide +kernel, rfl⟩
theorem dX8_readMoves_42 : DD cX8_readMoves 42 (.ior) 1 43 := ⟨by decide +kernel, rfl⟩
theorem dX8_readMoves_43 : DD cX8_readMoves 43 (.istore_n 2) 1 44 := ⟨by decide +kernel, rfl⟩
theorem dX8_readMoves_44 : DD cX8_readMoves 44 (.iload_n 3) 1 45 := ⟨by decide +kernel, rfl⟩
theorem dX8_readMoves_45 : DD cX8_readMoves 45 (.iconst 4) 1 46 := ⟨by decide +kernel, rfl⟩
theorem dX8_readMoves_46 : DB cX8_readMoves 46 (.if_icmp .ge) 11 3 49 57 := ⟨by decide +kernel, rfl, rfl⟩
theorem dX8_readMoves_49 : DD cX8_readMoves 49 (.aload_n 0) 1 50 := ⟨by decide +kernel, rfl⟩
theorem dX8_readMoves_50 : DD cX8_readMoves 50 (.iload_n 2) 1 51 := ⟨by decide +kernel, rfl⟩
theorem dX8_readMoves_51 : DD cX8_readMoves 51 (.invokevirtual 115) 3 54 := ⟨by decide +kernel, rfl⟩
theorem dX8_readMoves_54 : DB cX8_readMoves 54 (.goto) 4 3 57 58 := ⟨by decide +kernel, rfl, rfl⟩
theorem dX8_readMoves_57 : DD cX8_readMoves 57 (.iconst (-1)) 1 58 := ⟨by decide +kernel, rfl⟩
theorem dX8_readMoves_58 : DD cX8_readMoves 58 (.istore 4) 2 60 := ⟨by decide +kernel, rfl⟩
theorem dX8_readMoves_60 : DB cX8_readMoves 60 (.goto) (-47) 3 63 13 := ⟨by decide +kernel, rfl, rfl⟩
theorem dX8_readMoves_63 : DD cX8_readMoves 63 (.aload_n 0) 1 64 := ⟨by decide +kernel, rfl⟩
theorem dX8_readMoves_64 : DD cX8_readMoves 64 (.getfield 29) 3 67 := ⟨by decide +kernel, rfl⟩
theorem dX8_readMoves_67 : DD cX8_readMoves 67 (.bipush 6) 2 69 := ⟨by decide +kernel, rfl⟩
theorem dX8_readMoves_69 : DD cX8_readMoves 69 (.iload_n 1) 1 70 := ⟨by decide +kernel, rfl⟩
theorem dX8_readMoves_70 : DD cX8_readMoves 70 (.imul) 1 71 := ⟨by decide +kernel, rfl⟩
theorem dX8_readMoves_71 : DD cX8_readMoves 71 (.iconst 1) 1 72 := ⟨by decide +kernel, rfl⟩
theorem dX8_readMoves_72 : DD cX8_readMoves 72 (.iadd) 1 73 := ⟨by decide +kernel, rfl⟩
theorem dX8_readMoves_73 : DD cX8_readMoves 73 (.iload_n 3) 1 74 := ⟨by decide +kernel, rfl⟩
theorem dX8_readMoves_74 : DD cX8_readMoves 74 (.iastore) 1 75 := ⟨by decide +kernel, rfl⟩
theorem dX8_readMoves_75 : DD cX8_readMoves 75 (.iload_n 3) 1 76 := ⟨by decide +kernel, rfl⟩
theorem dX8_readMoves_76 : DB cX8_readMoves 76 (.ifCond .le) 7 3 79 83 := ⟨by decide +kernel, rfl, rfl⟩
theorem dX8_readMoves_79 : DD cX8_readMoves 79 (.iconst 1) 1 80 := ⟨by decide +kernel, rfl⟩
theorem dX8_readMoves_80 : DB cX8_readMoves 80 (.goto) 4 3 83 84 := ⟨by decide +kernel, rfl, rfl⟩
theorem dX8_readMoves_83 : DD cX8_readMoves 83 (.iconst 0) 1 84 := ⟨by decide +kernel, rfl⟩
theorem dX8_readMoves_84 : DD cX8_readMoves 84 (.ireturn) 1 85 := ⟨by decide +kernel, rfl⟩
theorem dX8_readPart_0 : DD cX8_readPart 0 (.aload_n 0) 1 1 := ⟨by decide +kernel, rfl⟩
theorem dX8_readPart_1 : DD cX8_readPart 1 (.aload_n 0) 1 2 := ⟨by decide +kernel, rfl⟩
theorem dX8_readPart_2 : DD cX8_readPart 2 (.getfield 118) 3 5 := ⟨by decide +kernel, rfl⟩
theorem dX8_readPart_5 : DD cX8_readPart 5 (.invokevirtual 115) 3 8 := ⟨by decide +kernel, rfl⟩
theorem dX8_readPart_8 : DD cX8_readPart 8 (.istore_n 1) 1 9 := ⟨by decide +kernel, rfl⟩
theorem dX8_readPart_9 : DD cX8_readPart 9 (.iload_n 1) 1 10 := ⟨by decide +kernel, rfl⟩
theorem dX8_readPart_10 : DD cX8_readPart 10 (.iconst (-1)) 1 11 := ⟨by decide +kernel, rfl⟩
theorem dX8_readPart_11 : DB cX8_readPart 11 (.if_icmp .ne) 5 3 14 16 := ⟨by decide +kernel, rfl, rfl⟩
theorem dX8_readPart_14 : DD cX8_readPart 14 (.iconst 0) 1 15 := ⟨by decide +kernel, rfl⟩
theorem dX8_readPart_15 : DD cX8_readPart 15 (.ireturn) 1 16 := ⟨by decide +kernel, rfl⟩
theorem dX8_readPart_16 : DD cX8_readPart 16 (.aload_n 0) 1 17 := ⟨by decide +kernel, rfl⟩
theorem dX8_readPart_17 : DD cX8_readPart 17 (.dup) 1 18 := ⟨by decide +kernel, rfl⟩
theorem dX8_readPart_18 : DD cX8_readPart 18 (.getfield 118) 3 21 := ⟨by decide +kernel, rfl⟩
theorem dX8_readPart_21 : DD cX8_readPart 21 (.iconst 1) 1 22 := ⟨by decide +kernel, rfl⟩
theorem dX8_readPart_22 : DD cX8_readPart 22 (.iload_n 1) 1 23 := ⟨by decide +kernel, rfl⟩
theorem dX8_readPart_23 : DD cX8_readPart 23 (.ishl) 1 24 := ⟨by decide +kernel, rfl⟩
theorem dX8_readPart_24 : DD cX8_readPart 24 (.ior) 1 25 := ⟨by decide +kernel, rfl⟩
theorem dX8_readPart_25 : DD cX8_readPart 25 (.putfield 118) 3 28 := ⟨by decide +kernel, rfl⟩
theorem dX8_readPart_28 : DD cX8_readPart 28 (.aload_n 0) 1 29 := ⟨by decide +kernel, rfl⟩
theorem dX8_readPart_29 : DD cX8_readPart 29 (.dup) 1 30 := ⟨by decide +kernel, rfl⟩
theorem dX8_readPart_30 : DD cX8_readPart 30 (.getfield 121) 3 33 := ⟨by decide +kernel, rfl⟩
theorem dX8_readPart_33 : DD cX8_readPart 33 (.iconst 1) 1 34 := ⟨by decide +kernel, rfl⟩
theorem dX8_readPart_34 : DD cX8_readPart 34 (.iadd) 1 35 := ⟨by decide +kernel, rfl⟩
theorem dX8_readPart_35 : DD cX8_readPart 35 (.putfield 121) 3 38 := ⟨by decide +kernel, rfl⟩
theorem dX8_readPart_38 : DD cX8_readPart 38 (.aload_n 0) 1 39 := ⟨by decide +kernel, rfl⟩
theorem dX8_readPart_39 : DD cX8_readPart 39 (.bipush 58) 2 41 := ⟨by decide +kernel, rfl⟩
theorem dX8_readPart_41 : DD cX8_readPart 41 (.invokevirtual 124) 3 44 := ⟨by decide +kernel, rfl⟩
theorem dX8_readPart_44 : DB cX8_readPart 44 (.ifCond .ne) 5 3 47 49 := ⟨by decide +kernel, rfl, rfl⟩
theorem dX8_readPart_47 : DD cX8_readPart 47 (.iconst 0) 1 48 := ⟨by decide +kernel, rfl⟩
theorem dX8_readPart_48 : DD cX8_readPart 48 (.ireturn) 1 49 := ⟨by decide +kernel, rfl⟩
theorem dX8_readPart_49 : DD cX8_readPart 49 (.aload_n 0) 1 50 := ⟨by decide +kernel, rfl⟩
theorem dX8_readPart_50 : DD cX8_readPart 50 (.bipush 65) 2 52 := ⟨by decide +kernel, rfl⟩
theorem dX8_readPart_52 : DD cX8_readPart 52 (.invokevirtual 124) 3 55 := ⟨by decide +kernel, rfl⟩
theorem dX8_readPart_55 : DB cX8_readPart 55 (.ifCond .eq) 15 3 58 70 := ⟨by decide +kernel, rfl, rfl⟩
theorem dX8_readPart_58 : DD cX8_readPart 58 (.aload_n 0) 1 59 := ⟨by decide +kernel, rfl⟩
theorem dX8_readPart_59 : DD cX8_readPart 59 (.getfield 29) 3 62 := ⟨by decide +kernel, rfl⟩
theorem dX8_readPart_62 : DD cX8_readPart 62 (.bipush 6) 2 64 := ⟨by decide +kernel, rfl⟩
theorem dX8_readPart_64 : DD cX8_readPart 64 (.iload_n 1) 1 65 := ⟨by decide +kernel, rfl⟩
theorem dX8_readPart_65 : DD cX8_readPart 65 (.imul) 1 66 := ⟨by decide +kernel, rfl⟩
theorem dX8_readPart_66 : DD cX8_readPart 66 (.iconst 1) 1 67 := ⟨by decide +kernel, rfl⟩
theorem dX8_readPart_67 : DD cX8_readPart 67 (.iastore) 1 68 := ⟨by decide +kernel, rfl⟩
theorem dX8_readPart_68 : DD cX8_readPart 68 (.iconst 1) 1 69 := ⟨by decide +kernel, rfl⟩
theorem dX8_readPart_69 : DD cX8_readPart 69 (.ireturn) 1 70 := ⟨by decide +kernel, rfl⟩
theorem dX8_readPart_70 : DD cX8_readPart 70 (.aload_n 0) 1 71 := ⟨by decide +kernel, rfl⟩
theorem dX8_readPart_71 : DD cX8_readPart 71 (.bipush 66) 2 73 := ⟨by decide +kernel, rfl⟩
theorem dX8_readPart_73 : DD cX8_readPart 73 (.invokevirtual 124) 3 76 := ⟨by decide +kernel, rfl⟩
theorem dX8_readPart_76 : DB cX8_readPart 76 (.ifCond .eq) 15 3 79 91 := ⟨by decide +kernel, rfl, rfl⟩
theorem dX8_readPart_79 : DD cX8_readPart 79 (.aload_n 0) 1 80 := ⟨by decide +kernel, rfl⟩
theorem dX8_readPart_80 : DD cX8_readPart 80 (.getfield 29) 3 83 := ⟨by decide +kernel, rfl⟩
theorem dX8_readPart_83 : DD cX8_readPart 83 (.bipush 6) 2 85 := ⟨by decide +kernel, rfl⟩
theorem dX8_readPart_85 : DD cX8_readPart 85 (.iload_n 1) 1 86 := ⟨by decide +kernel, rfl⟩
theorem dX8_readPart_86 : DD cX8_readPart 86 (.imul) 1 87 := ⟨by decide +kernel, rfl⟩
theorem dX8_readPart_87 : DD cX8_readPart 87 (.iconst 2) 1 88 := ⟨by decide +kernel, rfl⟩
theorem dX8_readPart_88 : DD cX8_readPart 88 (.iastore) 1 89 := ⟨by decide +kernel, rfl⟩
theorem dX8_readPart_89 : DD cX8_readPart 89 (.iconst 1) 1 90 := ⟨by decide +kernel, rfl⟩
theorem dX8_readPart_90 : DD cX8_readPart 90 (.ireturn) 1 91 := ⟨by decide +kernel, rfl⟩
theorem dX8_readPart_91 : DD cX8_readPart 91 (.aload_n 0) 1 92 := ⟨by decide +kernel, rfl⟩
theorem dX8_readPart_92 : DD cX8_readPart 92 (.iload_n 1) 1 93 := ⟨by decide +kernel, rfl⟩
theorem dX8_readPart_93 : DD cX8_readPart 93 (.invokevirtual 127) 3 96 := ⟨by decide +kernel, rfl⟩
theorem dX8_readPart_96 : DD cX8_readPart 96 (.ireturn) 1 97 := ⟨by decide +kernel, rfl⟩
theorem dX8_readText_0 : DD cX8_readText 0 (.aload_n 0) 1 1 := ⟨by decide +kernel, rfl⟩
theorem dX8_readText_1 : DD cX8_readText 1 (.iconst 0) 1 2 := ⟨by decide +kernel, rfl⟩
theorem dX8_readText_2 : DD cX8_readText 2 (.putfield 109) 3 5 := ⟨by decide +kernel, rfl⟩
theorem dX8_readText_5 : DD cX8_readText 5 (.aload_n 0) 1 6 := ⟨by decide +kernel, rfl⟩
theorem dX8_readText_6 : DD cX8_readText 6 (.iconst 0) 1 7 := ⟨by decide +kernel, rfl⟩
theorem dX8_readText_7 : DD cX8_readText 7 (.putfield 118) 3 10 := ⟨by decide +kernel, rfl⟩
theorem dX8_readText_10 : DD cX8_readText 10 (.aload_n 0) 1 11 := ⟨by decide +kernel, rfl⟩
theorem dX8_readText_11 : DD cX8_readText 11 (.iconst 0) 1 12 := ⟨by decide +kernel, rfl⟩
theorem dX8_readText_12 : DD cX8_readText 12 (.putfield 121) 3 15 := ⟨by decide +kernel, rfl⟩
theorem dX8_readText_15 : DD cX8_readText 15 (.iconst 0) 1 16 := ⟨by decide +kernel, rfl⟩
theorem dX8_readText_16 : DD cX8_readText 16 (.istore_n 1) 1 17 := ⟨by decide +kernel, rfl⟩
theorem dX8_readText_17 : DD cX8_readText 17 (.iload_n 1) 1 18 := ⟨by decide +kernel, rfl⟩
theorem dX8_readText_18 : DD cX8_readText 18 (.bipush 48) 2 20 := ⟨by decide +kernel, rfl⟩
theorem dX8_readText_20 : DB cX8_readText 20 (.if_icmp .ge) 16 3 23 36 := ⟨by decide +kernel, rfl, rfl⟩
theorem dX8_readText_23 : DD cX8_readText 23 (.aload_n 0) 1 24 := ⟨by decide +kernel, rfl⟩
theorem dX8_readText_24 : DD cX8_readText 24 (.getfield 29) 3 27 := ⟨by decide +kernel, rfl⟩
theorem dX8_readText_27 : DD cX8_readText 27 (.iload_n 1) 1 28 := ⟨by decide +kernel, rfl⟩
theorem dX8_readText_28 : DD cX8_readText 28 (.iconst 0) 1 29 := ⟨by decide +kernel, rfl⟩
theorem dX8_readText_29 : DD cX8_readText 29 (.iastore) 1 30 := ⟨by decide +kernel, rfl⟩
theorem dX8_readText_30 : DD cX8_readText 30 (.iinc 1 1) 3 33 := ⟨by decide +kernel, rfl⟩
theorem dX8_readText_33 : DB cX8_readText 33 (.goto) (-16) 3 36 17 := ⟨by decide +kernel, rfl, rfl⟩
theorem dX8_readText_36 : DD cX8_readText 36 (.aload_n 0) 1 37 := ⟨by decide +kernel, rfl⟩
theorem dX8_readText_37 : DD cX8_readText 37 (.invokevirtual 130) 3 40 := ⟨by decide +kernel, rfl⟩
theorem dX8_readText_40 : DD cX8_readText 40 (.istore_n 1) 1 41 := ⟨by decide +kernel, rfl⟩
theorem dX8_readText_41 : DD cX8_readText 41 (.iload_n 1) 1 42 := ⟨by decide +kernel, rfl⟩
theorem dX8_readText_42 : DB cX8_readText 42 (.ifCond .eq) 48 3 45 90 := ⟨by decide +kernel, rfl, rfl⟩
theorem dX8_readText_45 : DD cX8_readText 45 (.aload_n 0) 1 46 := ⟨by decide +kernel, rfl⟩
theorem dX8_readText_46 : DD cX8_readText 46 (.getfield 109) 3 49 := ⟨by decide +kernel, rfl⟩
theorem dX8_readText_49 : DD cX8_readText 49 (.aload_n 0) 1 50 := ⟨by decide +kernel, rfl⟩
theorem dX8_readText_50 : DD cX8_readText 50 (.getfield 106) 3 53 := ⟨by decide +kernel, rfl⟩
theorem dX8_readText_53 : DB cX8_readText 53 (.if_icmp .ge) 37 3 56 90 := ⟨by decide +kernel, rfl, rfl⟩
theorem dX8_readText_56 : DD cX8_readText 56 (.aload_n 0) 1 57 := ⟨by decide +kernel, rfl⟩
theorem dX8_readText_57 : DD cX8_readText 57 (.getfield 121) 3 60 := ⟨by decide +kernel, rfl⟩
theorem dX8_readText_60 : DD cX8_readText 60 (.bipush 8) 2 62 := ⟨by decide +kernel, rfl⟩
theorem dX8_readText_62 : DB cX8_readText 62 (.if_icmp .ge) 23 3 65 85 := ⟨by decide +kernel, rfl, rfl⟩
theorem dX8_readText_65 : DD cX8_readText 65 (.aload_n 0) 1 66 := ⟨by decide +kernel, rfl⟩
theorem dX8_readText_66 : DD cX8_readText 66 (.bipush 59) 2 68 := ⟨by decide +kernel, rfl⟩
theorem dX8_readText_68 : DD cX8_readText 68 (.invokevirtual 124) 3 71 := ⟨by decide +kernel, rfl⟩
theorem dX8_readText_71 : DB cX8_readText 71 (.ifCond .eq) 14 3 74 85 := ⟨by decide +kernel, rfl, rfl⟩
theorem dX8_readText_74 : DD cX8_readText 74 (.aload_n 0) 1 75 := ⟨by decide +kernel, rfl⟩
theorem dX8_readText_75 : DD cX8_readText 75 (.invokevirtual 130) 3 78 := ⟨by decide +kernel, rfl⟩
theorem dX8_readText_78 : DB cX8_readText 78 (.ifCond .eq) 7 3 81 85 := ⟨by decide +kernel, rfl, rfl⟩
theorem dX8_readText_81 : DD cX8_readText 81 (.iconst 1) 1 82 := ⟨by decide +kernel, rfl⟩
theorem dX8_readText_82 : DB cX8_readText 82 (.goto) 4 3 85 86 := ⟨by decide +kernel, rfl, rfl⟩
theorem dX8_readText_85 : DD cX8_readText 85 (.iconst 0) 1 86 := ⟨by decide +kernel, rfl⟩
theorem dX8_readText_86 : DD cX8_readText 86 (.istore_n 1) 1 87 := ⟨by decide +kernel, rfl⟩
theorem dX8_readText_87 : DB cX8_readText 87 (.goto) (-46) 3 90 41 := ⟨by decide +kernel, rfl, rfl⟩
theorem dX8_readText_90 : DD cX8_readText 90 (.iload_n 1) 1 91 := ⟨by decide +kernel, rfl⟩
theorem dX8_readText_91 : DD cX8_readText 91 (.ireturn) 1 92 := ⟨by decide +kernel, rfl⟩
theorem dX8_firstError_0 : DD cX8_firstError 0 (.aload_n 0) 1 1 := ⟨by decide +kernel, rfl⟩
theorem dX8_firstError_1 : DD cX8_firstError 1 (.iconst 0) 1 2 := ⟨by decide +kernel, rfl⟩
theorem dX8_firstError_2 : DD cX8_firstError 2 (.putfield 32) 3 5 := ⟨by decide +kernel, rfl⟩
theorem dX8_firstError_5 : DD cX8_firstError 5 (.aload_n 0) 1 6 := ⟨by decide +kernel, rfl⟩
theorem dX8_firstError_6 : DD cX8_firstError 6 (.invokevirtual 134) 3 9 := ⟨by decide +kernel, rfl⟩
theorem dX8_firstError_9 : DB cX8_firstError 9 (.ifCond .eq) 10 3 12 19 := ⟨by decide +kernel, rfl, rfl⟩
theorem dX8_firstError_12 : DD cX8_firstError 12 (.aload_n 0) 1 13 := ⟨by decide +kernel, rfl⟩
theorem dX8_firstError_13 : DD cX8_firstError 13 (.getfield 106) 3 16 := ⟨by decide +kernel, rfl⟩
theorem dX8_firstError_16 : DB cX8_firstError 16 (.goto) 7 3 19 23 := ⟨by decide +kernel, rfl, rfl⟩
theorem dX8_firstError_19 : DD cX8_firstError 19 (.aload_n 0) 1 20 := ⟨by decide +kernel, rfl⟩
theorem dX8_firstError_20 : DD cX8_firstError 20 (.getfield 109) 3 23 := ⟨by decide +kernel, rfl⟩
theorem dX8_firstError_23 : DD cX8_firstError 23 (.ireturn) 1 24 := ⟨by decide +kernel, rfl⟩
theorem dX8_load_0 : DD cX8_load 0 (.aload_n 0) 1 1 := ⟨by decide +kernel, rfl⟩
theorem dX8_load_1 : DD cX8_load 1 (.aload_n 0) 1 2 := ⟨by decide +kernel, rfl⟩
theorem dX8_load_2 : DD cX8_load 2 (.invokevirtual 134) 3 5 := ⟨by decide +kernel, rfl⟩
theorem dX8_load_5 : DB cX8_load 5 (.ifCond .eq) 7 3 8 12 := ⟨by decide +kernel, rfl, rfl⟩
theorem dX8_load_8 : DD cX8_load 8 (.iconst 0) 1 9 := ⟨by decide +kernel, rfl⟩
theorem dX8_load_9 : DB cX8_load 9 (.goto) 4 3 12 13 := ⟨by decide +kernel, rfl, rfl⟩
theorem dX8_load_12 : DD cX8_load 12 (.iconst 1) 1 13 := ⟨by decide +kernel, rfl⟩
theorem dX8_load_13 : DD cX8_load 13 (.invokevirtual 86) 3 16 := ⟨by decide +kernel, rfl⟩
theorem dX8_load_16 : DB cX8_load 16 (.ifCond .ne) 5 3 19 21 := ⟨by decide +kernel, rfl, rfl⟩
theorem dX8_load_19 : DD cX8_load 19 (.iconst 0) 1 20 := ⟨by decide +kernel, rfl⟩
theorem dX8_load_20 : DD cX8_load 20 (.ireturn) 1 21 := ⟨by decide +kernel, rfl⟩
theorem dX8_load_21 : DD cX8_load 21 (.aload_n 0) 1 22 := ⟨by decide +kernel, rfl⟩
theorem dX8_load_22 : DD cX8_load 22 (.invokevirtual 89) 3 25 := ⟨by decide +kernel, rfl⟩
theorem dX8_load_25 : DD cX8_load 25 (.iconst 0) 1 26 := ⟨by decide +kernel, rfl⟩
theorem dX8_load_26 : DD cX8_load 26 (.istore_n 1) 1 27 := ⟨by decide +kernel, rfl⟩
theorem dX8_load_27 : DD cX8_load 27 (.iload_n 1) 1 28 := ⟨by decide +kernel, rfl⟩
theorem dX8_load_28 : DD cX8_load 28 (.bipush 48) 2 30 := ⟨by decide +kernel, rfl⟩
theorem dX8_load_30 : DB cX8_load 30 (.if_icmp .ge) 24 3 33 54 := ⟨by decide +kernel, rfl, rfl⟩
theorem dX8_load_33 : DD cX8_load 33 (.aload_n 0) 1 34 := ⟨by decide +kernel, rfl⟩
theorem dX8_load_34 : DD cX8_load 34 (.getfield 7) 3 37 := ⟨by decide +kernel, rfl⟩
theorem dX8_load_37 : DD cX8_load 37 (.bipush 12) 2 39 := ⟨by decide +kernel, rfl⟩
theorem dX8_load_39 : DD cX8_load 39 (.iload_n 1) 1 40 := ⟨by decide +kernel, rfl⟩
theorem dX8_load_40 : DD cX8_load 40 (.iadd) 1 41 := ⟨by decide +kernel, rfl⟩
theorem dX8_load_41 : DD cX8_load 41 (.aload_n 0) 1 42 := ⟨by decide +kernel, rfl⟩
theorem dX8_load_42 : DD cX8_load 42 (.getfield 29) 3 45 := ⟨by decide +kernel, rfl⟩
theorem dX8_load_45 : DD cX8_load 45 (.iload_n 1) 1 46 := ⟨by decide +kernel, rfl⟩
theorem dX8_load_46 : DD cX8_load 46 (.iaload) 1 47 := ⟨by decide +kernel, rfl⟩
theorem dX8_load_47 : DD cX8_load 47 (.iastore) 1 48 := ⟨by decide +kernel, rfl⟩
theorem dX8_load_48 : DD cX8_load 48 (.iinc 1 1) 3 51 := ⟨by decide +kernel, rfl⟩
theorem dX8_load_51 : DB cX8_load 51 (.goto) (-24) 3 54 27 := ⟨by decide +kernel, rfl, rfl⟩
theorem dX8_load_54 : DD cX8_load 54 (.aload_n 0) 1 55 := ⟨by decide +kernel, rfl⟩
theorem dX8_load_55 : DD cX8_load 55 (.getfield 7) 3 58 := ⟨by decide +kernel, rfl⟩
theorem dX8_load_58 : DD cX8_load 58 (.iconst 5) 1 59 := ⟨by decide +kernel, rfl⟩
theorem dX8_load_59 : DD cX8_load 59 (.iconst 0) 1 60 := ⟨by decide +kernel, rfl⟩
theorem dX8_load_60 : DD cX8_load 60 (.iastore) 1 61 := ⟨by decide +kernel, rfl⟩
theorem dX8_load_61 : DD cX8_load 61 (.aload_n 0) 1 62 := ⟨by decide +kernel, rfl⟩
theorem dX8_load_62 : DD cX8_load 62 (.iconst 0) 1 63 := ⟨by decide +kernel, rfl⟩
theorem dX8_load_63 : DD cX8_load 63 (.putfield 106) 3 66 := ⟨by decide +kernel, rfl⟩
theorem dX8_load_66 : DD cX8_load 66 (.aload_n 0) 1 67 := ⟨by decide +kernel, rfl⟩
theorem dX8_load_67 : DD cX8_load 67 (.getfield 121) 3 70 := ⟨by decide +kernel, rfl⟩
theorem dX8_load_70 : DD cX8_load 70 (.ireturn) 1 71 := ⟨by decide +kernel, rfl⟩
theorem dX8_keep_0 : DD cX8_keep 0 (.aload_n 0) 1 1 := ⟨by decide +kernel, rfl⟩
theorem dX8_keep_1 : DD cX8_keep 1 (.iload_n 1) 1 2 := ⟨by decide +kernel, rfl⟩
theorem dX8_keep_2 : DD cX8_keep 2 (.invokestatic 96) 3 5 := ⟨by decide +kernel, rfl⟩
theorem dX8_keep_5 : DB cX8_keep 5 (.ifCond .eq) 7 3 8 12 := ⟨by decide +kernel, rfl, rfl⟩
theorem dX8_keep_8 : DD cX8_keep 8 (.iconst 0) 1 9 := ⟨by decide +kernel, rfl⟩
theorem dX8_keep_9 : DB cX8_keep 9 (.goto) 4 3 12 13 := ⟨by decide +kernel, rfl, rfl⟩
theorem dX8_keep_12 : DD cX8_keep 12 (.iconst 1) 1 13 := ⟨by decide +kernel, rfl⟩
theorem dX8_keep_13 : DD cX8_keep 13 (.invokevirtual 86) 3 16 := ⟨by decide +kernel, rfl⟩
theorem dX8_keep_16 : DB cX8_keep 16 (.ifCond .ne) 5 3 19 21 := ⟨by decide +kernel, rfl, rfl⟩
theorem dX8_keep_19 : DD cX8_keep 19 (.iconst 0) 1 20 := ⟨by decide +kernel, rfl⟩
theorem dX8_keep_20 : DD cX8_keep 20 (.ireturn) 1 21 := ⟨by decide +kernel, rfl⟩
theorem dX8_keep_21 : DD cX8_keep 21 (.iconst 0) 1 22 := ⟨by decide +kernel, rfl⟩
theorem dX8_keep_22 : DD cX8_keep 22 (.istore_n 2) 1 23 := ⟨by decide +kernel, rfl⟩
theorem dX8_keep_23 : DD cX8_keep 23 (.iload_n 2) 1 24 := ⟨by decide +kernel, rfl⟩
theorem dX8_keep_24 : DD cX8_keep 24 (.bipush 60) 2 26 := ⟨by decide +kernel, rfl⟩
theorem dX8_keep_26 : DB cX8_keep 26 (.if_icmp .ge) 26 3 29 52 := ⟨by decide +kernel, rfl, rfl⟩
theorem dX8_keep_29 : DD cX8_keep 29 (.aload_n 0) 1 30 := ⟨by decide +kernel, rfl⟩
theorem dX8_keep_30 : DD cX8_keep 30 (.getfield 16) 3 33 := ⟨by decide +kernel, rfl⟩
theorem dX8_keep_33 : DD cX8_keep 33 (.bipush 60) 2 35 := ⟨by decide +kernel, rfl⟩
theorem dX8_keep_35 : DD cX8_keep 35 (.iload_n 1) 1 36 := ⟨by decide +kernel, rfl⟩
theorem dX8_keep_36 : DD cX8_keep 36 (.imul) 1 37 := ⟨by decide +kernel, rfl⟩
theorem dX8_keep_37 : DD cX8_keep 37 (.iload_n 2) 1 38 := ⟨by decide +kernel, rfl⟩
theorem dX8_keep_38 : DD cX8_keep 38 (.iadd) 1 39 := ⟨by decide +kernel, rfl⟩
theorem dX8_keep_39 : DD cX8_keep 39 (.aload_n 0) 1 40 := ⟨by decide +kernel, rfl⟩
theorem dX8_keep_40 : DD cX8_keep 40 (.getfield 7) 3 43 := ⟨by decide +kernel, rfl⟩
theorem dX8_keep_43 : DD cX8_keep 43 (.iload_n 2) 1 44 := ⟨by decide +kernel, rfl⟩
theorem dX8_keep_44 : DD cX8_keep 44 (.iaload) 1 45 := ⟨by decide +kernel, rfl⟩
theorem dX8_keep_45 : DD cX8_keep 45 (.iastore) 1 46 := ⟨by decide +kernel, rfl⟩
theorem dX8_keep_46 : DD cX8_keep 46 (.iinc 2 1) 3 49 := ⟨by decide +kernel, rfl⟩
theorem dX8_keep_49 : DB cX8_keep 49 (.goto) (-26) 3 52 23 := ⟨by decide +kernel, rfl, rfl⟩
theorem dX8_keep_52 : DD cX8_keep 52 (.aload_n 0) 1 53 := ⟨by decide +kernel, rfl⟩
theorem dX8_keep_53 : DD cX8_keep 53 (.getfield 19) 3 56 := ⟨by decide +kernel, rfl⟩
theorem dX8_keep_56 : DD cX8_keep 56 (.iload_n 1) 1 57 := ⟨by decide +kernel, rfl⟩
theorem dX8_keep_57 : DD cX8_keep 57 (.iconst 1) 1 58 := ⟨by decide +kernel, rfl⟩
theorem dX8_keep_58 : DD cX8_keep 58 (.bastore) 1 59 := ⟨by decide +kernel, rfl⟩
theorem dX8_keep_59 : DD cX8_keep 59 (.aload_n 0) 1 60 := ⟨by decide +kernel, rfl⟩
theorem dX8_keep_60 : DD cX8_keep 60 (.getfield 7) 3 63 := ⟨by decide +kernel, rfl⟩
theorem dX8_keep_63 : DD cX8_keep 63 (.iconst 4) 1 64 := ⟨by decide +kernel, rfl⟩
theorem dX8_keep_64 : DD cX8_keep 64 (.iaload) 1 65 := ⟨by decide +kernel, rfl⟩
theorem dX8_keep_65 : DD cX8_keep 65 (.ireturn) 1 66 := ⟨by decide +kernel, rfl⟩
theorem dX8_goBack_0 : DD cX8_goBack 0 (.aload_n 0) 1 1 := ⟨by decide +kernel, rfl⟩
theorem dX8_goBack_1 : DD cX8_goBack 1 (.iload_n 1) 1 2 := ⟨by decide +kernel, rfl⟩
theorem dX8_goBack_2 : DD cX8_goBack 2 (.invokestatic 96) 3 5 := ⟨by decide +kernel, rfl⟩
theorem dX8_goBack_5 : DB cX8_goBack 5 (.ifCond .ne) 7 3 8 12 := ⟨by decide +kernel, rfl, rfl⟩
theorem dX8_goBack_8 : DD cX8_goBack 8 (.iconst 1) 1 9 := ⟨by decide +kernel, rfl⟩
theorem dX8_goBack_9 : DB cX8_goBack 9 (.goto) 17 3 12 26 := ⟨by decide +kernel, rfl, rfl⟩
theorem dX8_goBack_12 : DD cX8_goBack 12 (.aload_n 0) 1 13 := ⟨by decide +kernel, rfl⟩
theorem dX8_goBack_13 : DD cX8_goBack 13 (.getfield 19) 3 16 := ⟨by decide +kernel, rfl⟩
theorem dX8_goBack_16 : DD cX8_goBack 16 (.iload_n 1) 1 17 := ⟨by decide +kernel, rfl⟩
theorem dX8_goBack_17 : DD cX8_goBack 17 (.baload) 1 18 := ⟨by decide +kernel, rfl⟩
theorem dX8_goBack_18 : DB cX8_goBack 18 (.ifCond .eq) 7 3 21 25 := ⟨by decide +kernel, rfl, rfl⟩
theorem dX8_goBack_21 : DD cX8_goBack 21 (.iconst 0) 1 22 := ⟨by decide +kernel, rfl⟩
theorem dX8_goBack_22 : DB cX8_goBack 22 (.goto) 4 3 25 26 := ⟨by decide +kernel, rfl, rfl⟩
theorem dX8_goBack_25 : DD cX8_goBack 25 (.iconst 2) 1 26 := ⟨by decide +kernel, rfl⟩
theorem dX8_goBack_26 : DD cX8_goBack 26 (.invokevirtual 86) 3 29 := ⟨by decide +kernel, rfl⟩
theorem dX8_goBack_29 : DB cX8_goBack 29 (.ifCond .ne) 5 3 32 34 := ⟨by decide +kernel, rfl, rfl⟩
theorem dX8_goBack_32 : DD cX8_goBack 32 (.iconst 0) 1 33 := ⟨by decide +kernel, rfl⟩
theorem dX8_goBack_33 : DD cX8_goBack 33 (.ireturn) 1 34 := ⟨by decide +kernel, rfl⟩
theorem dX8_goBack_34 : DD cX8_goBack 34 (.aload_n 0) 1 35 := ⟨by decide +kernel, rfl⟩
theorem dX8_goBack_35 : DD cX8_goBack 35 (.invokevirtual 89) 3 38 := ⟨by decide +kernel, rfl⟩
theorem dX8_goBack_38 : DD cX8_goBack 38 (.iconst 0) 1 39 := ⟨by decide +kernel, rfl⟩
theorem dX8_goBack_39 : DD cX8_goBack 39 (.istore_n 2) 1 40 := ⟨by decide +kernel, rfl⟩
theorem dX8_goBack_40 : DD cX8_goBack 40 (.iload_n 2) 1 41 := ⟨by decide +kernel, rfl⟩
theorem dX8_goBack_41 : DD cX8_goBack 41 (.bipush 60) 2 43 := ⟨by decide +kernel, rfl⟩
theorem dX8_goBack_43 : DB cX8_goBack 43 (.if_icmp .ge) 26 3 46 69 := ⟨by decide +kernel, rfl, rfl⟩
theorem dX8_goBack_46 : DD cX8_goBack 46 (.aload_n 0) 1 47 := ⟨by decide +kernel, rfl⟩
theorem dX8_goBack_47 : DD cX8_goBack 47 (.getfield 7) 3 50 := ⟨by decide +kernel, rfl⟩
theorem dX8_goBack_50 : DD cX8_goBack 50 (.iload_n 2) 1 51 := ⟨by decide +kernel, rfl⟩
theorem dX8_goBack_51 : DD cX8_goBack 51 (.aload_n 0) 1 52 := ⟨by decide +kernel, rfl⟩
theorem dX8_goBack_52 : DD cX8_goBack 52 (.getfield 16) 3 55 := ⟨by decide +kernel, rfl⟩
theorem dX8_goBack_55 : DD cX8_goBack 55 (.bipush 60) 2 57 := ⟨by decide +kernel, rfl⟩
theorem dX8_goBack_57 : DD cX8_goBack 57 (.iload_n 1) 1 58 := ⟨by decide +kernel, rfl⟩
theorem dX8_goBack_58 : DD cX8_goBack 58 (.imul) 1 59 := ⟨by decide +kernel, rfl⟩
theorem dX8_goBack_59 : DD cX8_goBack 59 (.iload_n 2) 1 60 := ⟨by decide +kernel, rfl⟩
theorem dX8_goBack_60 : DD cX8_goBack 60 (.iadd) 1 61 := ⟨by decide +kernel, rfl⟩
theorem dX8_goBack_61 : DD cX8_goBack 61 (.iaload) 1 62 := ⟨by decide +kernel, rfl⟩
theorem dX8_goBack_62 : DD cX8_goBack 62 (.iastore) 1 63 := ⟨by decide +kernel, rfl⟩
theorem dX8_goBack_63 : DD cX8_goBack 63 (.iinc 2 1) 3 66 := ⟨by decide +kernel, rfl⟩
theorem dX8_goBack_66 : DB cX8_goBack 66 (.goto) (-26) 3 69 40 := ⟨by decide +kernel, rfl, rfl⟩
theorem dX8_goBack_69 : DD cX8_goBack 69 (.aload_n 0) 1 70 := ⟨by decide +kernel, rfl⟩
theorem dX8_goBack_70 : DD cX8_goBack 70 (.getfield 7) 3 73 := ⟨by decide +kernel, rfl⟩
theorem dX8_goBack_73 : DD cX8_goBack 73 (.iconst 4) 1 74 := ⟨by decide +kernel, rfl⟩
theorem dX8_goBack_74 : DD cX8_goBack 74 (.iaload) 1 75 := ⟨by decide +kernel, rfl⟩
theorem dX8_goBack_75 : DD cX8_goBack 75 (.ireturn) 1 76 := ⟨by decide +kernel, rfl⟩
theorem dX8_undo_0 : DD cX8_undo 0 (.aload_n 0) 1 1 := ⟨by decide +kernel, rfl⟩
theorem dX8_undo_1 : DD cX8_undo 1 (.aload_n 0) 1 2 := ⟨by decide +kernel, rfl⟩
theorem dX8_undo_2 : DD cX8_undo 2 (.getfield 44) 3 5 := ⟨by decide +kernel, rfl⟩
theorem dX8_undo_5 : DB cX8_undo 5 (.ifCond .le) 7 3 8 12 := ⟨by decide +kernel, rfl, rfl⟩
theorem dX8_undo_8 : DD cX8_undo 8 (.iconst 0) 1 9 := ⟨by decide +kernel, rfl⟩
theorem dX8_undo_9 : DB cX8_undo 9 (.goto) 4 3 12 13 := ⟨by decide +kernel, rfl, rfl⟩
theorem dX8_undo_12 : DD cX8_undo 12 (.iconst 1) 1 13 := ⟨by decide +kernel, rfl⟩
theorem dX8_undo_13 : DD cX8_undo 13 (.invokevirtual 86) 3 16 := ⟨by decide +kernel, rfl⟩
theorem dX8_undo_16 : DB cX8_undo 16 (.ifCond .ne) 5 3 19 21 := ⟨by decide +kernel, rfl, rfl⟩
theorem dX8_undo_19 : DD cX8_undo 19 (.iconst 0) 1 20 := ⟨by decide +kernel, rfl⟩
theorem dX8_undo_20 : DD cX8_undo 20 (.ireturn) 1 21 := ⟨by decide +kernel, rfl⟩
theorem dX8_undo_21 : DD cX8_undo 21 (.aload_n 0) 1 22 := ⟨by decide +kernel, rfl⟩
theorem dX8_undo_22 : DD cX8_undo 22 (.dup) 1 23 := ⟨by decide +kernel, rfl⟩
theorem dX8_undo_23 : DD cX8_undo 23 (.getfield 44) 3 26 := ⟨by decide +kernel, rfl⟩
theorem dX8_undo_26 : DD cX8_undo 26 (.iconst 1) 1 27 := ⟨by decide +kernel, rfl⟩
theorem dX8_undo_27 : DD cX8_undo 27 (.isub) 1 28 := ⟨by decide +kernel, rfl⟩
theorem dX8_undo_28 : DD cX8_undo 28 (.putfield 44) 3 31 := ⟨by decide +kernel, rfl⟩
theorem dX8_undo_31 : DD cX8_undo 31 (.iconst 0) 1 32 := ⟨by decide +kernel, rfl⟩
theorem dX8_undo_32 : DD cX8_undo 32 (.istore_n 1) 1 33 := ⟨by decide +kernel, rfl⟩
theorem dX8_undo_33 : DD cX8_undo 33 (.iload_n 1) 1 34 := ⟨by decide +kernel, rfl⟩
theorem dX8_undo_34 : DD cX8_undo 34 (.bipush 60) 2 36 := ⟨by decide +kernel, rfl⟩
theorem dX8_undo_36 : DB cX8_undo 36 (.if_icmp .ge) 29 3 39 65 := ⟨by decide +kernel, rfl, rfl⟩
theorem dX8_undo_39 : DD cX8_undo 39 (.aload_n 0) 1 40 := ⟨by decide +kernel, rfl⟩
theorem dX8_undo_40 : DD cX8_undo 40 (.getfield 7) 3 43 := ⟨by decide +kernel, rfl⟩
theorem dX8_undo_43 : DD cX8_undo 43 (.iload_n 1) 1 44 := ⟨by decide +kernel, rfl⟩
theorem dX8_undo_44 : DD cX8_undo 44 (.aload_n 0) 1 45 := ⟨by decide +kernel, rfl⟩
theorem dX8_undo_45 : DD cX8_undo 45 (.getfield 13) 3 48 := ⟨by decide +kernel, rfl⟩
theorem dX8_undo_48 : DD cX8_undo 48 (.bipush 60) 2 50 := ⟨by decide +kernel, rfl⟩
theorem dX8_undo_50 : DD cX8_undo 50 (.aload_n 0) 1 51 := ⟨by decide +kernel, rfl⟩
theorem dX8_undo_51 : DD cX8_undo 51 (.getfield 44) 3 54 := ⟨by decide +kernel, rfl⟩
theorem dX8_undo_54 : DD cX8_undo 54 (.imul) 1 55 := ⟨by decide +kernel, rfl⟩
theorem dX8_undo_55 : DD cX8_undo 55 (.iload_n 1) 1 56 := ⟨by decide +kernel, rfl⟩
theorem dX8_undo_56 : DD cX8_undo 56 (.iadd) 1 57 := ⟨by decide +kernel, rfl⟩
theorem dX8_undo_57 : DD cX8_undo 57 (.iaload) 1 58 := ⟨by decide +kernel, rfl⟩
theorem dX8_undo_58 : DD cX8_undo 58 (.iastore) 1 59 := ⟨by decide +kernel, rfl⟩
theorem dX8_undo_59 : DD cX8_undo 59 (.iinc 1 1) 3 62 := ⟨by decide +kernel, rfl⟩
theorem dX8_undo_62 : DB cX8_undo 62 (.goto) (-29) 3 65 33 := ⟨by decide +kernel, rfl, rfl⟩
theorem dX8_undo_65 : DD cX8_undo 65 (.aload_n 0) 1 66 := ⟨by decide +kernel, rfl⟩
theorem dX8_undo_66 : DD cX8_undo 66 (.getfield 44) 3 69 := ⟨by decide +kernel, rfl⟩
theorem dX8_undo_69 : DD cX8_undo 69 (.ireturn) 1 70 := ⟨by decide +kernel, rfl⟩
theorem dX8_positionTold_0 : DD cX8_positionTold 0 (.iload_n 2) 1 1 := ⟨by decide +kernel, rfl⟩
theorem dX8_positionTold_1 : DD cX8_positionTold 1 (.iconst 2) 1 2 := ⟨by decide +kernel, rfl⟩
theorem dX8_positionTold_2 : DB cX8_positionTold 2 (.if_icmp .ge) 10 3 5 12 := ⟨by decide +kernel, rfl, rfl⟩
theorem dX8_positionTold_5 : DD cX8_positionTold 5 (.aload_n 0) 1 6 := ⟨by decide +kernel, rfl⟩
theorem dX8_positionTold_6 : DD cX8_positionTold 6 (.iload_n 1) 1 7 := ⟨by decide +kernel, rfl⟩
theorem dX8_positionTold_7 : DD cX8_positionTold 7 (.iload_n 2) 1 8 := ⟨by decide +kernel, rfl⟩
theorem dX8_positionTold_8 : DD cX8_positionTold 8 (.invokevirtual 40) 3 11 := ⟨by decide +kernel, rfl⟩
theorem dX8_positionTold_11 : DD cX8_positionTold 11 (.ireturn) 1 12 := ⟨by decide +kernel, rfl⟩
theorem dX8_positionTold_12 : DD cX8_positionTold 12 (.iload_n 2) 1 13 := ⟨by decide +kernel, rfl⟩
theorem dX8_positionTold_13 : DD cX8_positionTold 13 (.bipush 6) 2 15 := ⟨by decide +kernel, rfl⟩
theorem dX8_positionTold_15 : DB cX8_positionTold 15 (.if_icmp .ge) 26 3 18 41 := ⟨by decide +kernel, rfl, rfl⟩
theorem dX8_positionTold_18 : DD cX8_positionTold 18 (.iload_n 2) 1 19 := ⟨by decide +kernel, rfl⟩
theorem dX8_positionTold_19 : DD cX8_positionTold 19 (.iconst 2) 1 20 := ⟨by decide +kernel, rfl⟩
theorem dX8_positionTold_20 : DD cX8_positionTold 20 (.isub) 1 21 := ⟨by decide +kernel, rfl⟩
theorem dX8_positionTold_21 : DD cX8_positionTold 21 (.aload_n 0) 1 22 := ⟨by decide +kernel, rfl⟩
theorem dX8_positionTold_22 : DD cX8_positionTold 22 (.iload_n 1) 1 23 := ⟨by decide +kernel, rfl⟩
theorem dX8_positionTold_23 : DD cX8_positionTold 23 (.iconst 1) 1 24 := ⟨by decide +kernel, rfl⟩
theorem dX8_positionTold_24 : DD cX8_positionTold 24 (.invokevirtual 40) 3 27 := ⟨by decide +kernel, rfl⟩
theorem dX8_positionTold_27 : DB cX8_positionTold 27 (.if_icmp .ge) 12 3 30 39 := ⟨by decide +kernel, rfl, rfl⟩
theorem dX8_positionTold_30 : DD cX8_positionTold 30 (.aload_n 0) 1 31 := ⟨by decide +kernel, rfl⟩
theorem dX8_positionTold_31 : DD cX8_positionTold 31 (.iload_n 1) 1 32 := ⟨by decide +kernel, rfl⟩
theorem dX8_positionTold_32 : DD cX8_positionTold 32 (.iload_n 2) 1 33 := ⟨by decide +kernel, rfl⟩
theorem dX8_positionTold_33 : DD cX8_positionTold 33 (.invokevirtual 40) 3 36 := ⟨by decide +kernel, rfl⟩
theorem dX8_positionTold_36 : DB cX8_positionTold 36 (.goto) 4 3 39 40 := ⟨by decide +kernel, rfl, rfl⟩
theorem dX8_positionTold_39 : DD cX8_positionTold 39 (.iconst (-1)) 1 40 := ⟨by decide +kernel, rfl⟩
theorem dX8_positionTold_40 : DD cX8_positionTold 40 (.ireturn) 1 41 := ⟨by decide +kernel, rfl⟩
theorem dX8_positionTold_41 : DD cX8_positionTold 41 (.iconst 0) 1 42 := ⟨by decide +kernel, rfl⟩
theorem dX8_positionTold_42 : DD cX8_positionTold 42 (.istore_n 3) 1 43 := ⟨by decide +kernel, rfl⟩
theorem dX8_positionTold_43 : DD cX8_positionTold 43 (.iconst 0) 1 44 := ⟨by decide +kernel, rfl⟩
theorem dX8_positionTold_44 : DD cX8_positionTold 44 (.istore 4) 2 46 := ⟨by decide +kernel, rfl⟩
theorem dX8_positionTold_46 : DD cX8_positionTold 46 (.iload 4) 2 48 := ⟨by decide +kernel, rfl⟩
theorem dX8_positionTold_48 : DD cX8_positionTold 48 (.bipush 8) 2 50 := ⟨by decide +kernel, rfl⟩
theorem dX8_positionTold_50 : DB cX8_positionTold 50 (.if_icmp .ge) 27 3 53 77 := ⟨by decide +kernel, rfl, rfl⟩
theorem dX8_positionTold_53 : DD cX8_positionTold 53 (.iload_n 3) 1 54 := ⟨by decide +kernel, rfl⟩
theorem dX8_positionTold_54 : DD cX8_positionTold 54 (.aload_n 0) 1 55 := ⟨by decide +kernel, rfl⟩
theorem dX8_positionTold_55 : DD cX8_positionTold 55 (.iload 4) 2 57 := ⟨by decide +kernel, rfl⟩
theorem dX8_positionTold_57 : DD cX8_positionTold 57 (.iload_n 1) 1 58 := ⟨by decide +kernel, rfl⟩
theorem dX8_positionTold_58 : DD cX8_positionTold 58 (.invokevirtual 83) 3 61 := ⟨by decide +kernel, rfl⟩
theorem dX8_positionTold_61 : DB cX8_positionTold 61 (.ifCond .eq) 7 3 64 68 := ⟨by decide +kernel, rfl, rfl⟩
theorem dX8_positionTold_64 : DD cX8_positionTold 64 (.iconst 1) 1 65 := ⟨by decide +kernel, rfl⟩
theorem dX8_positionTold_65 : DB cX8_positionTold 65 (.goto) 4 3 68 69 := ⟨by decide +kernel, rfl, rfl⟩
theorem dX8_positionTold_68 : DD cX8_positionTold 68 (.iconst 0) 1 69 := ⟨by decide +kernel, rfl⟩
theorem dX8_positionTold_69 : DD cX8_positionTold 69 (.iadd) 1 70 := ⟨by decide +kernel, rfl⟩
theorem dX8_positionTold_70 : DD cX8_positionTold 70 (.istore_n 3) 1 71 := ⟨by decide +kernel, rfl⟩
theorem dX8_positionTold_71 : DD cX8_positionTold 71 (.iinc 4 1) 3 74 := ⟨by decide +kernel, rfl⟩
theorem dX8_positionTold_74 : DB cX8_positionTold 74 (.goto) (-28) 3 77 46 := ⟨by decide +kernel, rfl, rfl⟩
theorem dX8_positionTold_77 : DD cX8_positionTold 77 (.iload_n 3) 1 78 := ⟨by decide +kernel, rfl⟩
theorem dX8_positionTold_78 : DD cX8_positionTold 78 (.ireturn) 1 79 := ⟨by decide +kernel, rfl⟩
theorem dX8_positionOf_0 : DD cX8_positionOf 0 (.aload_n 0) 1 1 := ⟨by decide +kernel, rfl⟩
theorem dX8_positionOf_1 : DD cX8_positionOf 1 (.iload_n 1) 1 2 := ⟨by decide +kernel, rfl⟩
theorem dX8_positionOf_2 : DD cX8_positionOf 2 (.invokestatic 80) 3 5 := ⟨by decide +kernel, rfl⟩
theorem dX8_positionOf_5 : DB cX8_positionOf 5 (.ifCond .ne) 7 3 8 12 := ⟨by decide +kernel, rfl, rfl⟩
theorem dX8_positionOf_8 : DD cX8_positionOf 8 (.iconst 1) 1 9 := ⟨by decide +kernel, rfl⟩
theorem dX8_positionOf_9 : DB cX8_positionOf 9 (.goto) 18 3 12 27 := ⟨by decide +kernel, rfl, rfl⟩
theorem dX8_positionOf_12 : DD cX8_positionOf 12 (.iload_n 2) 1 13 := ⟨by decide +kernel, rfl⟩
theorem dX8_positionOf_13 : DD cX8_positionOf 13 (.iconst 0) 1 14 := ⟨by decide +kernel, rfl⟩
theorem dX8_positionOf_14 : DD cX8_positionOf 14 (.bipush 6) 2 16 := ⟨by decide +kernel, rfl⟩
theorem dX8_positionOf_16 : DD cX8_positionOf 16 (.invokestatic 36) 3 19 := ⟨by decide +kernel, rfl⟩
theorem dX8_positionOf_19 : DB cX8_positionOf 19 (.ifCond .ne) 7 3 22 26 := ⟨by decide +kernel, rfl, rfl⟩
theorem dX8_positionOf_22 : DD cX8_positionOf 22 (.iconst 2) 1 23 := ⟨by decide +kernel, rfl⟩
theorem dX8_positionOf_23 : DB cX8_positionOf 23 (.goto) 4 3 26 27 := ⟨by decide +kernel, rfl, rfl⟩
theorem dX8_positionOf_26 : DD cX8_positionOf 26 (.iconst 0) 1 27 := ⟨by decide +kernel, rfl⟩
theorem dX8_positionOf_27 : DD cX8_positionOf 27 (.invokevirtual 86) 3 30 := ⟨by decide +kernel, rfl⟩
theorem dX8_positionOf_30 : DB cX8_positionOf 30 (.ifCond .eq) 12 3 33 42 := ⟨by decide +kernel, rfl, rfl⟩
theorem dX8_positionOf_33 : DD cX8_positionOf 33 (.aload_n 0) 1 34 := ⟨by decide +kernel, rfl⟩
theorem dX8_positionOf_34 : DD cX8_positionOf 34 (.iload_n 1) 1 35 := ⟨by decide +kernel, rfl⟩
theorem dX8_positionOf_35 : DD cX8_positionOf 35 (.iload_n 2) 1 36 := ⟨by decide +kernel, rfl⟩
theorem dX8_positionOf_36 : DD cX8_positionOf 36 (.invokevirtual 137) 3 39 := ⟨by decide +kernel, rfl⟩
theorem dX8_positionOf_39 : DB cX8_positionOf 39 (.goto) 4 3 42 43 := ⟨by decide +kernel, rfl, rfl⟩
theorem dX8_positionOf_42 : DD cX8_positionOf 42 (.iconst 0) 1 43 := ⟨by decide +kernel, rfl⟩
theorem dX8_positionOf_43 : DD cX8_positionOf 43 (.ireturn) 1 44 := ⟨by decide +kernel, rfl⟩
theorem dX8_positions_0 : DD cX8_positions 0 (.iconst 0) 1 1 := ⟨by decide +kernel, rfl⟩
theorem dX8_positions_1 : DD cX8_positions 1 (.istore_n 3) 1 2 := ⟨by decide +kernel, rfl⟩
theorem dX8_positions_2 : DD cX8_positions 2 (.iconst 0) 1 3 := ⟨by decide +kernel, rfl⟩
theorem dX8_positions_3 : DD cX8_positions 3 (.istore 4) 2 5 := ⟨by decide +kernel, rfl⟩
theorem dX8_positions_5 : DD cX8_positions 5 (.iload 4) 2 7 := ⟨by decide +kernel, rfl⟩
theorem dX8_positions_7 : DD cX8_positions 7 (.bipush 8) 2 9 := ⟨by decide +kernel, rfl⟩
theorem dX8_positions_9 : DB cX8_positions 9 (.if_icmp .ge) 62 3 12 71 := ⟨by decide +kernel, rfl, rfl⟩
theorem dX8_positions_12 : DD cX8_positions 12 (.iload_n 2) 1 13 := ⟨by decide +kernel, rfl⟩
theorem dX8_positions_13 : DB cX8_positions 13 (.ifCond .eq) 13 3 16 26 := ⟨by decide +kernel, rfl, rfl⟩
theorem dX8_positions_16 : DD cX8_positions 16 (.aload_n 0) 1 17 := ⟨by decide +kernel, rfl⟩
theorem dX8_positions_17 : DD cX8_positions 17 (.iload_n 1) 1 18 := ⟨by decide +kernel, rfl⟩
theorem dX8_positions_18 : DD cX8_positions 18 (.iload 4) 2 20 := ⟨by decide +kernel, rfl⟩
theorem dX8_positions_20 : DD cX8_positions 20 (.invokevirtual 65) 3 23 := ⟨by decide +kernel, rfl⟩
theorem dX8_positions_23 : DB cX8_positions 23 (.goto) 27 3 26 50 := ⟨by decide +kernel, rfl, rfl⟩
theorem dX8_positions_26 : DD cX8_positions 26 (.aload_n 0) 1 27 := ⟨by decide +kernel, rfl⟩
theorem dX8_positions_27 : DD cX8_positions 27 (.iload_n 1) 1 28 := ⟨by decide +kernel, rfl⟩
theorem dX8_positions_28 : DD cX8_positions 28 (.iload 4) 2 30 := ⟨by decide +kernel, rfl⟩
theorem dX8_positions_30 : DD cX8_positions 30 (.aload_n 0) 1 31 := ⟨by decide +kernel, rfl⟩
theorem dX8_positions_31 : DD cX8_positions 31 (.iload_n 1) 1 32 := ⟨by decide +kernel, rfl⟩
theorem dX8_positions_32 : DD cX8_positions 32 (.invokevirtual 103) 3 35 := ⟨by decide +kernel, rfl⟩
theorem dX8_positions_35 : DD cX8_positions 35 (.aload_n 0) 1 36 := ⟨by decide +kernel, rfl⟩
theorem dX8_positions_36 : DD cX8_positions 36 (.getfield 7) 3 39 := ⟨by decide +kernel, rfl⟩
theorem dX8_positions_39 : DD cX8_positions 39 (.iconst 3) 1 40 := ⟨by decide +kernel, rfl⟩
theorem dX8_positions_40 : DD cX8_positions 40 (.iaload) 1 41 := ⟨by decide +kernel, rfl⟩
theorem dX8_positions_41 : DD cX8_positions 41 (.aload_n 0) 1 42 := ⟨by decide +kernel, rfl⟩
theorem dX8_positions_42 : DD cX8_positions 42 (.getfield 7) 3 45 := ⟨by decide +kernel, rfl⟩
theorem dX8_positions_45 : DD cX8_positions 45 (.iconst 1) 1 46 := ⟨by decide +kernel, rfl⟩
theorem dX8_positions_46 : DD cX8_positions 46 (.iaload) 1 47 := ⟨by decide +kernel, rfl⟩
theorem dX8_positions_47 : DD cX8_positions 47 (.invokevirtual 140) 3 50 := ⟨by decide +kernel, rfl⟩
theorem dX8_positions_50 : DD cX8_positions 50 (.istore 5) 2 52 := ⟨by decide +kernel, rfl⟩
theorem dX8_positions_52 : DD cX8_positions 52 (.iload_n 3) 1 53 := ⟨by decide +kernel, rfl⟩
theorem dX8_positions_53 : DD cX8_positions 53 (.iload 5) 2 55 := ⟨by decide +kernel, rfl⟩
theorem dX8_positions_55 : DB cX8_positions 55 (.ifCond .eq) 7 3 58 62 := ⟨by decide +kernel, rfl, rfl⟩
theorem dX8_positions_58 : DD cX8_positions 58 (.iconst 1) 1 59 := ⟨by decide +kernel, rfl⟩
theorem dX8_positions_59 : DB cX8_positions 59 (.goto) 4 3 62 63 := ⟨by decide +kernel, rfl, rfl⟩
theorem dX8_positions_62 : DD cX8_positions 62 (.iconst 0) 1 63 := ⟨by decide +kernel, rfl⟩
theorem dX8_positions_63 : DD cX8_positions 63 (.iadd) 1 64 := ⟨by decide +kernel, rfl⟩
theorem dX8_positions_64 : DD cX8_positions 64 (.istore_n 3) 1 65 := ⟨by decide +kernel, rfl⟩
theorem dX8_positions_65 : DD cX8_positions 65 (.iinc 4 1) 3 68 := ⟨by decide +kernel, rfl⟩
theorem dX8_positions_68 : DB cX8_positions 68 (.goto) (-63) 3 71 5 := ⟨by decide +kernel, rfl, rfl⟩
theorem dX8_positions_71 : DD cX8_positions 71 (.iload_n 3) 1 72 := ⟨by decide +kernel, rfl⟩
theorem dX8_positions_72 : DD cX8_positions 72 (.ireturn) 1 73 := ⟨by decide +kernel, rfl⟩
theorem dX8_playerTold_0 : DD cX8_playerTold 0 (.iload_n 2) 1 1 := ⟨by decide +kernel, rfl⟩
theorem dX8_playerTold_1 : decode cX8_playerTold 1 = .ok (.tableswitch 73 0 3 #[31, 37, 53, 63], 31) := by decide +kernel
theorem dX8_playerTold_32 : DD cX8_playerTold 32 (.aload_n 0) 1 33 := ⟨by decide +kernel, rfl⟩
theorem dX8_playerTold_33 : DD cX8_playerTold 33 (.iload_n 1) 1 34 := ⟨by decide +kernel, rfl⟩
theorem dX8_playerTold_34 : DD cX8_playerTold 34 (.invokevirtual 103) 3 37 := ⟨by decide +kernel, rfl⟩
theorem dX8_playerTold_37 : DD cX8_playerTold 37 (.ireturn) 1 38 := ⟨by decide +kernel, rfl⟩
theorem dX8_playerTold_38 : DD cX8_playerTold 38 (.aload_n 0) 1 39 := ⟨by decide +kernel, rfl⟩
theorem dX8_playerTold_39 : DD cX8_playerTold 39 (.getfield 7) 3 42 := ⟨by decide +kernel, rfl⟩
theorem dX8_playerTold_42 : DD cX8_playerTold 42 (.iconst 3) 1 43 := ⟨by decide +kernel, rfl⟩
theorem dX8_playerTold_43 : DD cX8_playerTold 43 (.iaload) 1 44 := ⟨by decide +kernel, rfl⟩
theorem dX8_playerTold_44 : DD cX8_playerTold 44 (.iload_n 1) 1 45 := ⟨by decide +kernel, rfl⟩
theorem dX8_playerTold_45 : DB cX8_playerTold 45 (.if_icmp .ne) 7 3 48 52 := ⟨by decide +kernel, rfl, rfl⟩
theorem dX8_playerTold_48 : DD cX8_playerTold 48 (.iconst 1) 1 49 := ⟨by decide +kernel, rfl⟩
theorem dX8_playerTold_49 : DB cX8_playerTold 49 (.goto) 4 3 52 53 := ⟨by decide +kernel, rfl, rfl⟩
theorem dX8_playerTold_52 : DD cX8_playerTold 52 (.iconst 0) 1 53 := ⟨by decide +kernel, rfl⟩
theorem dX8_playerTold_53 : DD cX8_playerTold 53 (.ireturn) 1 54 := ⟨by decide +kernel, rfl⟩
theorem dX8_playerTold_54 : DD cX8_playerTold 54 (.aload_n 0) 1 55 := ⟨by decide +kernel, rfl⟩
theorem dX8_playerTold_55 : DD cX8_playerTold 55 (.getfield 7) 3 58 := ⟨by decide +kernel, rfl⟩
theorem dX8_playerTold_58 : DD cX8_playerTold 58 (.bipush 6) 2 60 := ⟨by decide +kernel, rfl⟩
theorem dX8_playerTold_60 : DD cX8_playerTold 60 (.iload_n 1) 1 61 := ⟨by decide +kernel, rfl⟩
theorem dX8_playerTold_61 : DD cX8_playerTold 61 (.iadd) 1 62 := ⟨by decide +kernel, rfl⟩
theorem dX8_playerTold_62 : DD cX8_playerTold 62 (.iaload) 1 63 := ⟨by decide +kernel, rfl⟩
theorem dX8_playerTold_63 : DD cX8_playerTold 63 (.ireturn) 1 64 := ⟨by decide +kernel, rfl⟩
theorem dX8_playerTold_64 : DD cX8_playerTold 64 (.aload_n 0) 1 65 := ⟨by decide +kernel, rfl⟩
theorem dX8_playerTold_65 : DD cX8_playerTold 65 (.getfield 7) 3 68 := ⟨by decide +kernel, rfl⟩
theorem dX8_playerTold_68 : DD cX8_playerTold 68 (.bipush 8) 2 70 := ⟨by decide +kernel, rfl⟩
theorem dX8_playerTold_70 : DD cX8_playerTold 70 (.iload_n 1) 1 71 := ⟨by decide +kernel, rfl⟩
theorem dX8_playerTold_71 : DD cX8_playerTold 71 (.iadd) 1 72 := ⟨by decide +kernel, rfl⟩
theorem dX8_playerTold_72 : DD cX8_playerTold 72 (.iaload) 1 73 := ⟨by decide +kernel, rfl⟩
theorem dX8_playerTold_73 : DD cX8_playerTold 73 (.ireturn) 1 74 := ⟨by decide +kernel, rfl⟩
theorem dX8_playerTold_74 : DD cX8_playerTold 74 (.aload_n 0) 1 75 := ⟨by decide +kernel, rfl⟩
theorem dX8_playerTold_75 : DD cX8_playerTold 75 (.iload_n 1) 1 76 := ⟨by decide +kernel, rfl⟩
theorem dX8_playerTold_76 : DD cX8_playerTold 76 (.iload_n 2) 1 77 := ⟨by decide +kernel, rfl⟩
theorem dX8_playerTold_77 : DD cX8_playerTold 77 (.iconst 4) 1 78 := ⟨by decide +kernel, rfl⟩
theorem dX8_playerTold_78 : DB cX8_playerTold 78 (.if_icmp .ne) 7 3 81 85 := ⟨by decide +kernel, rfl, rfl⟩
theorem dX8_playerTold_81 : DD cX8_playerTold 81 (.iconst 1) 1 82 := ⟨by decide +kernel, rfl⟩
theorem dX8_playerTold_82 : DB cX8_playerTold 82 (.goto) 4 3 85 86 := ⟨by decide +kernel, rfl, rfl⟩
theorem dX8_playerTold_85 : DD cX8_playerTold 85 (.iconst 0) 1 86 := ⟨by decide +kernel, rfl⟩
theorem dX8_playerTold_86 : DD cX8_playerTold 86 (.invokevirtual 144) 3 89 := ⟨by decide +kernel, rfl⟩
theorem dX8_playerTold_89 : DD cX8_playerTold 89 (.ireturn) 1 90 := ⟨by decide +kernel, rfl⟩
theorem dX8_playerOf_0 : DD cX8_playerOf 0 (.aload_n 0) 1 1 := ⟨by decide +kernel, rfl⟩
theorem dX8_playerOf_1 : DD cX8_playerOf 1 (.iload_n 1) 1 2 := ⟨by decide +kernel, rfl⟩
theorem dX8_playerOf_2 : DD cX8_playerOf 2 (.invokestatic 96) 3 5 := ⟨by decide +kernel, rfl⟩
theorem dX8_playerOf_5 : DB cX8_playerOf 5 (.ifCond .ne) 7 3 8 12 := ⟨by decide +kernel, rfl, rfl⟩
theorem dX8_playerOf_8 : DD cX8_playerOf 8 (.iconst 1) 1 9 := ⟨by decide +kernel, rfl⟩
theorem dX8_playerOf_9 : DB cX8_playerOf 9 (.goto) 17 3 12 26 := ⟨by decide +kernel, rfl, rfl⟩
theorem dX8_playerOf_12 : DD cX8_playerOf 12 (.iload_n 2) 1 13 := ⟨by decide +kernel, rfl⟩
theorem dX8_playerOf_13 : DD cX8_playerOf 13 (.iconst 0) 1 14 := ⟨by decide +kernel, rfl⟩
theorem dX8_playerOf_14 : DD cX8_playerOf 14 (.iconst 5) 1 15 := ⟨by decide +kernel, rfl⟩
theorem dX8_playerOf_15 : DD cX8_playerOf 15 (.invokestatic 36) 3 18 := ⟨by decide +kernel, rfl⟩
theorem dX8_playerOf_18 : DB cX8_playerOf 18 (.ifCond .ne) 7 3 21 25 := ⟨by decide +kernel, rfl, rfl⟩
theorem dX8_playerOf_21 : DD cX8_playerOf 21 (.iconst 2) 1 22 := ⟨by decide +kernel, rfl⟩
theorem dX8_playerOf_22 : DB cX8_playerOf 22 (.goto) 4 3 25 26 := ⟨by decide +kernel, rfl, rfl⟩
theorem dX8_playerOf_25 : DD cX8_playerOf 25 (.iconst 0) 1 26 := ⟨by decide +kernel, rfl⟩
theorem dX8_playerOf_26 : DD cX8_playerOf 26 (.invokevirtual 86) 3 29 := ⟨by decide +kernel, rfl⟩
theorem dX8_playerOf_29 : DB cX8_playerOf 29 (.ifCond .ne) 5 3 32 34 := ⟨by decide +kernel, rfl, rfl⟩
theorem dX8_playerOf_32 : DD cX8_playerOf 32 (.iconst 0) 1 33 := ⟨by decide +kernel, rfl⟩
theorem dX8_playerOf_33 : DD cX8_playerOf 33 (.ireturn) 1 34 := ⟨by decide +kernel, rfl⟩
theorem dX8_playerOf_34 : DD cX8_playerOf 34 (.aload_n 0) 1 35 := ⟨by decide +kernel, rfl⟩
theorem dX8_playerOf_35 : DD cX8_playerOf 35 (.invokevirtual 148) 3 38 := ⟨by decide +kernel, rfl⟩
theorem dX8_playerOf_38 : DD cX8_playerOf 38 (.aload_n 0) 1 39 := ⟨by decide +kernel, rfl⟩
theorem dX8_playerOf_39 : DD cX8_playerOf 39 (.iload_n 1) 1 40 := ⟨by decide +kernel, rfl⟩
theorem dX8_playerOf_40 : DD cX8_playerOf 40 (.iload_n 2) 1 41 := ⟨by decide +kernel, rfl⟩
theorem dX8_playerOf_41 : DD cX8_playerOf 41 (.invokevirtual 151) 3 44 := ⟨by decide +kernel, rfl⟩
theorem dX8_playerOf_44 : DD cX8_playerOf 44 (.ireturn) 1 45 := ⟨by decide +kernel, rfl⟩
theorem dX8_allMoves_0 : DD cX8_allMoves 0 (.iconst 0) 1 1 := ⟨by decide +kernel, rfl⟩
theorem dX8_allMoves_1 : DD cX8_allMoves 1 (.istore_n 1) 1 2 := ⟨by decide +kernel, rfl⟩
theorem dX8_allMoves_2 : DD cX8_allMoves 2 (.iconst 0) 1 3 := ⟨by decide +kernel, rfl⟩
theorem dX8_allMoves_3 : DD cX8_allMoves 3 (.istore_n 2) 1 4 := ⟨by decide +kernel, rfl⟩
theorem dX8_allMoves_4 : DD cX8_allMoves 4 (.iload_n 2) 1 5 := ⟨by decide +kernel, rfl⟩
theorem dX8_allMoves_5 : DD cX8_allMoves 5 (.bipush 8) 2 7 := ⟨by decide +kernel, rfl⟩
theorem dX8_allMoves_7 : DB cX8_allMoves 7 (.if_icmp .ge) 18 3 10 25 := ⟨by decide +kernel, rfl, rfl⟩
theorem dX8_allMoves_10 : DD cX8_allMoves 10 (.iload_n 1) 1 11 := ⟨by decide +kernel, rfl⟩
theorem dX8_allMoves_11 : DD cX8_allMoves 11 (.aload_n 0) 1 12 := ⟨by decide +kernel, rfl⟩
theorem dX8_allMoves_12 : DD cX8_allMoves 12 (.iload_n 2) 1 13 := ⟨by decide +kernel, rfl⟩
theorem dX8_allMoves_13 : DD cX8_allMoves 13 (.iconst 1) 1 14 := ⟨by decide +kernel, rfl⟩
theorem dX8_allMoves_14 : DD cX8_allMoves 14 (.invokevirtual 40) 3 17 := ⟨by decide +kernel, rfl⟩
theorem dX8_allMoves_17 : DD cX8_allMoves 17 (.iadd) 1 18 := ⟨by decide +kernel, rfl⟩
theorem dX8_allMoves_18 : DD cX8_allMoves 18 (.istore_n 1) 1 19 := ⟨by decide +kernel, rfl⟩
theorem dX8_allMoves_19 : DD cX8_allMoves 19 (.iinc 2 1) 3 22 := ⟨by decide +kernel, rfl⟩
theorem dX8_allMoves_22 : DB cX8_allMoves 22 (.goto) (-18) 3 25 4 := ⟨by decide +kernel, rfl, rfl⟩
theorem dX8_allMoves_25 : DD cX8_allMoves 25 (.iload_n 1) 1 26 := ⟨by decide +kernel, rfl⟩
theorem dX8_allMoves_26 : DD cX8_allMoves 26 (.ireturn) 1 27 := ⟨by decide +kernel, rfl⟩
theorem dX8_countTold_0 : DD cX8_countTold 0 (.iload_n 1) 1 1 := ⟨by decide +kernel, rfl⟩
theorem dX8_countTold_1 : decode cX8_countTold 1 = .ok (.tableswitch 155 0 9 #[55, 62, 81, 95, 104, 111, 118, 134, 142, 150], 55) := by decide +kernel
theorem dX8_countTold_56 : DD cX8_countTold 56 (.aload_n 0) 1 57 := ⟨by decide +kernel, rfl⟩
theorem dX8_countTold_57 : DD cX8_countTold 57 (.getfield 7) 3 60 := ⟨by decide +kernel, rfl⟩
theorem dX8_countTold_60 : DD cX8_countTold 60 (.iconst 4) 1 61 := ⟨by decide +kernel, rfl⟩
theorem dX8_countTold_61 : DD cX8_countTold 61 (.iaload) 1 62 := ⟨by decide +kernel, rfl⟩
theorem dX8_countTold_62 : DD cX8_countTold 62 (.ireturn) 1 63 := ⟨by decide +kernel, rfl⟩
theorem dX8_countTold_63 : DD cX8_countTold 63 (.aload_n 0) 1 64 := ⟨by decide +kernel, rfl⟩
theorem dX8_countTold_64 : DD cX8_countTold 64 (.aload_n 0) 1 65 := ⟨by decide +kernel, rfl⟩
theorem dX8_countTold_65 : DD cX8_countTold 65 (.getfield 7) 3 68 := ⟨by decide +kernel, rfl⟩
theorem dX8_countTold_68 : DD cX8_countTold 68 (.iconst 4) 1 69 := ⟨by decide +kernel, rfl⟩
theorem dX8_countTold_69 : DD cX8_countTold 69 (.iaload) 1 70 := ⟨by decide +kernel, rfl⟩
theorem dX8_countTold_70 : DD cX8_countTold 70 (.invokevirtual 69) 3 73 := ⟨by decide +kernel, rfl⟩
theorem dX8_countTold_73 : DB cX8_countTold 73 (.ifCond .eq) 7 3 76 80 := ⟨by decide +kernel, rfl, rfl⟩
theorem dX8_countTold_76 : DD cX8_countTold 76 (.iconst 1) 1 77 := ⟨by decide +kernel, rfl⟩
theorem dX8_countTold_77 : DB cX8_countTold 77 (.goto) 4 3 80 81 := ⟨by decide +kernel, rfl, rfl⟩
theorem dX8_countTold_80 : DD cX8_countTold 80 (.iconst 0) 1 81 := ⟨by decide +kernel, rfl⟩
theorem dX8_countTold_81 : DD cX8_countTold 81 (.ireturn) 1 82 := ⟨by decide +kernel, rfl⟩
theorem dX8_countTold_82 : DD cX8_countTold 82 (.aload_n 0) 1 83 := ⟨by decide +kernel, rfl⟩
theorem dX8_countTold_83 : DD cX8_countTold 83 (.aload_n 0) 1 84 := ⟨by decide +kernel, rfl⟩
theorem dX8_countTold_84 : DD cX8_countTold 84 (.getfield 7) 3 87 := ⟨by decide +kernel, rfl⟩
theorem dX8_countTold_87 : DD cX8_countTold 87 (.iconst 4) 1 88 := ⟨by decide +kernel, rfl⟩
theorem dX8_countTold_88 : DD cX8_countTold 88 (.iaload) 1 89 := ⟨by decide +kernel, rfl⟩
theorem dX8_countTold_89 : DD cX8_countTold 89 (.iconst 0) 1 90 := ⟨by decide +kernel, rfl⟩
theorem dX8_countTold_90 : DD cX8_countTold 90 (.invokevirtual 40) 3 93 := ⟨by decide +kernel, rfl⟩
theorem dX8_countTold_93 : DD cX8_countTold 93 (.iconst 1) 1 94 := ⟨by decide +kernel, rfl⟩
theorem dX8_countTold_94 : DD cX8_countTold 94 (.isub) 1 95 := ⟨by decide +kernel, rfl⟩
theorem dX8_countTold_95 : DD cX8_countTold 95 (.ireturn) 1 96 := ⟨by decide +kernel, rfl⟩
theorem dX8_countTold_96 : DD cX8_countTold 96 (.aload_n 0) 1 97 := ⟨by decide +kernel, rfl⟩
theorem dX8_countTold_97 : DD cX8_countTold 97 (.getfield 7) 3 100 := ⟨by decide +kernel, rfl⟩
theorem dX8_countTold_100 : DD cX8_countTold 100 (.iconst 5) 1 101 := ⟨by decide +kernel, rfl⟩
theorem dX8_countTold_101 : DD cX8_countTold 101 (.iaload) 1 102 := ⟨by decide +kernel, rfl⟩
theorem dX8_countTold_102 : DD cX8_countTold 102 (.iconst 1) 1 103 := ⟨by decide +kernel, rfl⟩
theorem dX8_countTold_103 : DD cX8_countTold 103 (.isub) 1 104 := ⟨by decide +kernel, rfl⟩
theorem dX8_countTold_104 : DD cX8_countTold 104 (.ireturn) 1 105 := ⟨by decide +kernel, rfl⟩
theorem dX8_countTold_105 : DD cX8_countTold 105 (.aload_n 0) 1 106 := ⟨by decide +kernel, rfl⟩
theorem dX8_countTold_106 : DD cX8_countTold 106 (.getfield 7) 3 109 := ⟨by decide +kernel, rfl⟩
theorem dX8_countTold_109 : DD cX8_countTold 109 (.iconst 3) 1 110 := ⟨by decide +kernel, rfl⟩
theorem dX8_countTold_110 : DD cX8_countTold 110 (.iaload) 1 111 := ⟨by decide +kernel, rfl⟩
theorem dX8_countTold_111 : DD cX8_countTold 111 (.ireturn) 1 112 := ⟨by decide +kernel, rfl⟩
theorem dX8_countTold_112 : DD cX8_countTold 112 (.aload_n 0) 1 113 := ⟨by decide +kernel, rfl⟩
theorem dX8_countTold_113 : DD cX8_countTold 113 (.getfield 7) 3 116 := ⟨by decide +kernel, rfl⟩
theorem dX8_countTold_116 : DD cX8_countTold 116 (.iconst 0) 1 117 := ⟨by decide +kernel, rfl⟩
theorem dX8_countTold_117 : DD cX8_countTold 117 (.iaload) 1 118 := ⟨by decide +kernel, rfl⟩
theorem dX8_countTold_118 : DD cX8_countTold 118 (.ireturn) 1 119 := ⟨by decide +kernel, rfl⟩
theorem dX8_countTold_119 : DD cX8_countTold 119 (.aload_n 0) 1 120 := ⟨by decide +kernel, rfl⟩
theorem dX8_countTold_120 : DD cX8_countTold 120 (.getfield 7) 3 123 := ⟨by decide +kernel, rfl⟩
theorem dX8_countTold_123 : DD cX8_countTold 123 (.bipush 6) 2 125 := ⟨by decide +kernel, rfl⟩
theorem dX8_countTold_125 : DD cX8_countTold 125 (.iaload) 1 126 := ⟨by decide +kernel, rfl⟩
theorem dX8_countTold_126 : DD cX8_countTold 126 (.aload_n 0) 1 127 := ⟨by decide +kernel, rfl⟩
theorem dX8_countTold_127 : DD cX8_countTold 127 (.getfield 7) 3 130 := ⟨by decide +kernel, rfl⟩
theorem dX8_countTold_130 : DD cX8_countTold 130 (.bipush 7) 2 132 := ⟨by decide +kernel, rfl⟩
theorem dX8_countTold_132 : DD cX8_countTold 132 (.iaload) 1 133 := ⟨by decide +kernel, rfl⟩
theorem dX8_countTold_133 : DD cX8_countTold 133 (.iadd) 1 134 := ⟨by decide +kernel, rfl⟩
theorem dX8_countTold_134 : DD cX8_countTold 134 (.ireturn) 1 135 := ⟨by decide +kernel, rfl⟩
theorem dX8_countTold_135 : DD cX8_countTold 135 (.aload_n 0) 1 136 := ⟨by decide +kernel, rfl⟩
theorem dX8_countTold_136 : DD cX8_countTold 136 (.getfield 7) 3 139 := ⟨by decide +kernel, rfl⟩
theorem dX8_countTold_139 : DD cX8_countTold 139 (.bipush 10) 2 141 := ⟨by decide +kernel, rfl⟩
theorem dX8_countTold_141 : DD cX8_countTold 141 (.iaload) 1 142 := ⟨by decide +kernel, rfl⟩
theorem dX8_countTold_142 : DD cX8_countTold 142 (.ireturn) 1 143 := ⟨by decide +kernel, rfl⟩
theorem dX8_countTold_143 : DD cX8_countTold 143 (.aload_n 0) 1 144 := ⟨by decide +kernel, rfl⟩
theorem dX8_countTold_144 : DD cX8_countTold 144 (.getfield 7) 3 147 := ⟨by decide +kernel, rfl⟩
theorem dX8_countTold_147 : DD cX8_countTold 147 (.bipush 11) 2 149 := ⟨by decide +kernel, rfl⟩
theorem dX8_countTold_149 : DD cX8_countTold 149 (.iaload) 1 150 := ⟨by decide +kernel, rfl⟩
theorem dX8_countTold_150 : DD cX8_countTold 150 (.ireturn) 1 151 := ⟨by decide +kernel, rfl⟩
theorem dX8_countTold_151 : DD cX8_countTold 151 (.aload_n 0) 1 152 := ⟨by decide +kernel, rfl⟩
theorem dX8_countTold_152 : DD cX8_countTold 152 (.invokevirtual 154) 3 155 := ⟨by decide +kernel, rfl⟩
theorem dX8_countTold_155 : DD cX8_countTold 155 (.ireturn) 1 156 := ⟨by decide +kernel, rfl⟩
theorem dX8_countTold_156 : DD cX8_countTold 156 (.aload_n 0) 1 157 := ⟨by decide +kernel, rfl⟩
theorem dX8_countTold_157 : DD cX8_countTold 157 (.getfield 44) 3 160 := ⟨by decide +kernel, rfl⟩
theorem dX8_countTold_160 : DD cX8_countTold 160 (.ireturn) 1 161 := ⟨by decide +kernel, rfl⟩
theorem dX8_count_0 : DD cX8_count 0 (.aload_n 0) 1 1 := ⟨by decide +kernel, rfl⟩
theorem dX8_count_1 : DD cX8_count 1 (.iload_n 1) 1 2 := ⟨by decide +kernel, rfl⟩
theorem dX8_count_2 : DD cX8_count 2 (.iconst 0) 1 3 := ⟨by decide +kernel, rfl⟩
theorem dX8_count_3 : DD cX8_count 3 (.bipush 10) 2 5 := ⟨by decide +kernel, rfl⟩
theorem dX8_count_5 : DD cX8_count 5 (.invokestatic 36) 3 8 := ⟨by decide +kernel, rfl⟩
theorem dX8_count_8 : DB cX8_count 8 (.ifCond .eq) 7 3 11 15 := ⟨by decide +kernel, rfl, rfl⟩
theorem dX8_count_11 : DD cX8_count 11 (.iconst 0) 1 12 := ⟨by decide +kernel, rfl⟩
theorem dX8_count_12 : DB cX8_count 12 (.goto) 4 3 15 16 := ⟨by decide +kernel, rfl, rfl⟩
theorem dX8_count_15 : DD cX8_count 15 (.iconst 1) 1 16 := ⟨by decide +kernel, rfl⟩
theorem dX8_count_16 : DD cX8_count 16 (.invokevirtual 86) 3 19 := ⟨by decide +kernel, rfl⟩
theorem dX8_count_19 : DB cX8_count 19 (.ifCond .eq) 11 3 22 30 := ⟨by decide +kernel, rfl, rfl⟩
theorem dX8_count_22 : DD cX8_count 22 (.aload_n 0) 1 23 := ⟨by decide +kernel, rfl⟩
theorem dX8_count_23 : DD cX8_count 23 (.iload_n 1) 1 24 := ⟨by decide +kernel, rfl⟩
theorem dX8_count_24 : DD cX8_count 24 (.invokevirtual 158) 3 27 := ⟨by decide +kernel, rfl⟩
theorem dX8_count_27 : DB cX8_count 27 (.goto) 4 3 30 31 := ⟨by decide +kernel, rfl, rfl⟩
theorem dX8_count_30 : DD cX8_count 30 (.iconst 0) 1 31 := ⟨by decide +kernel, rfl⟩
theorem dX8_count_31 : DD cX8_count 31 (.ireturn) 1 32 := ⟨by decide +kernel, rfl⟩
theorem dX8_setting_0 : DD cX8_setting 0 (.aload_n 0) 1 1 := ⟨by decide +kernel, rfl⟩
theorem dX8_setting_1 : DD cX8_setting 1 (.iload_n 1) 1 2 := ⟨by decide +kernel, rfl⟩
theorem dX8_setting_2 : DD cX8_setting 2 (.invokestatic 96) 3 5 := ⟨by decide +kernel, rfl⟩
theorem dX8_setting_5 : DB cX8_setting 5 (.ifCond .eq) 7 3 8 12 := ⟨by decide +kernel, rfl, rfl⟩
theorem dX8_setting_8 : DD cX8_setting 8 (.iconst 0) 1 9 := ⟨by decide +kernel, rfl⟩
theorem dX8_setting_9 : DB cX8_setting 9 (.goto) 4 3 12 13 := ⟨by decide +kernel, rfl, rfl⟩
theorem dX8_setting_12 : DD cX8_setting 12 (.iconst 1) 1 13 := ⟨by decide +kernel, rfl⟩
theorem dX8_setting_13 : DD cX8_setting 13 (.invokevirtual 86) 3 16 := ⟨by decide +kernel, rfl⟩
theorem dX8_setting_16 : DB cX8_setting 16 (.ifCond .eq) 14 3 19 30 := ⟨by decide +kernel, rfl, rfl⟩
theorem dX8_setting_19 : DD cX8_setting 19 (.aload_n 0) 1 20 := ⟨by decide +kernel, rfl⟩
theorem dX8_setting_20 : DD cX8_setting 20 (.getfield 7) 3 23 := ⟨by decide +kernel, rfl⟩
theorem dX8_setting_23 : DD cX8_setting 23 (.iconst 0) 1 24 := ⟨by decide +kernel, rfl⟩
theorem dX8_setting_24 : DD cX8_setting 24 (.iload_n 1) 1 25 := ⟨by decide +kernel, rfl⟩
theorem dX8_setting_25 : DD cX8_setting 25 (.iadd) 1 26 := ⟨by decide +kernel, rfl⟩
theorem dX8_setting_26 : DD cX8_setting 26 (.iaload) 1 27 := ⟨by decide +kernel, rfl⟩
theorem dX8_setting_27 : DB cX8_setting 27 (.goto) 4 3 30 31 := ⟨by decide +kernel, rfl, rfl⟩
theorem dX8_setting_30 : DD cX8_setting 30 (.iconst 0) 1 31 := ⟨by decide +kernel, rfl⟩
theorem dX8_setting_31 : DD cX8_setting 31 (.ireturn) 1 32 := ⟨by decide +kernel, rfl⟩
theorem dX8_force_0 : DD cX8_force 0 (.iload_n 1) 1 1 := ⟨by decide +kernel, rfl⟩
theorem dX8_force_1 : DD cX8_force 1 (.invokestatic 96) 3 4 := ⟨by decide +kernel, rfl⟩
theorem dX8_force_4 : DB cX8_force 4 (.ifCond .eq) 14 3 7 18 := ⟨by decide +kernel, rfl, rfl⟩
theorem dX8_force_7 : DD cX8_force 7 (.iload_n 2) 1 8 := ⟨by decide +kernel, rfl⟩
theorem dX8_force_8 : DD cX8_force 8 (.invokestatic 80) 3 11 := ⟨by decide +kernel, rfl⟩
theorem dX8_force_11 : DB cX8_force 11 (.ifCond .eq) 7 3 14 18 := ⟨by decide +kernel, rfl, rfl⟩
theorem dX8_force_14 : DD cX8_force 14 (.iconst 1) 1 15 := ⟨by decide +kernel, rfl⟩
theorem dX8_force_15 : DB cX8_force 15 (.goto) 4 3 18 19 := ⟨by decide +kernel, rfl, rfl⟩
theorem dX8_force_18 : DD cX8_force 18 (.iconst 0) 1 19 := ⟨by decide +kernel, rfl⟩
theorem dX8_force_19 : DD cX8_force 19 (.istore 6) 2 21 := ⟨by decide +kernel, rfl⟩
theorem dX8_force_21 : DD cX8_force 21 (.aload_n 0) 1 22 := ⟨by decide +kernel, rfl⟩
theorem dX8_force_22 : DD cX8_force 22 (.iload 6) 2 24 := ⟨by decide +kernel, rfl⟩
theorem dX8_force_24 : DB cX8_force 24 (.ifCond .ne) 7 3 27 31 := ⟨by decide +kernel, rfl, rfl⟩
theorem dX8_force_27 : DD cX8_force 27 (.iconst 1) 1 28 := ⟨by decide +kernel, rfl⟩
theorem dX8_force_28 : DB cX8_force 28 (.goto) 41 3 31 69 := ⟨by decide +kernel, rfl, rfl⟩
theorem dX8_force_31 : DD cX8_force 31 (.iload_n 3) 1 32 := ⟨by decide +kernel, rfl⟩
theorem dX8_force_32 : DD cX8_force 32 (.iconst 0) 1 33 := ⟨by decide +kernel, rfl⟩
theorem dX8_force_33 : DD cX8_force 33 (.aload_n 0) 1 34 := ⟨by decide +kernel, rfl⟩
theorem dX8_force_34 : DD cX8_force 34 (.getfield 7) 3 37 := ⟨by decide +kernel, rfl⟩
theorem dX8_force_37 : DD cX8_force 37 (.iconst 0) 1 38 := ⟨by decide +kernel, rfl⟩
theorem dX8_force_38 : DD cX8_force 38 (.iaload) 1 39 := ⟨by decide +kernel, rfl⟩
theorem dX8_force_39 : DD cX8_force 39 (.invokestatic 36) 3 42 := ⟨by decide +kernel, rfl⟩
theorem dX8_force_42 : DB cX8_force 42 (.ifCond .eq) 22 3 45 64 := ⟨by decide +kernel, rfl, rfl⟩
theorem dX8_force_45 : DD cX8_force 45 (.iload 4) 2 47 := ⟨by decide +kernel, rfl⟩
theorem dX8_force_47 : DD cX8_force 47 (.invokestatic 96) 3 50 := ⟨by decide +kernel, rfl⟩
theorem dX8_force_50 : DB cX8_force 50 (.ifCond .eq) 14 3 53 64 := ⟨by decide +kernel, rfl, rfl⟩
theorem dX8_force_53 : DD cX8_force 53 (.iload 5) 2 55 := ⟨by decide +kernel, rfl⟩
theorem dX8_force_55 : DD cX8_force 55 (.iconst 0) 1 56 := ⟨by decide +kernel, rfl⟩
theorem dX8_force_56 : DD cX8_force 56 (.bipush 12) 2 58 := ⟨by decide +kernel, rfl⟩
theorem dX8_force_58 : DD cX8_force 58 (.invokestatic 36) 3 61 := ⟨by decide +kernel, rfl⟩
theorem dX8_force_61 : DB cX8_force 61 (.ifCond .ne) 7 3 64 68 := ⟨by decide +kernel, rfl, rfl⟩
theorem dX8_force_64 : DD cX8_force 64 (.iconst 2) 1 65 := ⟨by decide +kernel, rfl⟩
theorem dX8_force_65 : DB cX8_force 65 (.goto) 4 3 68 69 := ⟨by decide +kernel, rfl, rfl⟩
theorem dX8_force_68 : DD cX8_force 68 (.iconst 0) 1 69 := ⟨by decide +kernel, rfl⟩
theorem dX8_force_69 : DD cX8_force 69 (.invokevirtual 86) 3 72 := ⟨by decide +kernel, rfl⟩
theorem dX8_force_72 : DB cX8_force 72 (.ifCond .ne) 5 3 75 77 := ⟨by decide +kernel, rfl, rfl⟩
theorem dX8_force_75 : DD cX8_force 75 (.iconst 0) 1 76 := ⟨by decide +kernel, rfl⟩
theorem dX8_force_76 : DD cX8_force 76 (.ireturn) 1 77 := ⟨by decide +kernel, rfl⟩
theorem dX8_force_77 : DD cX8_force 77 (.aload_n 0) 1 78 := ⟨by decide +kernel, rfl⟩
theorem dX8_force_78 : DD cX8_force 78 (.invokevirtual 148) 3 81 := ⟨by decide +kernel, rfl⟩
theorem dX8_force_81 : DD cX8_force 81 (.aload_n 0) 1 82 := ⟨by decide +kernel, rfl⟩
theorem dX8_force_82 : DD cX8_force 82 (.iload_n 1) 1 83 := ⟨by decide +kernel, rfl⟩
theorem dX8_force_83 : DD cX8_force 83 (.iload_n 2) 1 84 := ⟨by decide +kernel, rfl⟩
theorem dX8_force_84 : DD cX8_force 84 (.iload_n 3) 1 85 := ⟨by decide +kernel, rfl⟩
theorem dX8_force_85 : DD cX8_force 85 (.iload 4) 2 87 := ⟨by decide +kernel, rfl⟩
theorem dX8_force_87 : DD cX8_force 87 (.iload 5) 2 89 := ⟨by decide +kernel, rfl⟩
theorem dX8_force_89 : DD cX8_force 89 (.invokevirtual 140) 3 92 := ⟨by decide +kernel, rfl⟩
theorem dX8_force_92 : DB cX8_force 92 (.ifCond .eq) 7 3 95 99 := ⟨by decide +kernel, rfl, rfl⟩
theorem dX8_force_95 : DD cX8_force 95 (.iconst 1) 1 96 := ⟨by decide +kernel, rfl⟩
theorem dX8_force_96 : DB cX8_force 96 (.goto) 4 3 99 100 := ⟨by decide +kernel, rfl, rfl⟩
theorem dX8_force_99 : DD cX8_force 99 (.iconst 0) 1 100 := ⟨by decide +kernel, rfl⟩
theorem dX8_force_100 : DD cX8_force 100 (.ireturn) 1 101 := ⟨by decide +kernel, rfl⟩
theorem dX8_thresholdTold_0 : DD cX8_thresholdTold 0 (.aload_n 0) 1 1 := ⟨by decide +kernel, rfl⟩
theorem dX8_thresholdTold_1 : DD cX8_thresholdTold 1 (.aload_n 0) 1 2 := ⟨by decide +kernel, rfl⟩
theorem dX8_thresholdTold_2 : DD cX8_thresholdTold 2 (.getfield 7) 3 5 := ⟨by decide +kernel, rfl⟩
theorem dX8_thresholdTold_5 : DD cX8_thresholdTold 5 (.iconst 1) 1 6 := ⟨by decide +kernel, rfl⟩
theorem dX8_thresholdTold_6 : DD cX8_thresholdTold 6 (.iaload) 1 7 := ⟨by decide +kernel, rfl⟩
theorem dX8_thresholdTold_7 : DD cX8_thresholdTold 7 (.iload_n 1) 1 8 := ⟨by decide +kernel, rfl⟩
theorem dX8_thresholdTold_8 : DD cX8_thresholdTold 8 (.iload_n 2) 1 9 := ⟨by decide +kernel, rfl⟩
theorem dX8_thresholdTold_9 : DD cX8_thresholdTold 9 (.iload_n 3) 1 10 := ⟨by decide +kernel, rfl⟩
theorem dX8_thresholdTold_10 : DD cX8_thresholdTold 10 (.invokevirtual 47) 3 13 := ⟨by decide +kernel, rfl⟩
theorem dX8_thresholdTold_13 : DD cX8_thresholdTold 13 (.istore 4) 2 15 := ⟨by decide +kernel, rfl⟩
theorem dX8_thresholdTold_15 : DD cX8_thresholdTold 15 (.iload 4) 2 17 := ⟨by decide +kernel, rfl⟩
theorem dX8_thresholdTold_17 : DD cX8_thresholdTold 17 (.bipush 99) 2 19 := ⟨by decide +kernel, rfl⟩
theorem dX8_thresholdTold_19 : DB cX8_thresholdTold 19 (.if_icmp .ne) 7 3 22 26 := ⟨by decide +kernel, rfl, rfl⟩
theorem dX8_thresholdTold_22 : DD cX8_thresholdTold 22 (.iconst (-1)) 1 23 := ⟨by decide +kernel, rfl⟩
theorem dX8_thresholdTold_23 : DB cX8_thresholdTold 23 (.goto) 5 3 26 28 := ⟨by decide +kernel, rfl, rfl⟩
theorem dX8_thresholdTold_26 : DD cX8_thresholdTold 26 (.iload 4) 2 28 := ⟨by decide +kernel, rfl⟩
theorem dX8_thresholdTold_28 : DD cX8_thresholdTold 28 (.ireturn) 1 29 := ⟨by decide +kernel, rfl⟩
theorem dX8_threshold_0 : DD cX8_threshold 0 (.iload_n 1) 1 1 := ⟨by decide +kernel, rfl⟩
theorem dX8_threshold_1 : DD cX8_threshold 1 (.invokestatic 96) 3 4 := ⟨by decide +kernel, rfl⟩
theorem dX8_threshold_4 : DB cX8_threshold 4 (.ifCond .eq) 14 3 7 18 := ⟨by decide +kernel, rfl, rfl⟩
theorem dX8_threshold_7 : DD cX8_threshold 7 (.iload_n 2) 1 8 := ⟨by decide +kernel, rfl⟩
theorem dX8_threshold_8 : DD cX8_threshold 8 (.invokestatic 80) 3 11 := ⟨by decide +kernel, rfl⟩
theorem dX8_threshold_11 : DB cX8_threshold 11 (.ifCond .eq) 7 3 14 18 := ⟨by decide +kernel, rfl, rfl⟩
theorem dX8_threshold_14 : DD cX8_threshold 14 (.iconst 1) 1 15 := ⟨by decide +kernel, rfl⟩
theorem dX8_threshold_15 : DB cX8_threshold 15 (.goto) 4 3 18 19 := ⟨by decide +kernel, rfl, rfl⟩
theorem dX8_threshold_18 : DD cX8_threshold 18 (.iconst 0) 1 19 := ⟨by decide +kernel, rfl⟩
theorem dX8_threshold_19 : DD cX8_threshold 19 (.istore 5) 2 21 := ⟨by decide +kernel, rfl⟩
theorem dX8_threshold_21 : DD cX8_threshold 21 (.aload_n 0) 1 22 := ⟨by decide +kernel, rfl⟩
theorem dX8_threshold_22 : DD cX8_threshold 22 (.iload 5) 2 24 := ⟨by decide +kernel, rfl⟩
theorem dX8_threshold_24 : DB cX8_threshold 24 (.ifCond .ne) 7 3 27 31 := ⟨by decide +kernel, rfl, rfl⟩
theorem dX8_threshold_27 : DD cX8_threshold 27 (.iconst 1) 1 28 := ⟨by decide +kernel, rfl⟩
theorem dX8_threshold_28 : DB cX8_threshold 28 (.goto) 23 3 31 51 := ⟨by decide +kernel, rfl, rfl⟩
theorem dX8_threshold_31 : DD cX8_threshold 31 (.iload_n 3) 1 32 := ⟨by decide +kernel, rfl⟩
theorem dX8_threshold_32 : DD cX8_threshold 32 (.invokestatic 96) 3 35 := ⟨by decide +kernel, rfl⟩
theorem dX8_threshold_35 : DB cX8_threshold 35 (.ifCond .eq) 11 3 38 46 := ⟨by decide +kernel, rfl, rfl⟩
theorem dX8_threshold_38 : DD cX8_threshold 38 (.iload 4) 2 40 := ⟨by decide +kernel, rfl⟩
theorem dX8_threshold_40 : DD cX8_threshold 40 (.invokestatic 96) 3 43 := ⟨by decide +kernel, rfl⟩
theorem dX8_threshold_43 : DB cX8_threshold 43 (.ifCond .ne) 7 3 46 50 := ⟨by decide +kernel, rfl, rfl⟩
theorem dX8_threshold_46 : DD cX8_threshold 46 (.iconst 2) 1 47 := ⟨by decide +kernel, rfl⟩
theorem dX8_threshold_47 : DB cX8_threshold 47 (.goto) 4 3 50 51 := ⟨by decide +kernel, rfl, rfl⟩
theorem dX8_threshold_50 : DD cX8_threshold 50 (.iconst 0) 1 51 := ⟨by decide +kernel, rfl⟩
theorem dX8_threshold_51 : DD cX8_threshold 51 (.invokevirtual 86) 3 54 := ⟨by decide +kernel, rfl⟩
theorem dX8_threshold_54 : DB cX8_threshold 54 (.ifCond .ne) 5 3 57 59 := ⟨by decide +kernel, rfl, rfl⟩
theorem dX8_threshold_57 : DD cX8_threshold 57 (.iconst 0) 1 58 := ⟨by decide +kernel, rfl⟩
theorem dX8_threshold_58 : DD cX8_threshold 58 (.ireturn) 1 59 := ⟨by decide +kernel, rfl⟩
theorem dX8_threshold_59 : DD cX8_threshold 59 (.aload_n 0) 1 60 := ⟨by decide +kernel, rfl⟩
theorem dX8_threshold_60 : DD cX8_threshold 60 (.invokevirtual 148) 3 63 := ⟨by decide +kernel, rfl⟩
theorem dX8_threshold_63 : DD cX8_threshold 63 (.aload_n 0) 1 64 := ⟨by decide +kernel, rfl⟩
theorem dX8_threshold_64 : DD cX8_threshold 64 (.iload_n 1) 1 65 := ⟨by decide +kernel, rfl⟩
theorem dX8_threshold_65 : DD cX8_threshold 65 (.iload_n 2) 1 66 := ⟨by decide +kernel, rfl⟩
theorem dX8_threshold_66 : DD cX8_threshold 66 (.iload_n 3) 1 67 := ⟨by decide +kernel, rfl⟩
theorem dX8_threshold_67 : DD cX8_threshold 67 (.invokevirtual 161) 3 70 := ⟨by decide +kernel, rfl⟩
theorem dX8_threshold_70 : DD cX8_threshold 70 (.ireturn) 1 71 := ⟨by decide +kernel, rfl⟩
theorem dX8_adviceTold_0 : DD cX8_adviceTold 0 (.aload_n 0) 1 1 := ⟨by decide +kernel, rfl⟩
theorem dX8_adviceTold_1 : DD cX8_adviceTold 1 (.aload_n 0) 1 2 := ⟨by decide +kernel, rfl⟩
theorem dX8_adviceTold_2 : DD cX8_adviceTold 2 (.getfield 7) 3 5 := ⟨by decide +kernel, rfl⟩
theorem dX8_adviceTold_5 : DD cX8_adviceTold 5 (.iconst 4) 1 6 := ⟨by decide +kernel, rfl⟩
theorem dX8_adviceTold_6 : DD cX8_adviceTold 6 (.iaload) 1 7 := ⟨by decide +kernel, rfl⟩
theorem dX8_adviceTold_7 : DD cX8_adviceTold 7 (.invokevirtual 69) 3 10 := ⟨by decide +kernel, rfl⟩
theorem dX8_adviceTold_10 : DB cX8_adviceTold 10 (.ifCond .ne) 12 3 13 22 := ⟨by decide +kernel, rfl, rfl⟩
theorem dX8_adviceTold_13 : DD cX8_adviceTold 13 (.aload_n 0) 1 14 := ⟨by decide +kernel, rfl⟩
theorem dX8_adviceTold_14 : DD cX8_adviceTold 14 (.getfield 7) 3 17 := ⟨by decide +kernel, rfl⟩
theorem dX8_adviceTold_17 : DD cX8_adviceTold 17 (.iconst 1) 1 18 := ⟨by decide +kernel, rfl⟩
theorem dX8_adviceTold_18 : DD cX8_adviceTold 18 (.iaload) 1 19 := ⟨by decide +kernel, rfl⟩
theorem dX8_adviceTold_19 : DB cX8_adviceTold 19 (.ifCond .ne) 7 3 22 26 := ⟨by decide +kernel, rfl, rfl⟩
theorem dX8_adviceTold_22 : DD cX8_adviceTold 22 (.iconst (-1)) 1 23 := ⟨by decide +kernel, rfl⟩
theorem dX8_adviceTold_23 : DB cX8_adviceTold 23 (.goto) 33 3 26 56 := ⟨by decide +kernel, rfl, rfl⟩
theorem dX8_adviceTold_26 : DD cX8_adviceTold 26 (.aload_n 0) 1 27 := ⟨by decide +kernel, rfl⟩
theorem dX8_adviceTold_27 : DD cX8_adviceTold 27 (.aload_n 0) 1 28 := ⟨by decide +kernel, rfl⟩
theorem dX8_adviceTold_28 : DD cX8_adviceTold 28 (.getfield 7) 3 31 := ⟨by decide +kernel, rfl⟩
theorem dX8_adviceTold_31 : DD cX8_adviceTold 31 (.iconst 1) 1 32 := ⟨by decide +kernel, rfl⟩
theorem dX8_adviceTold_32 : DD cX8_adviceTold 32 (.iaload) 1 33 := ⟨by decide +kernel, rfl⟩
theorem dX8_adviceTold_33 : DD cX8_adviceTold 33 (.iconst 1) 1 34 := ⟨by decide +kernel, rfl⟩
theorem dX8_adviceTold_34 : DD cX8_adviceTold 34 (.isub) 1 35 := ⟨by decide +kernel, rfl⟩
theorem dX8_adviceTold_35 : DD cX8_adviceTold 35 (.iload_n 1) 1 36 := ⟨by decide +kernel, rfl⟩
theorem dX8_adviceTold_36 : DD cX8_adviceTold 36 (.aload_n 0) 1 37 := ⟨by decide +kernel, rfl⟩
theorem dX8_adviceTold_37 : DD cX8_adviceTold 37 (.getfield 7) 3 40 := ⟨by decide +kernel, rfl⟩
theorem dX8_adviceTold_40 : DD cX8_adviceTold 40 (.iconst 4) 1 41 := ⟨by decide +kernel, rfl⟩
theorem dX8_adviceTold_41 : DD cX8_adviceTold 41 (.iaload) 1 42 := ⟨by decide +kernel, rfl⟩
theorem dX8_adviceTold_42 : DD cX8_adviceTold 42 (.aload_n 0) 1 43 := ⟨by decide +kernel, rfl⟩
theorem dX8_adviceTold_43 : DD cX8_adviceTold 43 (.getfield 7) 3 46 := ⟨by decide +kernel, rfl⟩
theorem dX8_adviceTold_46 : DD cX8_adviceTold 46 (.iconst 3) 1 47 := ⟨by decide +kernel, rfl⟩
theorem dX8_adviceTold_47 : DD cX8_adviceTold 47 (.iaload) 1 48 := ⟨by decide +kernel, rfl⟩
theorem dX8_adviceTold_48 : DD cX8_adviceTold 48 (.aload_n 0) 1 49 := ⟨by decide +kernel, rfl⟩
theorem dX8_adviceTold_49 : DD cX8_adviceTold 49 (.iload_n 1) 1 50 := ⟨by decide +kernel, rfl⟩
theorem dX8_adviceTold_50 : DD cX8_adviceTold 50 (.invokevirtual 103) 3 53 := ⟨by decide +kernel, rfl⟩
theorem dX8_adviceTold_53 : DD cX8_adviceTold 53 (.invokevirtual 73) 3 56 := ⟨by decide +kernel, rfl⟩
theorem dX8_adviceTold_56 : DD cX8_adviceTold 56 (.ireturn) 1 57 := ⟨by decide +kernel, rfl⟩
theorem dX8_advice_0 : DD cX8_advice 0 (.aload_n 0) 1 1 := ⟨by decide +kernel, rfl⟩
theorem dX8_advice_1 : DD cX8_advice 1 (.iload_n 1) 1 2 := ⟨by decide +kernel, rfl⟩
theorem dX8_advice_2 : DD cX8_advice 2 (.invokestatic 96) 3 5 := ⟨by decide +kernel, rfl⟩
theorem dX8_advice_5 : DB cX8_advice 5 (.ifCond .eq) 7 3 8 12 := ⟨by decide +kernel, rfl, rfl⟩
theorem dX8_advice_8 : DD cX8_advice 8 (.iconst 0) 1 9 := ⟨by decide +kernel, rfl⟩
theorem dX8_advice_9 : DB cX8_advice 9 (.goto) 4 3 12 13 := ⟨by decide +kernel, rfl, rfl⟩
theorem dX8_advice_12 : DD cX8_advice 12 (.iconst 1) 1 13 := ⟨by decide +kernel, rfl⟩
theorem dX8_advice_13 : DD cX8_advice 13 (.invokevirtual 86) 3 16 := ⟨by decide +kernel, rfl⟩
theorem dX8_advice_16 : DB cX8_advice 16 (.ifCond .ne) 5 3 19 21 := ⟨by decide +kernel, rfl, rfl⟩
theorem dX8_advice_19 : DD cX8_advice 19 (.iconst 0) 1 20 := ⟨by decide +kernel, rfl⟩
theorem dX8_advice_20 : DD cX8_advice 20 (.ireturn) 1 21 := ⟨by decide +kernel, rfl⟩
theorem dX8_advice_21 : DD cX8_advice 21 (.aload_n 0) 1 22 := ⟨by decide +kernel, rfl⟩
theorem dX8_advice_22 : DD cX8_advice 22 (.invokevirtual 148) 3 25 := ⟨by decide +kernel, rfl⟩
theorem dX8_advice_25 : DD cX8_advice 25 (.aload_n 0) 1 26 := ⟨by decide +kernel, rfl⟩
theorem dX8_advice_26 : DD cX8_advice 26 (.iload_n 1) 1 27 := ⟨by decide +kernel, rfl⟩
theorem dX8_advice_27 : DD cX8_advice 27 (.invokevirtual 165) 3 30 := ⟨by decide +kernel, rfl⟩
theorem dX8_advice_30 : DD cX8_advice 30 (.ireturn) 1 31 := ⟨by decide +kernel, rfl⟩
theorem dX8_isBid_0 : DD cX8_isBid 0 (.iload_n 2) 1 1 := ⟨by decide +kernel, rfl⟩
theorem dX8_isBid_1 : DD cX8_isBid 1 (.iconst 0) 1 2 := ⟨by decide +kernel, rfl⟩
theorem dX8_isBid_2 : DD cX8_isBid 2 (.aload_n 0) 1 3 := ⟨by decide +kernel, rfl⟩
theorem dX8_isBid_3 : DD cX8_isBid 3 (.iload_n 1) 1 4 := ⟨by decide +kernel, rfl⟩
theorem dX8_isBid_4 : DD cX8_isBid 4 (.invokevirtual 103) 3 7 := ⟨by decide +kernel, rfl⟩
theorem dX8_isBid_7 : DD cX8_isBid 7 (.invokestatic 36) 3 10 := ⟨by decide +kernel, rfl⟩
theorem dX8_isBid_10 : DD cX8_isBid 10 (.ireturn) 1 11 := ⟨by decide +kernel, rfl⟩
theorem dX8_refutedTold_0 : DD cX8_refutedTold 0 (.aload_n 0) 1 1 := ⟨by decide +kernel, rfl⟩
theorem dX8_refutedTold_1 : DD cX8_refutedTold 1 (.iload_n 1) 1 2 := ⟨by decide +kernel, rfl⟩
theorem dX8_refutedTold_2 : DD cX8_refutedTold 2 (.aload_n 0) 1 3 := ⟨by decide +kernel, rfl⟩
theorem dX8_refutedTold_3 : DD cX8_refutedTold 3 (.getfield 7) 3 6 := ⟨by decide +kernel, rfl⟩
theorem dX8_refutedTold_6 : DD cX8_refutedTold 6 (.iconst 4) 1 7 := ⟨by decide +kernel, rfl⟩
theorem dX8_refutedTold_7 : DD cX8_refutedTold 7 (.iaload) 1 8 := ⟨by decide +kernel, rfl⟩
theorem dX8_refutedTold_8 : DD cX8_refutedTold 8 (.invokevirtual 65) 3 11 := ⟨by decide +kernel, rfl⟩
theorem dX8_refutedTold_11 : DB cX8_refutedTold 11 (.ifCond .eq) 5 3 14 16 := ⟨by decide +kernel, rfl, rfl⟩
theorem dX8_refutedTold_14 : DD cX8_refutedTold 14 (.iconst (-1)) 1 15 := ⟨by decide +kernel, rfl⟩
theorem dX8_refutedTold_15 : DD cX8_refutedTold 15 (.ireturn) 1 16 := ⟨by decide +kernel, rfl⟩
theorem dX8_refutedTold_16 : DD cX8_refutedTold 16 (.aload_n 0) 1 17 := ⟨by decide +kernel, rfl⟩
theorem dX8_refutedTold_17 : DD cX8_refutedTold 17 (.aload_n 0) 1 18 := ⟨by decide +kernel, rfl⟩
theorem dX8_refutedTold_18 : DD cX8_refutedTold 18 (.getfield 7) 3 21 := ⟨by decide +kernel, rfl⟩
theorem dX8_refutedTold_21 : DD cX8_refutedTold 21 (.iconst 4) 1 22 := ⟨by decide +kernel, rfl⟩
theorem dX8_refutedTold_22 : DD cX8_refutedTold 22 (.iaload) 1 23 := ⟨by decide +kernel, rfl⟩
theorem dX8_refutedTold_23 : DD cX8_refutedTold 23 (.invokevirtual 69) 3 26 := ⟨by decide +kernel, rfl⟩
theorem dX8_refutedTold_26 : DB cX8_refutedTold 26 (.ifCond .ne) 12 3 29 38 := ⟨by decide +kernel, rfl, rfl⟩
theorem dX8_refutedTold_29 : DD cX8_refutedTold 29 (.aload_n 0) 1 30 := ⟨by decide +kernel, rfl⟩
theorem dX8_refutedTold_30 : DD cX8_refutedTold 30 (.getfield 7) 3 33 := ⟨by decide +kernel, rfl⟩
theorem dX8_refutedTold_33 : DD cX8_refutedTold 33 (.iconst 1) 1 34 := ⟨by decide +kernel, rfl⟩
theorem dX8_refutedTold_34 : DD cX8_refutedTold 34 (.iaload) 1 35 := ⟨by decide +kernel, rfl⟩
theorem dX8_refutedTold_35 : DB cX8_refutedTold 35 (.ifCond .ne) 5 3 38 40 := ⟨by decide +kernel, rfl, rfl⟩
theorem dX8_refutedTold_38 : DD cX8_refutedTold 38 (.iconst 0) 1 39 := ⟨by decide +kernel, rfl⟩
theorem dX8_refutedTold_39 : DD cX8_refutedTold 39 (.ireturn) 1 40 := ⟨by decide +kernel, rfl⟩
theorem dX8_refutedTold_40 : DD cX8_refutedTold 40 (.iconst 0) 1 41 := ⟨by decide +kernel, rfl⟩
theorem dX8_refutedTold_41 : DD cX8_refutedTold 41 (.istore_n 3) 1 42 := ⟨by decide +kernel, rfl⟩
theorem dX8_refutedTold_42 : DD cX8_refutedTold 42 (.iload_n 3) 1 43 := ⟨by decide +kernel, rfl⟩
theorem dX8_refutedTold_43 : DD cX8_refutedTold 43 (.aload_n 0) 1 44 := ⟨by decide +kernel, rfl⟩
theorem dX8_refutedTold_44 : DD cX8_refutedTold 44 (.iconst 1) 1 45 := ⟨by decide +kernel, rfl⟩
theorem dX8_refutedTold_45 : DD cX8_refutedTold 45 (.iload_n 1) 1 46 := ⟨by decide +kernel, rfl⟩
theorem dX8_refutedTold_46 : DD cX8_refutedTold 46 (.isub) 1 47 := ⟨by decide +kernel, rfl⟩
theorem dX8_refutedTold_47 : DD cX8_refutedTold 47 (.invokevirtual 103) 3 50 := ⟨by decide +kernel, rfl⟩
theorem dX8_refutedTold_50 : DB cX8_refutedTold 50 (.if_icmp .gt) 46 3 53 96 := ⟨by decide +kernel, rfl, rfl⟩
theorem dX8_refutedTold_53 : DD cX8_refutedTold 53 (.aload_n 0) 1 54 := ⟨by decide +kernel, rfl⟩
theorem dX8_refutedTold_54 : DD cX8_refutedTold 54 (.aload_n 0) 1 55 := ⟨by decide +kernel, rfl⟩
theorem dX8_refutedTold_55 : DD cX8_refutedTold 55 (.getfield 7) 3 58 := ⟨by decide +kernel, rfl⟩
theorem dX8_refutedTold_58 : DD cX8_refutedTold 58 (.iconst 1) 1 59 := ⟨by decide +kernel, rfl⟩
theorem dX8_refutedTold_59 : DD cX8_refutedTold 59 (.iaload) 1 60 := ⟨by decide +kernel, rfl⟩
theorem dX8_refutedTold_60 : DD cX8_refutedTold 60 (.iconst 1) 1 61 := ⟨by decide +kernel, rfl⟩
theorem dX8_refutedTold_61 : DD cX8_refutedTold 61 (.isub) 1 62 := ⟨by decide +kernel, rfl⟩
theorem dX8_refutedTold_62 : DD cX8_refutedTold 62 (.iload_n 1) 1 63 := ⟨by decide +kernel, rfl⟩
theorem dX8_refutedTold_63 : DD cX8_refutedTold 63 (.aload_n 0) 1 64 := ⟨by decide +kernel, rfl⟩
theorem dX8_refutedTold_64 : DD cX8_refutedTold 64 (.getfield 7) 3 67 := ⟨by decide +kernel, rfl⟩
theorem dX8_refutedTold_67 : DD cX8_refutedTold 67 (.iconst 4) 1 68 := ⟨by decide +kernel, rfl⟩
theorem dX8_refutedTold_68 : DD cX8_refutedTold 68 (.iaload) 1 69 := ⟨by decide +kernel, rfl⟩
theorem dX8_refutedTold_69 : DD cX8_refutedTold 69 (.aload_n 0) 1 70 := ⟨by decide +kernel, rfl⟩
theorem dX8_refutedTold_70 : DD cX8_refutedTold 70 (.getfield 7) 3 73 := ⟨by decide +kernel, rfl⟩
theorem dX8_refutedTold_73 : DD cX8_refutedTold 73 (.iconst 3) 1 74 := ⟨by decide +kernel, rfl⟩
theorem dX8_refutedTold_74 : DD cX8_refutedTold 74 (.iaload) 1 75 := ⟨by decide +kernel, rfl⟩
theorem dX8_refutedTold_75 : DD cX8_refutedTold 75 (.aload_n 0) 1 76 := ⟨by decide +kernel, rfl⟩
theorem dX8_refutedTold_76 : DD cX8_refutedTold 76 (.iload_n 1) 1 77 := ⟨by decide +kernel, rfl⟩
theorem dX8_refutedTold_77 : DD cX8_refutedTold 77 (.invokevirtual 103) 3 80 := ⟨by decide +kernel, rfl⟩
theorem dX8_refutedTold_80 : DD cX8_refutedTold 80 (.iload_n 2) 1 81 := ⟨by decide +kernel, rfl⟩
theorem dX8_refutedTold_81 : DD cX8_refutedTold 81 (.iload_n 3) 1 82 := ⟨by decide +kernel, rfl⟩
theorem dX8_refutedTold_82 : DD cX8_refutedTold 82 (.invokevirtual 57) 3 85 := ⟨by decide +kernel, rfl⟩
theorem dX8_refutedTold_85 : DB cX8_refutedTold 85 (.ifCond .ne) 5 3 88 90 := ⟨by decide +kernel, rfl, rfl⟩
theorem dX8_refutedTold_88 : DD cX8_refutedTold 88 (.iload_n 3) 1 89 := ⟨by decide +kernel, rfl⟩
theorem dX8_refutedTold_89 : DD cX8_refutedTold 89 (.ireturn) 1 90 := ⟨by decide +kernel, rfl⟩
theorem dX8_refutedTold_90 : DD cX8_refutedTold 90 (.iinc 3 1) 3 93 := ⟨by decide +kernel, rfl⟩
theorem dX8_refutedTold_93 : DB cX8_refutedTold 93 (.goto) (-51) 3 96 42 := ⟨by decide +kernel, rfl, rfl⟩
theorem dX8_refutedTold_96 : DD cX8_refutedTold 96 (.iconst (-1)) 1 97 := ⟨by decide +kernel, rfl⟩
theorem dX8_refutedTold_97 : DD cX8_refutedTold 97 (.ireturn) 1 98 := ⟨by decide +kernel, rfl⟩
theorem dX8_refuted_0 : DD cX8_refuted 0 (.aload_n 0) 1 1 := ⟨by decide +kernel, rfl⟩
theorem dX8_refuted_1 : DD cX8_refuted 1 (.iload_n 1) 1 2 := ⟨by decide +kernel, rfl⟩
theorem dX8_refuted_2 : DD cX8_refuted 2 (.invokestatic 96) 3 5 := ⟨by decide +kernel, rfl⟩
theorem dX8_refuted_5 : DB cX8_refuted 5 (.ifCond .ne) 7 3 8 12 := ⟨by decide +kernel, rfl, rfl⟩
theorem dX8_refuted_8 : DD cX8_refuted 8 (.iconst 1) 1 9 := ⟨by decide +kernel, rfl⟩
theorem dX8_refuted_9 : DB cX8_refuted 9 (.goto) 17 3 12 26 := ⟨by decide +kernel, rfl, rfl⟩
theorem dX8_refuted_12 : DD cX8_refuted 12 (.aload_n 0) 1 13 := ⟨by decide +kernel, rfl⟩
theorem dX8_refuted_13 : DD cX8_refuted 13 (.iload_n 1) 1 14 := ⟨by decide +kernel, rfl⟩
theorem dX8_refuted_14 : DD cX8_refuted 14 (.iload_n 2) 1 15 := ⟨by decide +kernel, rfl⟩
theorem dX8_refuted_15 : DD cX8_refuted 15 (.invokevirtual 168) 3 18 := ⟨by decide +kernel, rfl⟩
theorem dX8_refuted_18 : DB cX8_refuted 18 (.ifCond .ne) 7 3 21 25 := ⟨by decide +kernel, rfl, rfl⟩
theorem dX8_refuted_21 : DD cX8_refuted 21 (.iconst 2) 1 22 := ⟨by decide +kernel, rfl⟩
theorem dX8_refuted_22 : DB cX8_refuted 22 (.goto) 4 3 25 26 := ⟨by decide +kernel, rfl, rfl⟩
theorem dX8_refuted_25 : DD cX8_refuted 25 (.iconst 0) 1 26 := ⟨by decide +kernel, rfl⟩
theorem dX8_refuted_26 : DD cX8_refuted 26 (.invokevirtual 86) 3 29 := ⟨by decide +kernel, rfl⟩
theorem dX8_refuted_29 : DB cX8_refuted 29 (.ifCond .ne) 5 3 32 34 := ⟨by decide +kernel, rfl, rfl⟩
theorem dX8_refuted_32 : DD cX8_refuted 32 (.iconst 0) 1 33 := ⟨by decide +kernel, rfl⟩
theorem dX8_refuted_33 : DD cX8_refuted 33 (.ireturn) 1 34 := ⟨by decide +kernel, rfl⟩
theorem dX8_refuted_34 : DD cX8_refuted 34 (.aload_n 0) 1 35 := ⟨by decide +kernel, rfl⟩
theorem dX8_refuted_35 : DD cX8_refuted 35 (.invokevirtual 148) 3 38 := ⟨by decide +kernel, rfl⟩
theorem dX8_refuted_38 : DD cX8_refuted 38 (.aload_n 0) 1 39 := ⟨by decide +kernel, rfl⟩
theorem dX8_refuted_39 : DD cX8_refuted 39 (.iload_n 1) 1 40 := ⟨by decide +kernel, rfl⟩
theorem dX8_refuted_40 : DD cX8_refuted 40 (.iload_n 2) 1 41 := ⟨by decide +kernel, rfl⟩
theorem dX8_refuted_41 : DD cX8_refuted 41 (.invokevirtual 171) 3 44 := ⟨by decide +kernel, rfl⟩
theorem dX8_refuted_44 : DD cX8_refuted 44 (.ireturn) 1 45 := ⟨by decide +kernel, rfl⟩
theorem dX8_bestMoveTold_0 : DD cX8_bestMoveTold 0 (.aload_n 0) 1 1 := ⟨by decide +kernel, rfl⟩
theorem dX8_bestMoveTold_1 : DD cX8_bestMoveTold 1 (.aload_n 0) 1 2 := ⟨by decide +kernel, rfl⟩
theorem dX8_bestMoveTold_2 : DD cX8_bestMoveTold 2 (.getfield 7) 3 5 := ⟨by decide +kernel, rfl⟩
theorem dX8_bestMoveTold_5 : DD cX8_bestMoveTold 5 (.iconst 4) 1 6 := ⟨by decide +kernel, rfl⟩
theorem dX8_bestMoveTold_6 : DD cX8_bestMoveTold 6 (.iaload) 1 7 := ⟨by decide +kernel, rfl⟩
theorem dX8_bestMoveTold_7 : DD cX8_bestMoveTold 7 (.invokevirtual 69) 3 10 := ⟨by decide +kernel, rfl⟩
theorem dX8_bestMoveTold_10 : DB cX8_bestMoveTold 10 (.ifCond .ne) 12 3 13 22 := ⟨by decide +kernel, rfl, rfl⟩
theorem dX8_bestMoveTold_13 : DD cX8_bestMoveTold 13 (.aload_n 0) 1 14 := ⟨by decide +kernel, rfl⟩
theorem dX8_bestMoveTold_14 : DD cX8_bestMoveTold 14 (.getfield 7) 3 17 := ⟨by decide +kernel, rfl⟩
theorem dX8_bestMoveTold_17 : DD cX8_bestMoveTold 17 (.iconst 1) 1 18 := ⟨by decide +kernel, rfl⟩
theorem dX8_bestMoveTold_18 : DD cX8_bestMoveTold 18 (.iaload) 1 19 := ⟨by decide +kernel, rfl⟩
theorem dX8_bestMoveTold_19 : DB cX8_bestMoveTold 19 (.ifCond .ne) 5 3 22 24 := ⟨by decide +kernel, rfl, rfl⟩
theorem dX8_bestMoveTold_22 : DD cX8_bestMoveTold 22 (.iconst (-1)) 1 23 := ⟨by decide +kernel, rfl⟩
theorem dX8_bestMoveTold_23 : DD cX8_bestMoveTold 23 (.ireturn) 1 24 := ⟨by decide +kernel, rfl⟩
theorem dX8_bestMoveTold_24 : DD cX8_bestMoveTold 24 (.iconst 0) 1 25 := ⟨by decide +kernel, rfl⟩
theorem dX8_bestMoveTold_25 : DD cX8_bestMoveTold 25 (.istore_n 3) 1 26 := ⟨by decide +kernel, rfl⟩
theorem dX8_bestMoveTold_26 : DD cX8_bestMoveTold 26 (.iload_n 3) 1 27 := ⟨by decide +kernel, rfl⟩
theorem dX8_bestMoveTold_27 : DD cX8_bestMoveTold 27 (.aload_n 0) 1 28 := ⟨by decide +kernel, rfl⟩
theorem dX8_bestMoveTold_28 : DD cX8_bestMoveTold 28 (.aload_n 0) 1 29 := ⟨by decide +kernel, rfl⟩
theorem dX8_bestMoveTold_29 : DD cX8_bestMoveTold 29 (.getfield 7) 3 32 := ⟨by decide +kernel, rfl⟩
theorem dX8_bestMoveTold_32 : DD cX8_bestMoveTold 32 (.iconst 4) 1 33 := ⟨by decide +kernel, rfl⟩
theorem dX8_bestMoveTold_33 : DD cX8_bestMoveTold 33 (.iaload) 1 34 := ⟨by decide +kernel, rfl⟩
theorem dX8_bestMoveTold_34 : DD cX8_bestMoveTold 34 (.iconst 1) 1 35 := ⟨by decide +kernel, rfl⟩
theorem dX8_bestMoveTold_35 : DD cX8_bestMoveTold 35 (.invokevirtual 40) 3 38 := ⟨by decide +kernel, rfl⟩
theorem dX8_bestMoveTold_38 : DB cX8_bestMoveTold 38 (.if_icmp .ge) 58 3 41 96 := ⟨by decide +kernel, rfl, rfl⟩
theorem dX8_bestMoveTold_41 : DD cX8_bestMoveTold 41 (.aload_n 0) 1 42 := ⟨by decide +kernel, rfl⟩
theorem dX8_bestMoveTold_42 : DD cX8_bestMoveTold 42 (.aload_n 0) 1 43 := ⟨by decide +kernel, rfl⟩
theorem dX8_bestMoveTold_43 : DD cX8_bestMoveTold 43 (.getfield 7) 3 46 := ⟨by decide +kernel, rfl⟩
theorem dX8_bestMoveTold_46 : DD cX8_bestMoveTold 46 (.iconst 4) 1 47 := ⟨by decide +kernel, rfl⟩
theorem dX8_bestMoveTold_47 : DD cX8_bestMoveTold 47 (.iaload) 1 48 := ⟨by decide +kernel, rfl⟩
theorem dX8_bestMoveTold_48 : DD cX8_bestMoveTold 48 (.iconst 2) 1 49 := ⟨by decide +kernel, rfl⟩
theorem dX8_bestMoveTold_49 : DD cX8_bestMoveTold 49 (.iload_n 3) 1 50 := ⟨by decide +kernel, rfl⟩
theorem dX8_bestMoveTold_50 : DD cX8_bestMoveTold 50 (.iadd) 1 51 := ⟨by decide +kernel, rfl⟩
theorem dX8_bestMoveTold_51 : DD cX8_bestMoveTold 51 (.invokevirtual 40) 3 54 := ⟨by decide +kernel, rfl⟩
theorem dX8_bestMoveTold_54 : DD cX8_bestMoveTold 54 (.istore 4) 2 56 := ⟨by decide +kernel, rfl⟩
theorem dX8_bestMoveTold_56 : DD cX8_bestMoveTold 56 (.aload_n 0) 1 57 := ⟨by decide +kernel, rfl⟩
theorem dX8_bestMoveTold_57 : DD cX8_bestMoveTold 57 (.iload_n 1) 1 58 := ⟨by decide +kernel, rfl⟩
theorem dX8_bestMoveTold_58 : DD cX8_bestMoveTold 58 (.iload 4) 2 60 := ⟨by decide +kernel, rfl⟩
theorem dX8_bestMoveTold_60 : DD cX8_bestMoveTold 60 (.aload_n 0) 1 61 := ⟨by decide +kernel, rfl⟩
theorem dX8_bestMoveTold_61 : DD cX8_bestMoveTold 61 (.iload_n 1) 1 62 := ⟨by decide +kernel, rfl⟩
theorem dX8_bestMoveTold_62 : DD cX8_bestMoveTold 62 (.invokevirtual 103) 3 65 := ⟨by decide +kernel, rfl⟩
theorem dX8_bestMoveTold_65 : DD cX8_bestMoveTold 65 (.iload_n 2) 1 66 := ⟨by decide +kernel, rfl⟩
theorem dX8_bestMoveTold_66 : DD cX8_bestMoveTold 66 (.isub) 1 67 := ⟨by decide +kernel, rfl⟩
theorem dX8_bestMoveTold_67 : DD cX8_bestMoveTold 67 (.aload_n 0) 1 68 := ⟨by decide +kernel, rfl⟩
theorem dX8_bestMoveTold_68 : DD cX8_bestMoveTold 68 (.getfield 7) 3 71 := ⟨by decide +kernel, rfl⟩
theorem dX8_bestMoveTold_71 : DD cX8_bestMoveTold 71 (.iconst 3) 1 72 := ⟨by decide +kernel, rfl⟩
theorem dX8_bestMoveTold_72 : DD cX8_bestMoveTold 72 (.iaload) 1 73 := ⟨by decide +kernel, rfl⟩
theorem dX8_bestMoveTold_73 : DD cX8_bestMoveTold 73 (.aload_n 0) 1 74 := ⟨by decide +kernel, rfl⟩
theorem dX8_bestMoveTold_74 : DD cX8_bestMoveTold 74 (.getfield 7) 3 77 := ⟨by decide +kernel, rfl⟩
theorem dX8_bestMoveTold_77 : DD cX8_bestMoveTold 77 (.iconst 1) 1 78 := ⟨by decide +kernel, rfl⟩
theorem dX8_bestMoveTold_78 : DD cX8_bestMoveTold 78 (.iaload) 1 79 := ⟨by decide +kernel, rfl⟩
theorem dX8_bestMoveTold_79 : DD cX8_bestMoveTold 79 (.iconst 1) 1 80 := ⟨by decide +kernel, rfl⟩
theorem dX8_bestMoveTold_80 : DD cX8_bestMoveTold 80 (.isub) 1 81 := ⟨by decide +kernel, rfl⟩
theorem dX8_bestMoveTold_81 : DD cX8_bestMoveTold 81 (.invokevirtual 140) 3 84 := ⟨by decide +kernel, rfl⟩
theorem dX8_bestMoveTold_84 : DB cX8_bestMoveTold 84 (.ifCond .eq) 6 3 87 90 := ⟨by decide +kernel, rfl, rfl⟩
theorem dX8_bestMoveTold_87 : DD cX8_bestMoveTold 87 (.iload 4) 2 89 := ⟨by decide +kernel, rfl⟩
theorem dX8_bestMoveTold_89 : DD cX8_bestMoveTold 89 (.ireturn) 1 90 := ⟨by decide +kernel, rfl⟩
theorem dX8_bestMoveTold_90 : DD cX8_bestMoveTold 90 (.iinc 3 1) 3 93 := ⟨by decide +kernel, rfl⟩
theorem dX8_bestMoveTold_93 : DB cX8_bestMoveTold 93 (.goto) (-67) 3 96 26 := ⟨by decide +kernel, rfl, rfl⟩
theorem dX8_bestMoveTold_96 : DD cX8_bestMoveTold 96 (.iconst (-1)) 1 97 := ⟨by decide +kernel, rfl⟩
theorem dX8_bestMoveTold_97 : DD cX8_bestMoveTold 97 (.ireturn) 1 98 := ⟨by decide +kernel, rfl⟩
theorem dX8_bestMove_0 : DD cX8_bestMove 0 (.aload_n 0) 1 1 := ⟨by decide +kernel, rfl⟩
theorem dX8_bestMove_1 : DD cX8_bestMove 1 (.iload_n 1) 1 2 := ⟨by decide +kernel, rfl⟩
theorem dX8_bestMove_2 : DD cX8_bestMove 2 (.invokestatic 96) 3 5 := ⟨by decide +kernel, rfl⟩
theorem dX8_bestMove_5 : DB cX8_bestMove 5 (.ifCond .ne) 7 3 8 12 := ⟨by decide +kernel, rfl, rfl⟩
theorem dX8_bestMove_8 : DD cX8_bestMove 8 (.iconst 1) 1 9 := ⟨by decide +kernel, rfl⟩
theorem dX8_bestMove_9 : DB cX8_bestMove 9 (.goto) 17 3 12 26 := ⟨by decide +kernel, rfl, rfl⟩
theorem dX8_bestMove_12 : DD cX8_bestMove 12 (.aload_n 0) 1 13 := ⟨by decide +kernel, rfl⟩
theorem dX8_bestMove_13 : DD cX8_bestMove 13 (.iload_n 1) 1 14 := ⟨by decide +kernel, rfl⟩
theorem dX8_bestMove_14 : DD cX8_bestMove 14 (.iload_n 2) 1 15 := ⟨by decide +kernel, rfl⟩
theorem dX8_bestMove_15 : DD cX8_bestMove 15 (.invokevirtual 168) 3 18 := ⟨by decide +kernel, rfl⟩
theorem dX8_bestMove_18 : DB cX8_bestMove 18 (.ifCond .ne) 7 3 21 25 := ⟨by decide +kernel, rfl, rfl⟩
theorem dX8_bestMove_21 : DD cX8_bestMove 21 (.iconst 2) 1 22 := ⟨by decide +kernel, rfl⟩
theorem dX8_bestMove_22 : DB cX8_bestMove 22 (.goto) 4 3 25 26 := ⟨by decide +kernel, rfl, rfl⟩
theorem dX8_bestMove_25 : DD cX8_bestMove 25 (.iconst 0) 1 26 := ⟨by decide +kernel, rfl⟩
theorem dX8_bestMove_26 : DD cX8_bestMove 26 (.invokevirtual 86) 3 29 := ⟨by decide +kernel, rfl⟩
theorem dX8_bestMove_29 : DB cX8_bestMove 29 (.ifCond .ne) 5 3 32 34 := ⟨by decide +kernel, rfl, rfl⟩
theorem dX8_bestMove_32 : DD cX8_bestMove 32 (.iconst 0) 1 33 := ⟨by decide +kernel, rfl⟩
theorem dX8_bestMove_33 : DD cX8_bestMove 33 (.ireturn) 1 34 := ⟨by decide +kernel, rfl⟩
theorem dX8_bestMove_34 : DD cX8_bestMove 34 (.aload_n 0) 1 35 := ⟨by decide +kernel, rfl⟩
theorem dX8_bestMove_35 : DD cX8_bestMove 35 (.invokevirtual 148) 3 38 := ⟨by decide +kernel, rfl⟩
theorem dX8_bestMove_38 : DD cX8_bestMove 38 (.aload_n 0) 1 39 := ⟨by decide +kernel, rfl⟩
theorem dX8_bestMove_39 : DD cX8_bestMove 39 (.iload_n 1) 1 40 := ⟨by decide +kernel, rfl⟩
theorem dX8_bestMove_40 : DD cX8_bestMove 40 (.iload_n 2) 1 41 := ⟨by decide +kernel, rfl⟩
theorem dX8_bestMove_41 : DD cX8_bestMove 41 (.invokevirtual 174) 3 44 := ⟨by decide +kernel, rfl⟩
theorem dX8_bestMove_44 : DD cX8_bestMove 44 (.ireturn) 1 45 := ⟨by decide +kernel, rfl⟩
theorem dX8_winInTold_0 : DD cX8_winInTold 0 (.iconst 0) 1 1 := ⟨by decide +kernel, rfl⟩
theorem dX8_winInTold_1 : DD cX8_winInTold 1 (.istore_n 2) 1 2 := ⟨by decide +kernel, rfl⟩
theorem dX8_winInTold_2 : DD cX8_winInTold 2 (.iload_n 2) 1 3 := ⟨by decide +kernel, rfl⟩
theorem dX8_winInTold_3 : DD cX8_winInTold 3 (.bipush 12) 2 5 := ⟨by decide +kernel, rfl⟩
theorem dX8_winInTold_5 : DB cX8_winInTold 5 (.if_icmp .gt) 37 3 8 42 := ⟨by decide +kernel, rfl, rfl⟩
theorem dX8_winInTold_8 : DD cX8_winInTold 8 (.aload_n 0) 1 9 := ⟨by decide +kernel, rfl⟩
theorem dX8_winInTold_9 : DD cX8_winInTold 9 (.iload_n 1) 1 10 := ⟨by decide +kernel, rfl⟩
theorem dX8_winInTold_10 : DD cX8_winInTold 10 (.aload_n 0) 1 11 := ⟨by decide +kernel, rfl⟩
theorem dX8_winInTold_11 : DD cX8_winInTold 11 (.getfield 7) 3 14 := ⟨by decide +kernel, rfl⟩
theorem dX8_winInTold_14 : DD cX8_winInTold 14 (.iconst 4) 1 15 := ⟨by decide +kernel, rfl⟩
theorem dX8_winInTold_15 : DD cX8_winInTold 15 (.iaload) 1 16 := ⟨by decide +kernel, rfl⟩
theorem dX8_winInTold_16 : DD cX8_winInTold 16 (.aload_n 0) 1 17 := ⟨by decide +kernel, rfl⟩
theorem dX8_winInTold_17 : DD cX8_winInTold 17 (.iload_n 1) 1 18 := ⟨by decide +kernel, rfl⟩
theorem dX8_winInTold_18 : DD cX8_winInTold 18 (.invokevirtual 103) 3 21 := ⟨by decide +kernel, rfl⟩
theorem dX8_winInTold_21 : DD cX8_winInTold 21 (.aload_n 0) 1 22 := ⟨by decide +kernel, rfl⟩
theorem dX8_winInTold_22 : DD cX8_winInTold 22 (.getfield 7) 3 25 := ⟨by decide +kernel, rfl⟩
theorem dX8_winInTold_25 : DD cX8_winInTold 25 (.iconst 3) 1 26 := ⟨by decide +kernel, rfl⟩
theorem dX8_winInTold_26 : DD cX8_winInTold 26 (.iaload) 1 27 := ⟨by decide +kernel, rfl⟩
theorem dX8_winInTold_27 : DD cX8_winInTold 27 (.iload_n 2) 1 28 := ⟨by decide +kernel, rfl⟩
theorem dX8_winInTold_28 : DD cX8_winInTold 28 (.invokevirtual 140) 3 31 := ⟨by decide +kernel, rfl⟩
theorem dX8_winInTold_31 : DB cX8_winInTold 31 (.ifCond .eq) 5 3 34 36 := ⟨by decide +kernel, rfl, rfl⟩
theorem dX8_winInTold_34 : DD cX8_winInTold 34 (.iload_n 2) 1 35 := ⟨by decide +kernel, rfl⟩
theorem dX8_winInTold_35 : DD cX8_winInTold 35 (.ireturn) 1 36 := ⟨by decide +kernel, rfl⟩
theorem dX8_winInTold_36 : DD cX8_winInTold 36 (.iinc 2 1) 3 39 := ⟨by decide +kernel, rfl⟩
theorem dX8_winInTold_39 : DB cX8_winInTold 39 (.goto) (-37) 3 42 2 := ⟨by decide +kernel, rfl, rfl⟩
theorem dX8_winInTold_42 : DD cX8_winInTold 42 (.iconst (-1)) 1 43 := ⟨by decide +kernel, rfl⟩
theorem dX8_winInTold_43 : DD cX8_winInTold 43 (.ireturn) 1 44 := ⟨by decide +kernel, rfl⟩
theorem dX8_winIn_0 : DD cX8_winIn 0 (.aload_n 0) 1 1 := ⟨by decide +kernel, rfl⟩
theorem dX8_winIn_1 : DD cX8_winIn 1 (.iload_n 1) 1 2 := ⟨by decide +kernel, rfl⟩
theorem dX8_winIn_2 : DD cX8_winIn 2 (.invokestatic 96) 3 5 := ⟨by decide +kernel, rfl⟩
theorem dX8_winIn_5 : DB cX8_winIn 5 (.ifCond .eq) 7 3 8 12 := ⟨by decide +kernel, rfl, rfl⟩
theorem dX8_winIn_8 : DD cX8_winIn 8 (.iconst 0) 1 9 := ⟨by decide +kernel, rfl⟩
theorem dX8_winIn_9 : DB cX8_winIn 9 (.goto) 4 3 12 13 := ⟨by decide +kernel, rfl, rfl⟩
theorem dX8_winIn_12 : DD cX8_winIn 12 (.iconst 1) 1 13 := ⟨by decide +kernel, rfl⟩
theorem dX8_winIn_13 : DD cX8_winIn 13 (.invokevirtual 86) 3 16 := ⟨by decide +kernel, rfl⟩
theorem dX8_winIn_16 : DB cX8_winIn 16 (.ifCond .ne) 5 3 19 21 := ⟨by decide +kernel, rfl, rfl⟩
theorem dX8_winIn_19 : DD cX8_winIn 19 (.iconst 0) 1 20 := ⟨by decide +kernel, rfl⟩
theorem dX8_winIn_20 : DD cX8_winIn 20 (.ireturn) 1 21 := ⟨by decide +kernel, rfl⟩
theorem dX8_winIn_21 : DD cX8_winIn 21 (.aload_n 0) 1 22 := ⟨by decide +kernel, rfl⟩
theorem dX8_winIn_22 : DD cX8_winIn 22 (.invokevirtual 148) 3 25 := ⟨by decide +kernel, rfl⟩
theorem dX8_winIn_25 : DD cX8_winIn 25 (.aload_n 0) 1 26 := ⟨by decide +kernel, rfl⟩
theorem dX8_winIn_26 : DD cX8_winIn 26 (.iload_n 1) 1 27 := ⟨by decide +kernel, rfl⟩
end
section
theorem dX8_winIn_27 : DD cX8_winIn 27 (.invokevirtual 177) 3 30 := ⟨by decide +kernel, rfl⟩
theorem dX8_winIn_30 : DD cX8_winIn 30 (.ireturn) 1 31 := ⟨by decide +kernel, rfl⟩
theorem dX8_shareTold_0 : DD cX8_shareTold 0 (.iconst 0) 1 1 := ⟨by decide +kernel, rfl⟩
theorem dX8_shareTold_1 : DD cX8_shareTold 1 (.istore_n 1) 1 2 := ⟨by decide +kernel, rfl⟩
theorem dX8_shareTold_2 : DD cX8_shareTold 2 (.iconst 0) 1 3 := ⟨by decide +kernel, rfl⟩
theorem dX8_shareTold_3 : DD cX8_shareTold 3 (.istore_n 2) 1 4 := ⟨by decide +kernel, rfl⟩
theorem dX8_shareTold_4 : DD cX8_shareTold 4 (.iload_n 2) 1 5 := ⟨by decide +kernel, rfl⟩
theorem dX8_shareTold_5 : DD cX8_shareTold 5 (.bipush 16) 2 7 := ⟨by decide +kernel, rfl⟩
theorem dX8_shareTold_7 : DB cX8_shareTold 7 (.if_icmp .ge) 50 3 10 57 := ⟨by decide +kernel, rfl, rfl⟩
theorem dX8_shareTold_10 : DD cX8_shareTold 10 (.aload_n 0) 1 11 := ⟨by decide +kernel, rfl⟩
theorem dX8_shareTold_11 : DD cX8_shareTold 11 (.aload_n 0) 1 12 := ⟨by decide +kernel, rfl⟩
theorem dX8_shareTold_12 : DD cX8_shareTold 12 (.getfield 7) 3 15 := ⟨by decide +kernel, rfl⟩
theorem dX8_shareTold_15 : DD cX8_shareTold 15 (.iconst 1) 1 16 := ⟨by decide +kernel, rfl⟩
theorem dX8_shareTold_16 : DD cX8_shareTold 16 (.iaload) 1 17 := ⟨by decide +kernel, rfl⟩
theorem dX8_shareTold_17 : DD cX8_shareTold 17 (.iconst 0) 1 18 := ⟨by decide +kernel, rfl⟩
theorem dX8_shareTold_18 : DD cX8_shareTold 18 (.iload_n 2) 1 19 := ⟨by decide +kernel, rfl⟩
theorem dX8_shareTold_19 : DD cX8_shareTold 19 (.iconst 2) 1 20 := ⟨by decide +kernel, rfl⟩
theorem dX8_shareTold_20 : DD cX8_shareTold 20 (.idiv) 1 21 := ⟨by decide +kernel, rfl⟩
theorem dX8_shareTold_21 : DD cX8_shareTold 21 (.iload_n 2) 1 22 := ⟨by decide +kernel, rfl⟩
theorem dX8_shareTold_22 : DD cX8_shareTold 22 (.iconst 2) 1 23 := ⟨by decide +kernel, rfl⟩
theorem dX8_shareTold_23 : DD cX8_shareTold 23 (.irem) 1 24 := ⟨by decide +kernel, rfl⟩
theorem dX8_shareTold_24 : DD cX8_shareTold 24 (.invokevirtual 47) 3 27 := ⟨by decide +kernel, rfl⟩
theorem dX8_shareTold_27 : DD cX8_shareTold 27 (.istore_n 3) 1 28 := ⟨by decide +kernel, rfl⟩
theorem dX8_shareTold_28 : DD cX8_shareTold 28 (.iload_n 1) 1 29 := ⟨by decide +kernel, rfl⟩
theorem dX8_shareTold_29 : DD cX8_shareTold 29 (.iload_n 3) 1 30 := ⟨by decide +kernel, rfl⟩
theorem dX8_shareTold_30 : DD cX8_shareTold 30 (.bipush 99) 2 32 := ⟨by decide +kernel, rfl⟩
theorem dX8_shareTold_32 : DB cX8_shareTold 32 (.if_icmp .ne) 7 3 35 39 := ⟨by decide +kernel, rfl, rfl⟩
theorem dX8_shareTold_35 : DD cX8_shareTold 35 (.iconst 0) 1 36 := ⟨by decide +kernel, rfl⟩
theorem dX8_shareTold_36 : DB cX8_shareTold 36 (.goto) 13 3 39 49 := ⟨by decide +kernel, rfl, rfl⟩
theorem dX8_shareTold_39 : DD cX8_shareTold 39 (.aload_n 0) 1 40 := ⟨by decide +kernel, rfl⟩
theorem dX8_shareTold_40 : DD cX8_shareTold 40 (.getfield 7) 3 43 := ⟨by decide +kernel, rfl⟩
theorem dX8_shareTold_43 : DD cX8_shareTold 43 (.iconst 0) 1 44 := ⟨by decide +kernel, rfl⟩
theorem dX8_shareTold_44 : DD cX8_shareTold 44 (.iaload) 1 45 := ⟨by decide +kernel, rfl⟩
theorem dX8_shareTold_45 : DD cX8_shareTold 45 (.iconst 1) 1 46 := ⟨by decide +kernel, rfl⟩
theorem dX8_shareTold_46 : DD cX8_shareTold 46 (.iadd) 1 47 := ⟨by decide +kernel, rfl⟩
theorem dX8_shareTold_47 : DD cX8_shareTold 47 (.iload_n 3) 1 48 := ⟨by decide +kernel, rfl⟩
theorem dX8_shareTold_48 : DD cX8_shareTold 48 (.isub) 1 49 := ⟨by decide +kernel, rfl⟩
theorem dX8_shareTold_49 : DD cX8_shareTold 49 (.iadd) 1 50 := ⟨by decide +kernel, rfl⟩
theorem dX8_shareTold_50 : DD cX8_shareTold 50 (.istore_n 1) 1 51 := ⟨by decide +kernel, rfl⟩
theorem dX8_shareTold_51 : DD cX8_shareTold 51 (.iinc 2 1) 3 54 := ⟨by decide +kernel, rfl⟩
theorem dX8_shareTold_54 : DB cX8_shareTold 54 (.goto) (-50) 3 57 4 := ⟨by decide +kernel, rfl, rfl⟩
theorem dX8_shareTold_57 : DD cX8_shareTold 57 (.iload_n 1) 1 58 := ⟨by decide +kernel, rfl⟩
theorem dX8_shareTold_58 : DD cX8_shareTold 58 (.i2d) 1 59 := ⟨by decide +kernel, rfl⟩
theorem dX8_shareTold_59 : DD cX8_shareTold 59 (.bipush 16) 2 61 := ⟨by decide +kernel, rfl⟩
theorem dX8_shareTold_61 : DD cX8_shareTold 61 (.aload_n 0) 1 62 := ⟨by decide +kernel, rfl⟩
theorem dX8_shareTold_62 : DD cX8_shareTold 62 (.getfield 7) 3 65 := ⟨by decide +kernel, rfl⟩
theorem dX8_shareTold_65 : DD cX8_shareTold 65 (.iconst 0) 1 66 := ⟨by decide +kernel, rfl⟩
theorem dX8_shareTold_66 : DD cX8_shareTold 66 (.iaload) 1 67 := ⟨by decide +kernel, rfl⟩
theorem dX8_shareTold_67 : DD cX8_shareTold 67 (.iconst 1) 1 68 := ⟨by decide +kernel, rfl⟩
theorem dX8_shareTold_68 : DD cX8_shareTold 68 (.iadd) 1 69 := ⟨by decide +kernel, rfl⟩
theorem dX8_shareTold_69 : DD cX8_shareTold 69 (.imul) 1 70 := ⟨by decide +kernel, rfl⟩
theorem dX8_shareTold_70 : DD cX8_shareTold 70 (.i2d) 1 71 := ⟨by decide +kernel, rfl⟩
theorem dX8_shareTold_71 : DD cX8_shareTold 71 (.ddiv) 1 72 := ⟨by decide +kernel, rfl⟩
theorem dX8_shareTold_72 : DD cX8_shareTold 72 (.dreturn) 1 73 := ⟨by decide +kernel, rfl⟩
theorem dX8_forcedShare_0 : DD cX8_forcedShare 0 (.aload_n 0) 1 1 := ⟨by decide +kernel, rfl⟩
theorem dX8_forcedShare_1 : DD cX8_forcedShare 1 (.iconst 0) 1 2 := ⟨by decide +kernel, rfl⟩
theorem dX8_forcedShare_2 : DD cX8_forcedShare 2 (.putfield 32) 3 5 := ⟨by decide +kernel, rfl⟩
theorem dX8_forcedShare_5 : DD cX8_forcedShare 5 (.aload_n 0) 1 6 := ⟨by decide +kernel, rfl⟩
theorem dX8_forcedShare_6 : DD cX8_forcedShare 6 (.invokevirtual 148) 3 9 := ⟨by decide +kernel, rfl⟩
theorem dX8_forcedShare_9 : DD cX8_forcedShare 9 (.aload_n 0) 1 10 := ⟨by decide +kernel, rfl⟩
theorem dX8_forcedShare_10 : DD cX8_forcedShare 10 (.invokevirtual 180) 3 13 := ⟨by decide +kernel, rfl⟩
theorem dX8_forcedShare_13 : DD cX8_forcedShare 13 (.dreturn) 1 14 := ⟨by decide +kernel, rfl⟩
theorem dX8_bitsOf_0 : DD cX8_bitsOf 0 (.dload_n 0) 1 1 := ⟨by decide +kernel, rfl⟩
theorem dX8_bitsOf_1 : DD cX8_bitsOf 1 (.dconst 0) 1 2 := ⟨by decide +kernel, rfl⟩
theorem dX8_bitsOf_2 : DD cX8_bitsOf 2 (.dcmp .l) 1 3 := ⟨by decide +kernel, rfl⟩
theorem dX8_bitsOf_3 : DB cX8_bitsOf 3 (.ifCond .ne) 5 3 6 8 := ⟨by decide +kernel, rfl, rfl⟩
theorem dX8_bitsOf_6 : DD cX8_bitsOf 6 (.lconst 0) 1 7 := ⟨by decide +kernel, rfl⟩
theorem dX8_bitsOf_7 : DD cX8_bitsOf 7 (.lreturn) 1 8 := ⟨by decide +kernel, rfl⟩
theorem dX8_bitsOf_8 : DD cX8_bitsOf 8 (.ldc2_w 184) 3 11 := ⟨by decide +kernel, rfl⟩
theorem dX8_bitsOf_11 : DD cX8_bitsOf 11 (.lstore_n 2) 1 12 := ⟨by decide +kernel, rfl⟩
theorem dX8_bitsOf_12 : DD cX8_bitsOf 12 (.dload_n 0) 1 13 := ⟨by decide +kernel, rfl⟩
theorem dX8_bitsOf_13 : DD cX8_bitsOf 13 (.dstore 4) 2 15 := ⟨by decide +kernel, rfl⟩
theorem dX8_bitsOf_15 : DD cX8_bitsOf 15 (.dload 4) 2 17 := ⟨by decide +kernel, rfl⟩
theorem dX8_bitsOf_17 : DD cX8_bitsOf 17 (.dconst 1) 1 18 := ⟨by decide +kernel, rfl⟩
theorem dX8_bitsOf_18 : DD cX8_bitsOf 18 (.dcmp .g) 1 19 := ⟨by decide +kernel, rfl⟩
theorem dX8_bitsOf_19 : DB cX8_bitsOf 19 (.ifCond .ge) 18 3 22 37 := ⟨by decide +kernel, rfl, rfl⟩
theorem dX8_bitsOf_22 : DD cX8_bitsOf 22 (.dload 4) 2 24 := ⟨by decide +kernel, rfl⟩
theorem dX8_bitsOf_24 : DD cX8_bitsOf 24 (.ldc2_w 186) 3 27 := ⟨by decide +kernel, rfl⟩
theorem dX8_bitsOf_27 : DD cX8_bitsOf 27 (.dmul) 1 28 := ⟨by decide +kernel, rfl⟩
theorem dX8_bitsOf_28 : DD cX8_bitsOf 28 (.dstore 4) 2 30 := ⟨by decide +kernel, rfl⟩
theorem dX8_bitsOf_30 : DD cX8_bitsOf 30 (.lload_n 2) 1 31 := ⟨by decide +kernel, rfl⟩
theorem dX8_bitsOf_31 : DD cX8_bitsOf 31 (.lconst 1) 1 32 := ⟨by decide +kernel, rfl⟩
theorem dX8_bitsOf_32 : DD cX8_bitsOf 32 (.lsub) 1 33 := ⟨by decide +kernel, rfl⟩
theorem dX8_bitsOf_33 : DD cX8_bitsOf 33 (.lstore_n 2) 1 34 := ⟨by decide +kernel, rfl⟩
theorem dX8_bitsOf_34 : DB cX8_bitsOf 34 (.goto) (-19) 3 37 15 := ⟨by decide +kernel, rfl, rfl⟩
theorem dX8_bitsOf_37 : DD cX8_bitsOf 37 (.lload_n 2) 1 38 := ⟨by decide +kernel, rfl⟩
theorem dX8_bitsOf_38 : DD cX8_bitsOf 38 (.ldc2_w 188) 3 41 := ⟨by decide +kernel, rfl⟩
theorem dX8_bitsOf_41 : DD cX8_bitsOf 41 (.lmul) 1 42 := ⟨by decide +kernel, rfl⟩
theorem dX8_bitsOf_42 : DD cX8_bitsOf 42 (.dload 4) 2 44 := ⟨by decide +kernel, rfl⟩
theorem dX8_bitsOf_44 : DD cX8_bitsOf 44 (.dconst 1) 1 45 := ⟨by decide +kernel, rfl⟩
theorem dX8_bitsOf_45 : DD cX8_bitsOf 45 (.dsub) 1 46 := ⟨by decide +kernel, rfl⟩
theorem dX8_bitsOf_46 : DD cX8_bitsOf 46 (.ldc2_w 190) 3 49 := ⟨by decide +kernel, rfl⟩
theorem dX8_bitsOf_49 : DD cX8_bitsOf 49 (.dmul) 1 50 := ⟨by decide +kernel, rfl⟩
theorem dX8_bitsOf_50 : DD cX8_bitsOf 50 (.d2l) 1 51 := ⟨by decide +kernel, rfl⟩
theorem dX8_bitsOf_51 : DD cX8_bitsOf 51 (.ladd) 1 52 := ⟨by decide +kernel, rfl⟩
theorem dX8_bitsOf_52 : DD cX8_bitsOf 52 (.lreturn) 1 53 := ⟨by decide +kernel, rfl⟩
theorem dX8_mix_0 : DD cX8_mix 0 (.aload_n 0) 1 1 := ⟨by decide +kernel, rfl⟩
theorem dX8_mix_1 : DD cX8_mix 1 (.ldc2_w 192) 3 4 := ⟨by decide +kernel, rfl⟩
theorem dX8_mix_4 : DD cX8_mix 4 (.aload_n 0) 1 5 := ⟨by decide +kernel, rfl⟩
theorem dX8_mix_5 : DD cX8_mix 5 (.getfield 194) 3 8 := ⟨by decide +kernel, rfl⟩
theorem dX8_mix_8 : DD cX8_mix 8 (.lmul) 1 9 := ⟨by decide +kernel, rfl⟩
theorem dX8_mix_9 : DD cX8_mix 9 (.lload_n 1) 1 10 := ⟨by decide +kernel, rfl⟩
theorem dX8_mix_10 : DD cX8_mix 10 (.ladd) 1 11 := ⟨by decide +kernel, rfl⟩
theorem dX8_mix_11 : DD cX8_mix 11 (.putfield 194) 3 14 := ⟨by decide +kernel, rfl⟩
theorem dX8_mix_14 : DD cX8_mix 14 (.return_) 1 15 := ⟨by decide +kernel, rfl⟩
theorem dX8_mixPosition_0 : DD cX8_mixPosition 0 (.iconst 0) 1 1 := ⟨by decide +kernel, rfl⟩
theorem dX8_mixPosition_1 : DD cX8_mixPosition 1 (.istore_n 2) 1 2 := ⟨by decide +kernel, rfl⟩
theorem dX8_mixPosition_2 : DD cX8_mixPosition 2 (.iload_n 2) 1 3 := ⟨by decide +kernel, rfl⟩
theorem dX8_mixPosition_3 : DD cX8_mixPosition 3 (.bipush 7) 2 5 := ⟨by decide +kernel, rfl⟩
theorem dX8_mixPosition_5 : DB cX8_mixPosition 5 (.if_icmp .ge) 20 3 8 25 := ⟨by decide +kernel, rfl, rfl⟩
theorem dX8_mixPosition_8 : DD cX8_mixPosition 8 (.aload_n 0) 1 9 := ⟨by decide +kernel, rfl⟩
theorem dX8_mixPosition_9 : DD cX8_mixPosition 9 (.aload_n 0) 1 10 := ⟨by decide +kernel, rfl⟩
theorem dX8_mixPosition_10 : DD cX8_mixPosition 10 (.iload_n 1) 1 11 := ⟨by decide +kernel, rfl⟩
theorem dX8_mixPosition_11 : DD cX8_mixPosition 11 (.iload_n 2) 1 12 := ⟨by decide +kernel, rfl⟩
theorem dX8_mixPosition_12 : DD cX8_mixPosition 12 (.invokevirtual 137) 3 15 := ⟨by decide +kernel, rfl⟩
theorem dX8_mixPosition_15 : DD cX8_mixPosition 15 (.i2l) 1 16 := ⟨by decide +kernel, rfl⟩
theorem dX8_mixPosition_16 : DD cX8_mixPosition 16 (.invokevirtual 198) 3 19 := ⟨by decide +kernel, rfl⟩
theorem dX8_mixPosition_19 : DD cX8_mixPosition 19 (.iinc 2 1) 3 22 := ⟨by decide +kernel, rfl⟩
theorem dX8_mixPosition_22 : DB cX8_mixPosition 22 (.goto) (-20) 3 25 2 := ⟨by decide +kernel, rfl, rfl⟩
theorem dX8_mixPosition_25 : DD cX8_mixPosition 25 (.iconst 0) 1 26 := ⟨by decide +kernel, rfl⟩
theorem dX8_mixPosition_26 : DD cX8_mixPosition 26 (.istore_n 2) 1 27 := ⟨by decide +kernel, rfl⟩
theorem dX8_mixPosition_27 : DD cX8_mixPosition 27 (.iload_n 2) 1 28 := ⟨by decide +kernel, rfl⟩
theorem dX8_mixPosition_28 : DD cX8_mixPosition 28 (.bipush 8) 2 30 := ⟨by decide +kernel, rfl⟩
theorem dX8_mixPosition_30 : DB cX8_mixPosition 30 (.if_icmp .ge) 27 3 33 57 := ⟨by decide +kernel, rfl, rfl⟩
theorem dX8_mixPosition_33 : DD cX8_mixPosition 33 (.aload_n 0) 1 34 := ⟨by decide +kernel, rfl⟩
theorem dX8_mixPosition_34 : DD cX8_mixPosition 34 (.aload_n 0) 1 35 := ⟨by decide +kernel, rfl⟩
theorem dX8_mixPosition_35 : DD cX8_mixPosition 35 (.iload_n 2) 1 36 := ⟨by decide +kernel, rfl⟩
theorem dX8_mixPosition_36 : DD cX8_mixPosition 36 (.iconst 4) 1 37 := ⟨by decide +kernel, rfl⟩
theorem dX8_mixPosition_37 : DD cX8_mixPosition 37 (.idiv) 1 38 := ⟨by decide +kernel, rfl⟩
theorem dX8_mixPosition_38 : DD cX8_mixPosition 38 (.iload_n 1) 1 39 := ⟨by decide +kernel, rfl⟩
theorem dX8_mixPosition_39 : DD cX8_mixPosition 39 (.iload_n 2) 1 40 := ⟨by decide +kernel, rfl⟩
theorem dX8_mixPosition_40 : DD cX8_mixPosition 40 (.iconst 2) 1 41 := ⟨by decide +kernel, rfl⟩
theorem dX8_mixPosition_41 : DD cX8_mixPosition 41 (.idiv) 1 42 := ⟨by decide +kernel, rfl⟩
theorem dX8_mixPosition_42 : DD cX8_mixPosition 42 (.iconst 2) 1 43 := ⟨by decide +kernel, rfl⟩
theorem dX8_mixPosition_43 : DD cX8_mixPosition 43 (.irem) 1 44 := ⟨by decide +kernel, rfl⟩
theorem dX8_mixPosition_44 : DD cX8_mixPosition 44 (.invokevirtual 161) 3 47 := ⟨by decide +kernel, rfl⟩
theorem dX8_mixPosition_47 : DD cX8_mixPosition 47 (.i2l) 1 48 := ⟨by decide +kernel, rfl⟩
theorem dX8_mixPosition_48 : DD cX8_mixPosition 48 (.invokevirtual 198) 3 51 := ⟨by decide +kernel, rfl⟩
theorem dX8_mixPosition_51 : DD cX8_mixPosition 51 (.iinc 2 1) 3 54 := ⟨by decide +kernel, rfl⟩
theorem dX8_mixPosition_54 : DB cX8_mixPosition 54 (.goto) (-27) 3 57 27 := ⟨by decide +kernel, rfl, rfl⟩
theorem dX8_mixPosition_57 : DD cX8_mixPosition 57 (.return_) 1 58 := ⟨by decide +kernel, rfl⟩
theorem dX8_mixPlayer_0 : DD cX8_mixPlayer 0 (.iconst 0) 1 1 := ⟨by decide +kernel, rfl⟩
theorem dX8_mixPlayer_1 : DD cX8_mixPlayer 1 (.istore_n 2) 1 2 := ⟨by decide +kernel, rfl⟩
theorem dX8_mixPlayer_2 : DD cX8_mixPlayer 2 (.iload_n 2) 1 3 := ⟨by decide +kernel, rfl⟩
theorem dX8_mixPlayer_3 : DD cX8_mixPlayer 3 (.bipush 6) 2 5 := ⟨by decide +kernel, rfl⟩
theorem dX8_mixPlayer_5 : DB cX8_mixPlayer 5 (.if_icmp .ge) 20 3 8 25 := ⟨by decide +kernel, rfl, rfl⟩
theorem dX8_mixPlayer_8 : DD cX8_mixPlayer 8 (.aload_n 0) 1 9 := ⟨by decide +kernel, rfl⟩
theorem dX8_mixPlayer_9 : DD cX8_mixPlayer 9 (.aload_n 0) 1 10 := ⟨by decide +kernel, rfl⟩
theorem dX8_mixPlayer_10 : DD cX8_mixPlayer 10 (.iload_n 1) 1 11 := ⟨by decide +kernel, rfl⟩
theorem dX8_mixPlayer_11 : DD cX8_mixPlayer 11 (.iload_n 2) 1 12 := ⟨by decide +kernel, rfl⟩
theorem dX8_mixPlayer_12 : DD cX8_mixPlayer 12 (.invokevirtual 151) 3 15 := ⟨by decide +kernel, rfl⟩
theorem dX8_mixPlayer_15 : DD cX8_mixPlayer 15 (.i2l) 1 16 := ⟨by decide +kernel, rfl⟩
theorem dX8_mixPlayer_16 : DD cX8_mixPlayer 16 (.invokevirtual 198) 3 19 := ⟨by decide +kernel, rfl⟩
theorem dX8_mixPlayer_19 : DD cX8_mixPlayer 19 (.iinc 2 1) 3 22 := ⟨by decide +kernel, rfl⟩
theorem dX8_mixPlayer_22 : DB cX8_mixPlayer 22 (.goto) (-20) 3 25 2 := ⟨by decide +kernel, rfl, rfl⟩
theorem dX8_mixPlayer_25 : DD cX8_mixPlayer 25 (.aload_n 0) 1 26 := ⟨by decide +kernel, rfl⟩
theorem dX8_mixPlayer_26 : DD cX8_mixPlayer 26 (.aload_n 0) 1 27 := ⟨by decide +kernel, rfl⟩
theorem dX8_mixPlayer_27 : DD cX8_mixPlayer 27 (.iload_n 1) 1 28 := ⟨by decide +kernel, rfl⟩
theorem dX8_mixPlayer_28 : DD cX8_mixPlayer 28 (.invokevirtual 165) 3 31 := ⟨by decide +kernel, rfl⟩
theorem dX8_mixPlayer_31 : DD cX8_mixPlayer 31 (.i2l) 1 32 := ⟨by decide +kernel, rfl⟩
theorem dX8_mixPlayer_32 : DD cX8_mixPlayer 32 (.invokevirtual 198) 3 35 := ⟨by decide +kernel, rfl⟩
theorem dX8_mixPlayer_35 : DD cX8_mixPlayer 35 (.aload_n 0) 1 36 := ⟨by decide +kernel, rfl⟩
theorem dX8_mixPlayer_36 : DD cX8_mixPlayer 36 (.aload_n 0) 1 37 := ⟨by decide +kernel, rfl⟩
theorem dX8_mixPlayer_37 : DD cX8_mixPlayer 37 (.iload_n 1) 1 38 := ⟨by decide +kernel, rfl⟩
theorem dX8_mixPlayer_38 : DD cX8_mixPlayer 38 (.iconst 0) 1 39 := ⟨by decide +kernel, rfl⟩
theorem dX8_mixPlayer_39 : DD cX8_mixPlayer 39 (.invokevirtual 171) 3 42 := ⟨by decide +kernel, rfl⟩
theorem dX8_mixPlayer_42 : DD cX8_mixPlayer 42 (.i2l) 1 43 := ⟨by decide +kernel, rfl⟩
theorem dX8_mixPlayer_43 : DD cX8_mixPlayer 43 (.invokevirtual 198) 3 46 := ⟨by decide +kernel, rfl⟩
theorem dX8_mixPlayer_46 : DD cX8_mixPlayer 46 (.aload_n 0) 1 47 := ⟨by decide +kernel, rfl⟩
theorem dX8_mixPlayer_47 : DD cX8_mixPlayer 47 (.aload_n 0) 1 48 := ⟨by decide +kernel, rfl⟩
theorem dX8_mixPlayer_48 : DD cX8_mixPlayer 48 (.iload_n 1) 1 49 := ⟨by decide +kernel, rfl⟩
theorem dX8_mixPlayer_49 : DD cX8_mixPlayer 49 (.iconst 0) 1 50 := ⟨by decide +kernel, rfl⟩
theorem dX8_mixPlayer_50 : DD cX8_mixPlayer 50 (.invokevirtual 174) 3 53 := ⟨by decide +kernel, rfl⟩
theorem dX8_mixPlayer_53 : DD cX8_mixPlayer 53 (.i2l) 1 54 := ⟨by decide +kernel, rfl⟩
theorem dX8_mixPlayer_54 : DD cX8_mixPlayer 54 (.invokevirtual 198) 3 57 := ⟨by decide +kernel, rfl⟩
theorem dX8_mixPlayer_57 : DD cX8_mixPlayer 57 (.aload_n 0) 1 58 := ⟨by decide +kernel, rfl⟩
theorem dX8_mixPlayer_58 : DD cX8_mixPlayer 58 (.aload_n 0) 1 59 := ⟨by decide +kernel, rfl⟩
theorem dX8_mixPlayer_59 : DD cX8_mixPlayer 59 (.iload_n 1) 1 60 := ⟨by decide +kernel, rfl⟩
theorem dX8_mixPlayer_60 : DD cX8_mixPlayer 60 (.invokevirtual 177) 3 63 := ⟨by decide +kernel, rfl⟩
theorem dX8_mixPlayer_63 : DD cX8_mixPlayer 63 (.i2l) 1 64 := ⟨by decide +kernel, rfl⟩
theorem dX8_mixPlayer_64 : DD cX8_mixPlayer 64 (.invokevirtual 198) 3 67 := ⟨by decide +kernel, rfl⟩
theorem dX8_mixPlayer_67 : DD cX8_mixPlayer 67 (.return_) 1 68 := ⟨by decide +kernel, rfl⟩
theorem dX8_digest_0 : DD cX8_digest 0 (.aload_n 0) 1 1 := ⟨by decide +kernel, rfl⟩
theorem dX8_digest_1 : DD cX8_digest 1 (.iconst 0) 1 2 := ⟨by decide +kernel, rfl⟩
theorem dX8_digest_2 : DD cX8_digest 2 (.putfield 32) 3 5 := ⟨by decide +kernel, rfl⟩
theorem dX8_digest_5 : DD cX8_digest 5 (.aload_n 0) 1 6 := ⟨by decide +kernel, rfl⟩
theorem dX8_digest_6 : DD cX8_digest 6 (.invokevirtual 148) 3 9 := ⟨by decide +kernel, rfl⟩
theorem dX8_digest_9 : DD cX8_digest 9 (.aload_n 0) 1 10 := ⟨by decide +kernel, rfl⟩
theorem dX8_digest_10 : DD cX8_digest 10 (.ldc2_w 202) 3 13 := ⟨by decide +kernel, rfl⟩
theorem dX8_digest_13 : DD cX8_digest 13 (.putfield 194) 3 16 := ⟨by decide +kernel, rfl⟩
theorem dX8_digest_16 : DD cX8_digest 16 (.iconst 0) 1 17 := ⟨by decide +kernel, rfl⟩
theorem dX8_digest_17 : DD cX8_digest 17 (.istore_n 1) 1 18 := ⟨by decide +kernel, rfl⟩
theorem dX8_digest_18 : DD cX8_digest 18 (.iload_n 1) 1 19 := ⟨by decide +kernel, rfl⟩
theorem dX8_digest_19 : DD cX8_digest 19 (.bipush 11) 2 21 := ⟨by decide +kernel, rfl⟩
theorem dX8_digest_21 : DB cX8_digest 21 (.if_icmp .ge) 19 3 24 40 := ⟨by decide +kernel, rfl, rfl⟩
theorem dX8_digest_24 : DD cX8_digest 24 (.aload_n 0) 1 25 := ⟨by decide +kernel, rfl⟩
theorem dX8_digest_25 : DD cX8_digest 25 (.aload_n 0) 1 26 := ⟨by decide +kernel, rfl⟩
theorem dX8_digest_26 : DD cX8_digest 26 (.iload_n 1) 1 27 := ⟨by decide +kernel, rfl⟩
theorem dX8_digest_27 : DD cX8_digest 27 (.invokevirtual 158) 3 30 := ⟨by decide +kernel, rfl⟩
theorem dX8_digest_30 : DD cX8_digest 30 (.i2l) 1 31 := ⟨by decide +kernel, rfl⟩
theorem dX8_digest_31 : DD cX8_digest 31 (.invokevirtual 198) 3 34 := ⟨by decide +kernel, rfl⟩
theorem dX8_digest_34 : DD cX8_digest 34 (.iinc 1 1) 3 37 := ⟨by decide +kernel, rfl⟩
theorem dX8_digest_37 : DB cX8_digest 37 (.goto) (-19) 3 40 18 := ⟨by decide +kernel, rfl, rfl⟩
theorem dX8_digest_40 : DD cX8_digest 40 (.aload_n 0) 1 41 := ⟨by decide +kernel, rfl⟩
theorem dX8_digest_41 : DD cX8_digest 41 (.aload_n 0) 1 42 := ⟨by decide +kernel, rfl⟩
theorem dX8_digest_42 : DD cX8_digest 42 (.getfield 7) 3 45 := ⟨by decide +kernel, rfl⟩
theorem dX8_digest_45 : DD cX8_digest 45 (.iconst 0) 1 46 := ⟨by decide +kernel, rfl⟩
theorem dX8_digest_46 : DD cX8_digest 46 (.iaload) 1 47 := ⟨by decide +kernel, rfl⟩
theorem dX8_digest_47 : DD cX8_digest 47 (.i2l) 1 48 := ⟨by decide +kernel, rfl⟩
theorem dX8_digest_48 : DD cX8_digest 48 (.invokevirtual 198) 3 51 := ⟨by decide +kernel, rfl⟩
theorem dX8_digest_51 : DD cX8_digest 51 (.aload_n 0) 1 52 := ⟨by decide +kernel, rfl⟩
theorem dX8_digest_52 : DD cX8_digest 52 (.aload_n 0) 1 53 := ⟨by decide +kernel, rfl⟩
theorem dX8_digest_53 : DD cX8_digest 53 (.getfield 7) 3 56 := ⟨by decide +kernel, rfl⟩
theorem dX8_digest_56 : DD cX8_digest 56 (.iconst 1) 1 57 := ⟨by decide +kernel, rfl⟩
theorem dX8_digest_57 : DD cX8_digest 57 (.iaload) 1 58 := ⟨by decide +kernel, rfl⟩
theorem dX8_digest_58 : DD cX8_digest 58 (.i2l) 1 59 := ⟨by decide +kernel, rfl⟩
theorem dX8_digest_59 : DD cX8_digest 59 (.invokevirtual 198) 3 62 := ⟨by decide +kernel, rfl⟩
theorem dX8_digest_62 : DD cX8_digest 62 (.iconst 0) 1 63 := ⟨by decide +kernel, rfl⟩
theorem dX8_digest_63 : DD cX8_digest 63 (.istore_n 1) 1 64 := ⟨by decide +kernel, rfl⟩
theorem dX8_digest_64 : DD cX8_digest 64 (.iload_n 1) 1 65 := ⟨by decide +kernel, rfl⟩
theorem dX8_digest_65 : DD cX8_digest 65 (.bipush 8) 2 67 := ⟨by decide +kernel, rfl⟩
theorem dX8_digest_67 : DB cX8_digest 67 (.if_icmp .ge) 14 3 70 81 := ⟨by decide +kernel, rfl, rfl⟩
theorem dX8_digest_70 : DD cX8_digest 70 (.aload_n 0) 1 71 := ⟨by decide +kernel, rfl⟩
theorem dX8_digest_71 : DD cX8_digest 71 (.iload_n 1) 1 72 := ⟨by decide +kernel, rfl⟩
theorem dX8_digest_72 : DD cX8_digest 72 (.invokevirtual 204) 3 75 := ⟨by decide +kernel, rfl⟩
theorem dX8_digest_75 : DD cX8_digest 75 (.iinc 1 1) 3 78 := ⟨by decide +kernel, rfl⟩
theorem dX8_digest_78 : DB cX8_digest 78 (.goto) (-14) 3 81 64 := ⟨by decide +kernel, rfl, rfl⟩
theorem dX8_digest_81 : DD cX8_digest 81 (.aload_n 0) 1 82 := ⟨by decide +kernel, rfl⟩
theorem dX8_digest_82 : DD cX8_digest 82 (.iconst 0) 1 83 := ⟨by decide +kernel, rfl⟩
theorem dX8_digest_83 : DD cX8_digest 83 (.invokevirtual 208) 3 86 := ⟨by decide +kernel, rfl⟩
theorem dX8_digest_86 : DD cX8_digest 86 (.aload_n 0) 1 87 := ⟨by decide +kernel, rfl⟩
theorem dX8_digest_87 : DD cX8_digest 87 (.iconst 1) 1 88 := ⟨by decide +kernel, rfl⟩
theorem dX8_digest_88 : DD cX8_digest 88 (.invokevirtual 208) 3 91 := ⟨by decide +kernel, rfl⟩
theorem dX8_digest_91 : DD cX8_digest 91 (.aload_n 0) 1 92 := ⟨by decide +kernel, rfl⟩
theorem dX8_digest_92 : DD cX8_digest 92 (.aload_n 0) 1 93 := ⟨by decide +kernel, rfl⟩
theorem dX8_digest_93 : DD cX8_digest 93 (.invokevirtual 180) 3 96 := ⟨by decide +kernel, rfl⟩
theorem dX8_digest_96 : DD cX8_digest 96 (.invokestatic 211) 3 99 := ⟨by decide +kernel, rfl⟩
theorem dX8_digest_99 : DD cX8_digest 99 (.invokevirtual 198) 3 102 := ⟨by decide +kernel, rfl⟩
theorem dX8_digest_102 : DD cX8_digest 102 (.iconst 0) 1 103 := ⟨by decide +kernel, rfl⟩
theorem dX8_digest_103 : DD cX8_digest 103 (.istore_n 1) 1 104 := ⟨by decide +kernel, rfl⟩
theorem dX8_digest_104 : DD cX8_digest 104 (.iload_n 1) 1 105 := ⟨by decide +kernel, rfl⟩
theorem dX8_digest_105 : DD cX8_digest 105 (.iconst 2) 1 106 := ⟨by decide +kernel, rfl⟩
theorem dX8_digest_106 : DB cX8_digest 106 (.if_icmp .ge) 27 3 109 133 := ⟨by decide +kernel, rfl, rfl⟩
theorem dX8_digest_109 : DD cX8_digest 109 (.aload_n 0) 1 110 := ⟨by decide +kernel, rfl⟩
theorem dX8_digest_110 : DD cX8_digest 110 (.aload_n 0) 1 111 := ⟨by decide +kernel, rfl⟩
theorem dX8_digest_111 : DD cX8_digest 111 (.getfield 19) 3 114 := ⟨by decide +kernel, rfl⟩
theorem dX8_digest_114 : DD cX8_digest 114 (.iload_n 1) 1 115 := ⟨by decide +kernel, rfl⟩
theorem dX8_digest_115 : DD cX8_digest 115 (.baload) 1 116 := ⟨by decide +kernel, rfl⟩
theorem dX8_digest_116 : DB cX8_digest 116 (.ifCond .eq) 7 3 119 123 := ⟨by decide +kernel, rfl, rfl⟩
theorem dX8_digest_119 : DD cX8_digest 119 (.lconst 1) 1 120 := ⟨by decide +kernel, rfl⟩
theorem dX8_digest_120 : DB cX8_digest 120 (.goto) 4 3 123 124 := ⟨by decide +kernel, rfl, rfl⟩
theorem dX8_digest_123 : DD cX8_digest 123 (.lconst 0) 1 124 := ⟨by decide +kernel, rfl⟩
theorem dX8_digest_124 : DD cX8_digest 124 (.invokevirtual 198) 3 127 := ⟨by decide +kernel, rfl⟩
theorem dX8_digest_127 : DD cX8_digest 127 (.iinc 1 1) 3 130 := ⟨by decide +kernel, rfl⟩
theorem dX8_digest_130 : DB cX8_digest 130 (.goto) (-26) 3 133 104 := ⟨by decide +kernel, rfl, rfl⟩
theorem dX8_digest_133 : DD cX8_digest 133 (.aload_n 0) 1 134 := ⟨by decide +kernel, rfl⟩
theorem dX8_digest_134 : DD cX8_digest 134 (.aload_n 0) 1 135 := ⟨by decide +kernel, rfl⟩
theorem dX8_digest_135 : DD cX8_digest 135 (.getfield 106) 3 138 := ⟨by decide +kernel, rfl⟩
theorem dX8_digest_138 : DD cX8_digest 138 (.i2l) 1 139 := ⟨by decide +kernel, rfl⟩
theorem dX8_digest_139 : DD cX8_digest 139 (.invokevirtual 198) 3 142 := ⟨by decide +kernel, rfl⟩
theorem dX8_digest_142 : DD cX8_digest 142 (.iconst 0) 1 143 := ⟨by decide +kernel, rfl⟩
theorem dX8_digest_143 : DD cX8_digest 143 (.istore_n 1) 1 144 := ⟨by decide +kernel, rfl⟩
theorem dX8_digest_144 : DD cX8_digest 144 (.iload_n 1) 1 145 := ⟨by decide +kernel, rfl⟩
theorem dX8_digest_145 : DD cX8_digest 145 (.aload_n 0) 1 146 := ⟨by decide +kernel, rfl⟩
theorem dX8_digest_146 : DD cX8_digest 146 (.getfield 106) 3 149 := ⟨by decide +kernel, rfl⟩
theorem dX8_digest_149 : DB cX8_digest 149 (.if_icmp .ge) 20 3 152 169 := ⟨by decide +kernel, rfl, rfl⟩
theorem dX8_digest_152 : DD cX8_digest 152 (.aload_n 0) 1 153 := ⟨by decide +kernel, rfl⟩
theorem dX8_digest_153 : DD cX8_digest 153 (.aload_n 0) 1 154 := ⟨by decide +kernel, rfl⟩
theorem dX8_digest_154 : DD cX8_digest 154 (.getfield 23) 3 157 := ⟨by decide +kernel, rfl⟩
theorem dX8_digest_157 : DD cX8_digest 157 (.iload_n 1) 1 158 := ⟨by decide +kernel, rfl⟩
theorem dX8_digest_158 : DD cX8_digest 158 (.iaload) 1 159 := ⟨by decide +kernel, rfl⟩
theorem dX8_digest_159 : DD cX8_digest 159 (.i2l) 1 160 := ⟨by decide +kernel, rfl⟩
theorem dX8_digest_160 : DD cX8_digest 160 (.invokevirtual 198) 3 163 := ⟨by decide +kernel, rfl⟩
theorem dX8_digest_163 : DD cX8_digest 163 (.iinc 1 1) 3 166 := ⟨by decide +kernel, rfl⟩
theorem dX8_digest_166 : DB cX8_digest 166 (.goto) (-22) 3 169 144 := ⟨by decide +kernel, rfl, rfl⟩
theorem dX8_digest_169 : DD cX8_digest 169 (.aload_n 0) 1 170 := ⟨by decide +kernel, rfl⟩
theorem dX8_digest_170 : DD cX8_digest 170 (.getfield 194) 3 173 := ⟨by decide +kernel, rfl⟩
theorem dX8_digest_173 : DD cX8_digest 173 (.lreturn) 1 174 := ⟨by decide +kernel, rfl⟩
theorem dJ6_bitCount_0f7a4_0 : DD cJ6_bitCount_0f7a4 0 (.iload_n 0) 1 1 := ⟨by decide +kernel, rfl⟩
theorem dJ6_bitCount_0f7a4_1 : DD cJ6_bitCount_0f7a4 1 (.iload_n 0) 1 2 := ⟨by decide +kernel, rfl⟩
theorem dJ6_bitCount_0f7a4_2 : DD cJ6_bitCount_0f7a4 2 (.iconst 1) 1 3 := ⟨by decide +kernel, rfl⟩
theorem dJ6_bitCount_0f7a4_3 : DD cJ6_bitCount_0f7a4 3 (.iushr) 1 4 := ⟨by decide +kernel, rfl⟩
theorem dJ6_bitCount_0f7a4_4 : DD cJ6_bitCount_0f7a4 4 (.ldc_w 265) 3 7 := ⟨by decide +kernel, rfl⟩
theorem dJ6_bitCount_0f7a4_7 : DD cJ6_bitCount_0f7a4 7 (.iand) 1 8 := ⟨by decide +kernel, rfl⟩
theorem dJ6_bitCount_0f7a4_8 : DD cJ6_bitCount_0f7a4 8 (.isub) 1 9 := ⟨by decide +kernel, rfl⟩
theorem dJ6_bitCount_0f7a4_9 : DD cJ6_bitCount_0f7a4 9 (.istore_n 0) 1 10 := ⟨by decide +kernel, rfl⟩
theorem dJ6_bitCount_0f7a4_10 : DD cJ6_bitCount_0f7a4 10 (.iload_n 0) 1 11 := ⟨by decide +kernel, rfl⟩
theorem dJ6_bitCount_0f7a4_11 : DD cJ6_bitCount_0f7a4 11 (.ldc_w 266) 3 14 := ⟨by decide +kernel, rfl⟩
theorem dJ6_bitCount_0f7a4_14 : DD cJ6_bitCount_0f7a4 14 (.iand) 1 15 := ⟨by decide +kernel, rfl⟩
theorem dJ6_bitCount_0f7a4_15 : DD cJ6_bitCount_0f7a4 15 (.iload_n 0) 1 16 := ⟨by decide +kernel, rfl⟩
theorem dJ6_bitCount_0f7a4_16 : DD cJ6_bitCount_0f7a4 16 (.iconst 2) 1 17 := ⟨by decide +kernel, rfl⟩
theorem dJ6_bitCount_0f7a4_17 : DD cJ6_bitCount_0f7a4 17 (.iushr) 1 18 := ⟨by decide +kernel, rfl⟩
theorem dJ6_bitCount_0f7a4_18 : DD cJ6_bitCount_0f7a4 18 (.ldc_w 266) 3 21 := ⟨by decide +kernel, rfl⟩
theorem dJ6_bitCount_0f7a4_21 : DD cJ6_bitCount_0f7a4 21 (.iand) 1 22 := ⟨by decide +kernel, rfl⟩
theorem dJ6_bitCount_0f7a4_22 : DD cJ6_bitCount_0f7a4 22 (.iadd) 1 23 := ⟨by decide +kernel, rfl⟩
theorem dJ6_bitCount_0f7a4_23 : DD cJ6_bitCount_0f7a4 23 (.istore_n 0) 1 24 := ⟨by decide +kernel, rfl⟩
theorem dJ6_bitCount_0f7a4_24 : DD cJ6_bitCount_0f7a4 24 (.iload_n 0) 1 25 := ⟨by decide +kernel, rfl⟩
theorem dJ6_bitCount_0f7a4_25 : DD cJ6_bitCount_0f7a4 25 (.iload_n 0) 1 26 := ⟨by decide +kernel, rfl⟩
theorem dJ6_bitCount_0f7a4_26 : DD cJ6_bitCount_0f7a4 26 (.iconst 4) 1 27 := ⟨by decide +kernel, rfl⟩
theorem dJ6_bitCount_0f7a4_27 : DD cJ6_bitCount_0f7a4 27 (.iushr) 1 28 := ⟨by decide +kernel, rfl⟩
theorem dJ6_bitCount_0f7a4_28 : DD cJ6_bitCount_0f7a4 28 (.iadd) 1 29 := ⟨by decide +kernel, rfl⟩
theorem dJ6_bitCount_0f7a4_29 : DD cJ6_bitCount_0f7a4 29 (.ldc_w 267) 3 32 := ⟨by decide +kernel, rfl⟩
theorem dJ6_bitCount_0f7a4_32 : DD cJ6_bitCount_0f7a4 32 (.iand) 1 33 := ⟨by decide +kernel, rfl⟩
theorem dJ6_bitCount_0f7a4_33 : DD cJ6_bitCount_0f7a4 33 (.istore_n 0) 1 34 := ⟨by decide +kernel, rfl⟩
theorem dJ6_bitCount_0f7a4_34 : DD cJ6_bitCount_0f7a4 34 (.iload_n 0) 1 35 := ⟨by decide +kernel, rfl⟩
theorem dJ6_bitCount_0f7a4_35 : DD cJ6_bitCount_0f7a4 35 (.iload_n 0) 1 36 := ⟨by decide +kernel, rfl⟩
theorem dJ6_bitCount_0f7a4_36 : DD cJ6_bitCount_0f7a4 36 (.bipush 8) 2 38 := ⟨by decide +kernel, rfl⟩
theorem dJ6_bitCount_0f7a4_38 : DD cJ6_bitCount_0f7a4 38 (.iushr) 1 39 := ⟨by decide +kernel, rfl⟩
theorem dJ6_bitCount_0f7a4_39 : DD cJ6_bitCount_0f7a4 39 (.iadd) 1 40 := ⟨by decide +kernel, rfl⟩
theorem dJ6_bitCount_0f7a4_40 : DD cJ6_bitCount_0f7a4 40 (.istore_n 0) 1 41 := ⟨by decide +kernel, rfl⟩
theorem dJ6_bitCount_0f7a4_41 : DD cJ6_bitCount_0f7a4 41 (.iload_n 0) 1 42 := ⟨by decide +kernel, rfl⟩
theorem dJ6_bitCount_0f7a4_42 : DD cJ6_bitCount_0f7a4 42 (.iload_n 0) 1 43 := ⟨by decide +kernel, rfl⟩
theorem dJ6_bitCount_0f7a4_43 : DD cJ6_bitCount_0f7a4 43 (.bipush 16) 2 45 := ⟨by decide +kernel, rfl⟩
theorem dJ6_bitCount_0f7a4_45 : DD cJ6_bitCount_0f7a4 45 (.iushr) 1 46 := ⟨by decide +kernel, rfl⟩
theorem dJ6_bitCount_0f7a4_46 : DD cJ6_bitCount_0f7a4 46 (.iadd) 1 47 := ⟨by decide +kernel, rfl⟩
theorem dJ6_bitCount_0f7a4_47 : DD cJ6_bitCount_0f7a4 47 (.istore_n 0) 1 48 := ⟨by decide +kernel, rfl⟩
theorem dJ6_bitCount_0f7a4_48 : DD cJ6_bitCount_0f7a4 48 (.iload_n 0) 1 49 := ⟨by decide +kernel, rfl⟩
theorem dJ6_bitCount_0f7a4_49 : DD cJ6_bitCount_0f7a4 49 (.bipush 63) 2 51 := ⟨by decide +kernel, rfl⟩
theorem dJ6_bitCount_0f7a4_51 : DD cJ6_bitCount_0f7a4 51 (.iand) 1 52 := ⟨by decide +kernel, rfl⟩
theorem dJ6_bitCount_0f7a4_52 : DD cJ6_bitCount_0f7a4 52 (.ireturn) 1 53 := ⟨by decide +kernel, rfl⟩
theorem dJ9_max_7cf53_0 : DD cJ9_max_7cf53 0 (.iload_n 0) 1 1 := ⟨by decide +kernel, rfl⟩
theorem dJ9_max_7cf53_1 : DD cJ9_max_7cf53 1 (.iload_n 1) 1 2 := ⟨by decide +kernel, rfl⟩
theorem dJ9_max_7cf53_2 : DB cJ9_max_7cf53 2 (.if_icmp .lt) 7 3 5 9 := ⟨by decide +kernel, rfl, rfl⟩
theorem dJ9_max_7cf53_5 : DD cJ9_max_7cf53 5 (.iload_n 0) 1 6 := ⟨by decide +kernel, rfl⟩
theorem dJ9_max_7cf53_6 : DB cJ9_max_7cf53 6 (.goto) 4 3 9 10 := ⟨by decide +kernel, rfl, rfl⟩
theorem dJ9_max_7cf53_9 : DD cJ9_max_7cf53 9 (.iload_n 1) 1 10 := ⟨by decide +kernel, rfl⟩
theorem dJ9_max_7cf53_10 : DD cJ9_max_7cf53 10 (.ireturn) 1 11 := ⟨by decide +kernel, rfl⟩
theorem dJ9_min_7cf53_0 : DD cJ9_min_7cf53 0 (.iload_n 0) 1 1 := ⟨by decide +kernel, rfl⟩
theorem dJ9_min_7cf53_1 : DD cJ9_min_7cf53 1 (.iload_n 1) 1 2 := ⟨by decide +kernel, rfl⟩
theorem dJ9_min_7cf53_2 : DB cJ9_min_7cf53 2 (.if_icmp .gt) 7 3 5 9 := ⟨by decide +kernel, rfl, rfl⟩
theorem dJ9_min_7cf53_5 : DD cJ9_min_7cf53 5 (.iload_n 0) 1 6 := ⟨by decide +kernel, rfl⟩
theorem dJ9_min_7cf53_6 : DB cJ9_min_7cf53 6 (.goto) 4 3 9 10 := ⟨by decide +kernel, rfl, rfl⟩
theorem dJ9_min_7cf53_9 : DD cJ9_min_7cf53 9 (.iload_n 1) 1 10 := ⟨by decide +kernel, rfl⟩
theorem dJ9_min_7cf53_10 : DD cJ9_min_7cf53 10 (.ireturn) 1 11 := ⟨by decide +kernel, rfl⟩
theorem dL_addMove_0 : DD cL_addMove 0 (.aload_n 3) 1 1 := ⟨by decide +kernel, rfl⟩
theorem dL_addMove_1 : DD cL_addMove 1 (.iconst 0) 1 2 := ⟨by decide +kernel, rfl⟩
theorem dL_addMove_2 : DD cL_addMove 2 (.aload_n 0) 1 3 := ⟨by decide +kernel, rfl⟩
theorem dL_addMove_3 : DD cL_addMove 3 (.iload_n 1) 1 4 := ⟨by decide +kernel, rfl⟩
theorem dL_addMove_4 : DD cL_addMove 4 (.iload_n 2) 1 5 := ⟨by decide +kernel, rfl⟩
theorem dL_addMove_5 : DD cL_addMove 5 (.invokevirtual 7) 3 8 := ⟨by decide +kernel, rfl⟩
theorem dL_addMove_8 : DD cL_addMove 8 (.i2l) 1 9 := ⟨by decide +kernel, rfl⟩
theorem dL_addMove_9 : DD cL_addMove 9 (.lastore) 1 10 := ⟨by decide +kernel, rfl⟩
theorem dL_addMove_10 : DB cL_addMove 10 (.goto) 15 3 13 25 := ⟨by decide +kernel, rfl, rfl⟩
theorem dL_addMove_13 : DD cL_addMove 13 (.astore 4) 2 15 := ⟨by decide +kernel, rfl⟩
theorem dL_addMove_15 : DD cL_addMove 15 (.iconst 1) 1 16 := ⟨by decide +kernel, rfl⟩
theorem dL_addMove_16 : DD cL_addMove 16 (.ireturn) 1 17 := ⟨by decide +kernel, rfl⟩
theorem dL_addMove_17 : DD cL_addMove 17 (.astore 4) 2 19 := ⟨by decide +kernel, rfl⟩
theorem dL_addMove_19 : DD cL_addMove 19 (.iconst 2) 1 20 := ⟨by decide +kernel, rfl⟩
theorem dL_addMove_20 : DD cL_addMove 20 (.ireturn) 1 21 := ⟨by decide +kernel, rfl⟩
theorem dL_addMove_21 : DD cL_addMove 21 (.astore 4) 2 23 := ⟨by decide +kernel, rfl⟩
theorem dL_addMove_23 : DD cL_addMove 23 (.iconst 3) 1 24 := ⟨by decide +kernel, rfl⟩
theorem dL_addMove_24 : DD cL_addMove 24 (.ireturn) 1 25 := ⟨by decide +kernel, rfl⟩
theorem dL_addMove_25 : DD cL_addMove 25 (.iconst 0) 1 26 := ⟨by decide +kernel, rfl⟩
theorem dL_addMove_26 : DD cL_addMove 26 (.ireturn) 1 27 := ⟨by decide +kernel, rfl⟩
theorem dL_clearMoves_0 : DD cL_clearMoves 0 (.aload_n 2) 1 1 := ⟨by decide +kernel, rfl⟩
theorem dL_clearMoves_1 : DD cL_clearMoves 1 (.iconst 0) 1 2 := ⟨by decide +kernel, rfl⟩
theorem dL_clearMoves_2 : DD cL_clearMoves 2 (.aload_n 0) 1 3 := ⟨by decide +kernel, rfl⟩
theorem dL_clearMoves_3 : DD cL_clearMoves 3 (.iload_n 1) 1 4 := ⟨by decide +kernel, rfl⟩
theorem dL_clearMoves_4 : DD cL_clearMoves 4 (.invokevirtual 19) 3 7 := ⟨by decide +kernel, rfl⟩
theorem dL_clearMoves_7 : DD cL_clearMoves 7 (.i2l) 1 8 := ⟨by decide +kernel, rfl⟩
theorem dL_clearMoves_8 : DD cL_clearMoves 8 (.lastore) 1 9 := ⟨by decide +kernel, rfl⟩
theorem dL_clearMoves_9 : DB cL_clearMoves 9 (.goto) 6 3 12 15 := ⟨by decide +kernel, rfl, rfl⟩
theorem dL_clearMoves_12 : DD cL_clearMoves 12 (.astore_n 3) 1 13 := ⟨by decide +kernel, rfl⟩
theorem dL_clearMoves_13 : DD cL_clearMoves 13 (.iconst 1) 1 14 := ⟨by decide +kernel, rfl⟩
theorem dL_clearMoves_14 : DD cL_clearMoves 14 (.ireturn) 1 15 := ⟨by decide +kernel, rfl⟩
theorem dL_clearMoves_15 : DD cL_clearMoves 15 (.iconst 0) 1 16 := ⟨by decide +kernel, rfl⟩
theorem dL_clearMoves_16 : DD cL_clearMoves 16 (.ireturn) 1 17 := ⟨by decide +kernel, rfl⟩
theorem dL_mark_0 : DD cL_mark 0 (.aload_n 3) 1 1 := ⟨by decide +kernel, rfl⟩
theorem dL_mark_1 : DD cL_mark 1 (.iconst 0) 1 2 := ⟨by decide +kernel, rfl⟩
theorem dL_mark_2 : DD cL_mark 2 (.aload_n 0) 1 3 := ⟨by decide +kernel, rfl⟩
theorem dL_mark_3 : DD cL_mark 3 (.iload_n 1) 1 4 := ⟨by decide +kernel, rfl⟩
theorem dL_mark_4 : DD cL_mark 4 (.iload_n 2) 1 5 := ⟨by decide +kernel, rfl⟩
theorem dL_mark_5 : DD cL_mark 5 (.invokevirtual 23) 3 8 := ⟨by decide +kernel, rfl⟩
theorem dL_mark_8 : DD cL_mark 8 (.i2l) 1 9 := ⟨by decide +kernel, rfl⟩
theorem dL_mark_9 : DD cL_mark 9 (.lastore) 1 10 := ⟨by decide +kernel, rfl⟩
theorem dL_mark_10 : DB cL_mark 10 (.goto) 11 3 13 21 := ⟨by decide +kernel, rfl, rfl⟩
theorem dL_mark_13 : DD cL_mark 13 (.astore 4) 2 15 := ⟨by decide +kernel, rfl⟩
theorem dL_mark_15 : DD cL_mark 15 (.iconst 1) 1 16 := ⟨by decide +kernel, rfl⟩
theorem dL_mark_16 : DD cL_mark 16 (.ireturn) 1 17 := ⟨by decide +kernel, rfl⟩
theorem dL_mark_17 : DD cL_mark 17 (.astore 4) 2 19 := ⟨by decide +kernel, rfl⟩
theorem dL_mark_19 : DD cL_mark 19 (.iconst 2) 1 20 := ⟨by decide +kernel, rfl⟩
theorem dL_mark_20 : DD cL_mark 20 (.ireturn) 1 21 := ⟨by decide +kernel, rfl⟩
theorem dL_mark_21 : DD cL_mark 21 (.iconst 0) 1 22 := ⟨by decide +kernel, rfl⟩
theorem dL_mark_22 : DD cL_mark 22 (.ireturn) 1 23 := ⟨by decide +kernel, rfl⟩
theorem dL_set_0 : DD cL_set 0 (.aload_n 3) 1 1 := ⟨by decide +kernel, rfl⟩
theorem dL_set_1 : DD cL_set 1 (.iconst 0) 1 2 := ⟨by decide +kernel, rfl⟩
theorem dL_set_2 : DD cL_set 2 (.aload_n 0) 1 3 := ⟨by decide +kernel, rfl⟩
theorem dL_set_3 : DD cL_set 3 (.iload_n 1) 1 4 := ⟨by decide +kernel, rfl⟩
theorem dL_set_4 : DD cL_set 4 (.iload_n 2) 1 5 := ⟨by decide +kernel, rfl⟩
theorem dL_set_5 : DD cL_set 5 (.invokevirtual 26) 3 8 := ⟨by decide +kernel, rfl⟩
theorem dL_set_8 : DD cL_set 8 (.i2l) 1 9 := ⟨by decide +kernel, rfl⟩
theorem dL_set_9 : DD cL_set 9 (.lastore) 1 10 := ⟨by decide +kernel, rfl⟩
theorem dL_set_10 : DB cL_set 10 (.goto) 11 3 13 21 := ⟨by decide +kernel, rfl, rfl⟩
theorem dL_set_13 : DD cL_set 13 (.astore 4) 2 15 := ⟨by decide +kernel, rfl⟩
theorem dL_set_15 : DD cL_set 15 (.iconst 1) 1 16 := ⟨by decide +kernel, rfl⟩
theorem dL_set_16 : DD cL_set 16 (.ireturn) 1 17 := ⟨by decide +kernel, rfl⟩
theorem dL_set_17 : DD cL_set 17 (.astore 4) 2 19 := ⟨by decide +kernel, rfl⟩
theorem dL_set_19 : DD cL_set 19 (.iconst 2) 1 20 := ⟨by decide +kernel, rfl⟩
theorem dL_set_20 : DD cL_set 20 (.ireturn) 1 21 := ⟨by decide +kernel, rfl⟩
theorem dL_set_21 : DD cL_set 21 (.iconst 0) 1 22 := ⟨by decide +kernel, rfl⟩
theorem dL_set_22 : DD cL_set 22 (.ireturn) 1 23 := ⟨by decide +kernel, rfl⟩
theorem dL_place_0 : DD cL_place 0 (.aload 4) 2 2 := ⟨by decide +kernel, rfl⟩
theorem dL_place_2 : DD cL_place 2 (.iconst 0) 1 3 := ⟨by decide +kernel, rfl⟩
theorem dL_place_3 : DD cL_place 3 (.aload_n 0) 1 4 := ⟨by decide +kernel, rfl⟩
theorem dL_place_4 : DD cL_place 4 (.iload_n 1) 1 5 := ⟨by decide +kernel, rfl⟩
theorem dL_place_5 : DD cL_place 5 (.iload_n 2) 1 6 := ⟨by decide +kernel, rfl⟩
theorem dL_place_6 : DD cL_place 6 (.iload_n 3) 1 7 := ⟨by decide +kernel, rfl⟩
theorem dL_place_7 : DD cL_place 7 (.invokevirtual 29) 3 10 := ⟨by decide +kernel, rfl⟩
theorem dL_place_10 : DD cL_place 10 (.i2l) 1 11 := ⟨by decide +kernel, rfl⟩
theorem dL_place_11 : DD cL_place 11 (.lastore) 1 12 := ⟨by decide +kernel, rfl⟩
theorem dL_place_12 : DB cL_place 12 (.goto) 11 3 15 23 := ⟨by decide +kernel, rfl, rfl⟩
theorem dL_place_15 : DD cL_place 15 (.astore 5) 2 17 := ⟨by decide +kernel, rfl⟩
theorem dL_place_17 : DD cL_place 17 (.iconst 1) 1 18 := ⟨by decide +kernel, rfl⟩
theorem dL_place_18 : DD cL_place 18 (.ireturn) 1 19 := ⟨by decide +kernel, rfl⟩
theorem dL_place_19 : DD cL_place 19 (.astore 5) 2 21 := ⟨by decide +kernel, rfl⟩
theorem dL_place_21 : DD cL_place 21 (.iconst 2) 1 22 := ⟨by decide +kernel, rfl⟩
theorem dL_place_22 : DD cL_place 22 (.ireturn) 1 23 := ⟨by decide +kernel, rfl⟩
theorem dL_place_23 : DD cL_place 23 (.iconst 0) 1 24 := ⟨by decide +kernel, rfl⟩
theorem dL_place_24 : DD cL_place 24 (.ireturn) 1 25 := ⟨by decide +kernel, rfl⟩
theorem dL_append_0 : DD cL_append 0 (.aload_n 2) 1 1 := ⟨by decide +kernel, rfl⟩
theorem dL_append_1 : DD cL_append 1 (.iconst 0) 1 2 := ⟨by decide +kernel, rfl⟩
theorem dL_append_2 : DD cL_append 2 (.aload_n 0) 1 3 := ⟨by decide +kernel, rfl⟩
theorem dL_append_3 : DD cL_append 3 (.iload_n 1) 1 4 := ⟨by decide +kernel, rfl⟩
theorem dL_append_4 : DD cL_append 4 (.invokevirtual 33) 3 7 := ⟨by decide +kernel, rfl⟩
theorem dL_append_7 : DD cL_append 7 (.i2l) 1 8 := ⟨by decide +kernel, rfl⟩
theorem dL_append_8 : DD cL_append 8 (.lastore) 1 9 := ⟨by decide +kernel, rfl⟩
theorem dL_append_9 : DB cL_append 9 (.goto) 9 3 12 18 := ⟨by decide +kernel, rfl, rfl⟩
theorem dL_append_12 : DD cL_append 12 (.astore_n 3) 1 13 := ⟨by decide +kernel, rfl⟩
theorem dL_append_13 : DD cL_append 13 (.iconst 1) 1 14 := ⟨by decide +kernel, rfl⟩
theorem dL_append_14 : DD cL_append 14 (.ireturn) 1 15 := ⟨by decide +kernel, rfl⟩
theorem dL_append_15 : DD cL_append 15 (.astore_n 3) 1 16 := ⟨by decide +kernel, rfl⟩
theorem dL_append_16 : DD cL_append 16 (.iconst 2) 1 17 := ⟨by decide +kernel, rfl⟩
theorem dL_append_17 : DD cL_append 17 (.ireturn) 1 18 := ⟨by decide +kernel, rfl⟩
theorem dL_append_18 : DD cL_append 18 (.iconst 0) 1 19 := ⟨by decide +kernel, rfl⟩
theorem dL_append_19 : DD cL_append 19 (.ireturn) 1 20 := ⟨by decide +kernel, rfl⟩
theorem dL_load_0 : DD cL_load 0 (.aload_n 1) 1 1 := ⟨by decide +kernel, rfl⟩
theorem dL_load_1 : DD cL_load 1 (.iconst 0) 1 2 := ⟨by decide +kernel, rfl⟩
theorem dL_load_2 : DD cL_load 2 (.aload_n 0) 1 3 := ⟨by decide +kernel, rfl⟩
theorem dL_load_3 : DD cL_load 3 (.invokevirtual 36) 3 6 := ⟨by decide +kernel, rfl⟩
theorem dL_load_6 : DD cL_load 6 (.i2l) 1 7 := ⟨by decide +kernel, rfl⟩
theorem dL_load_7 : DD cL_load 7 (.lastore) 1 8 := ⟨by decide +kernel, rfl⟩
theorem dL_load_8 : DB cL_load 8 (.goto) 6 3 11 14 := ⟨by decide +kernel, rfl, rfl⟩
theorem dL_load_11 : DD cL_load 11 (.astore_n 2) 1 12 := ⟨by decide +kernel, rfl⟩
theorem dL_load_12 : DD cL_load 12 (.iconst 1) 1 13 := ⟨by decide +kernel, rfl⟩
theorem dL_load_13 : DD cL_load 13 (.ireturn) 1 14 := ⟨by decide +kernel, rfl⟩
theorem dL_load_14 : DD cL_load 14 (.iconst 0) 1 15 := ⟨by decide +kernel, rfl⟩
theorem dL_load_15 : DD cL_load 15 (.ireturn) 1 16 := ⟨by decide +kernel, rfl⟩
theorem dL_keep_0 : DD cL_keep 0 (.aload_n 2) 1 1 := ⟨by decide +kernel, rfl⟩
theorem dL_keep_1 : DD cL_keep 1 (.iconst 0) 1 2 := ⟨by decide +kernel, rfl⟩
theorem dL_keep_2 : DD cL_keep 2 (.aload_n 0) 1 3 := ⟨by decide +kernel, rfl⟩
theorem dL_keep_3 : DD cL_keep 3 (.iload_n 1) 1 4 := ⟨by decide +kernel, rfl⟩
theorem dL_keep_4 : DD cL_keep 4 (.invokevirtual 40) 3 7 := ⟨by decide +kernel, rfl⟩
theorem dL_keep_7 : DD cL_keep 7 (.i2l) 1 8 := ⟨by decide +kernel, rfl⟩
theorem dL_keep_8 : DD cL_keep 8 (.lastore) 1 9 := ⟨by decide +kernel, rfl⟩
theorem dL_keep_9 : DB cL_keep 9 (.goto) 6 3 12 15 := ⟨by decide +kernel, rfl, rfl⟩
theorem dL_keep_12 : DD cL_keep 12 (.astore_n 3) 1 13 := ⟨by decide +kernel, rfl⟩
theorem dL_keep_13 : DD cL_keep 13 (.iconst 1) 1 14 := ⟨by decide +kernel, rfl⟩
theorem dL_keep_14 : DD cL_keep 14 (.ireturn) 1 15 := ⟨by decide +kernel, rfl⟩
theorem dL_keep_15 : DD cL_keep 15 (.iconst 0) 1 16 := ⟨by decide +kernel, rfl⟩
theorem dL_keep_16 : DD cL_keep 16 (.ireturn) 1 17 := ⟨by decide +kernel, rfl⟩
theorem dL_goBack_0 : DD cL_goBack 0 (.aload_n 2) 1 1 := ⟨by decide +kernel, rfl⟩
theorem dL_goBack_1 : DD cL_goBack 1 (.iconst 0) 1 2 := ⟨by decide +kernel, rfl⟩
theorem dL_goBack_2 : DD cL_goBack 2 (.aload_n 0) 1 3 := ⟨by decide +kernel, rfl⟩
theorem dL_goBack_3 : DD cL_goBack 3 (.iload_n 1) 1 4 := ⟨by decide +kernel, rfl⟩
theorem dL_goBack_4 : DD cL_goBack 4 (.invokevirtual 43) 3 7 := ⟨by decide +kernel, rfl⟩
theorem dL_goBack_7 : DD cL_goBack 7 (.i2l) 1 8 := ⟨by decide +kernel, rfl⟩
theorem dL_goBack_8 : DD cL_goBack 8 (.lastore) 1 9 := ⟨by decide +kernel, rfl⟩
theorem dL_goBack_9 : DB cL_goBack 9 (.goto) 9 3 12 18 := ⟨by decide +kernel, rfl, rfl⟩
theorem dL_goBack_12 : DD cL_goBack 12 (.astore_n 3) 1 13 := ⟨by decide +kernel, rfl⟩
theorem dL_goBack_13 : DD cL_goBack 13 (.iconst 1) 1 14 := ⟨by decide +kernel, rfl⟩
theorem dL_goBack_14 : DD cL_goBack 14 (.ireturn) 1 15 := ⟨by decide +kernel, rfl⟩
theorem dL_goBack_15 : DD cL_goBack 15 (.astore_n 3) 1 16 := ⟨by decide +kernel, rfl⟩
theorem dL_goBack_16 : DD cL_goBack 16 (.iconst 2) 1 17 := ⟨by decide +kernel, rfl⟩
theorem dL_goBack_17 : DD cL_goBack 17 (.ireturn) 1 18 := ⟨by decide +kernel, rfl⟩
theorem dL_goBack_18 : DD cL_goBack 18 (.iconst 0) 1 19 := ⟨by decide +kernel, rfl⟩
theorem dL_goBack_19 : DD cL_goBack 19 (.ireturn) 1 20 := ⟨by decide +kernel, rfl⟩
theorem dL_undo_0 : DD cL_undo 0 (.aload_n 1) 1 1 := ⟨by decide +kernel, rfl⟩
theorem dL_undo_1 : DD cL_undo 1 (.iconst 0) 1 2 := ⟨by decide +kernel, rfl⟩
theorem dL_undo_2 : DD cL_undo 2 (.aload_n 0) 1 3 := ⟨by decide +kernel, rfl⟩
theorem dL_undo_3 : DD cL_undo 3 (.invokevirtual 46) 3 6 := ⟨by decide +kernel, rfl⟩
theorem dL_undo_6 : DD cL_undo 6 (.i2l) 1 7 := ⟨by decide +kernel, rfl⟩
theorem dL_undo_7 : DD cL_undo 7 (.lastore) 1 8 := ⟨by decide +kernel, rfl⟩
theorem dL_undo_8 : DB cL_undo 8 (.goto) 6 3 11 14 := ⟨by decide +kernel, rfl, rfl⟩
theorem dL_undo_11 : DD cL_undo 11 (.astore_n 2) 1 12 := ⟨by decide +kernel, rfl⟩
theorem dL_undo_12 : DD cL_undo 12 (.iconst 1) 1 13 := ⟨by decide +kernel, rfl⟩
theorem dL_undo_13 : DD cL_undo 13 (.ireturn) 1 14 := ⟨by decide +kernel, rfl⟩
theorem dL_undo_14 : DD cL_undo 14 (.iconst 0) 1 15 := ⟨by decide +kernel, rfl⟩
theorem dL_undo_15 : DD cL_undo 15 (.ireturn) 1 16 := ⟨by decide +kernel, rfl⟩
theorem dL_positionOf_0 : DD cL_positionOf 0 (.aload_n 3) 1 1 := ⟨by decide +kernel, rfl⟩
theorem dL_positionOf_1 : DD cL_positionOf 1 (.iconst 0) 1 2 := ⟨by decide +kernel, rfl⟩
theorem dL_positionOf_2 : DD cL_positionOf 2 (.aload_n 0) 1 3 := ⟨by decide +kernel, rfl⟩
theorem dL_positionOf_3 : DD cL_positionOf 3 (.iload_n 1) 1 4 := ⟨by decide +kernel, rfl⟩
theorem dL_positionOf_4 : DD cL_positionOf 4 (.iload_n 2) 1 5 := ⟨by decide +kernel, rfl⟩
theorem dL_positionOf_5 : DD cL_positionOf 5 (.invokevirtual 49) 3 8 := ⟨by decide +kernel, rfl⟩
theorem dL_positionOf_8 : DD cL_positionOf 8 (.i2l) 1 9 := ⟨by decide +kernel, rfl⟩
theorem dL_positionOf_9 : DD cL_positionOf 9 (.lastore) 1 10 := ⟨by decide +kernel, rfl⟩
theorem dL_positionOf_10 : DB cL_positionOf 10 (.goto) 11 3 13 21 := ⟨by decide +kernel, rfl, rfl⟩
theorem dL_positionOf_13 : DD cL_positionOf 13 (.astore 4) 2 15 := ⟨by decide +kernel, rfl⟩
theorem dL_positionOf_15 : DD cL_positionOf 15 (.iconst 1) 1 16 := ⟨by decide +kernel, rfl⟩
theorem dL_positionOf_16 : DD cL_positionOf 16 (.ireturn) 1 17 := ⟨by decide +kernel, rfl⟩
theorem dL_positionOf_17 : DD cL_positionOf 17 (.astore 4) 2 19 := ⟨by decide +kernel, rfl⟩
theorem dL_positionOf_19 : DD cL_positionOf 19 (.iconst 2) 1 20 := ⟨by decide +kernel, rfl⟩
theorem dL_positionOf_20 : DD cL_positionOf 20 (.ireturn) 1 21 := ⟨by decide +kernel, rfl⟩
theorem dL_positionOf_21 : DD cL_positionOf 21 (.iconst 0) 1 22 := ⟨by decide +kernel, rfl⟩
theorem dL_positionOf_22 : DD cL_positionOf 22 (.ireturn) 1 23 := ⟨by decide +kernel, rfl⟩
theorem dL_playerOf_0 : DD cL_playerOf 0 (.aload_n 3) 1 1 := ⟨by decide +kernel, rfl⟩
theorem dL_playerOf_1 : DD cL_playerOf 1 (.iconst 0) 1 2 := ⟨by decide +kernel, rfl⟩
theorem dL_playerOf_2 : DD cL_playerOf 2 (.aload_n 0) 1 3 := ⟨by decide +kernel, rfl⟩
theorem dL_playerOf_3 : DD cL_playerOf 3 (.iload_n 1) 1 4 := ⟨by decide +kernel, rfl⟩
theorem dL_playerOf_4 : DD cL_playerOf 4 (.iload_n 2) 1 5 := ⟨by decide +kernel, rfl⟩
theorem dL_playerOf_5 : DD cL_playerOf 5 (.invokevirtual 52) 3 8 := ⟨by decide +kernel, rfl⟩
theorem dL_playerOf_8 : DD cL_playerOf 8 (.i2l) 1 9 := ⟨by decide +kernel, rfl⟩
theorem dL_playerOf_9 : DD cL_playerOf 9 (.lastore) 1 10 := ⟨by decide +kernel, rfl⟩
theorem dL_playerOf_10 : DB cL_playerOf 10 (.goto) 11 3 13 21 := ⟨by decide +kernel, rfl, rfl⟩
theorem dL_playerOf_13 : DD cL_playerOf 13 (.astore 4) 2 15 := ⟨by decide +kernel, rfl⟩
theorem dL_playerOf_15 : DD cL_playerOf 15 (.iconst 1) 1 16 := ⟨by decide +kernel, rfl⟩
theorem dL_playerOf_16 : DD cL_playerOf 16 (.ireturn) 1 17 := ⟨by decide +kernel, rfl⟩
theorem dL_playerOf_17 : DD cL_playerOf 17 (.astore 4) 2 19 := ⟨by decide +kernel, rfl⟩
theorem dL_playerOf_19 : DD cL_playerOf 19 (.iconst 2) 1 20 := ⟨by decide +kernel, rfl⟩
theorem dL_playerOf_20 : DD cL_playerOf 20 (.ireturn) 1 21 := ⟨by decide +kernel, rfl⟩
theorem dL_playerOf_21 : DD cL_playerOf 21 (.iconst 0) 1 22 := ⟨by decide +kernel, rfl⟩
theorem dL_playerOf_22 : DD cL_playerOf 22 (.ireturn) 1 23 := ⟨by decide +kernel, rfl⟩
theorem dL_count_0 : DD cL_count 0 (.aload_n 2) 1 1 := ⟨by decide +kernel, rfl⟩
theorem dL_count_1 : DD cL_count 1 (.iconst 0) 1 2 := ⟨by decide +kernel, rfl⟩
theorem dL_count_2 : DD cL_count 2 (.aload_n 0) 1 3 := ⟨by decide +kernel, rfl⟩
theorem dL_count_3 : DD cL_count 3 (.iload_n 1) 1 4 := ⟨by decide +kernel, rfl⟩
theorem dL_count_4 : DD cL_count 4 (.invokevirtual 55) 3 7 := ⟨by decide +kernel, rfl⟩
theorem dL_count_7 : DD cL_count 7 (.i2l) 1 8 := ⟨by decide +kernel, rfl⟩
theorem dL_count_8 : DD cL_count 8 (.lastore) 1 9 := ⟨by decide +kernel, rfl⟩
theorem dL_count_9 : DB cL_count 9 (.goto) 6 3 12 15 := ⟨by decide +kernel, rfl, rfl⟩
theorem dL_count_12 : DD cL_count 12 (.astore_n 3) 1 13 := ⟨by decide +kernel, rfl⟩
theorem dL_count_13 : DD cL_count 13 (.iconst 1) 1 14 := ⟨by decide +kernel, rfl⟩
theorem dL_count_14 : DD cL_count 14 (.ireturn) 1 15 := ⟨by decide +kernel, rfl⟩
theorem dL_count_15 : DD cL_count 15 (.iconst 0) 1 16 := ⟨by decide +kernel, rfl⟩
theorem dL_count_16 : DD cL_count 16 (.ireturn) 1 17 := ⟨by decide +kernel, rfl⟩
theorem dL_setting_0 : DD cL_setting 0 (.aload_n 2) 1 1 := ⟨by decide +kernel, rfl⟩
theorem dL_setting_1 : DD cL_setting 1 (.iconst 0) 1 2 := ⟨by decide +kernel, rfl⟩
theorem dL_setting_2 : DD cL_setting 2 (.aload_n 0) 1 3 := ⟨by decide +kernel, rfl⟩
theorem dL_setting_3 : DD cL_setting 3 (.iload_n 1) 1 4 := ⟨by decide +kernel, rfl⟩
theorem dL_setting_4 : DD cL_setting 4 (.invokevirtual 58) 3 7 := ⟨by decide +kernel, rfl⟩
theorem dL_setting_7 : DD cL_setting 7 (.i2l) 1 8 := ⟨by decide +kernel, rfl⟩
theorem dL_setting_8 : DD cL_setting 8 (.lastore) 1 9 := ⟨by decide +kernel, rfl⟩
theorem dL_setting_9 : DB cL_setting 9 (.goto) 6 3 12 15 := ⟨by decide +kernel, rfl, rfl⟩
theorem dL_setting_12 : DD cL_setting 12 (.astore_n 3) 1 13 := ⟨by decide +kernel, rfl⟩
theorem dL_setting_13 : DD cL_setting 13 (.iconst 1) 1 14 := ⟨by decide +kernel, rfl⟩
theorem dL_setting_14 : DD cL_setting 14 (.ireturn) 1 15 := ⟨by decide +kernel, rfl⟩
theorem dL_setting_15 : DD cL_setting 15 (.iconst 0) 1 16 := ⟨by decide +kernel, rfl⟩
theorem dL_setting_16 : DD cL_setting 16 (.ireturn) 1 17 := ⟨by decide +kernel, rfl⟩
theorem dL_force_0 : DD cL_force 0 (.aload 6) 2 2 := ⟨by decide +kernel, rfl⟩
theorem dL_force_2 : DD cL_force 2 (.iconst 0) 1 3 := ⟨by decide +kernel, rfl⟩
theorem dL_force_3 : DD cL_force 3 (.aload_n 0) 1 4 := ⟨by decide +kernel, rfl⟩
theorem dL_force_4 : DD cL_force 4 (.iload_n 1) 1 5 := ⟨by decide +kernel, rfl⟩
theorem dL_force_5 : DD cL_force 5 (.iload_n 2) 1 6 := ⟨by decide +kernel, rfl⟩
theorem dL_force_6 : DD cL_force 6 (.iload_n 3) 1 7 := ⟨by decide +kernel, rfl⟩
theorem dL_force_7 : DD cL_force 7 (.iload 4) 2 9 := ⟨by decide +kernel, rfl⟩
theorem dL_force_9 : DD cL_force 9 (.iload 5) 2 11 := ⟨by decide +kernel, rfl⟩
theorem dL_force_11 : DD cL_force 11 (.invokevirtual 61) 3 14 := ⟨by decide +kernel, rfl⟩
theorem dL_force_14 : DD cL_force 14 (.i2l) 1 15 := ⟨by decide +kernel, rfl⟩
theorem dL_force_15 : DD cL_force 15 (.lastore) 1 16 := ⟨by decide +kernel, rfl⟩
theorem dL_force_16 : DB cL_force 16 (.goto) 11 3 19 27 := ⟨by decide +kernel, rfl, rfl⟩
theorem dL_force_19 : DD cL_force 19 (.astore 7) 2 21 := ⟨by decide +kernel, rfl⟩
theorem dL_force_21 : DD cL_force 21 (.iconst 1) 1 22 := ⟨by decide +kernel, rfl⟩
theorem dL_force_22 : DD cL_force 22 (.ireturn) 1 23 := ⟨by decide +kernel, rfl⟩
theorem dL_force_23 : DD cL_force 23 (.astore 7) 2 25 := ⟨by decide +kernel, rfl⟩
theorem dL_force_25 : DD cL_force 25 (.iconst 2) 1 26 := ⟨by decide +kernel, rfl⟩
theorem dL_force_26 : DD cL_force 26 (.ireturn) 1 27 := ⟨by decide +kernel, rfl⟩
theorem dL_force_27 : DD cL_force 27 (.iconst 0) 1 28 := ⟨by decide +kernel, rfl⟩
theorem dL_force_28 : DD cL_force 28 (.ireturn) 1 29 := ⟨by decide +kernel, rfl⟩
theorem dL_threshold_0 : DD cL_threshold 0 (.aload 5) 2 2 := ⟨by decide +kernel, rfl⟩
theorem dL_threshold_2 : DD cL_threshold 2 (.iconst 0) 1 3 := ⟨by decide +kernel, rfl⟩
theorem dL_threshold_3 : DD cL_threshold 3 (.aload_n 0) 1 4 := ⟨by decide +kernel, rfl⟩
theorem dL_threshold_4 : DD cL_threshold 4 (.iload_n 1) 1 5 := ⟨by decide +kernel, rfl⟩
theorem dL_threshold_5 : DD cL_threshold 5 (.iload_n 2) 1 6 := ⟨by decide +kernel, rfl⟩
theorem dL_threshold_6 : DD cL_threshold 6 (.iload_n 3) 1 7 := ⟨by decide +kernel, rfl⟩
theorem dL_threshold_7 : DD cL_threshold 7 (.iload 4) 2 9 := ⟨by decide +kernel, rfl⟩
theorem dL_threshold_9 : DD cL_threshold 9 (.invokevirtual 65) 3 12 := ⟨by decide +kernel, rfl⟩
theorem dL_threshold_12 : DD cL_threshold 12 (.i2l) 1 13 := ⟨by decide +kernel, rfl⟩
theorem dL_threshold_13 : DD cL_threshold 13 (.lastore) 1 14 := ⟨by decide +kernel, rfl⟩
theorem dL_threshold_14 : DB cL_threshold 14 (.goto) 11 3 17 25 := ⟨by decide +kernel, rfl, rfl⟩
theorem dL_threshold_17 : DD cL_threshold 17 (.astore 6) 2 19 := ⟨by decide +kernel, rfl⟩
theorem dL_threshold_19 : DD cL_threshold 19 (.iconst 1) 1 20 := ⟨by decide +kernel, rfl⟩
theorem dL_threshold_20 : DD cL_threshold 20 (.ireturn) 1 21 := ⟨by decide +kernel, rfl⟩
theorem dL_threshold_21 : DD cL_threshold 21 (.astore 6) 2 23 := ⟨by decide +kernel, rfl⟩
theorem dL_threshold_23 : DD cL_threshold 23 (.iconst 2) 1 24 := ⟨by decide +kernel, rfl⟩
theorem dL_threshold_24 : DD cL_threshold 24 (.ireturn) 1 25 := ⟨by decide +kernel, rfl⟩
theorem dL_threshold_25 : DD cL_threshold 25 (.iconst 0) 1 26 := ⟨by decide +kernel, rfl⟩
theorem dL_threshold_26 : DD cL_threshold 26 (.ireturn) 1 27 := ⟨by decide +kernel, rfl⟩
theorem dL_advice_0 : DD cL_advice 0 (.aload_n 2) 1 1 := ⟨by decide +kernel, rfl⟩
theorem dL_advice_1 : DD cL_advice 1 (.iconst 0) 1 2 := ⟨by decide +kernel, rfl⟩
theorem dL_advice_2 : DD cL_advice 2 (.aload_n 0) 1 3 := ⟨by decide +kernel, rfl⟩
theorem dL_advice_3 : DD cL_advice 3 (.iload_n 1) 1 4 := ⟨by decide +kernel, rfl⟩
theorem dL_advice_4 : DD cL_advice 4 (.invokevirtual 69) 3 7 := ⟨by decide +kernel, rfl⟩
theorem dL_advice_7 : DD cL_advice 7 (.i2l) 1 8 := ⟨by decide +kernel, rfl⟩
theorem dL_advice_8 : DD cL_advice 8 (.lastore) 1 9 := ⟨by decide +kernel, rfl⟩
theorem dL_advice_9 : DB cL_advice 9 (.goto) 6 3 12 15 := ⟨by decide +kernel, rfl, rfl⟩
theorem dL_advice_12 : DD cL_advice 12 (.astore_n 3) 1 13 := ⟨by decide +kernel, rfl⟩
theorem dL_advice_13 : DD cL_advice 13 (.iconst 1) 1 14 := ⟨by decide +kernel, rfl⟩
theorem dL_advice_14 : DD cL_advice 14 (.ireturn) 1 15 := ⟨by decide +kernel, rfl⟩
theorem dL_advice_15 : DD cL_advice 15 (.iconst 0) 1 16 := ⟨by decide +kernel, rfl⟩
theorem dL_advice_16 : DD cL_advice 16 (.ireturn) 1 17 := ⟨by decide +kernel, rfl⟩
theorem dL_refuted_0 : DD cL_refuted 0 (.aload_n 3) 1 1 := ⟨by decide +kernel, rfl⟩
theorem dL_refuted_1 : DD cL_refuted 1 (.iconst 0) 1 2 := ⟨by decide +kernel, rfl⟩
theorem dL_refuted_2 : DD cL_refuted 2 (.aload_n 0) 1 3 := ⟨by decide +kernel, rfl⟩
theorem dL_refuted_3 : DD cL_refuted 3 (.iload_n 1) 1 4 := ⟨by decide +kernel, rfl⟩
theorem dL_refuted_4 : DD cL_refuted 4 (.iload_n 2) 1 5 := ⟨by decide +kernel, rfl⟩
theorem dL_refuted_5 : DD cL_refuted 5 (.invokevirtual 72) 3 8 := ⟨by decide +kernel, rfl⟩
theorem dL_refuted_8 : DD cL_refuted 8 (.i2l) 1 9 := ⟨by decide +kernel, rfl⟩
theorem dL_refuted_9 : DD cL_refuted 9 (.lastore) 1 10 := ⟨by decide +kernel, rfl⟩
theorem dL_refuted_10 : DB cL_refuted 10 (.goto) 11 3 13 21 := ⟨by decide +kernel, rfl, rfl⟩
theorem dL_refuted_13 : DD cL_refuted 13 (.astore 4) 2 15 := ⟨by decide +kernel, rfl⟩
theorem dL_refuted_15 : DD cL_refuted 15 (.iconst 1) 1 16 := ⟨by decide +kernel, rfl⟩
theorem dL_refuted_16 : DD cL_refuted 16 (.ireturn) 1 17 := ⟨by decide +kernel, rfl⟩
theorem dL_refuted_17 : DD cL_refuted 17 (.astore 4) 2 19 := ⟨by decide +kernel, rfl⟩
theorem dL_refuted_19 : DD cL_refuted 19 (.iconst 2) 1 20 := ⟨by decide +kernel, rfl⟩
theorem dL_refuted_20 : DD cL_refuted 20 (.ireturn) 1 21 := ⟨by decide +kernel, rfl⟩
theorem dL_refuted_21 : DD cL_refuted 21 (.iconst 0) 1 22 := ⟨by decide +kernel, rfl⟩
theorem dL_refuted_22 : DD cL_refuted 22 (.ireturn) 1 23 := ⟨by decide +kernel, rfl⟩
theorem dL_bestMove_0 : DD cL_bestMove 0 (.aload_n 3) 1 1 := ⟨by decide +kernel, rfl⟩
theorem dL_bestMove_1 : DD cL_bestMove 1 (.iconst 0) 1 2 := ⟨by decide +kernel, rfl⟩
theorem dL_bestMove_2 : DD cL_bestMove 2 (.aload_n 0) 1 3 := ⟨by decide +kernel, rfl⟩
theorem dL_bestMove_3 : DD cL_bestMove 3 (.iload_n 1) 1 4 := ⟨by decide +kernel, rfl⟩
theorem dL_bestMove_4 : DD cL_bestMove 4 (.iload_n 2) 1 5 := ⟨by decide +kernel, rfl⟩
theorem dL_bestMove_5 : DD cL_bestMove 5 (.invokevirtual 75) 3 8 := ⟨by decide +kernel, rfl⟩
theorem dL_bestMove_8 : DD cL_bestMove 8 (.i2l) 1 9 := ⟨by decide +kernel, rfl⟩
theorem dL_bestMove_9 : DD cL_bestMove 9 (.lastore) 1 10 := ⟨by decide +kernel, rfl⟩
theorem dL_bestMove_10 : DB cL_bestMove 10 (.goto) 11 3 13 21 := ⟨by decide +kernel, rfl, rfl⟩
theorem dL_bestMove_13 : DD cL_bestMove 13 (.astore 4) 2 15 := ⟨by decide +kernel, rfl⟩
theorem dL_bestMove_15 : DD cL_bestMove 15 (.iconst 1) 1 16 := ⟨by decide +kernel, rfl⟩
theorem dL_bestMove_16 : DD cL_bestMove 16 (.ireturn) 1 17 := ⟨by decide +kernel, rfl⟩
theorem dL_bestMove_17 : DD cL_bestMove 17 (.astore 4) 2 19 := ⟨by decide +kernel, rfl⟩
theorem dL_bestMove_19 : DD cL_bestMove 19 (.iconst 2) 1 20 := ⟨by decide +kernel, rfl⟩
theorem dL_bestMove_20 : DD cL_bestMove 20 (.ireturn) 1 21 := ⟨by decide +kernel, rfl⟩
theorem dL_bestMove_21 : DD cL_bestMove 21 (.iconst 0) 1 22 := ⟨by decide +kernel, rfl⟩
theorem dL_bestMove_22 : DD cL_bestMove 22 (.ireturn) 1 23 := ⟨by decide +kernel, rfl⟩
theorem dL_winIn_0 : DD cL_winIn 0 (.aload_n 2) 1 1 := ⟨by decide +kernel, rfl⟩
theorem dL_winIn_1 : DD cL_winIn 1 (.iconst 0) 1 2 := ⟨by decide +kernel, rfl⟩
theorem dL_winIn_2 : DD cL_winIn 2 (.aload_n 0) 1 3 := ⟨by decide +kernel, rfl⟩
theorem dL_winIn_3 : DD cL_winIn 3 (.iload_n 1) 1 4 := ⟨by decide +kernel, rfl⟩
theorem dL_winIn_4 : DD cL_winIn 4 (.invokevirtual 78) 3 7 := ⟨by decide +kernel, rfl⟩
theorem dL_winIn_7 : DD cL_winIn 7 (.i2l) 1 8 := ⟨by decide +kernel, rfl⟩
theorem dL_winIn_8 : DD cL_winIn 8 (.lastore) 1 9 := ⟨by decide +kernel, rfl⟩
theorem dL_winIn_9 : DB cL_winIn 9 (.goto) 6 3 12 15 := ⟨by decide +kernel, rfl, rfl⟩
theorem dL_winIn_12 : DD cL_winIn 12 (.astore_n 3) 1 13 := ⟨by decide +kernel, rfl⟩
theorem dL_winIn_13 : DD cL_winIn 13 (.iconst 1) 1 14 := ⟨by decide +kernel, rfl⟩
theorem dL_winIn_14 : DD cL_winIn 14 (.ireturn) 1 15 := ⟨by decide +kernel, rfl⟩
theorem dL_winIn_15 : DD cL_winIn 15 (.iconst 0) 1 16 := ⟨by decide +kernel, rfl⟩
theorem dL_winIn_16 : DD cL_winIn 16 (.ireturn) 1 17 := ⟨by decide +kernel, rfl⟩
theorem dL_law_0 : DD cL_law 0 (.new 8) 3 3 := ⟨by decide +kernel, rfl⟩
theorem dL_law_3 : DD cL_law 3 (.dup) 1 4 := ⟨by decide +kernel, rfl⟩
theorem dL_law_4 : DD cL_law 4 (.invokespecial 81) 3 7 := ⟨by decide +kernel, rfl⟩
theorem dL_law_7 : DD cL_law 7 (.astore_n 1) 1 8 := ⟨by decide +kernel, rfl⟩
theorem dL_law_8 : DD cL_law 8 (.new 82) 3 11 := ⟨by decide +kernel, rfl⟩
theorem dL_law_11 : DD cL_law 11 (.dup) 1 12 := ⟨by decide +kernel, rfl⟩
theorem dL_law_12 : DD cL_law 12 (.invokespecial 84) 3 15 := ⟨by decide +kernel, rfl⟩
theorem dL_law_15 : DD cL_law 15 (.astore_n 2) 1 16 := ⟨by decide +kernel, rfl⟩
theorem dL_law_16 : DD cL_law 16 (.iconst 1) 1 17 := ⟨by decide +kernel, rfl⟩
theorem dL_law_17 : DD cL_law 17 (.newarray .long) 2 19 := ⟨by decide +kernel, rfl⟩
theorem dL_law_19 : DD cL_law 19 (.astore_n 3) 1 20 := ⟨by decide +kernel, rfl⟩
theorem dL_law_20 : DD cL_law 20 (.iconst 0) 1 21 := ⟨by decide +kernel, rfl⟩
theorem dL_law_21 : DD cL_law 21 (.istore 4) 2 23 := ⟨by decide +kernel, rfl⟩
theorem dL_law_23 : DD cL_law 23 (.iload 4) 2 25 := ⟨by decide +kernel, rfl⟩
theorem dL_law_25 : DD cL_law 25 (.aload_n 0) 1 26 := ⟨by decide +kernel, rfl⟩
theorem dL_law_26 : DD cL_law 26 (.arraylength) 1 27 := ⟨by decide +kernel, rfl⟩
theorem dL_law_27 : DD cL_law 27 (.bipush 6) 2 29 := ⟨by decide +kernel, rfl⟩
theorem dL_law_29 : DD cL_law 29 (.isub) 1 30 := ⟨by decide +kernel, rfl⟩
theorem dL_law_30 : DB cL_law 30 (.if_icmp .gt) 1584 3 33 1614 := ⟨by decide +kernel, rfl, rfl⟩
theorem dL_law_33 : DD cL_law 33 (.aload_n 0) 1 34 := ⟨by decide +kernel, rfl⟩
theorem dL_law_34 : DD cL_law 34 (.iload 4) 2 36 := ⟨by decide +kernel, rfl⟩
theorem dL_law_36 : DD cL_law 36 (.iaload) 1 37 := ⟨by decide +kernel, rfl⟩
theorem dL_law_37 : DD cL_law 37 (.bipush 31) 2 39 := ⟨by decide +kernel, rfl⟩
theorem dL_law_39 : DD cL_law 39 (.iand) 1 40 := ⟨by decide +kernel, rfl⟩
theorem dL_law_40 : decode cL_law 40 = .ok (.tableswitch 1568 0 26 #[124, 192, 248, 316, 329, 397, 477, 514, 539, 595, 608, 621, 665, 721, 777, 821, 889, 957, 1013, 1069, 1173, 1265, 1321, 1389, 1457, 1513, 1554], 124) := by decide +kernel
theorem dL_law_164 : DD cL_law 164 (.aload_n 1) 1 165 := ⟨by decide +kernel, rfl⟩
theorem dL_law_165 : DD cL_law 165 (.aload_n 0) 1 166 := ⟨by decide +kernel, rfl⟩
theorem dL_law_166 : DD cL_law 166 (.iload 4) 2 168 := ⟨by decide +kernel, rfl⟩
theorem dL_law_168 : DD cL_law 168 (.iconst 1) 1 169 := ⟨by decide +kernel, rfl⟩
theorem dL_law_169 : DD cL_law 169 (.iadd) 1 170 := ⟨by decide +kernel, rfl⟩
theorem dL_law_170 : DD cL_law 170 (.iaload) 1 171 := ⟨by decide +kernel, rfl⟩
theorem dL_law_171 : DD cL_law 171 (.aload_n 0) 1 172 := ⟨by decide +kernel, rfl⟩
theorem dL_law_172 : DD cL_law 172 (.iload 4) 2 174 := ⟨by decide +kernel, rfl⟩
theorem dL_law_174 : DD cL_law 174 (.iconst 2) 1 175 := ⟨by decide +kernel, rfl⟩
theorem dL_law_175 : DD cL_law 175 (.iadd) 1 176 := ⟨by decide +kernel, rfl⟩
theorem dL_law_176 : DD cL_law 176 (.iaload) 1 177 := ⟨by decide +kernel, rfl⟩
theorem dL_law_177 : DD cL_law 177 (.aload_n 3) 1 178 := ⟨by decide +kernel, rfl⟩
theorem dL_law_178 : DD cL_law 178 (.invokestatic 85) 3 181 := ⟨by decide +kernel, rfl⟩
theorem dL_law_181 : DD cL_law 181 (.istore 5) 2 183 := ⟨by decide +kernel, rfl⟩
theorem dL_law_183 : DD cL_law 183 (.aload_n 2) 1 184 := ⟨by decide +kernel, rfl⟩
theorem dL_law_184 : DD cL_law 184 (.aload_n 0) 1 185 := ⟨by decide +kernel, rfl⟩
theorem dL_law_185 : DD cL_law 185 (.iload 4) 2 187 := ⟨by decide +kernel, rfl⟩
theorem dL_law_187 : DD cL_law 187 (.iconst 1) 1 188 := ⟨by decide +kernel, rfl⟩
theorem dL_law_188 : DD cL_law 188 (.iadd) 1 189 := ⟨by decide +kernel, rfl⟩
theorem dL_law_189 : DD cL_law 189 (.iaload) 1 190 := ⟨by decide +kernel, rfl⟩
theorem dL_law_190 : DD cL_law 190 (.aload_n 0) 1 191 := ⟨by decide +kernel, rfl⟩
theorem dL_law_191 : DD cL_law 191 (.iload 4) 2 193 := ⟨by decide +kernel, rfl⟩
theorem dL_law_193 : DD cL_law 193 (.iconst 2) 1 194 := ⟨by decide +kernel, rfl⟩
theorem dL_law_194 : DD cL_law 194 (.iadd) 1 195 := ⟨by decide +kernel, rfl⟩
theorem dL_law_195 : DD cL_law 195 (.iaload) 1 196 := ⟨by decide +kernel, rfl⟩
theorem dL_law_196 : DD cL_law 196 (.invokevirtual 90) 3 199 := ⟨by decide +kernel, rfl⟩
theorem dL_law_199 : DD cL_law 199 (.istore 6) 2 201 := ⟨by decide +kernel, rfl⟩
theorem dL_law_201 : DD cL_law 201 (.aload_n 2) 1 202 := ⟨by decide +kernel, rfl⟩
theorem dL_law_202 : DD cL_law 202 (.invokevirtual 91) 3 205 := ⟨by decide +kernel, rfl⟩
theorem dL_law_205 : DD cL_law 205 (.iload 5) 2 207 := ⟨by decide +kernel, rfl⟩
theorem dL_law_207 : DB cL_law 207 (.if_icmp .eq) 5 3 210 212 := ⟨by decide +kernel, rfl, rfl⟩
theorem dL_law_210 : DD cL_law 210 (.iconst 0) 1 211 := ⟨by decide +kernel, rfl⟩
theorem dL_law_211 : DD cL_law 211 (.ireturn) 1 212 := ⟨by decide +kernel, rfl⟩
theorem dL_law_212 : DD cL_law 212 (.iload 5) 2 214 := ⟨by decide +kernel, rfl⟩
theorem dL_law_214 : DB cL_law 214 (.ifCond .ne) 15 3 217 229 := ⟨by decide +kernel, rfl, rfl⟩
theorem dL_law_217 : DD cL_law 217 (.aload_n 3) 1 218 := ⟨by decide +kernel, rfl⟩
theorem dL_law_218 : DD cL_law 218 (.iconst 0) 1 219 := ⟨by decide +kernel, rfl⟩
theorem dL_law_219 : DD cL_law 219 (.laload) 1 220 := ⟨by decide +kernel, rfl⟩
theorem dL_law_220 : DD cL_law 220 (.iload 6) 2 222 := ⟨by decide +kernel, rfl⟩
theorem dL_law_222 : DD cL_law 222 (.i2l) 1 223 := ⟨by decide +kernel, rfl⟩
theorem dL_law_223 : DD cL_law 223 (.lcmp) 1 224 := ⟨by decide +kernel, rfl⟩
theorem dL_law_224 : DB cL_law 224 (.ifCond .eq) 5 3 227 229 := ⟨by decide +kernel, rfl, rfl⟩
theorem dL_law_227 : DD cL_law 227 (.iconst 0) 1 228 := ⟨by decide +kernel, rfl⟩
theorem dL_law_228 : DD cL_law 228 (.ireturn) 1 229 := ⟨by decide +kernel, rfl⟩
theorem dL_law_229 : DB cL_law 229 (.goto) 1379 3 232 1608 := ⟨by decide +kernel, rfl, rfl⟩
theorem dL_law_232 : DD cL_law 232 (.aload_n 1) 1 233 := ⟨by decide +kernel, rfl⟩
theorem dL_law_233 : DD cL_law 233 (.aload_n 0) 1 234 := ⟨by decide +kernel, rfl⟩
theorem dL_law_234 : DD cL_law 234 (.iload 4) 2 236 := ⟨by decide +kernel, rfl⟩
theorem dL_law_236 : DD cL_law 236 (.iconst 1) 1 237 := ⟨by decide +kernel, rfl⟩
theorem dL_law_237 : DD cL_law 237 (.iadd) 1 238 := ⟨by decide +kernel, rfl⟩
theorem dL_law_238 : DD cL_law 238 (.iaload) 1 239 := ⟨by decide +kernel, rfl⟩
theorem dL_law_239 : DD cL_law 239 (.aload_n 3) 1 240 := ⟨by decide +kernel, rfl⟩
theorem dL_law_240 : DD cL_law 240 (.invokestatic 94) 3 243 := ⟨by decide +kernel, rfl⟩
theorem dL_law_243 : DD cL_law 243 (.istore 5) 2 245 := ⟨by decide +kernel, rfl⟩
theorem dL_law_245 : DD cL_law 245 (.aload_n 2) 1 246 := ⟨by decide +kernel, rfl⟩
theorem dL_law_246 : DD cL_law 246 (.aload_n 0) 1 247 := ⟨by decide +kernel, rfl⟩
theorem dL_law_247 : DD cL_law 247 (.iload 4) 2 249 := ⟨by decide +kernel, rfl⟩
theorem dL_law_249 : DD cL_law 249 (.iconst 1) 1 250 := ⟨by decide +kernel, rfl⟩
theorem dL_law_250 : DD cL_law 250 (.iadd) 1 251 := ⟨by decide +kernel, rfl⟩
theorem dL_law_251 : DD cL_law 251 (.iaload) 1 252 := ⟨by decide +kernel, rfl⟩
theorem dL_law_252 : DD cL_law 252 (.invokevirtual 97) 3 255 := ⟨by decide +kernel, rfl⟩
theorem dL_law_255 : DD cL_law 255 (.istore 6) 2 257 := ⟨by decide +kernel, rfl⟩
theorem dL_law_257 : DD cL_law 257 (.aload_n 2) 1 258 := ⟨by decide +kernel, rfl⟩
theorem dL_law_258 : DD cL_law 258 (.invokevirtual 91) 3 261 := ⟨by decide +kernel, rfl⟩
theorem dL_law_261 : DD cL_law 261 (.iload 5) 2 263 := ⟨by decide +kernel, rfl⟩
theorem dL_law_263 : DB cL_law 263 (.if_icmp .eq) 5 3 266 268 := ⟨by decide +kernel, rfl, rfl⟩
theorem dL_law_266 : DD cL_law 266 (.iconst 0) 1 267 := ⟨by decide +kernel, rfl⟩
theorem dL_law_267 : DD cL_law 267 (.ireturn) 1 268 := ⟨by decide +kernel, rfl⟩
theorem dL_law_268 : DD cL_law 268 (.iload 5) 2 270 := ⟨by decide +kernel, rfl⟩
theorem dL_law_270 : DB cL_law 270 (.ifCond .ne) 15 3 273 285 := ⟨by decide +kernel, rfl, rfl⟩
theorem dL_law_273 : DD cL_law 273 (.aload_n 3) 1 274 := ⟨by decide +kernel, rfl⟩
theorem dL_law_274 : DD cL_law 274 (.iconst 0) 1 275 := ⟨by decide +kernel, rfl⟩
theorem dL_law_275 : DD cL_law 275 (.laload) 1 276 := ⟨by decide +kernel, rfl⟩
theorem dL_law_276 : DD cL_law 276 (.iload 6) 2 278 := ⟨by decide +kernel, rfl⟩
theorem dL_law_278 : DD cL_law 278 (.i2l) 1 279 := ⟨by decide +kernel, rfl⟩
theorem dL_law_279 : DD cL_law 279 (.lcmp) 1 280 := ⟨by decide +kernel, rfl⟩
theorem dL_law_280 : DB cL_law 280 (.ifCond .eq) 5 3 283 285 := ⟨by decide +kernel, rfl, rfl⟩
theorem dL_law_283 : DD cL_law 283 (.iconst 0) 1 284 := ⟨by decide +kernel, rfl⟩
theorem dL_law_284 : DD cL_law 284 (.ireturn) 1 285 := ⟨by decide +kernel, rfl⟩
theorem dL_law_285 : DB cL_law 285 (.goto) 1323 3 288 1608 := ⟨by decide +kernel, rfl, rfl⟩
theorem dL_law_288 : DD cL_law 288 (.aload_n 1) 1 289 := ⟨by decide +kernel, rfl⟩
theorem dL_law_289 : DD cL_law 289 (.aload_n 0) 1 290 := ⟨by decide +kernel, rfl⟩
theorem dL_law_290 : DD cL_law 290 (.iload 4) 2 292 := ⟨by decide +kernel, rfl⟩
theorem dL_law_292 : DD cL_law 292 (.iconst 1) 1 293 := ⟨by decide +kernel, rfl⟩
theorem dL_law_293 : DD cL_law 293 (.iadd) 1 294 := ⟨by decide +kernel, rfl⟩
theorem dL_law_294 : DD cL_law 294 (.iaload) 1 295 := ⟨by decide +kernel, rfl⟩
theorem dL_law_295 : DD cL_law 295 (.aload_n 0) 1 296 := ⟨by decide +kernel, rfl⟩
theorem dL_law_296 : DD cL_law 296 (.iload 4) 2 298 := ⟨by decide +kernel, rfl⟩
theorem dL_law_298 : DD cL_law 298 (.iconst 2) 1 299 := ⟨by decide +kernel, rfl⟩
theorem dL_law_299 : DD cL_law 299 (.iadd) 1 300 := ⟨by decide +kernel, rfl⟩
theorem dL_law_300 : DD cL_law 300 (.iaload) 1 301 := ⟨by decide +kernel, rfl⟩
theorem dL_law_301 : DD cL_law 301 (.aload_n 3) 1 302 := ⟨by decide +kernel, rfl⟩
theorem dL_law_302 : DD cL_law 302 (.invokestatic 98) 3 305 := ⟨by decide +kernel, rfl⟩
theorem dL_law_305 : DD cL_law 305 (.istore 5) 2 307 := ⟨by decide +kernel, rfl⟩
theorem dL_law_307 : DD cL_law 307 (.aload_n 2) 1 308 := ⟨by decide +kernel, rfl⟩
theorem dL_law_308 : DD cL_law 308 (.aload_n 0) 1 309 := ⟨by decide +kernel, rfl⟩
theorem dL_law_309 : DD cL_law 309 (.iload 4) 2 311 := ⟨by decide +kernel, rfl⟩
theorem dL_law_311 : DD cL_law 311 (.iconst 1) 1 312 := ⟨by decide +kernel, rfl⟩
theorem dL_law_312 : DD cL_law 312 (.iadd) 1 313 := ⟨by decide +kernel, rfl⟩
theorem dL_law_313 : DD cL_law 313 (.iaload) 1 314 := ⟨by decide +kernel, rfl⟩
theorem dL_law_314 : DD cL_law 314 (.aload_n 0) 1 315 := ⟨by decide +kernel, rfl⟩
theorem dL_law_315 : DD cL_law 315 (.iload 4) 2 317 := ⟨by decide +kernel, rfl⟩
theorem dL_law_317 : DD cL_law 317 (.iconst 2) 1 318 := ⟨by decide +kernel, rfl⟩
theorem dL_law_318 : DD cL_law 318 (.iadd) 1 319 := ⟨by decide +kernel, rfl⟩
theorem dL_law_319 : DD cL_law 319 (.iaload) 1 320 := ⟨by decide +kernel, rfl⟩
theorem dL_law_320 : DD cL_law 320 (.invokevirtual 100) 3 323 := ⟨by decide +kernel, rfl⟩
theorem dL_law_323 : DD cL_law 323 (.istore 6) 2 325 := ⟨by decide +kernel, rfl⟩
theorem dL_law_325 : DD cL_law 325 (.aload_n 2) 1 326 := ⟨by decide +kernel, rfl⟩
theorem dL_law_326 : DD cL_law 326 (.invokevirtual 91) 3 329 := ⟨by decide +kernel, rfl⟩
theorem dL_law_329 : DD cL_law 329 (.iload 5) 2 331 := ⟨by decide +kernel, rfl⟩
theorem dL_law_331 : DB cL_law 331 (.if_icmp .eq) 5 3 334 336 := ⟨by decide +kernel, rfl, rfl⟩
theorem dL_law_334 : DD cL_law 334 (.iconst 0) 1 335 := ⟨by decide +kernel, rfl⟩
theorem dL_law_335 : DD cL_law 335 (.ireturn) 1 336 := ⟨by decide +kernel, rfl⟩
theorem dL_law_336 : DD cL_law 336 (.iload 5) 2 338 := ⟨by decide +kernel, rfl⟩
theorem dL_law_338 : DB cL_law 338 (.ifCond .ne) 15 3 341 353 := ⟨by decide +kernel, rfl, rfl⟩
theorem dL_law_341 : DD cL_law 341 (.aload_n 3) 1 342 := ⟨by decide +kernel, rfl⟩
theorem dL_law_342 : DD cL_law 342 (.iconst 0) 1 343 := ⟨by decide +kernel, rfl⟩
theorem dL_law_343 : DD cL_law 343 (.laload) 1 344 := ⟨by decide +kernel, rfl⟩
theorem dL_law_344 : DD cL_law 344 (.iload 6) 2 346 := ⟨by decide +kernel, rfl⟩
theorem dL_law_346 : DD cL_law 346 (.i2l) 1 347 := ⟨by decide +kernel, rfl⟩
theorem dL_law_347 : DD cL_law 347 (.lcmp) 1 348 := ⟨by decide +kernel, rfl⟩
theorem dL_law_348 : DB cL_law 348 (.ifCond .eq) 5 3 351 353 := ⟨by decide +kernel, rfl, rfl⟩
theorem dL_law_351 : DD cL_law 351 (.iconst 0) 1 352 := ⟨by decide +kernel, rfl⟩
theorem dL_law_352 : DD cL_law 352 (.ireturn) 1 353 := ⟨by decide +kernel, rfl⟩
theorem dL_law_353 : DB cL_law 353 (.goto) 1255 3 356 1608 := ⟨by decide +kernel, rfl, rfl⟩
theorem dL_law_356 : DD cL_law 356 (.aload_n 1) 1 357 := ⟨by decide +kernel, rfl⟩
theorem dL_law_357 : DD cL_law 357 (.invokevirtual 101) 3 360 := ⟨by decide +kernel, rfl⟩
theorem dL_law_360 : DD cL_law 360 (.aload_n 2) 1 361 := ⟨by decide +kernel, rfl⟩
theorem dL_law_361 : DD cL_law 361 (.invokevirtual 104) 3 364 := ⟨by decide +kernel, rfl⟩
theorem dL_law_364 : DB cL_law 364 (.if_icmp .eq) 1244 3 367 1608 := ⟨by decide +kernel, rfl, rfl⟩
theorem dL_law_367 : DD cL_law 367 (.iconst 0) 1 368 := ⟨by decide +kernel, rfl⟩
theorem dL_law_368 : DD cL_law 368 (.ireturn) 1 369 := ⟨by decide +kernel, rfl⟩
theorem dL_law_369 : DD cL_law 369 (.aload_n 1) 1 370 := ⟨by decide +kernel, rfl⟩
theorem dL_law_370 : DD cL_law 370 (.aload_n 0) 1 371 := ⟨by decide +kernel, rfl⟩
theorem dL_law_371 : DD cL_law 371 (.iload 4) 2 373 := ⟨by decide +kernel, rfl⟩
theorem dL_law_373 : DD cL_law 373 (.iconst 1) 1 374 := ⟨by decide +kernel, rfl⟩
theorem dL_law_374 : DD cL_law 374 (.iadd) 1 375 := ⟨by decide +kernel, rfl⟩
theorem dL_law_375 : DD cL_law 375 (.iaload) 1 376 := ⟨by decide +kernel, rfl⟩
theorem dL_law_376 : DD cL_law 376 (.aload_n 0) 1 377 := ⟨by decide +kernel, rfl⟩
theorem dL_law_377 : DD cL_law 377 (.iload 4) 2 379 := ⟨by decide +kernel, rfl⟩
theorem dL_law_379 : DD cL_law 379 (.iconst 2) 1 380 := ⟨by decide +kernel, rfl⟩
theorem dL_law_380 : DD cL_law 380 (.iadd) 1 381 := ⟨by decide +kernel, rfl⟩
theorem dL_law_381 : DD cL_law 381 (.iaload) 1 382 := ⟨by decide +kernel, rfl⟩
theorem dL_law_382 : DD cL_law 382 (.aload_n 3) 1 383 := ⟨by decide +kernel, rfl⟩
theorem dL_law_383 : DD cL_law 383 (.invokestatic 105) 3 386 := ⟨by decide +kernel, rfl⟩
theorem dL_law_386 : DD cL_law 386 (.istore 5) 2 388 := ⟨by decide +kernel, rfl⟩
theorem dL_law_388 : DD cL_law 388 (.aload_n 2) 1 389 := ⟨by decide +kernel, rfl⟩
theorem dL_law_389 : DD cL_law 389 (.aload_n 0) 1 390 := ⟨by decide +kernel, rfl⟩
theorem dL_law_390 : DD cL_law 390 (.iload 4) 2 392 := ⟨by decide +kernel, rfl⟩
theorem dL_law_392 : DD cL_law 392 (.iconst 1) 1 393 := ⟨by decide +kernel, rfl⟩
theorem dL_law_393 : DD cL_law 393 (.iadd) 1 394 := ⟨by decide +kernel, rfl⟩
theorem dL_law_394 : DD cL_law 394 (.iaload) 1 395 := ⟨by decide +kernel, rfl⟩
theorem dL_law_395 : DD cL_law 395 (.aload_n 0) 1 396 := ⟨by decide +kernel, rfl⟩
theorem dL_law_396 : DD cL_law 396 (.iload 4) 2 398 := ⟨by decide +kernel, rfl⟩
theorem dL_law_398 : DD cL_law 398 (.iconst 2) 1 399 := ⟨by decide +kernel, rfl⟩
theorem dL_law_399 : DD cL_law 399 (.iadd) 1 400 := ⟨by decide +kernel, rfl⟩
theorem dL_law_400 : DD cL_law 400 (.iaload) 1 401 := ⟨by decide +kernel, rfl⟩
theorem dL_law_401 : DD cL_law 401 (.invokevirtual 107) 3 404 := ⟨by decide +kernel, rfl⟩
theorem dL_law_404 : DD cL_law 404 (.istore 6) 2 406 := ⟨by decide +kernel, rfl⟩
theorem dL_law_406 : DD cL_law 406 (.aload_n 2) 1 407 := ⟨by decide +kernel, rfl⟩
theorem dL_law_407 : DD cL_law 407 (.invokevirtual 91) 3 410 := ⟨by decide +kernel, rfl⟩
theorem dL_law_410 : DD cL_law 410 (.iload 5) 2 412 := ⟨by decide +kernel, rfl⟩
theorem dL_law_412 : DB cL_law 412 (.if_icmp .eq) 5 3 415 417 := ⟨by decide +kernel, rfl, rfl⟩
theorem dL_law_415 : DD cL_law 415 (.iconst 0) 1 416 := ⟨by decide +kernel, rfl⟩
theorem dL_law_416 : DD cL_law 416 (.ireturn) 1 417 := ⟨by decide +kernel, rfl⟩
theorem dL_law_417 : DD cL_law 417 (.iload 5) 2 419 := ⟨by decide +kernel, rfl⟩
theorem dL_law_419 : DB cL_law 419 (.ifCond .ne) 15 3 422 434 := ⟨by decide +kernel, rfl, rfl⟩
theorem dL_law_422 : DD cL_law 422 (.aload_n 3) 1 423 := ⟨by decide +kernel, rfl⟩
theorem dL_law_423 : DD cL_law 423 (.iconst 0) 1 424 := ⟨by decide +kernel, rfl⟩
theorem dL_law_424 : DD cL_law 424 (.laload) 1 425 := ⟨by decide +kernel, rfl⟩
theorem dL_law_425 : DD cL_law 425 (.iload 6) 2 427 := ⟨by decide +kernel, rfl⟩
theorem dL_law_427 : DD cL_law 427 (.i2l) 1 428 := ⟨by decide +kernel, rfl⟩
theorem dL_law_428 : DD cL_law 428 (.lcmp) 1 429 := ⟨by decide +kernel, rfl⟩
theorem dL_law_429 : DB cL_law 429 (.ifCond .eq) 5 3 432 434 := ⟨by decide +kernel, rfl, rfl⟩
theorem dL_law_432 : DD cL_law 432 (.iconst 0) 1 433 := ⟨by decide +kernel, rfl⟩
theorem dL_law_433 : DD cL_law 433 (.ireturn) 1 434 := ⟨by decide +kernel, rfl⟩
theorem dL_law_434 : DB cL_law 434 (.goto) 1174 3 437 1608 := ⟨by decide +kernel, rfl, rfl⟩
theorem dL_law_437 : DD cL_law 437 (.aload_n 1) 1 438 := ⟨by decide +kernel, rfl⟩
theorem dL_law_438 : DD cL_law 438 (.aload_n 0) 1 439 := ⟨by decide +kernel, rfl⟩
theorem dL_law_439 : DD cL_law 439 (.iload 4) 2 441 := ⟨by decide +kernel, rfl⟩
theorem dL_law_441 : DD cL_law 441 (.iconst 1) 1 442 := ⟨by decide +kernel, rfl⟩
theorem dL_law_442 : DD cL_law 442 (.iadd) 1 443 := ⟨by decide +kernel, rfl⟩
theorem dL_law_443 : DD cL_law 443 (.iaload) 1 444 := ⟨by decide +kernel, rfl⟩
theorem dL_law_444 : DD cL_law 444 (.aload_n 0) 1 445 := ⟨by decide +kernel, rfl⟩
theorem dL_law_445 : DD cL_law 445 (.iload 4) 2 447 := ⟨by decide +kernel, rfl⟩
theorem dL_law_447 : DD cL_law 447 (.iconst 2) 1 448 := ⟨by decide +kernel, rfl⟩
theorem dL_law_448 : DD cL_law 448 (.iadd) 1 449 := ⟨by decide +kernel, rfl⟩
theorem dL_law_449 : DD cL_law 449 (.iaload) 1 450 := ⟨by decide +kernel, rfl⟩
theorem dL_law_450 : DD cL_law 450 (.aload_n 0) 1 451 := ⟨by decide +kernel, rfl⟩
theorem dL_law_451 : DD cL_law 451 (.iload 4) 2 453 := ⟨by decide +kernel, rfl⟩
theorem dL_law_453 : DD cL_law 453 (.iconst 3) 1 454 := ⟨by decide +kernel, rfl⟩
theorem dL_law_454 : DD cL_law 454 (.iadd) 1 455 := ⟨by decide +kernel, rfl⟩
theorem dL_law_455 : DD cL_law 455 (.iaload) 1 456 := ⟨by decide +kernel, rfl⟩
theorem dL_law_456 : DD cL_law 456 (.aload_n 3) 1 457 := ⟨by decide +kernel, rfl⟩
theorem dL_law_457 : DD cL_law 457 (.invokestatic 108) 3 460 := ⟨by decide +kernel, rfl⟩
theorem dL_law_460 : DD cL_law 460 (.istore 5) 2 462 := ⟨by decide +kernel, rfl⟩
theorem dL_law_462 : DD cL_law 462 (.aload_n 2) 1 463 := ⟨by decide +kernel, rfl⟩
theorem dL_law_463 : DD cL_law 463 (.aload_n 0) 1 464 := ⟨by decide +kernel, rfl⟩
theorem dL_law_464 : DD cL_law 464 (.iload 4) 2 466 := ⟨by decide +kernel, rfl⟩
theorem dL_law_466 : DD cL_law 466 (.iconst 1) 1 467 := ⟨by decide +kernel, rfl⟩
theorem dL_law_467 : DD cL_law 467 (.iadd) 1 468 := ⟨by decide +kernel, rfl⟩
theorem dL_law_468 : DD cL_law 468 (.iaload) 1 469 := ⟨by decide +kernel, rfl⟩
theorem dL_law_469 : DD cL_law 469 (.aload_n 0) 1 470 := ⟨by decide +kernel, rfl⟩
theorem dL_law_470 : DD cL_law 470 (.iload 4) 2 472 := ⟨by decide +kernel, rfl⟩
theorem dL_law_472 : DD cL_law 472 (.iconst 2) 1 473 := ⟨by decide +kernel, rfl⟩
theorem dL_law_473 : DD cL_law 473 (.iadd) 1 474 := ⟨by decide +kernel, rfl⟩
theorem dL_law_474 : DD cL_law 474 (.iaload) 1 475 := ⟨by decide +kernel, rfl⟩
theorem dL_law_475 : DD cL_law 475 (.aload_n 0) 1 476 := ⟨by decide +kernel, rfl⟩
theorem dL_law_476 : DD cL_law 476 (.iload 4) 2 478 := ⟨by decide +kernel, rfl⟩
theorem dL_law_478 : DD cL_law 478 (.iconst 3) 1 479 := ⟨by decide +kernel, rfl⟩
theorem dL_law_479 : DD cL_law 479 (.iadd) 1 480 := ⟨by decide +kernel, rfl⟩
theorem dL_law_480 : DD cL_law 480 (.iaload) 1 481 := ⟨by decide +kernel, rfl⟩
theorem dL_law_481 : DD cL_law 481 (.invokevirtual 111) 3 484 := ⟨by decide +kernel, rfl⟩
theorem dL_law_484 : DD cL_law 484 (.istore 6) 2 486 := ⟨by decide +kernel, rfl⟩
theorem dL_law_486 : DD cL_law 486 (.aload_n 2) 1 487 := ⟨by decide +kernel, rfl⟩
theorem dL_law_487 : DD cL_law 487 (.invokevirtual 91) 3 490 := ⟨by decide +kernel, rfl⟩
theorem dL_law_490 : DD cL_law 490 (.iload 5) 2 492 := ⟨by decide +kernel, rfl⟩
theorem dL_law_492 : DB cL_law 492 (.if_icmp .eq) 5 3 495 497 := ⟨by decide +kernel, rfl, rfl⟩
theorem dL_law_495 : DD cL_law 495 (.iconst 0) 1 496 := ⟨by decide +kernel, rfl⟩
theorem dL_law_496 : DD cL_law 496 (.ireturn) 1 497 := ⟨by decide +kernel, rfl⟩
theorem dL_law_497 : DD cL_law 497 (.iload 5) 2 499 := ⟨by decide +kernel, rfl⟩
theorem dL_law_499 : DB cL_law 499 (.ifCond .ne) 15 3 502 514 := ⟨by decide +kernel, rfl, rfl⟩
theorem dL_law_502 : DD cL_law 502 (.aload_n 3) 1 503 := ⟨by decide +kernel, rfl⟩
theorem dL_law_503 : DD cL_law 503 (.iconst 0) 1 504 := ⟨by decide +kernel, rfl⟩
theorem dL_law_504 : DD cL_law 504 (.laload) 1 505 := ⟨by decide +kernel, rfl⟩
theorem dL_law_505 : DD cL_law 505 (.iload 6) 2 507 := ⟨by decide +kernel, rfl⟩
theorem dL_law_507 : DD cL_law 507 (.i2l) 1 508 := ⟨by decide +kernel, rfl⟩
theorem dL_law_508 : DD cL_law 508 (.lcmp) 1 509 := ⟨by decide +kernel, rfl⟩
theorem dL_law_509 : DB cL_law 509 (.ifCond .eq) 5 3 512 514 := ⟨by decide +kernel, rfl, rfl⟩
theorem dL_law_512 : DD cL_law 512 (.iconst 0) 1 513 := ⟨by decide +kernel, rfl⟩
theorem dL_law_513 : DD cL_law 513 (.ireturn) 1 514 := ⟨by decide +kernel, rfl⟩
theorem dL_law_514 : DB cL_law 514 (.goto) 1094 3 517 1608 := ⟨by decide +kernel, rfl, rfl⟩
theorem dL_law_517 : DD cL_law 517 (.aload_n 1) 1 518 := ⟨by decide +kernel, rfl⟩
theorem dL_law_518 : DD cL_law 518 (.aload_n 0) 1 519 := ⟨by decide +kernel, rfl⟩
theorem dL_law_519 : DD cL_law 519 (.iload 4) 2 521 := ⟨by decide +kernel, rfl⟩
theorem dL_law_521 : DD cL_law 521 (.iconst 1) 1 522 := ⟨by decide +kernel, rfl⟩
theorem dL_law_522 : DD cL_law 522 (.iadd) 1 523 := ⟨by decide +kernel, rfl⟩
theorem dL_law_523 : DD cL_law 523 (.iaload) 1 524 := ⟨by decide +kernel, rfl⟩
theorem dL_law_524 : DD cL_law 524 (.aload_n 0) 1 525 := ⟨by decide +kernel, rfl⟩
theorem dL_law_525 : DD cL_law 525 (.iload 4) 2 527 := ⟨by decide +kernel, rfl⟩
theorem dL_law_527 : DD cL_law 527 (.iconst 2) 1 528 := ⟨by decide +kernel, rfl⟩
theorem dL_law_528 : DD cL_law 528 (.iadd) 1 529 := ⟨by decide +kernel, rfl⟩
theorem dL_law_529 : DD cL_law 529 (.iaload) 1 530 := ⟨by decide +kernel, rfl⟩
theorem dL_law_530 : DD cL_law 530 (.invokevirtual 112) 3 533 := ⟨by decide +kernel, rfl⟩
theorem dL_law_533 : DD cL_law 533 (.aload_n 2) 1 534 := ⟨by decide +kernel, rfl⟩
theorem dL_law_534 : DD cL_law 534 (.aload_n 0) 1 535 := ⟨by decide +kernel, rfl⟩
theorem dL_law_535 : DD cL_law 535 (.iload 4) 2 537 := ⟨by decide +kernel, rfl⟩
theorem dL_law_537 : DD cL_law 537 (.iconst 1) 1 538 := ⟨by decide +kernel, rfl⟩
theorem dL_law_538 : DD cL_law 538 (.iadd) 1 539 := ⟨by decide +kernel, rfl⟩
theorem dL_law_539 : DD cL_law 539 (.iaload) 1 540 := ⟨by decide +kernel, rfl⟩
theorem dL_law_540 : DD cL_law 540 (.aload_n 0) 1 541 := ⟨by decide +kernel, rfl⟩
theorem dL_law_541 : DD cL_law 541 (.iload 4) 2 543 := ⟨by decide +kernel, rfl⟩
theorem dL_law_543 : DD cL_law 543 (.iconst 2) 1 544 := ⟨by decide +kernel, rfl⟩
theorem dL_law_544 : DD cL_law 544 (.iadd) 1 545 := ⟨by decide +kernel, rfl⟩
theorem dL_law_545 : DD cL_law 545 (.iaload) 1 546 := ⟨by decide +kernel, rfl⟩
theorem dL_law_546 : DD cL_law 546 (.invokevirtual 115) 3 549 := ⟨by decide +kernel, rfl⟩
theorem dL_law_549 : DB cL_law 549 (.if_icmp .eq) 1059 3 552 1608 := ⟨by decide +kernel, rfl, rfl⟩
theorem dL_law_552 : DD cL_law 552 (.iconst 0) 1 553 := ⟨by decide +kernel, rfl⟩
theorem dL_law_553 : DD cL_law 553 (.ireturn) 1 554 := ⟨by decide +kernel, rfl⟩
theorem dL_law_554 : DD cL_law 554 (.aload_n 1) 1 555 := ⟨by decide +kernel, rfl⟩
theorem dL_law_555 : DD cL_law 555 (.aload_n 0) 1 556 := ⟨by decide +kernel, rfl⟩
theorem dL_law_556 : DD cL_law 556 (.iload 4) 2 558 := ⟨by decide +kernel, rfl⟩
theorem dL_law_558 : DD cL_law 558 (.iconst 1) 1 559 := ⟨by decide +kernel, rfl⟩
theorem dL_law_559 : DD cL_law 559 (.iadd) 1 560 := ⟨by decide +kernel, rfl⟩
theorem dL_law_560 : DD cL_law 560 (.iaload) 1 561 := ⟨by decide +kernel, rfl⟩
theorem dL_law_561 : DD cL_law 561 (.invokevirtual 116) 3 564 := ⟨by decide +kernel, rfl⟩
theorem dL_law_564 : DD cL_law 564 (.aload_n 2) 1 565 := ⟨by decide +kernel, rfl⟩
theorem dL_law_565 : DD cL_law 565 (.aload_n 0) 1 566 := ⟨by decide +kernel, rfl⟩
theorem dL_law_566 : DD cL_law 566 (.iload 4) 2 568 := ⟨by decide +kernel, rfl⟩
theorem dL_law_568 : DD cL_law 568 (.iconst 1) 1 569 := ⟨by decide +kernel, rfl⟩
theorem dL_law_569 : DD cL_law 569 (.iadd) 1 570 := ⟨by decide +kernel, rfl⟩
theorem dL_law_570 : DD cL_law 570 (.iaload) 1 571 := ⟨by decide +kernel, rfl⟩
theorem dL_law_571 : DD cL_law 571 (.invokevirtual 119) 3 574 := ⟨by decide +kernel, rfl⟩
theorem dL_law_574 : DB cL_law 574 (.if_icmp .eq) 1034 3 577 1608 := ⟨by decide +kernel, rfl, rfl⟩
theorem dL_law_577 : DD cL_law 577 (.iconst 0) 1 578 := ⟨by decide +kernel, rfl⟩
theorem dL_law_578 : DD cL_law 578 (.ireturn) 1 579 := ⟨by decide +kernel, rfl⟩
theorem dL_law_579 : DD cL_law 579 (.aload_n 1) 1 580 := ⟨by decide +kernel, rfl⟩
theorem dL_law_580 : DD cL_law 580 (.aload_n 0) 1 581 := ⟨by decide +kernel, rfl⟩
theorem dL_law_581 : DD cL_law 581 (.iload 4) 2 583 := ⟨by decide +kernel, rfl⟩
theorem dL_law_583 : DD cL_law 583 (.iconst 1) 1 584 := ⟨by decide +kernel, rfl⟩
theorem dL_law_584 : DD cL_law 584 (.iadd) 1 585 := ⟨by decide +kernel, rfl⟩
theorem dL_law_585 : DD cL_law 585 (.iaload) 1 586 := ⟨by decide +kernel, rfl⟩
theorem dL_law_586 : DD cL_law 586 (.aload_n 3) 1 587 := ⟨by decide +kernel, rfl⟩
theorem dL_law_587 : DD cL_law 587 (.invokestatic 120) 3 590 := ⟨by decide +kernel, rfl⟩
theorem dL_law_590 : DD cL_law 590 (.istore 5) 2 592 := ⟨by decide +kernel, rfl⟩
theorem dL_law_592 : DD cL_law 592 (.aload_n 2) 1 593 := ⟨by decide +kernel, rfl⟩
theorem dL_law_593 : DD cL_law 593 (.aload_n 0) 1 594 := ⟨by decide +kernel, rfl⟩
theorem dL_law_594 : DD cL_law 594 (.iload 4) 2 596 := ⟨by decide +kernel, rfl⟩
theorem dL_law_596 : DD cL_law 596 (.iconst 1) 1 597 := ⟨by decide +kernel, rfl⟩
theorem dL_law_597 : DD cL_law 597 (.iadd) 1 598 := ⟨by decide +kernel, rfl⟩
theorem dL_law_598 : DD cL_law 598 (.iaload) 1 599 := ⟨by decide +kernel, rfl⟩
theorem dL_law_599 : DD cL_law 599 (.invokevirtual 122) 3 602 := ⟨by decide +kernel, rfl⟩
theorem dL_law_602 : DD cL_law 602 (.istore 6) 2 604 := ⟨by decide +kernel, rfl⟩
theorem dL_law_604 : DD cL_law 604 (.aload_n 2) 1 605 := ⟨by decide +kernel, rfl⟩
theorem dL_law_605 : DD cL_law 605 (.invokevirtual 91) 3 608 := ⟨by decide +kernel, rfl⟩
theorem dL_law_608 : DD cL_law 608 (.iload 5) 2 610 := ⟨by decide +kernel, rfl⟩
theorem dL_law_610 : DB cL_law 610 (.if_icmp .eq) 5 3 613 615 := ⟨by decide +kernel, rfl, rfl⟩
theorem dL_law_613 : DD cL_law 613 (.iconst 0) 1 614 := ⟨by decide +kernel, rfl⟩
theorem dL_law_614 : DD cL_law 614 (.ireturn) 1 615 := ⟨by decide +kernel, rfl⟩
theorem dL_law_615 : DD cL_law 615 (.iload 5) 2 617 := ⟨by decide +kernel, rfl⟩
theorem dL_law_617 : DB cL_law 617 (.ifCond .ne) 15 3 620 632 := ⟨by decide +kernel, rfl, rfl⟩
theorem dL_law_620 : DD cL_law 620 (.aload_n 3) 1 621 := ⟨by decide +kernel, rfl⟩
theorem dL_law_621 : DD cL_law 621 (.iconst 0) 1 622 := ⟨by decide +kernel, rfl⟩
theorem dL_law_622 : DD cL_law 622 (.laload) 1 623 := ⟨by decide +kernel, rfl⟩
theorem dL_law_623 : DD cL_law 623 (.iload 6) 2 625 := ⟨by decide +kernel, rfl⟩
theorem dL_law_625 : DD cL_law 625 (.i2l) 1 626 := ⟨by decide +kernel, rfl⟩
theorem dL_law_626 : DD cL_law 626 (.lcmp) 1 627 := ⟨by decide +kernel, rfl⟩
theorem dL_law_627 : DB cL_law 627 (.ifCond .eq) 5 3 630 632 := ⟨by decide +kernel, rfl, rfl⟩
theorem dL_law_630 : DD cL_law 630 (.iconst 0) 1 631 := ⟨by decide +kernel, rfl⟩
theorem dL_law_631 : DD cL_law 631 (.ireturn) 1 632 := ⟨by decide +kernel, rfl⟩
theorem dL_law_632 : DB cL_law 632 (.goto) 976 3 635 1608 := ⟨by decide +kernel, rfl, rfl⟩
theorem dL_law_635 : DD cL_law 635 (.aload_n 1) 1 636 := ⟨by decide +kernel, rfl⟩
theorem dL_law_636 : DD cL_law 636 (.invokevirtual 123) 3 639 := ⟨by decide +kernel, rfl⟩
theorem dL_law_639 : DD cL_law 639 (.aload_n 2) 1 640 := ⟨by decide +kernel, rfl⟩
theorem dL_law_640 : DD cL_law 640 (.invokevirtual 126) 3 643 := ⟨by decide +kernel, rfl⟩
theorem dL_law_643 : DB cL_law 643 (.if_icmp .eq) 965 3 646 1608 := ⟨by decide +kernel, rfl, rfl⟩
theorem dL_law_646 : DD cL_law 646 (.iconst 0) 1 647 := ⟨by decide +kernel, rfl⟩
theorem dL_law_647 : DD cL_law 647 (.ireturn) 1 648 := ⟨by decide +kernel, rfl⟩
theorem dL_law_648 : DD cL_law 648 (.aload_n 1) 1 649 := ⟨by decide +kernel, rfl⟩
theorem dL_law_649 : DD cL_law 649 (.invokevirtual 127) 3 652 := ⟨by decide +kernel, rfl⟩
theorem dL_law_652 : DD cL_law 652 (.aload_n 2) 1 653 := ⟨by decide +kernel, rfl⟩
theorem dL_law_653 : DD cL_law 653 (.invokevirtual 130) 3 656 := ⟨by decide +kernel, rfl⟩
theorem dL_law_656 : DB cL_law 656 (.if_icmp .eq) 952 3 659 1608 := ⟨by decide +kernel, rfl, rfl⟩
theorem dL_law_659 : DD cL_law 659 (.iconst 0) 1 660 := ⟨by decide +kernel, rfl⟩
theorem dL_law_660 : DD cL_law 660 (.ireturn) 1 661 := ⟨by decide +kernel, rfl⟩
theorem dL_law_661 : DD cL_law 661 (.aload_n 1) 1 662 := ⟨by decide +kernel, rfl⟩
theorem dL_law_662 : DD cL_law 662 (.aload_n 3) 1 663 := ⟨by decide +kernel, rfl⟩
theorem dL_law_663 : DD cL_law 663 (.invokestatic 131) 3 666 := ⟨by decide +kernel, rfl⟩
theorem dL_law_666 : DD cL_law 666 (.istore 5) 2 668 := ⟨by decide +kernel, rfl⟩
theorem dL_law_668 : DD cL_law 668 (.aload_n 2) 1 669 := ⟨by decide +kernel, rfl⟩
theorem dL_law_669 : DD cL_law 669 (.invokevirtual 134) 3 672 := ⟨by decide +kernel, rfl⟩
theorem dL_law_672 : DD cL_law 672 (.istore 6) 2 674 := ⟨by decide +kernel, rfl⟩
theorem dL_law_674 : DD cL_law 674 (.aload_n 2) 1 675 := ⟨by decide +kernel, rfl⟩
theorem dL_law_675 : DD cL_law 675 (.invokevirtual 91) 3 678 := ⟨by decide +kernel, rfl⟩
theorem dL_law_678 : DD cL_law 678 (.iload 5) 2 680 := ⟨by decide +kernel, rfl⟩
theorem dL_law_680 : DB cL_law 680 (.if_icmp .eq) 5 3 683 685 := ⟨by decide +kernel, rfl, rfl⟩
theorem dL_law_683 : DD cL_law 683 (.iconst 0) 1 684 := ⟨by decide +kernel, rfl⟩
theorem dL_law_684 : DD cL_law 684 (.ireturn) 1 685 := ⟨by decide +kernel, rfl⟩
theorem dL_law_685 : DD cL_law 685 (.iload 5) 2 687 := ⟨by decide +kernel, rfl⟩
theorem dL_law_687 : DB cL_law 687 (.ifCond .ne) 15 3 690 702 := ⟨by decide +kernel, rfl, rfl⟩
theorem dL_law_690 : DD cL_law 690 (.aload_n 3) 1 691 := ⟨by decide +kernel, rfl⟩
theorem dL_law_691 : DD cL_law 691 (.iconst 0) 1 692 := ⟨by decide +kernel, rfl⟩
theorem dL_law_692 : DD cL_law 692 (.laload) 1 693 := ⟨by decide +kernel, rfl⟩
theorem dL_law_693 : DD cL_law 693 (.iload 6) 2 695 := ⟨by decide +kernel, rfl⟩
theorem dL_law_695 : DD cL_law 695 (.i2l) 1 696 := ⟨by decide +kernel, rfl⟩
theorem dL_law_696 : DD cL_law 696 (.lcmp) 1 697 := ⟨by decide +kernel, rfl⟩
theorem dL_law_697 : DB cL_law 697 (.ifCond .eq) 5 3 700 702 := ⟨by decide +kernel, rfl, rfl⟩
theorem dL_law_700 : DD cL_law 700 (.iconst 0) 1 701 := ⟨by decide +kernel, rfl⟩
theorem dL_law_701 : DD cL_law 701 (.ireturn) 1 702 := ⟨by decide +kernel, rfl⟩
theorem dL_law_702 : DB cL_law 702 (.goto) 906 3 705 1608 := ⟨by decide +kernel, rfl, rfl⟩
theorem dL_law_705 : DD cL_law 705 (.aload_n 1) 1 706 := ⟨by decide +kernel, rfl⟩
theorem dL_law_706 : DD cL_law 706 (.aload_n 0) 1 707 := ⟨by decide +kernel, rfl⟩
theorem dL_law_707 : DD cL_law 707 (.iload 4) 2 709 := ⟨by decide +kernel, rfl⟩
theorem dL_law_709 : DD cL_law 709 (.iconst 1) 1 710 := ⟨by decide +kernel, rfl⟩
theorem dL_law_710 : DD cL_law 710 (.iadd) 1 711 := ⟨by decide +kernel, rfl⟩
theorem dL_law_711 : DD cL_law 711 (.iaload) 1 712 := ⟨by decide +kernel, rfl⟩
theorem dL_law_712 : DD cL_law 712 (.aload_n 3) 1 713 := ⟨by decide +kernel, rfl⟩
theorem dL_law_713 : DD cL_law 713 (.invokestatic 135) 3 716 := ⟨by decide +kernel, rfl⟩
theorem dL_law_716 : DD cL_law 716 (.istore 5) 2 718 := ⟨by decide +kernel, rfl⟩
theorem dL_law_718 : DD cL_law 718 (.aload_n 2) 1 719 := ⟨by decide +kernel, rfl⟩
theorem dL_law_719 : DD cL_law 719 (.aload_n 0) 1 720 := ⟨by decide +kernel, rfl⟩
theorem dL_law_720 : DD cL_law 720 (.iload 4) 2 722 := ⟨by decide +kernel, rfl⟩
theorem dL_law_722 : DD cL_law 722 (.iconst 1) 1 723 := ⟨by decide +kernel, rfl⟩
theorem dL_law_723 : DD cL_law 723 (.iadd) 1 724 := ⟨by decide +kernel, rfl⟩
theorem dL_law_724 : DD cL_law 724 (.iaload) 1 725 := ⟨by decide +kernel, rfl⟩
theorem dL_law_725 : DD cL_law 725 (.invokevirtual 137) 3 728 := ⟨by decide +kernel, rfl⟩
theorem dL_law_728 : DD cL_law 728 (.istore 6) 2 730 := ⟨by decide +kernel, rfl⟩
theorem dL_law_730 : DD cL_law 730 (.aload_n 2) 1 731 := ⟨by decide +kernel, rfl⟩
theorem dL_law_731 : DD cL_law 731 (.invokevirtual 91) 3 734 := ⟨by decide +kernel, rfl⟩
theorem dL_law_734 : DD cL_law 734 (.iload 5) 2 736 := ⟨by decide +kernel, rfl⟩
theorem dL_law_736 : DB cL_law 736 (.if_icmp .eq) 5 3 739 741 := ⟨by decide +kernel, rfl, rfl⟩
theorem dL_law_739 : DD cL_law 739 (.iconst 0) 1 740 := ⟨by decide +kernel, rfl⟩
theorem dL_law_740 : DD cL_law 740 (.ireturn) 1 741 := ⟨by decide +kernel, rfl⟩
theorem dL_law_741 : DD cL_law 741 (.iload 5) 2 743 := ⟨by decide +kernel, rfl⟩
theorem dL_law_743 : DB cL_law 743 (.ifCond .ne) 15 3 746 758 := ⟨by decide +kernel, rfl, rfl⟩
theorem dL_law_746 : DD cL_law 746 (.aload_n 3) 1 747 := ⟨by decide +kernel, rfl⟩
theorem dL_law_747 : DD cL_law 747 (.iconst 0) 1 748 := ⟨by decide +kernel, rfl⟩
theorem dL_law_748 : DD cL_law 748 (.laload) 1 749 := ⟨by decide +kernel, rfl⟩
theorem dL_law_749 : DD cL_law 749 (.iload 6) 2 751 := ⟨by decide +kernel, rfl⟩
theorem dL_law_751 : DD cL_law 751 (.i2l) 1 752 := ⟨by decide +kernel, rfl⟩
theorem dL_law_752 : DD cL_law 752 (.lcmp) 1 753 := ⟨by decide +kernel, rfl⟩
theorem dL_law_753 : DB cL_law 753 (.ifCond .eq) 5 3 756 758 := ⟨by decide +kernel, rfl, rfl⟩
theorem dL_law_756 : DD cL_law 756 (.iconst 0) 1 757 := ⟨by decide +kernel, rfl⟩
theorem dL_law_757 : DD cL_law 757 (.ireturn) 1 758 := ⟨by decide +kernel, rfl⟩
theorem dL_law_758 : DB cL_law 758 (.goto) 850 3 761 1608 := ⟨by decide +kernel, rfl, rfl⟩
theorem dL_law_761 : DD cL_law 761 (.aload_n 1) 1 762 := ⟨by decide +kernel, rfl⟩
theorem dL_law_762 : DD cL_law 762 (.aload_n 0) 1 763 := ⟨by decide +kernel, rfl⟩
theorem dL_law_763 : DD cL_law 763 (.iload 4) 2 765 := ⟨by decide +kernel, rfl⟩
theorem dL_law_765 : DD cL_law 765 (.iconst 1) 1 766 := ⟨by decide +kernel, rfl⟩
theorem dL_law_766 : DD cL_law 766 (.iadd) 1 767 := ⟨by decide +kernel, rfl⟩
theorem dL_law_767 : DD cL_law 767 (.iaload) 1 768 := ⟨by decide +kernel, rfl⟩
theorem dL_law_768 : DD cL_law 768 (.aload_n 3) 1 769 := ⟨by decide +kernel, rfl⟩
theorem dL_law_769 : DD cL_law 769 (.invokestatic 138) 3 772 := ⟨by decide +kernel, rfl⟩
theorem dL_law_772 : DD cL_law 772 (.istore 5) 2 774 := ⟨by decide +kernel, rfl⟩
theorem dL_law_774 : DD cL_law 774 (.aload_n 2) 1 775 := ⟨by decide +kernel, rfl⟩
theorem dL_law_775 : DD cL_law 775 (.aload_n 0) 1 776 := ⟨by decide +kernel, rfl⟩
theorem dL_law_776 : DD cL_law 776 (.iload 4) 2 778 := ⟨by decide +kernel, rfl⟩
theorem dL_law_778 : DD cL_law 778 (.iconst 1) 1 779 := ⟨by decide +kernel, rfl⟩
theorem dL_law_779 : DD cL_law 779 (.iadd) 1 780 := ⟨by decide +kernel, rfl⟩
theorem dL_law_780 : DD cL_law 780 (.iaload) 1 781 := ⟨by decide +kernel, rfl⟩
theorem dL_law_781 : DD cL_law 781 (.invokevirtual 140) 3 784 := ⟨by decide +kernel, rfl⟩
theorem dL_law_784 : DD cL_law 784 (.istore 6) 2 786 := ⟨by decide +kernel, rfl⟩
theorem dL_law_786 : DD cL_law 786 (.aload_n 2) 1 787 := ⟨by decide +kernel, rfl⟩
theorem dL_law_787 : DD cL_law 787 (.invokevirtual 91) 3 790 := ⟨by decide +kernel, rfl⟩
theorem dL_law_790 : DD cL_law 790 (.iload 5) 2 792 := ⟨by decide +kernel, rfl⟩
theorem dL_law_792 : DB cL_law 792 (.if_icmp .eq) 5 3 795 797 := ⟨by decide +kernel, rfl, rfl⟩
theorem dL_law_795 : DD cL_law 795 (.iconst 0) 1 796 := ⟨by decide +kernel, rfl⟩
theorem dL_law_796 : DD cL_law 796 (.ireturn) 1 797 := ⟨by decide +kernel, rfl⟩
theorem dL_law_797 : DD cL_law 797 (.iload 5) 2 799 := ⟨by decide +kernel, rfl⟩
theorem dL_law_799 : DB cL_law 799 (.ifCond .ne) 15 3 802 814 := ⟨by decide +kernel, rfl, rfl⟩
theorem dL_law_802 : DD cL_law 802 (.aload_n 3) 1 803 := ⟨by decide +kernel, rfl⟩
theorem dL_law_803 : DD cL_law 803 (.iconst 0) 1 804 := ⟨by decide +kernel, rfl⟩
theorem dL_law_804 : DD cL_law 804 (.laload) 1 805 := ⟨by decide +kernel, rfl⟩
theorem dL_law_805 : DD cL_law 805 (.iload 6) 2 807 := ⟨by decide +kernel, rfl⟩
theorem dL_law_807 : DD cL_law 807 (.i2l) 1 808 := ⟨by decide +kernel, rfl⟩
theorem dL_law_808 : DD cL_law 808 (.lcmp) 1 809 := ⟨by decide +kernel, rfl⟩
theorem dL_law_809 : DB cL_law 809 (.ifCond .eq) 5 3 812 814 := ⟨by decide +kernel, rfl, rfl⟩
theorem dL_law_812 : DD cL_law 812 (.iconst 0) 1 813 := ⟨by decide +kernel, rfl⟩
theorem dL_law_813 : DD cL_law 813 (.ireturn) 1 814 := ⟨by decide +kernel, rfl⟩
theorem dL_law_814 : DB cL_law 814 (.goto) 794 3 817 1608 := ⟨by decide +kernel, rfl, rfl⟩
theorem dL_law_817 : DD cL_law 817 (.aload_n 1) 1 818 := ⟨by decide +kernel, rfl⟩
theorem dL_law_818 : DD cL_law 818 (.aload_n 3) 1 819 := ⟨by decide +kernel, rfl⟩
theorem dL_law_819 : DD cL_law 819 (.invokestatic 141) 3 822 := ⟨by decide +kernel, rfl⟩
theorem dL_law_822 : DD cL_law 822 (.istore 5) 2 824 := ⟨by decide +kernel, rfl⟩
theorem dL_law_824 : DD cL_law 824 (.aload_n 2) 1 825 := ⟨by decide +kernel, rfl⟩
theorem dL_law_825 : DD cL_law 825 (.invokevirtual 143) 3 828 := ⟨by decide +kernel, rfl⟩
theorem dL_law_828 : DD cL_law 828 (.istore 6) 2 830 := ⟨by decide +kernel, rfl⟩
theorem dL_law_830 : DD cL_law 830 (.aload_n 2) 1 831 := ⟨by decide +kernel, rfl⟩
theorem dL_law_831 : DD cL_law 831 (.invokevirtual 91) 3 834 := ⟨by decide +kernel, rfl⟩
theorem dL_law_834 : DD cL_law 834 (.iload 5) 2 836 := ⟨by decide +kernel, rfl⟩
theorem dL_law_836 : DB cL_law 836 (.if_icmp .eq) 5 3 839 841 := ⟨by decide +kernel, rfl, rfl⟩
theorem dL_law_839 : DD cL_law 839 (.iconst 0) 1 840 := ⟨by decide +kernel, rfl⟩
theorem dL_law_840 : DD cL_law 840 (.ireturn) 1 841 := ⟨by decide +kernel, rfl⟩
theorem dL_law_841 : DD cL_law 841 (.iload 5) 2 843 := ⟨by decide +kernel, rfl⟩
theorem dL_law_843 : DB cL_law 843 (.ifCond .ne) 15 3 846 858 := ⟨by decide +kernel, rfl, rfl⟩
theorem dL_law_846 : DD cL_law 846 (.aload_n 3) 1 847 := ⟨by decide +kernel, rfl⟩
theorem dL_law_847 : DD cL_law 847 (.iconst 0) 1 848 := ⟨by decide +kernel, rfl⟩
theorem dL_law_848 : DD cL_law 848 (.laload) 1 849 := ⟨by decide +kernel, rfl⟩
theorem dL_law_849 : DD cL_law 849 (.iload 6) 2 851 := ⟨by decide +kernel, rfl⟩
theorem dL_law_851 : DD cL_law 851 (.i2l) 1 852 := ⟨by decide +kernel, rfl⟩
theorem dL_law_852 : DD cL_law 852 (.lcmp) 1 853 := ⟨by decide +kernel, rfl⟩
theorem dL_law_853 : DB cL_law 853 (.ifCond .eq) 5 3 856 858 := ⟨by decide +kernel, rfl, rfl⟩
theorem dL_law_856 : DD cL_law 856 (.iconst 0) 1 857 := ⟨by decide +kernel, rfl⟩
theorem dL_law_857 : DD cL_law 857 (.ireturn) 1 858 := ⟨by decide +kernel, rfl⟩
theorem dL_law_858 : DB cL_law 858 (.goto) 750 3 861 1608 := ⟨by decide +kernel, rfl, rfl⟩
theorem dL_law_861 : DD cL_law 861 (.aload_n 1) 1 862 := ⟨by decide +kernel, rfl⟩
theorem dL_law_862 : DD cL_law 862 (.aload_n 0) 1 863 := ⟨by decide +kernel, rfl⟩
theorem dL_law_863 : DD cL_law 863 (.iload 4) 2 865 := ⟨by decide +kernel, rfl⟩
theorem dL_law_865 : DD cL_law 865 (.iconst 1) 1 866 := ⟨by decide +kernel, rfl⟩
theorem dL_law_866 : DD cL_law 866 (.iadd) 1 867 := ⟨by decide +kernel, rfl⟩
theorem dL_law_867 : DD cL_law 867 (.iaload) 1 868 := ⟨by decide +kernel, rfl⟩
theorem dL_law_868 : DD cL_law 868 (.aload_n 0) 1 869 := ⟨by decide +kernel, rfl⟩
theorem dL_law_869 : DD cL_law 869 (.iload 4) 2 871 := ⟨by decide +kernel, rfl⟩
theorem dL_law_871 : DD cL_law 871 (.iconst 2) 1 872 := ⟨by decide +kernel, rfl⟩
theorem dL_law_872 : DD cL_law 872 (.iadd) 1 873 := ⟨by decide +kernel, rfl⟩
theorem dL_law_873 : DD cL_law 873 (.iaload) 1 874 := ⟨by decide +kernel, rfl⟩
theorem dL_law_874 : DD cL_law 874 (.aload_n 3) 1 875 := ⟨by decide +kernel, rfl⟩
theorem dL_law_875 : DD cL_law 875 (.invokestatic 144) 3 878 := ⟨by decide +kernel, rfl⟩
theorem dL_law_878 : DD cL_law 878 (.istore 5) 2 880 := ⟨by decide +kernel, rfl⟩
theorem dL_law_880 : DD cL_law 880 (.aload_n 2) 1 881 := ⟨by decide +kernel, rfl⟩
theorem dL_law_881 : DD cL_law 881 (.aload_n 0) 1 882 := ⟨by decide +kernel, rfl⟩
theorem dL_law_882 : DD cL_law 882 (.iload 4) 2 884 := ⟨by decide +kernel, rfl⟩
theorem dL_law_884 : DD cL_law 884 (.iconst 1) 1 885 := ⟨by decide +kernel, rfl⟩
theorem dL_law_885 : DD cL_law 885 (.iadd) 1 886 := ⟨by decide +kernel, rfl⟩
theorem dL_law_886 : DD cL_law 886 (.iaload) 1 887 := ⟨by decide +kernel, rfl⟩
theorem dL_law_887 : DD cL_law 887 (.aload_n 0) 1 888 := ⟨by decide +kernel, rfl⟩
theorem dL_law_888 : DD cL_law 888 (.iload 4) 2 890 := ⟨by decide +kernel, rfl⟩
theorem dL_law_890 : DD cL_law 890 (.iconst 2) 1 891 := ⟨by decide +kernel, rfl⟩
theorem dL_law_891 : DD cL_law 891 (.iadd) 1 892 := ⟨by decide +kernel, rfl⟩
theorem dL_law_892 : DD cL_law 892 (.iaload) 1 893 := ⟨by decide +kernel, rfl⟩
theorem dL_law_893 : DD cL_law 893 (.invokevirtual 146) 3 896 := ⟨by decide +kernel, rfl⟩
theorem dL_law_896 : DD cL_law 896 (.istore 6) 2 898 := ⟨by decide +kernel, rfl⟩
theorem dL_law_898 : DD cL_law 898 (.aload_n 2) 1 899 := ⟨by decide +kernel, rfl⟩
theorem dL_law_899 : DD cL_law 899 (.invokevirtual 91) 3 902 := ⟨by decide +kernel, rfl⟩
theorem dL_law_902 : DD cL_law 902 (.iload 5) 2 904 := ⟨by decide +kernel, rfl⟩
theorem dL_law_904 : DB cL_law 904 (.if_icmp .eq) 5 3 907 909 := ⟨by decide +kernel, rfl, rfl⟩
theorem dL_law_907 : DD cL_law 907 (.iconst 0) 1 908 := ⟨by decide +kernel, rfl⟩
theorem dL_law_908 : DD cL_law 908 (.ireturn) 1 909 := ⟨by decide +kernel, rfl⟩
theorem dL_law_909 : DD cL_law 909 (.iload 5) 2 911 := ⟨by decide +kernel, rfl⟩
theorem dL_law_911 : DB cL_law 911 (.ifCond .ne) 15 3 914 926 := ⟨by decide +kernel, rfl, rfl⟩
theorem dL_law_914 : DD cL_law 914 (.aload_n 3) 1 915 := ⟨by decide +kernel, rfl⟩
theorem dL_law_915 : DD cL_law 915 (.iconst 0) 1 916 := ⟨by decide +kernel, rfl⟩
theorem dL_law_916 : DD cL_law 916 (.laload) 1 917 := ⟨by decide +kernel, rfl⟩
theorem dL_law_917 : DD cL_law 917 (.iload 6) 2 919 := ⟨by decide +kernel, rfl⟩
theorem dL_law_919 : DD cL_law 919 (.i2l) 1 920 := ⟨by decide +kernel, rfl⟩
theorem dL_law_920 : DD cL_law 920 (.lcmp) 1 921 := ⟨by decide +kernel, rfl⟩
theorem dL_law_921 : DB cL_law 921 (.ifCond .eq) 5 3 924 926 := ⟨by decide +kernel, rfl, rfl⟩
theorem dL_law_924 : DD cL_law 924 (.iconst 0) 1 925 := ⟨by decide +kernel, rfl⟩
theorem dL_law_925 : DD cL_law 925 (.ireturn) 1 926 := ⟨by decide +kernel, rfl⟩
theorem dL_law_926 : DB cL_law 926 (.goto) 682 3 929 1608 := ⟨by decide +kernel, rfl, rfl⟩
theorem dL_law_929 : DD cL_law 929 (.aload_n 1) 1 930 := ⟨by decide +kernel, rfl⟩
theorem dL_law_930 : DD cL_law 930 (.aload_n 0) 1 931 := ⟨by decide +kernel, rfl⟩
theorem dL_law_931 : DD cL_law 931 (.iload 4) 2 933 := ⟨by decide +kernel, rfl⟩
theorem dL_law_933 : DD cL_law 933 (.iconst 1) 1 934 := ⟨by decide +kernel, rfl⟩
theorem dL_law_934 : DD cL_law 934 (.iadd) 1 935 := ⟨by decide +kernel, rfl⟩
theorem dL_law_935 : DD cL_law 935 (.iaload) 1 936 := ⟨by decide +kernel, rfl⟩
theorem dL_law_936 : DD cL_law 936 (.aload_n 0) 1 937 := ⟨by decide +kernel, rfl⟩
theorem dL_law_937 : DD cL_law 937 (.iload 4) 2 939 := ⟨by decide +kernel, rfl⟩
theorem dL_law_939 : DD cL_law 939 (.iconst 2) 1 940 := ⟨by decide +kernel, rfl⟩
theorem dL_law_940 : DD cL_law 940 (.iadd) 1 941 := ⟨by decide +kernel, rfl⟩
theorem dL_law_941 : DD cL_law 941 (.iaload) 1 942 := ⟨by decide +kernel, rfl⟩
theorem dL_law_942 : DD cL_law 942 (.aload_n 3) 1 943 := ⟨by decide +kernel, rfl⟩
theorem dL_law_943 : DD cL_law 943 (.invokestatic 147) 3 946 := ⟨by decide +kernel, rfl⟩
theorem dL_law_946 : DD cL_law 946 (.istore 5) 2 948 := ⟨by decide +kernel, rfl⟩
theorem dL_law_948 : DD cL_law 948 (.aload_n 2) 1 949 := ⟨by decide +kernel, rfl⟩
theorem dL_law_949 : DD cL_law 949 (.aload_n 0) 1 950 := ⟨by decide +kernel, rfl⟩
theorem dL_law_950 : DD cL_law 950 (.iload 4) 2 952 := ⟨by decide +kernel, rfl⟩
theorem dL_law_952 : DD cL_law 952 (.iconst 1) 1 953 := ⟨by decide +kernel, rfl⟩
theorem dL_law_953 : DD cL_law 953 (.iadd) 1 954 := ⟨by decide +kernel, rfl⟩
theorem dL_law_954 : DD cL_law 954 (.iaload) 1 955 := ⟨by decide +kernel, rfl⟩
theorem dL_law_955 : DD cL_law 955 (.aload_n 0) 1 956 := ⟨by decide +kernel, rfl⟩
theorem dL_law_956 : DD cL_law 956 (.iload 4) 2 958 := ⟨by decide +kernel, rfl⟩
theorem dL_law_958 : DD cL_law 958 (.iconst 2) 1 959 := ⟨by decide +kernel, rfl⟩
theorem dL_law_959 : DD cL_law 959 (.iadd) 1 960 := ⟨by decide +kernel, rfl⟩
theorem dL_law_960 : DD cL_law 960 (.iaload) 1 961 := ⟨by decide +kernel, rfl⟩
theorem dL_law_961 : DD cL_law 961 (.invokevirtual 149) 3 964 := ⟨by decide +kernel, rfl⟩
theorem dL_law_964 : DD cL_law 964 (.istore 6) 2 966 := ⟨by decide +kernel, rfl⟩
theorem dL_law_966 : DD cL_law 966 (.aload_n 2) 1 967 := ⟨by decide +kernel, rfl⟩
theorem dL_law_967 : DD cL_law 967 (.invokevirtual 91) 3 970 := ⟨by decide +kernel, rfl⟩
theorem dL_law_970 : DD cL_law 970 (.iload 5) 2 972 := ⟨by decide +kernel, rfl⟩
theorem dL_law_972 : DB cL_law 972 (.if_icmp .eq) 5 3 975 977 := ⟨by decide +kernel, rfl, rfl⟩
theorem dL_law_975 : DD cL_law 975 (.iconst 0) 1 976 := ⟨by decide +kernel, rfl⟩
theorem dL_law_976 : DD cL_law 976 (.ireturn) 1 977 := ⟨by decide +kernel, rfl⟩
theorem dL_law_977 : DD cL_law 977 (.iload 5) 2 979 := ⟨by decide +kernel, rfl⟩
theorem dL_law_979 : DB cL_law 979 (.ifCond .ne) 15 3 982 994 := ⟨by decide +kernel, rfl, rfl⟩
theorem dL_law_982 : DD cL_law 982 (.aload_n 3) 1 983 := ⟨by decide +kernel, rfl⟩
theorem dL_law_983 : DD cL_law 983 (.iconst 0) 1 984 := ⟨by decide +kernel, rfl⟩
theorem dL_law_984 : DD cL_law 984 (.laload) 1 985 := ⟨by decide +kernel, rfl⟩
theorem dL_law_985 : DD cL_law 985 (.iload 6) 2 987 := ⟨by decide +kernel, rfl⟩
theorem dL_law_987 : DD cL_law 987 (.i2l) 1 988 := ⟨by decide +kernel, rfl⟩
theorem dL_law_988 : DD cL_law 988 (.lcmp) 1 989 := ⟨by decide +kernel, rfl⟩
theorem dL_law_989 : DB cL_law 989 (.ifCond .eq) 5 3 992 994 := ⟨by decide +kernel, rfl, rfl⟩
theorem dL_law_992 : DD cL_law 992 (.iconst 0) 1 993 := ⟨by decide +kernel, rfl⟩
theorem dL_law_993 : DD cL_law 993 (.ireturn) 1 994 := ⟨by decide +kernel, rfl⟩
theorem dL_law_994 : DB cL_law 994 (.goto) 614 3 997 1608 := ⟨by decide +kernel, rfl, rfl⟩
theorem dL_law_997 : DD cL_law 997 (.aload_n 1) 1 998 := ⟨by decide +kernel, rfl⟩
theorem dL_law_998 : DD cL_law 998 (.aload_n 0) 1 999 := ⟨by decide +kernel, rfl⟩
theorem dL_law_999 : DD cL_law 999 (.iload 4) 2 1001 := ⟨by decide +kernel, rfl⟩
theorem dL_law_1001 : DD cL_law 1001 (.iconst 1) 1 1002 := ⟨by decide +kernel, rfl⟩
theorem dL_law_1002 : DD cL_law 1002 (.iadd) 1 1003 := ⟨by decide +kernel, rfl⟩
theorem dL_law_1003 : DD cL_law 1003 (.iaload) 1 1004 := ⟨by decide +kernel, rfl⟩
theorem dL_law_1004 : DD cL_law 1004 (.aload_n 3) 1 1005 := ⟨by decide +kernel, rfl⟩
theorem dL_law_1005 : DD cL_law 1005 (.invokestatic 150) 3 1008 := ⟨by decide +kernel, rfl⟩
theorem dL_law_1008 : DD cL_law 1008 (.istore 5) 2 1010 := ⟨by decide +kernel, rfl⟩
theorem dL_law_1010 : DD cL_law 1010 (.aload_n 2) 1 1011 := ⟨by decide +kernel, rfl⟩
theorem dL_law_1011 : DD cL_law 1011 (.aload_n 0) 1 1012 := ⟨by decide +kernel, rfl⟩
theorem dL_law_1012 : DD cL_law 1012 (.iload 4) 2 1014 := ⟨by decide +kernel, rfl⟩
theorem dL_law_1014 : DD cL_law 1014 (.iconst 1) 1 1015 := ⟨by decide +kernel, rfl⟩
theorem dL_law_1015 : DD cL_law 1015 (.iadd) 1 1016 := ⟨by decide +kernel, rfl⟩
theorem dL_law_1016 : DD cL_law 1016 (.iaload) 1 1017 := ⟨by decide +kernel, rfl⟩
theorem dL_law_1017 : DD cL_law 1017 (.invokevirtual 152) 3 1020 := ⟨by decide +kernel, rfl⟩
theorem dL_law_1020 : DD cL_law 1020 (.istore 6) 2 1022 := ⟨by decide +kernel, rfl⟩
theorem dL_law_1022 : DD cL_law 1022 (.aload_n 2) 1 1023 := ⟨by decide +kernel, rfl⟩
theorem dL_law_1023 : DD cL_law 1023 (.invokevirtual 91) 3 1026 := ⟨by decide +kernel, rfl⟩
theorem dL_law_1026 : DD cL_law 1026 (.iload 5) 2 1028 := ⟨by decide +kernel, rfl⟩
theorem dL_law_1028 : DB cL_law 1028 (.if_icmp .eq) 5 3 1031 1033 := ⟨by decide +kernel, rfl, rfl⟩
theorem dL_law_1031 : DD cL_law 1031 (.iconst 0) 1 1032 := ⟨by decide +kernel, rfl⟩
theorem dL_law_1032 : DD cL_law 1032 (.ireturn) 1 1033 := ⟨by decide +kernel, rfl⟩
theorem dL_law_1033 : DD cL_law 1033 (.iload 5) 2 1035 := ⟨by decide +kernel, rfl⟩
theorem dL_law_1035 : DB cL_law 1035 (.ifCond .ne) 15 3 1038 1050 := ⟨by decide +kernel, rfl, rfl⟩
theorem dL_law_1038 : DD cL_law 1038 (.aload_n 3) 1 1039 := ⟨by decide +kernel, rfl⟩
theorem dL_law_1039 : DD cL_law 1039 (.iconst 0) 1 1040 := ⟨by decide +kernel, rfl⟩
theorem dL_law_1040 : DD cL_law 1040 (.laload) 1 1041 := ⟨by decide +kernel, rfl⟩
theorem dL_law_1041 : DD cL_law 1041 (.iload 6) 2 1043 := ⟨by decide +kernel, rfl⟩
theorem dL_law_1043 : DD cL_law 1043 (.i2l) 1 1044 := ⟨by decide +kernel, rfl⟩
theorem dL_law_1044 : DD cL_law 1044 (.lcmp) 1 1045 := ⟨by decide +kernel, rfl⟩
theorem dL_law_1045 : DB cL_law 1045 (.ifCond .eq) 5 3 1048 1050 := ⟨by decide +kernel, rfl, rfl⟩
theorem dL_law_1048 : DD cL_law 1048 (.iconst 0) 1 1049 := ⟨by decide +kernel, rfl⟩
theorem dL_law_1049 : DD cL_law 1049 (.ireturn) 1 1050 := ⟨by decide +kernel, rfl⟩
theorem dL_law_1050 : DB cL_law 1050 (.goto) 558 3 1053 1608 := ⟨by decide +kernel, rfl, rfl⟩
theorem dL_law_1053 : DD cL_law 1053 (.aload_n 1) 1 1054 := ⟨by decide +kernel, rfl⟩
theorem dL_law_1054 : DD cL_law 1054 (.aload_n 0) 1 1055 := ⟨by decide +kernel, rfl⟩
theorem dL_law_1055 : DD cL_law 1055 (.iload 4) 2 1057 := ⟨by decide +kernel, rfl⟩
theorem dL_law_1057 : DD cL_law 1057 (.iconst 1) 1 1058 := ⟨by decide +kernel, rfl⟩
theorem dL_law_1058 : DD cL_law 1058 (.iadd) 1 1059 := ⟨by decide +kernel, rfl⟩
theorem dL_law_1059 : DD cL_law 1059 (.iaload) 1 1060 := ⟨by decide +kernel, rfl⟩
theorem dL_law_1060 : DD cL_law 1060 (.aload_n 3) 1 1061 := ⟨by decide +kernel, rfl⟩
theorem dL_law_1061 : DD cL_law 1061 (.invokestatic 153) 3 1064 := ⟨by decide +kernel, rfl⟩
theorem dL_law_1064 : DD cL_law 1064 (.istore 5) 2 1066 := ⟨by decide +kernel, rfl⟩
theorem dL_law_1066 : DD cL_law 1066 (.aload_n 2) 1 1067 := ⟨by decide +kernel, rfl⟩
theorem dL_law_1067 : DD cL_law 1067 (.aload_n 0) 1 1068 := ⟨by decide +kernel, rfl⟩
theorem dL_law_1068 : DD cL_law 1068 (.iload 4) 2 1070 := ⟨by decide +kernel, rfl⟩
theorem dL_law_1070 : DD cL_law 1070 (.iconst 1) 1 1071 := ⟨by decide +kernel, rfl⟩
theorem dL_law_1071 : DD cL_law 1071 (.iadd) 1 1072 := ⟨by decide +kernel, rfl⟩
theorem dL_law_1072 : DD cL_law 1072 (.iaload) 1 1073 := ⟨by decide +kernel, rfl⟩
theorem dL_law_1073 : DD cL_law 1073 (.invokevirtual 155) 3 1076 := ⟨by decide +kernel, rfl⟩
theorem dL_law_1076 : DD cL_law 1076 (.istore 6) 2 1078 := ⟨by decide +kernel, rfl⟩
theorem dL_law_1078 : DD cL_law 1078 (.aload_n 2) 1 1079 := ⟨by decide +kernel, rfl⟩
theorem dL_law_1079 : DD cL_law 1079 (.invokevirtual 91) 3 1082 := ⟨by decide +kernel, rfl⟩
theorem dL_law_1082 : DD cL_law 1082 (.iload 5) 2 1084 := ⟨by decide +kernel, rfl⟩
theorem dL_law_1084 : DB cL_law 1084 (.if_icmp .eq) 5 3 1087 1089 := ⟨by decide +kernel, rfl, rfl⟩
theorem dL_law_1087 : DD cL_law 1087 (.iconst 0) 1 1088 := ⟨by decide +kernel, rfl⟩
theorem dL_law_1088 : DD cL_law 1088 (.ireturn) 1 1089 := ⟨by decide +kernel, rfl⟩
theorem dL_law_1089 : DD cL_law 1089 (.iload 5) 2 1091 := ⟨by decide +kernel, rfl⟩
theorem dL_law_1091 : DB cL_law 1091 (.ifCond .ne) 15 3 1094 1106 := ⟨by decide +kernel, rfl, rfl⟩
theorem dL_law_1094 : DD cL_law 1094 (.aload_n 3) 1 1095 := ⟨by decide +kernel, rfl⟩
theorem dL_law_1095 : DD cL_law 1095 (.iconst 0) 1 1096 := ⟨by decide +kernel, rfl⟩
theorem dL_law_1096 : DD cL_law 1096 (.laload) 1 1097 := ⟨by decide +kernel, rfl⟩
theorem dL_law_1097 : DD cL_law 1097 (.iload 6) 2 1099 := ⟨by decide +kernel, rfl⟩
theorem dL_law_1099 : DD cL_law 1099 (.i2l) 1 1100 := ⟨by decide +kernel, rfl⟩
theorem dL_law_1100 : DD cL_law 1100 (.lcmp) 1 1101 := ⟨by decide +kernel, rfl⟩
theorem dL_law_1101 : DB cL_law 1101 (.ifCond .eq) 5 3 1104 1106 := ⟨by decide +kernel, rfl, rfl⟩
theorem dL_law_1104 : DD cL_law 1104 (.iconst 0) 1 1105 := ⟨by decide +kernel, rfl⟩
theorem dL_law_1105 : DD cL_law 1105 (.ireturn) 1 1106 := ⟨by decide +kernel, rfl⟩
theorem dL_law_1106 : DB cL_law 1106 (.goto) 502 3 1109 1608 := ⟨by decide +kernel, rfl, rfl⟩
theorem dL_law_1109 : DD cL_law 1109 (.aload_n 1) 1 1110 := ⟨by decide +kernel, rfl⟩
theorem dL_law_1110 : DD cL_law 1110 (.aload_n 0) 1 1111 := ⟨by decide +kernel, rfl⟩
theorem dL_law_1111 : DD cL_law 1111 (.iload 4) 2 1113 := ⟨by decide +kernel, rfl⟩
theorem dL_law_1113 : DD cL_law 1113 (.iconst 1) 1 1114 := ⟨by decide +kernel, rfl⟩
theorem dL_law_1114 : DD cL_law 1114 (.iadd) 1 1115 := ⟨by decide +kernel, rfl⟩
theorem dL_law_1115 : DD cL_law 1115 (.iaload) 1 1116 := ⟨by decide +kernel, rfl⟩
theorem dL_law_1116 : DD cL_law 1116 (.aload_n 0) 1 1117 := ⟨by decide +kernel, rfl⟩
theorem dL_law_1117 : DD cL_law 1117 (.iload 4) 2 1119 := ⟨by decide +kernel, rfl⟩
theorem dL_law_1119 : DD cL_law 1119 (.iconst 2) 1 1120 := ⟨by decide +kernel, rfl⟩
theorem dL_law_1120 : DD cL_law 1120 (.iadd) 1 1121 := ⟨by decide +kernel, rfl⟩
theorem dL_law_1121 : DD cL_law 1121 (.iaload) 1 1122 := ⟨by decide +kernel, rfl⟩
theorem dL_law_1122 : DD cL_law 1122 (.aload_n 0) 1 1123 := ⟨by decide +kernel, rfl⟩
theorem dL_law_1123 : DD cL_law 1123 (.iload 4) 2 1125 := ⟨by decide +kernel, rfl⟩
theorem dL_law_1125 : DD cL_law 1125 (.iconst 3) 1 1126 := ⟨by decide +kernel, rfl⟩
theorem dL_law_1126 : DD cL_law 1126 (.iadd) 1 1127 := ⟨by decide +kernel, rfl⟩
theorem dL_law_1127 : DD cL_law 1127 (.iaload) 1 1128 := ⟨by decide +kernel, rfl⟩
theorem dL_law_1128 : DD cL_law 1128 (.aload_n 0) 1 1129 := ⟨by decide +kernel, rfl⟩
theorem dL_law_1129 : DD cL_law 1129 (.iload 4) 2 1131 := ⟨by decide +kernel, rfl⟩
theorem dL_law_1131 : DD cL_law 1131 (.iconst 4) 1 1132 := ⟨by decide +kernel, rfl⟩
theorem dL_law_1132 : DD cL_law 1132 (.iadd) 1 1133 := ⟨by decide +kernel, rfl⟩
theorem dL_law_1133 : DD cL_law 1133 (.iaload) 1 1134 := ⟨by decide +kernel, rfl⟩
theorem dL_law_1134 : DD cL_law 1134 (.aload_n 0) 1 1135 := ⟨by decide +kernel, rfl⟩
theorem dL_law_1135 : DD cL_law 1135 (.iload 4) 2 1137 := ⟨by decide +kernel, rfl⟩
theorem dL_law_1137 : DD cL_law 1137 (.iconst 5) 1 1138 := ⟨by decide +kernel, rfl⟩
theorem dL_law_1138 : DD cL_law 1138 (.iadd) 1 1139 := ⟨by decide +kernel, rfl⟩
theorem dL_law_1139 : DD cL_law 1139 (.iaload) 1 1140 := ⟨by decide +kernel, rfl⟩
theorem dL_law_1140 : DD cL_law 1140 (.aload_n 3) 1 1141 := ⟨by decide +kernel, rfl⟩
theorem dL_law_1141 : DD cL_law 1141 (.invokestatic 156) 3 1144 := ⟨by decide +kernel, rfl⟩
theorem dL_law_1144 : DD cL_law 1144 (.istore 5) 2 1146 := ⟨by decide +kernel, rfl⟩
theorem dL_law_1146 : DD cL_law 1146 (.aload_n 2) 1 1147 := ⟨by decide +kernel, rfl⟩
theorem dL_law_1147 : DD cL_law 1147 (.aload_n 0) 1 1148 := ⟨by decide +kernel, rfl⟩
theorem dL_law_1148 : DD cL_law 1148 (.iload 4) 2 1150 := ⟨by decide +kernel, rfl⟩
theorem dL_law_1150 : DD cL_law 1150 (.iconst 1) 1 1151 := ⟨by decide +kernel, rfl⟩
theorem dL_law_1151 : DD cL_law 1151 (.iadd) 1 1152 := ⟨by decide +kernel, rfl⟩
theorem dL_law_1152 : DD cL_law 1152 (.iaload) 1 1153 := ⟨by decide +kernel, rfl⟩
theorem dL_law_1153 : DD cL_law 1153 (.aload_n 0) 1 1154 := ⟨by decide +kernel, rfl⟩
theorem dL_law_1154 : DD cL_law 1154 (.iload 4) 2 1156 := ⟨by decide +kernel, rfl⟩
theorem dL_law_1156 : DD cL_law 1156 (.iconst 2) 1 1157 := ⟨by decide +kernel, rfl⟩
theorem dL_law_1157 : DD cL_law 1157 (.iadd) 1 1158 := ⟨by decide +kernel, rfl⟩
theorem dL_law_1158 : DD cL_law 1158 (.iaload) 1 1159 := ⟨by decide +kernel, rfl⟩
theorem dL_law_1159 : DD cL_law 1159 (.aload_n 0) 1 1160 := ⟨by decide +kernel, rfl⟩
theorem dL_law_1160 : DD cL_law 1160 (.iload 4) 2 1162 := ⟨by decide +kernel, rfl⟩
theorem dL_law_1162 : DD cL_law 1162 (.iconst 3) 1 1163 := ⟨by decide +kernel, rfl⟩
theorem dL_law_1163 : DD cL_law 1163 (.iadd) 1 1164 := ⟨by decide +kernel, rfl⟩
theorem dL_law_1164 : DD cL_law 1164 (.iaload) 1 1165 := ⟨by decide +kernel, rfl⟩
theorem dL_law_1165 : DD cL_law 1165 (.aload_n 0) 1 1166 := ⟨by decide +kernel, rfl⟩
theorem dL_law_1166 : DD cL_law 1166 (.iload 4) 2 1168 := ⟨by decide +kernel, rfl⟩
theorem dL_law_1168 : DD cL_law 1168 (.iconst 4) 1 1169 := ⟨by decide +kernel, rfl⟩
theorem dL_law_1169 : DD cL_law 1169 (.iadd) 1 1170 := ⟨by decide +kernel, rfl⟩
theorem dL_law_1170 : DD cL_law 1170 (.iaload) 1 1171 := ⟨by decide +kernel, rfl⟩
theorem dL_law_1171 : DD cL_law 1171 (.aload_n 0) 1 1172 := ⟨by decide +kernel, rfl⟩
theorem dL_law_1172 : DD cL_law 1172 (.iload 4) 2 1174 := ⟨by decide +kernel, rfl⟩
theorem dL_law_1174 : DD cL_law 1174 (.iconst 5) 1 1175 := ⟨by decide +kernel, rfl⟩
theorem dL_law_1175 : DD cL_law 1175 (.iadd) 1 1176 := ⟨by decide +kernel, rfl⟩
theorem dL_law_1176 : DD cL_law 1176 (.iaload) 1 1177 := ⟨by decide +kernel, rfl⟩
theorem dL_law_1177 : DD cL_law 1177 (.invokevirtual 159) 3 1180 := ⟨by decide +kernel, rfl⟩
theorem dL_law_1180 : DD cL_law 1180 (.istore 6) 2 1182 := ⟨by decide +kernel, rfl⟩
theorem dL_law_1182 : DD cL_law 1182 (.aload_n 2) 1 1183 := ⟨by decide +kernel, rfl⟩
theorem dL_law_1183 : DD cL_law 1183 (.invokevirtual 91) 3 1186 := ⟨by decide +kernel, rfl⟩
theorem dL_law_1186 : DD cL_law 1186 (.iload 5) 2 1188 := ⟨by decide +kernel, rfl⟩
theorem dL_law_1188 : DB cL_law 1188 (.if_icmp .eq) 5 3 1191 1193 := ⟨by decide +kernel, rfl, rfl⟩
theorem dL_law_1191 : DD cL_law 1191 (.iconst 0) 1 1192 := ⟨by decide +kernel, rfl⟩
theorem dL_law_1192 : DD cL_law 1192 (.ireturn) 1 1193 := ⟨by decide +kernel, rfl⟩
theorem dL_law_1193 : DD cL_law 1193 (.iload 5) 2 1195 := ⟨by decide +kernel, rfl⟩
theorem dL_law_1195 : DB cL_law 1195 (.ifCond .ne) 15 3 1198 1210 := ⟨by decide +kernel, rfl, rfl⟩
theorem dL_law_1198 : DD cL_law 1198 (.aload_n 3) 1 1199 := ⟨by decide +kernel, rfl⟩
theorem dL_law_1199 : DD cL_law 1199 (.iconst 0) 1 1200 := ⟨by decide +kernel, rfl⟩
theorem dL_law_1200 : DD cL_law 1200 (.laload) 1 1201 := ⟨by decide +kernel, rfl⟩
theorem dL_law_1201 : DD cL_law 1201 (.iload 6) 2 1203 := ⟨by decide +kernel, rfl⟩
theorem dL_law_1203 : DD cL_law 1203 (.i2l) 1 1204 := ⟨by decide +kernel, rfl⟩
theorem dL_law_1204 : DD cL_law 1204 (.lcmp) 1 1205 := ⟨by decide +kernel, rfl⟩
theorem dL_law_1205 : DB cL_law 1205 (.ifCond .eq) 5 3 1208 1210 := ⟨by decide +kernel, rfl, rfl⟩
theorem dL_law_1208 : DD cL_law 1208 (.iconst 0) 1 1209 := ⟨by decide +kernel, rfl⟩
theorem dL_law_1209 : DD cL_law 1209 (.ireturn) 1 1210 := ⟨by decide +kernel, rfl⟩
theorem dL_law_1210 : DB cL_law 1210 (.goto) 398 3 1213 1608 := ⟨by decide +kernel, rfl, rfl⟩
theorem dL_law_1213 : DD cL_law 1213 (.aload_n 1) 1 1214 := ⟨by decide +kernel, rfl⟩
theorem dL_law_1214 : DD cL_law 1214 (.aload_n 0) 1 1215 := ⟨by decide +kernel, rfl⟩
theorem dL_law_1215 : DD cL_law 1215 (.iload 4) 2 1217 := ⟨by decide +kernel, rfl⟩
theorem dL_law_1217 : DD cL_law 1217 (.iconst 1) 1 1218 := ⟨by decide +kernel, rfl⟩
theorem dL_law_1218 : DD cL_law 1218 (.iadd) 1 1219 := ⟨by decide +kernel, rfl⟩
theorem dL_law_1219 : DD cL_law 1219 (.iaload) 1 1220 := ⟨by decide +kernel, rfl⟩
theorem dL_law_1220 : DD cL_law 1220 (.aload_n 0) 1 1221 := ⟨by decide +kernel, rfl⟩
theorem dL_law_1221 : DD cL_law 1221 (.iload 4) 2 1223 := ⟨by decide +kernel, rfl⟩
theorem dL_law_1223 : DD cL_law 1223 (.iconst 2) 1 1224 := ⟨by decide +kernel, rfl⟩
theorem dL_law_1224 : DD cL_law 1224 (.iadd) 1 1225 := ⟨by decide +kernel, rfl⟩
theorem dL_law_1225 : DD cL_law 1225 (.iaload) 1 1226 := ⟨by decide +kernel, rfl⟩
theorem dL_law_1226 : DD cL_law 1226 (.aload_n 0) 1 1227 := ⟨by decide +kernel, rfl⟩
theorem dL_law_1227 : DD cL_law 1227 (.iload 4) 2 1229 := ⟨by decide +kernel, rfl⟩
theorem dL_law_1229 : DD cL_law 1229 (.iconst 3) 1 1230 := ⟨by decide +kernel, rfl⟩
theorem dL_law_1230 : DD cL_law 1230 (.iadd) 1 1231 := ⟨by decide +kernel, rfl⟩
theorem dL_law_1231 : DD cL_law 1231 (.iaload) 1 1232 := ⟨by decide +kernel, rfl⟩
theorem dL_law_1232 : DD cL_law 1232 (.aload_n 0) 1 1233 := ⟨by decide +kernel, rfl⟩
theorem dL_law_1233 : DD cL_law 1233 (.iload 4) 2 1235 := ⟨by decide +kernel, rfl⟩
theorem dL_law_1235 : DD cL_law 1235 (.iconst 4) 1 1236 := ⟨by decide +kernel, rfl⟩
theorem dL_law_1236 : DD cL_law 1236 (.iadd) 1 1237 := ⟨by decide +kernel, rfl⟩
theorem dL_law_1237 : DD cL_law 1237 (.iaload) 1 1238 := ⟨by decide +kernel, rfl⟩
theorem dL_law_1238 : DD cL_law 1238 (.aload_n 3) 1 1239 := ⟨by decide +kernel, rfl⟩
theorem dL_law_1239 : DD cL_law 1239 (.invokestatic 160) 3 1242 := ⟨by decide +kernel, rfl⟩
theorem dL_law_1242 : DD cL_law 1242 (.istore 5) 2 1244 := ⟨by decide +kernel, rfl⟩
theorem dL_law_1244 : DD cL_law 1244 (.aload_n 2) 1 1245 := ⟨by decide +kernel, rfl⟩
theorem dL_law_1245 : DD cL_law 1245 (.aload_n 0) 1 1246 := ⟨by decide +kernel, rfl⟩
theorem dL_law_1246 : DD cL_law 1246 (.iload 4) 2 1248 := ⟨by decide +kernel, rfl⟩
theorem dL_law_1248 : DD cL_law 1248 (.iconst 1) 1 1249 := ⟨by decide +kernel, rfl⟩
theorem dL_law_1249 : DD cL_law 1249 (.iadd) 1 1250 := ⟨by decide +kernel, rfl⟩
theorem dL_law_1250 : DD cL_law 1250 (.iaload) 1 1251 := ⟨by decide +kernel, rfl⟩
theorem dL_law_1251 : DD cL_law 1251 (.aload_n 0) 1 1252 := ⟨by decide +kernel, rfl⟩
theorem dL_law_1252 : DD cL_law 1252 (.iload 4) 2 1254 := ⟨by decide +kernel, rfl⟩
theorem dL_law_1254 : DD cL_law 1254 (.iconst 2) 1 1255 := ⟨by decide +kernel, rfl⟩
theorem dL_law_1255 : DD cL_law 1255 (.iadd) 1 1256 := ⟨by decide +kernel, rfl⟩
theorem dL_law_1256 : DD cL_law 1256 (.iaload) 1 1257 := ⟨by decide +kernel, rfl⟩
theorem dL_law_1257 : DD cL_law 1257 (.aload_n 0) 1 1258 := ⟨by decide +kernel, rfl⟩
theorem dL_law_1258 : DD cL_law 1258 (.iload 4) 2 1260 := ⟨by decide +kernel, rfl⟩
theorem dL_law_1260 : DD cL_law 1260 (.iconst 3) 1 1261 := ⟨by decide +kernel, rfl⟩
theorem dL_law_1261 : DD cL_law 1261 (.iadd) 1 1262 := ⟨by decide +kernel, rfl⟩
theorem dL_law_1262 : DD cL_law 1262 (.iaload) 1 1263 := ⟨by decide +kernel, rfl⟩
theorem dL_law_1263 : DD cL_law 1263 (.aload_n 0) 1 1264 := ⟨by decide +kernel, rfl⟩
theorem dL_law_1264 : DD cL_law 1264 (.iload 4) 2 1266 := ⟨by decide +kernel, rfl⟩
theorem dL_law_1266 : DD cL_law 1266 (.iconst 4) 1 1267 := ⟨by decide +kernel, rfl⟩
theorem dL_law_1267 : DD cL_law 1267 (.iadd) 1 1268 := ⟨by decide +kernel, rfl⟩
theorem dL_law_1268 : DD cL_law 1268 (.iaload) 1 1269 := ⟨by decide +kernel, rfl⟩
theorem dL_law_1269 : DD cL_law 1269 (.invokevirtual 163) 3 1272 := ⟨by decide +kernel, rfl⟩
theorem dL_law_1272 : DD cL_law 1272 (.istore 6) 2 1274 := ⟨by decide +kernel, rfl⟩
theorem dL_law_1274 : DD cL_law 1274 (.aload_n 2) 1 1275 := ⟨by decide +kernel, rfl⟩
theorem dL_law_1275 : DD cL_law 1275 (.invokevirtual 91) 3 1278 := ⟨by decide +kernel, rfl⟩
theorem dL_law_1278 : DD cL_law 1278 (.iload 5) 2 1280 := ⟨by decide +kernel, rfl⟩
theorem dL_law_1280 : DB cL_law 1280 (.if_icmp .eq) 5 3 1283 1285 := ⟨by decide +kernel, rfl, rfl⟩
theorem dL_law_1283 : DD cL_law 1283 (.iconst 0) 1 1284 := ⟨by decide +kernel, rfl⟩
theorem dL_law_1284 : DD cL_law 1284 (.ireturn) 1 1285 := ⟨by decide +kernel, rfl⟩
theorem dL_law_1285 : DD cL_law 1285 (.iload 5) 2 1287 := ⟨by decide +kernel, rfl⟩
theorem dL_law_1287 : DB cL_law 1287 (.ifCond .ne) 15 3 1290 1302 := ⟨by decide +kernel, rfl, rfl⟩
theorem dL_law_1290 : DD cL_law 1290 (.aload_n 3) 1 1291 := ⟨by decide +kernel, rfl⟩
theorem dL_law_1291 : DD cL_law 1291 (.iconst 0) 1 1292 := ⟨by decide +kernel, rfl⟩
theorem dL_law_1292 : DD cL_law 1292 (.laload) 1 1293 := ⟨by decide +kernel, rfl⟩
theorem dL_law_1293 : DD cL_law 1293 (.iload 6) 2 1295 := ⟨by decide +kernel, rfl⟩
theorem dL_law_1295 : DD cL_law 1295 (.i2l) 1 1296 := ⟨by decide +kernel, rfl⟩
theorem dL_law_1296 : DD cL_law 1296 (.lcmp) 1 1297 := ⟨by decide +kernel, rfl⟩
theorem dL_law_1297 : DB cL_law 1297 (.ifCond .eq) 5 3 1300 1302 := ⟨by decide +kernel, rfl, rfl⟩
theorem dL_law_1300 : DD cL_law 1300 (.iconst 0) 1 1301 := ⟨by decide +kernel, rfl⟩
theorem dL_law_1301 : DD cL_law 1301 (.ireturn) 1 1302 := ⟨by decide +kernel, rfl⟩
theorem dL_law_1302 : DB cL_law 1302 (.goto) 306 3 1305 1608 := ⟨by decide +kernel, rfl, rfl⟩
theorem dL_law_1305 : DD cL_law 1305 (.aload_n 1) 1 1306 := ⟨by decide +kernel, rfl⟩
theorem dL_law_1306 : DD cL_law 1306 (.aload_n 0) 1 1307 := ⟨by decide +kernel, rfl⟩
theorem dL_law_1307 : DD cL_law 1307 (.iload 4) 2 1309 := ⟨by decide +kernel, rfl⟩
theorem dL_law_1309 : DD cL_law 1309 (.iconst 1) 1 1310 := ⟨by decide +kernel, rfl⟩
theorem dL_law_1310 : DD cL_law 1310 (.iadd) 1 1311 := ⟨by decide +kernel, rfl⟩
theorem dL_law_1311 : DD cL_law 1311 (.iaload) 1 1312 := ⟨by decide +kernel, rfl⟩
theorem dL_law_1312 : DD cL_law 1312 (.aload_n 3) 1 1313 := ⟨by decide +kernel, rfl⟩
theorem dL_law_1313 : DD cL_law 1313 (.invokestatic 164) 3 1316 := ⟨by decide +kernel, rfl⟩
theorem dL_law_1316 : DD cL_law 1316 (.istore 5) 2 1318 := ⟨by decide +kernel, rfl⟩
theorem dL_law_1318 : DD cL_law 1318 (.aload_n 2) 1 1319 := ⟨by decide +kernel, rfl⟩
theorem dL_law_1319 : DD cL_law 1319 (.aload_n 0) 1 1320 := ⟨by decide +kernel, rfl⟩
theorem dL_law_1320 : DD cL_law 1320 (.iload 4) 2 1322 := ⟨by decide +kernel, rfl⟩
theorem dL_law_1322 : DD cL_law 1322 (.iconst 1) 1 1323 := ⟨by decide +kernel, rfl⟩
theorem dL_law_1323 : DD cL_law 1323 (.iadd) 1 1324 := ⟨by decide +kernel, rfl⟩
theorem dL_law_1324 : DD cL_law 1324 (.iaload) 1 1325 := ⟨by decide +kernel, rfl⟩
theorem dL_law_1325 : DD cL_law 1325 (.invokevirtual 166) 3 1328 := ⟨by decide +kernel, rfl⟩
theorem dL_law_1328 : DD cL_law 1328 (.istore 6) 2 1330 := ⟨by decide +kernel, rfl⟩
theorem dL_law_1330 : DD cL_law 1330 (.aload_n 2) 1 1331 := ⟨by decide +kernel, rfl⟩
theorem dL_law_1331 : DD cL_law 1331 (.invokevirtual 91) 3 1334 := ⟨by decide +kernel, rfl⟩
theorem dL_law_1334 : DD cL_law 1334 (.iload 5) 2 1336 := ⟨by decide +kernel, rfl⟩
theorem dL_law_1336 : DB cL_law 1336 (.if_icmp .eq) 5 3 1339 1341 := ⟨by decide +kernel, rfl, rfl⟩
theorem dL_law_1339 : DD cL_law 1339 (.iconst 0) 1 1340 := ⟨by decide +kernel, rfl⟩
theorem dL_law_1340 : DD cL_law 1340 (.ireturn) 1 1341 := ⟨by decide +kernel, rfl⟩
theorem dL_law_1341 : DD cL_law 1341 (.iload 5) 2 1343 := ⟨by decide +kernel, rfl⟩
theorem dL_law_1343 : DB cL_law 1343 (.ifCond .ne) 15 3 1346 1358 := ⟨by decide +kernel, rfl, rfl⟩
theorem dL_law_1346 : DD cL_law 1346 (.aload_n 3) 1 1347 := ⟨by decide +kernel, rfl⟩
theorem dL_law_1347 : DD cL_law 1347 (.iconst 0) 1 1348 := ⟨by decide +kernel, rfl⟩
theorem dL_law_1348 : DD cL_law 1348 (.laload) 1 1349 := ⟨by decide +kernel, rfl⟩
theorem dL_law_1349 : DD cL_law 1349 (.iload 6) 2 1351 := ⟨by decide +kernel, rfl⟩
theorem dL_law_1351 : DD cL_law 1351 (.i2l) 1 1352 := ⟨by decide +kernel, rfl⟩
theorem dL_law_1352 : DD cL_law 1352 (.lcmp) 1 1353 := ⟨by decide +kernel, rfl⟩
theorem dL_law_1353 : DB cL_law 1353 (.ifCond .eq) 5 3 1356 1358 := ⟨by decide +kernel, rfl, rfl⟩
theorem dL_law_1356 : DD cL_law 1356 (.iconst 0) 1 1357 := ⟨by decide +kernel, rfl⟩
theorem dL_law_1357 : DD cL_law 1357 (.ireturn) 1 1358 := ⟨by decide +kernel, rfl⟩
theorem dL_law_1358 : DB cL_law 1358 (.goto) 250 3 1361 1608 := ⟨by decide +kernel, rfl, rfl⟩
theorem dL_law_1361 : DD cL_law 1361 (.aload_n 1) 1 1362 := ⟨by decide +kernel, rfl⟩
theorem dL_law_1362 : DD cL_law 1362 (.aload_n 0) 1 1363 := ⟨by decide +kernel, rfl⟩
theorem dL_law_1363 : DD cL_law 1363 (.iload 4) 2 1365 := ⟨by decide +kernel, rfl⟩
theorem dL_law_1365 : DD cL_law 1365 (.iconst 1) 1 1366 := ⟨by decide +kernel, rfl⟩
theorem dL_law_1366 : DD cL_law 1366 (.iadd) 1 1367 := ⟨by decide +kernel, rfl⟩
theorem dL_law_1367 : DD cL_law 1367 (.iaload) 1 1368 := ⟨by decide +kernel, rfl⟩
theorem dL_law_1368 : DD cL_law 1368 (.aload_n 0) 1 1369 := ⟨by decide +kernel, rfl⟩
theorem dL_law_1369 : DD cL_law 1369 (.iload 4) 2 1371 := ⟨by decide +kernel, rfl⟩
theorem dL_law_1371 : DD cL_law 1371 (.iconst 2) 1 1372 := ⟨by decide +kernel, rfl⟩
theorem dL_law_1372 : DD cL_law 1372 (.iadd) 1 1373 := ⟨by decide +kernel, rfl⟩
theorem dL_law_1373 : DD cL_law 1373 (.iaload) 1 1374 := ⟨by decide +kernel, rfl⟩
theorem dL_law_1374 : DD cL_law 1374 (.aload_n 3) 1 1375 := ⟨by decide +kernel, rfl⟩
theorem dL_law_1375 : DD cL_law 1375 (.invokestatic 167) 3 1378 := ⟨by decide +kernel, rfl⟩
theorem dL_law_1378 : DD cL_law 1378 (.istore 5) 2 1380 := ⟨by decide +kernel, rfl⟩
theorem dL_law_1380 : DD cL_law 1380 (.aload_n 2) 1 1381 := ⟨by decide +kernel, rfl⟩
theorem dL_law_1381 : DD cL_law 1381 (.aload_n 0) 1 1382 := ⟨by decide +kernel, rfl⟩
theorem dL_law_1382 : DD cL_law 1382 (.iload 4) 2 1384 := ⟨by decide +kernel, rfl⟩
theorem dL_law_1384 : DD cL_law 1384 (.iconst 1) 1 1385 := ⟨by decide +kernel, rfl⟩
theorem dL_law_1385 : DD cL_law 1385 (.iadd) 1 1386 := ⟨by decide +kernel, rfl⟩
theorem dL_law_1386 : DD cL_law 1386 (.iaload) 1 1387 := ⟨by decide +kernel, rfl⟩
theorem dL_law_1387 : DD cL_law 1387 (.aload_n 0) 1 1388 := ⟨by decide +kernel, rfl⟩
theorem dL_law_1388 : DD cL_law 1388 (.iload 4) 2 1390 := ⟨by decide +kernel, rfl⟩
theorem dL_law_1390 : DD cL_law 1390 (.iconst 2) 1 1391 := ⟨by decide +kernel, rfl⟩
theorem dL_law_1391 : DD cL_law 1391 (.iadd) 1 1392 := ⟨by decide +kernel, rfl⟩
theorem dL_law_1392 : DD cL_law 1392 (.iaload) 1 1393 := ⟨by decide +kernel, rfl⟩
theorem dL_law_1393 : DD cL_law 1393 (.invokevirtual 169) 3 1396 := ⟨by decide +kernel, rfl⟩
theorem dL_law_1396 : DD cL_law 1396 (.istore 6) 2 1398 := ⟨by decide +kernel, rfl⟩
theorem dL_law_1398 : DD cL_law 1398 (.aload_n 2) 1 1399 := ⟨by decide +kernel, rfl⟩
theorem dL_law_1399 : DD cL_law 1399 (.invokevirtual 91) 3 1402 := ⟨by decide +kernel, rfl⟩
theorem dL_law_1402 : DD cL_law 1402 (.iload 5) 2 1404 := ⟨by decide +kernel, rfl⟩
theorem dL_law_1404 : DB cL_law 1404 (.if_icmp .eq) 5 3 1407 1409 := ⟨by decide +kernel, rfl, rfl⟩
theorem dL_law_1407 : DD cL_law 1407 (.iconst 0) 1 1408 := ⟨by decide +kernel, rfl⟩
theorem dL_law_1408 : DD cL_law 1408 (.ireturn) 1 1409 := ⟨by decide +kernel, rfl⟩
theorem dL_law_1409 : DD cL_law 1409 (.iload 5) 2 1411 := ⟨by decide +kernel, rfl⟩
theorem dL_law_1411 : DB cL_law 1411 (.ifCond .ne) 15 3 1414 1426 := ⟨by decide +kernel, rfl, rfl⟩
theorem dL_law_1414 : DD cL_law 1414 (.aload_n 3) 1 1415 := ⟨by decide +kernel, rfl⟩
theorem dL_law_1415 : DD cL_law 1415 (.iconst 0) 1 1416 := ⟨by decide +kernel, rfl⟩
theorem dL_law_1416 : DD cL_law 1416 (.laload) 1 1417 := ⟨by decide +kernel, rfl⟩
theorem dL_law_1417 : DD cL_law 1417 (.iload 6) 2 1419 := ⟨by decide +kernel, rfl⟩
theorem dL_law_1419 : DD cL_law 1419 (.i2l) 1 1420 := ⟨by decide +kernel, rfl⟩
theorem dL_law_1420 : DD cL_law 1420 (.lcmp) 1 1421 := ⟨by decide +kernel, rfl⟩
theorem dL_law_1421 : DB cL_law 1421 (.ifCond .eq) 5 3 1424 1426 := ⟨by decide +kernel, rfl, rfl⟩
theorem dL_law_1424 : DD cL_law 1424 (.iconst 0) 1 1425 := ⟨by decide +kernel, rfl⟩
theorem dL_law_1425 : DD cL_law 1425 (.ireturn) 1 1426 := ⟨by decide +kernel, rfl⟩
theorem dL_law_1426 : DB cL_law 1426 (.goto) 182 3 1429 1608 := ⟨by decide +kernel, rfl, rfl⟩
theorem dL_law_1429 : DD cL_law 1429 (.aload_n 1) 1 1430 := ⟨by decide +kernel, rfl⟩
theorem dL_law_1430 : DD cL_law 1430 (.aload_n 0) 1 1431 := ⟨by decide +kernel, rfl⟩
theorem dL_law_1431 : DD cL_law 1431 (.iload 4) 2 1433 := ⟨by decide +kernel, rfl⟩
theorem dL_law_1433 : DD cL_law 1433 (.iconst 1) 1 1434 := ⟨by decide +kernel, rfl⟩
theorem dL_law_1434 : DD cL_law 1434 (.iadd) 1 1435 := ⟨by decide +kernel, rfl⟩
theorem dL_law_1435 : DD cL_law 1435 (.iaload) 1 1436 := ⟨by decide +kernel, rfl⟩
theorem dL_law_1436 : DD cL_law 1436 (.aload_n 0) 1 1437 := ⟨by decide +kernel, rfl⟩
theorem dL_law_1437 : DD cL_law 1437 (.iload 4) 2 1439 := ⟨by decide +kernel, rfl⟩
theorem dL_law_1439 : DD cL_law 1439 (.iconst 2) 1 1440 := ⟨by decide +kernel, rfl⟩
theorem dL_law_1440 : DD cL_law 1440 (.iadd) 1 1441 := ⟨by decide +kernel, rfl⟩
theorem dL_law_1441 : DD cL_law 1441 (.iaload) 1 1442 := ⟨by decide +kernel, rfl⟩
theorem dL_law_1442 : DD cL_law 1442 (.aload_n 3) 1 1443 := ⟨by decide +kernel, rfl⟩
theorem dL_law_1443 : DD cL_law 1443 (.invokestatic 170) 3 1446 := ⟨by decide +kernel, rfl⟩
theorem dL_law_1446 : DD cL_law 1446 (.istore 5) 2 1448 := ⟨by decide +kernel, rfl⟩
theorem dL_law_1448 : DD cL_law 1448 (.aload_n 2) 1 1449 := ⟨by decide +kernel, rfl⟩
theorem dL_law_1449 : DD cL_law 1449 (.aload_n 0) 1 1450 := ⟨by decide +kernel, rfl⟩
theorem dL_law_1450 : DD cL_law 1450 (.iload 4) 2 1452 := ⟨by decide +kernel, rfl⟩
theorem dL_law_1452 : DD cL_law 1452 (.iconst 1) 1 1453 := ⟨by decide +kernel, rfl⟩
theorem dL_law_1453 : DD cL_law 1453 (.iadd) 1 1454 := ⟨by decide +kernel, rfl⟩
theorem dL_law_1454 : DD cL_law 1454 (.iaload) 1 1455 := ⟨by decide +kernel, rfl⟩
theorem dL_law_1455 : DD cL_law 1455 (.aload_n 0) 1 1456 := ⟨by decide +kernel, rfl⟩
theorem dL_law_1456 : DD cL_law 1456 (.iload 4) 2 1458 := ⟨by decide +kernel, rfl⟩
theorem dL_law_1458 : DD cL_law 1458 (.iconst 2) 1 1459 := ⟨by decide +kernel, rfl⟩
theorem dL_law_1459 : DD cL_law 1459 (.iadd) 1 1460 := ⟨by decide +kernel, rfl⟩
theorem dL_law_1460 : DD cL_law 1460 (.iaload) 1 1461 := ⟨by decide +kernel, rfl⟩
theorem dL_law_1461 : DD cL_law 1461 (.invokevirtual 172) 3 1464 := ⟨by decide +kernel, rfl⟩
theorem dL_law_1464 : DD cL_law 1464 (.istore 6) 2 1466 := ⟨by decide +kernel, rfl⟩
theorem dL_law_1466 : DD cL_law 1466 (.aload_n 2) 1 1467 := ⟨by decide +kernel, rfl⟩
theorem dL_law_1467 : DD cL_law 1467 (.invokevirtual 91) 3 1470 := ⟨by decide +kernel, rfl⟩
theorem dL_law_1470 : DD cL_law 1470 (.iload 5) 2 1472 := ⟨by decide +kernel, rfl⟩
theorem dL_law_1472 : DB cL_law 1472 (.if_icmp .eq) 5 3 1475 1477 := ⟨by decide +kernel, rfl, rfl⟩
theorem dL_law_1475 : DD cL_law 1475 (.iconst 0) 1 1476 := ⟨by decide +kernel, rfl⟩
theorem dL_law_1476 : DD cL_law 1476 (.ireturn) 1 1477 := ⟨by decide +kernel, rfl⟩
theorem dL_law_1477 : DD cL_law 1477 (.iload 5) 2 1479 := ⟨by decide +kernel, rfl⟩
theorem dL_law_1479 : DB cL_law 1479 (.ifCond .ne) 15 3 1482 1494 := ⟨by decide +kernel, rfl, rfl⟩
theorem dL_law_1482 : DD cL_law 1482 (.aload_n 3) 1 1483 := ⟨by decide +kernel, rfl⟩
theorem dL_law_1483 : DD cL_law 1483 (.iconst 0) 1 1484 := ⟨by decide +kernel, rfl⟩
theorem dL_law_1484 : DD cL_law 1484 (.laload) 1 1485 := ⟨by decide +kernel, rfl⟩
theorem dL_law_1485 : DD cL_law 1485 (.iload 6) 2 1487 := ⟨by decide +kernel, rfl⟩
theorem dL_law_1487 : DD cL_law 1487 (.i2l) 1 1488 := ⟨by decide +kernel, rfl⟩
theorem dL_law_1488 : DD cL_law 1488 (.lcmp) 1 1489 := ⟨by decide +kernel, rfl⟩
theorem dL_law_1489 : DB cL_law 1489 (.ifCond .eq) 5 3 1492 1494 := ⟨by decide +kernel, rfl, rfl⟩
theorem dL_law_1492 : DD cL_law 1492 (.iconst 0) 1 1493 := ⟨by decide +kernel, rfl⟩
theorem dL_law_1493 : DD cL_law 1493 (.ireturn) 1 1494 := ⟨by decide +kernel, rfl⟩
theorem dL_law_1494 : DB cL_law 1494 (.goto) 114 3 1497 1608 := ⟨by decide +kernel, rfl, rfl⟩
theorem dL_law_1497 : DD cL_law 1497 (.aload_n 1) 1 1498 := ⟨by decide +kernel, rfl⟩
theorem dL_law_1498 : DD cL_law 1498 (.aload_n 0) 1 1499 := ⟨by decide +kernel, rfl⟩
theorem dL_law_1499 : DD cL_law 1499 (.iload 4) 2 1501 := ⟨by decide +kernel, rfl⟩
theorem dL_law_1501 : DD cL_law 1501 (.iconst 1) 1 1502 := ⟨by decide +kernel, rfl⟩
theorem dL_law_1502 : DD cL_law 1502 (.iadd) 1 1503 := ⟨by decide +kernel, rfl⟩
theorem dL_law_1503 : DD cL_law 1503 (.iaload) 1 1504 := ⟨by decide +kernel, rfl⟩
theorem dL_law_1504 : DD cL_law 1504 (.aload_n 3) 1 1505 := ⟨by decide +kernel, rfl⟩
theorem dL_law_1505 : DD cL_law 1505 (.invokestatic 173) 3 1508 := ⟨by decide +kernel, rfl⟩
theorem dL_law_1508 : DD cL_law 1508 (.istore 5) 2 1510 := ⟨by decide +kernel, rfl⟩
theorem dL_law_1510 : DD cL_law 1510 (.aload_n 2) 1 1511 := ⟨by decide +kernel, rfl⟩
theorem dL_law_1511 : DD cL_law 1511 (.aload_n 0) 1 1512 := ⟨by decide +kernel, rfl⟩
theorem dL_law_1512 : DD cL_law 1512 (.iload 4) 2 1514 := ⟨by decide +kernel, rfl⟩
theorem dL_law_1514 : DD cL_law 1514 (.iconst 1) 1 1515 := ⟨by decide +kernel, rfl⟩
theorem dL_law_1515 : DD cL_law 1515 (.iadd) 1 1516 := ⟨by decide +kernel, rfl⟩
theorem dL_law_1516 : DD cL_law 1516 (.iaload) 1 1517 := ⟨by decide +kernel, rfl⟩
theorem dL_law_1517 : DD cL_law 1517 (.invokevirtual 175) 3 1520 := ⟨by decide +kernel, rfl⟩
theorem dL_law_1520 : DD cL_law 1520 (.istore 6) 2 1522 := ⟨by decide +kernel, rfl⟩
theorem dL_law_1522 : DD cL_law 1522 (.aload_n 2) 1 1523 := ⟨by decide +kernel, rfl⟩
theorem dL_law_1523 : DD cL_law 1523 (.invokevirtual 91) 3 1526 := ⟨by decide +kernel, rfl⟩
theorem dL_law_1526 : DD cL_law 1526 (.iload 5) 2 1528 := ⟨by decide +kernel, rfl⟩
theorem dL_law_1528 : DB cL_law 1528 (.if_icmp .eq) 5 3 1531 1533 := ⟨by decide +kernel, rfl, rfl⟩
theorem dL_law_1531 : DD cL_law 1531 (.iconst 0) 1 1532 := ⟨by decide +kernel, rfl⟩
theorem dL_law_1532 : DD cL_law 1532 (.ireturn) 1 1533 := ⟨by decide +kernel, rfl⟩
theorem dL_law_1533 : DD cL_law 1533 (.iload 5) 2 1535 := ⟨by decide +kernel, rfl⟩
theorem dL_law_1535 : DB cL_law 1535 (.ifCond .ne) 15 3 1538 1550 := ⟨by decide +kernel, rfl, rfl⟩
theorem dL_law_1538 : DD cL_law 1538 (.aload_n 3) 1 1539 := ⟨by decide +kernel, rfl⟩
theorem dL_law_1539 : DD cL_law 1539 (.iconst 0) 1 1540 := ⟨by decide +kernel, rfl⟩
theorem dL_law_1540 : DD cL_law 1540 (.laload) 1 1541 := ⟨by decide +kernel, rfl⟩
theorem dL_law_1541 : DD cL_law 1541 (.iload 6) 2 1543 := ⟨by decide +kernel, rfl⟩
theorem dL_law_1543 : DD cL_law 1543 (.i2l) 1 1544 := ⟨by decide +kernel, rfl⟩
theorem dL_law_1544 : DD cL_law 1544 (.lcmp) 1 1545 := ⟨by decide +kernel, rfl⟩
theorem dL_law_1545 : DB cL_law 1545 (.ifCond .eq) 5 3 1548 1550 := ⟨by decide +kernel, rfl, rfl⟩
theorem dL_law_1548 : DD cL_law 1548 (.iconst 0) 1 1549 := ⟨by decide +kernel, rfl⟩
theorem dL_law_1549 : DD cL_law 1549 (.ireturn) 1 1550 := ⟨by decide +kernel, rfl⟩
theorem dL_law_1550 : DB cL_law 1550 (.goto) 58 3 1553 1608 := ⟨by decide +kernel, rfl, rfl⟩
theorem dL_law_1553 : DD cL_law 1553 (.aload_n 1) 1 1554 := ⟨by decide +kernel, rfl⟩
theorem dL_law_1554 : DD cL_law 1554 (.invokevirtual 176) 3 1557 := ⟨by decide +kernel, rfl⟩
theorem dL_law_1557 : DD cL_law 1557 (.dstore 5) 2 1559 := ⟨by decide +kernel, rfl⟩
theorem dL_law_1559 : DD cL_law 1559 (.aload_n 2) 1 1560 := ⟨by decide +kernel, rfl⟩
theorem dL_law_1560 : DD cL_law 1560 (.invokevirtual 180) 3 1563 := ⟨by decide +kernel, rfl⟩
theorem dL_law_1563 : DD cL_law 1563 (.dstore 7) 2 1565 := ⟨by decide +kernel, rfl⟩
theorem dL_law_1565 : DD cL_law 1565 (.dload 5) 2 1567 := ⟨by decide +kernel, rfl⟩
theorem dL_law_1567 : DD cL_law 1567 (.dload 7) 2 1569 := ⟨by decide +kernel, rfl⟩
theorem dL_law_1569 : DD cL_law 1569 (.dcmp .l) 1 1570 := ⟨by decide +kernel, rfl⟩
theorem dL_law_1570 : DB cL_law 1570 (.ifCond .eq) 21 3 1573 1591 := ⟨by decide +kernel, rfl, rfl⟩
theorem dL_law_1573 : DD cL_law 1573 (.dload 5) 2 1575 := ⟨by decide +kernel, rfl⟩
theorem dL_law_1575 : DD cL_law 1575 (.dload 5) 2 1577 := ⟨by decide +kernel, rfl⟩
theorem dL_law_1577 : DD cL_law 1577 (.dcmp .l) 1 1578 := ⟨by decide +kernel, rfl⟩
theorem dL_law_1578 : DB cL_law 1578 (.ifCond .eq) 11 3 1581 1589 := ⟨by decide +kernel, rfl, rfl⟩
theorem dL_law_1581 : DD cL_law 1581 (.dload 7) 2 1583 := ⟨by decide +kernel, rfl⟩
theorem dL_law_1583 : DD cL_law 1583 (.dload 7) 2 1585 := ⟨by decide +kernel, rfl⟩
theorem dL_law_1585 : DD cL_law 1585 (.dcmp .l) 1 1586 := ⟨by decide +kernel, rfl⟩
theorem dL_law_1586 : DB cL_law 1586 (.ifCond .ne) 5 3 1589 1591 := ⟨by decide +kernel, rfl, rfl⟩
theorem dL_law_1589 : DD cL_law 1589 (.iconst 0) 1 1590 := ⟨by decide +kernel, rfl⟩
theorem dL_law_1590 : DD cL_law 1590 (.ireturn) 1 1591 := ⟨by decide +kernel, rfl⟩
theorem dL_law_1591 : DB cL_law 1591 (.goto) 17 3 1594 1608 := ⟨by decide +kernel, rfl, rfl⟩
theorem dL_law_1594 : DD cL_law 1594 (.aload_n 1) 1 1595 := ⟨by decide +kernel, rfl⟩
theorem dL_law_1595 : DD cL_law 1595 (.invokevirtual 181) 3 1598 := ⟨by decide +kernel, rfl⟩
theorem dL_law_1598 : DD cL_law 1598 (.aload_n 2) 1 1599 := ⟨by decide +kernel, rfl⟩
theorem dL_law_1599 : DD cL_law 1599 (.invokevirtual 185) 3 1602 := ⟨by decide +kernel, rfl⟩
theorem dL_law_1602 : DD cL_law 1602 (.lcmp) 1 1603 := ⟨by decide +kernel, rfl⟩
theorem dL_law_1603 : DB cL_law 1603 (.ifCond .eq) 5 3 1606 1608 := ⟨by decide +kernel, rfl, rfl⟩
theorem dL_law_1606 : DD cL_law 1606 (.iconst 0) 1 1607 := ⟨by decide +kernel, rfl⟩
theorem dL_law_1607 : DD cL_law 1607 (.ireturn) 1 1608 := ⟨by decide +kernel, rfl⟩
theorem dL_law_1608 : DD cL_law 1608 (.iinc 4 6) 3 1611 := ⟨by decide +kernel, rfl⟩
theorem dL_law_1611 : DB cL_law 1611 (.goto) (-1588) 3 1614 23 := ⟨by decide +kernel, rfl, rfl⟩
theorem dL_law_1614 : DD cL_law 1614 (.iconst 1) 1 1615 := ⟨by decide +kernel, rfl⟩
theorem dL_law_1615 : DD cL_law 1615 (.ireturn) 1 1616 := ⟨by decide +kernel, rfl⟩
end
section
theorem zz_last : True := trivial
end
